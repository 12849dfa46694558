
/-- longs of a row from a place on, set one after the other -/
def setQ (fs : Nat → Int64) (b : Nat) (g : Nat → Int64) (n : Nat) : Nat → Int64 := fun e => if b ≤ e ∧ e < b + n then g (e - b) else fs e
theorem setQ_0 (fs : Nat → Int64) (b : Nat) (g : Nat → Int64) : setQ fs b g 0 = fs := by
  funext e
  unfold setQ
  rw [if_neg (by omega)]
theorem setQ_s (fs : Nat → Int64) (b : Nat) (g : Nat → Int64) (n : Nat) : vp_updL (setQ fs b g n) (b + n) (g n) = setQ fs b g (n + 1) := by
  funext e
  unfold vp_updL setQ
  by_cases h : e = b + n
  · rw [if_pos h, if_pos (by omega), show e - b = n by omega]
  · rw [if_neg h]
    by_cases h2 : b ≤ e ∧ e < b + n
    · rw [if_pos h2, if_pos (by omega)]
    · rw [if_neg h2, if_neg (by omega)]
theorem setQ_v {fs : Nat → Int64} {b : Nat} {g : Nat → Int64} {n : Nat} {v : Int64} (h : v = g n) : vp_updL (setQ fs b g n) (b + n) v = setQ fs b g (n + 1) := by
  rw [h]
  exact setQ_s _ _ _ _
theorem setQ_in {fs : Nat → Int64} {b : Nat} {g : Nat → Int64} {n e : Nat} (h : e < n) : setQ fs b g n (b + e) = g e := by
  unfold setQ
  rw [if_pos (by omega), show b + e - b = e by omega]
theorem setQ_out {fs : Nat → Int64} {b : Nat} {g : Nat → Int64} {n e : Nat} (h : e < b ∨ b + n ≤ e) : setQ fs b g n e = fs e := by
  unfold setQ
  rw [if_neg (by omega)]
/-- what the reference puts into a shelf's row -/
def keG (what : Int32) (p : Int64) (h : Nat) (s : Nat → Int32) (e : Nat) : Int64 := if what.toInt = 3 then bI p e else if e < h then (s e).toInt64 else (s (11 + e - h)).toInt64
theorem keG_3 {what : Int32} {p : Int64} {h e : Nat} {s : Nat → Int32} (hw : what.toInt = 3) : keG what p h s e = bI p e := by unfold keG; rw [if_pos hw]
theorem keG_4 {what : Int32} {p : Int64} {h e : Nat} {s : Nat → Int32} (hw : ¬ what.toInt = 3) (he : e < h) : keG what p h s e = (s e).toInt64 := by unfold keG; rw [if_neg hw, if_pos he]
theorem keG_5 {what : Int32} {p : Int64} {h e : Nat} {s : Nat → Int32} (hw : ¬ what.toInt = 3) (he : ¬ e < h) : keG what p h s e = (s (11 + e - h)).toInt64 := by unfold keG; rw [if_neg hw, if_neg he]
theorem one_bI {p : Int64} {k : Nat} (hk : k < 64) {z : Int32} (hz : z = r_one p (nI k)) : z.toInt64 = bI p k := by
  rw [hz, one_lb p hk]
  unfold bI
  cases lb p k <;> rfl
/-- element: which exception, or the number -/
def elA (k n : Int32) (R : Nat → Int64) (d i th : Int32) (x : Int64) : Prop := (¬ okSh d ∧ th = 1) ∨ (okSh d ∧ ((elOk k n i ∧ th = 0 ∧ x = R i.toNatClampNeg) ∨ (¬ elOk k n i ∧ th = 2)))

set_option maxHeartbeats 4000000 in
set_option maxRecDepth 100000 in
theorem c_X10_make_w (l : Launch) (D : va_G) (cy : Nat → ClassId) (mo : Nat) (a : Nat → Nat) (f : Nat → Int32) (g : Nat → Int64) (r : Nat → Nat → Int32) (q : Nat → Nat → Int64) (d : Int32) (what : Int32) (n1 : Int32) (hD : DM cy mo a) (hI : MI f r) : Mi l D cy mo a yX10_make wsX10_make ({ frames := 1, cells := 0, slots := 0, locals := 25 }) f g r q [.int d, .int what, .int n1] (fun r0 u => ∃ (sh : Nat → Int32), ∃ (sz : Nat → Int32), ∃ (sr : Nat → Int64), u = ((upd f 0 (0 : Int32)), g, (va_up (va_up r 29 sh) 30 sz), (va_up q 33 sr)) ∧ (r0 = mkAns d what n1 ∧ ((mkOk d what n1 ∧ sh = upd (r 29) d.toNatClampNeg what ∧ sz = upd (r 30) d.toNatClampNeg n1 ∧ sr = setQ (q 33) (60 * d.toNatClampNeg) (fun _ => 0) n1.toNatClampNeg) ∨ (¬ mkOk d what n1 ∧ sh = r 29 ∧ sz = r 30 ∧ sr = q 33)) ∧ MI (upd f 0 (0 : Int32)) (va_up (va_up r 29 sh) 30 sz))) := by
  refine Met.ofW (cc := cX10_make) (maxL := 5) (ret := (some .int)) (by decide) rfl ?_
  intro p e s m args below meth c s₁ B hml hv
  obtain ⟨rfl, hP, hK⟩ := hv
  have hx := B.exec
  have hb := B.bytes
  have hr := B.returns
  have hts := atoms_spec (ws := wsX10_make) B.pre
  have hin : ∀ w ∈ u_ws RX10 TX10 35, w ∈ wsX10_make := by decide +kernel
  have hown : s.vm.findClass RX10 = some m.cls := findClass_of_methodNamed B.named
  have hlocks := B.notSynchronized
  have hS : va_S (AM mo a) s.heap s.heap [] := va_S.rf
  have hl := lv_entry ([.ref mo, .int d, .int what, .int n1]) (n := 5) (Nat.le_of_ble_eq_true rfl)
  rw [lg_entry_eq]
  generalize (lg_sl ([.ref mo, .int d, .int what, .int n1]) ++ List.replicate (5 - (lg_sl ([.ref mo, .int d, .int what, .int n1])).length) Slot.unset).toArray = ls at hl ⊢
  have hl : lv_has ls 5 [(0, .ref mo), (1, .int d), (2, .int what), (3, .int n1)] := hl
  have k_m14 : (-14 : Int32).toInt = -14 := by decide
  have k_m1 : (-1 : Int32).toInt = -1 := by decide
  have k_0 : (0 : Int32).toInt = 0 := by decide
  have k_60 : (60 : Int32).toInt = 60 := by decide
  have k_0L : (0 : Int64).toInt = 0 := by decide
  have k_3L : (3 : Int64).toInt = 3 := by decide
  have k_4L : (4 : Int64).toInt = 4 := by decide
  refine lv_aload_n hx hb dX10_make_0 rfl (lv_at hl 0 rfl) ?_
  refine lv_iconst (v := 0) hx hb dX10_make_1 (by decide) ?_
  refine m_put (v := .int (0 : Int32)) (ty := .int) hx hb hts hin hown hK hP hD hS 0 (by decide) rfl (hts (.fieldLink RX10 79 "ShadowBenchModel" "thrown" "I") (by decide +kernel)) rfl (by decide +kernel) rfl rfl (upd f 0 (0 : Int32)) g rfl dX10_make_2 (fun H locs hP hS => ?_)
  refine lv_iload_n hx hb dX10_make_5 rfl (lv_at hl 1 rfl) ?_
  refine m_pu (As := [.int d]) (rest := []) ⟨hx, hb, hml, hown, hts⟩ (c_X10_isShelf l d ) (va_cwS 1 hts gX10_make_X10_isShelf rfl rfl rfl (by decide +kernel) ⟨Nat.le_of_ble_eq_true rfl, Nat.le_of_ble_eq_true rfl⟩) hP rfl hl.1 rfl (Nat.le_of_ble_eq_true rfl) dX10_make_6 ⟨Nat.le_of_ble_eq_true rfl, Nat.le_of_ble_eq_true rfl⟩ hS (fun r6 H locs q6 hP hS => ?_)
  refine lv_if_eq (tgt := 32) hx hb dX10_make_9 (by decide) (fun c9 => ?_) (fun c9 => ?_)
  · skip
    have b9 := bo_f q6 c9
    refine lv_iconst (v := (-1)) hx hb dX10_make_32 (by decide) ?_
    have hP := wm_eq rfl rfl (ec_r___29_30 r ) (ec_q___33 q ) hP
    exact W.iret (v := ((-1) : Int32)) hx hb hr (fun t ht hW => ⟨⟨_, ((upd f 0 (0 : Int32)), g, (va_up (va_up r 29 (r 29)) 30 (r 30)), (va_up q 33 (q 33))), rfl, ⟨(r 29), (r 30), (q 33), rfl, ⟨by unfold mkAns; split <;> (try split) <;> first | rfl | (exfalso; omega), (Or.inr ⟨(by unfold mkOk; omega), rfl, rfl, rfl⟩), by first | exact hI | exact mi_sz (d := d) hI (v := n1) (by omega) rfl rfl rfl rfl rfl rfl rfl rfl⟩⟩, by unfold mB; rw [ht]; exact hP⟩, hS.F ht⟩) hS.2.2 dX10_make_33
  · skip
    have b9 := bo_t q6 c9
    refine lv_iload_n hx hb dX10_make_12 rfl (lv_at hl 2 rfl) ?_
    refine lv_i2l (v := what.toInt64) hx hb dX10_make_13 rfl ?_
    refine lv_ldc2 hx hb hown (hts (.constantLong RX10 116 (3)) (by decide +kernel)) dX10_make_14 ?_
    refine lv_ldc2 hx hb hown (hts (.constantLong RX10 265 (4)) (by decide +kernel)) dX10_make_17 ?_
    refine m_pu (As := [.long (what.toInt64), .long (3 : Int64), .long (4 : Int64)]) (rest := []) ⟨hx, hb, hml, hown, hts⟩ (c_X10_isIn l what.toInt64 (3 : Int64) (4 : Int64) ) (va_cwS 3 hts gX10_make_X10_isIn rfl rfl rfl (by decide +kernel) ⟨Nat.le_of_ble_eq_true rfl, Nat.le_of_ble_eq_true rfl⟩) hP rfl hl.1 rfl (Nat.le_of_ble_eq_true rfl) dX10_make_20 ⟨Nat.le_of_ble_eq_true rfl, Nat.le_of_ble_eq_true rfl⟩ hS (fun r20 H locs q20 hP hS => ?_)
    have q20 := q20
    simp only [k64, show (0 : Int64).toInt = 0 from rfl, show (1 : Int64).toInt = 1 from rfl, show (2 : Int64).toInt = 2 from rfl, show (3 : Int64).toInt = 3 from rfl, show (6 : Int64).toInt = 6 from rfl] at q20
    refine lv_if_eq (tgt := 32) hx hb dX10_make_23 (by decide) (fun c23 => ?_) (fun c23 => ?_)
    · skip
      have b23 := bo_f q20 c23
      refine lv_iconst (v := (-1)) hx hb dX10_make_32 (by decide) ?_
      have hP := wm_eq rfl rfl (ec_r___29_30 r ) (ec_q___33 q ) hP
      exact W.iret (v := ((-1) : Int32)) hx hb hr (fun t ht hW => ⟨⟨_, ((upd f 0 (0 : Int32)), g, (va_up (va_up r 29 (r 29)) 30 (r 30)), (va_up q 33 (q 33))), rfl, ⟨(r 29), (r 30), (q 33), rfl, ⟨by unfold mkAns; split <;> (try split) <;> first | rfl | (exfalso; omega), (Or.inr ⟨(by unfold mkOk; omega), rfl, rfl, rfl⟩), by first | exact hI | exact mi_sz (d := d) hI (v := n1) (by omega) rfl rfl rfl rfl rfl rfl rfl rfl⟩⟩, by unfold mB; rw [ht]; exact hP⟩, hS.F ht⟩) hS.2.2 dX10_make_33
    · skip
      have b23 := bo_t q20 c23
      refine lv_iload_n hx hb dX10_make_26 rfl (lv_at hl 3 rfl) ?_
      refine lv_bipush (v := 60) hx hb dX10_make_27 (by decide) ?_
      refine lv_icmp_le (tgt := 34) hx hb dX10_make_29 (by decide) (fun c29 => ?_) (fun c29 => ?_)
      · skip
        have d29 := c29
        rw [fa_le] at d29
        refine lv_iload_n hx hb dX10_make_34 rfl (lv_at hl 3 rfl) ?_
        refine lv_if_ge (tgt := 41) hx hb dX10_make_35 (by decide) (fun c35 => ?_) (fun c35 => ?_)
        · skip
          have d35 := c35
          rw [fa_le] at d35
          refine lv_aload_n hx hb dX10_make_41 rfl (lv_at hl 0 rfl) ?_
          refine m_get (v := .ref (a 29)) hx hb hts hin hown hK hP 29 (by decide) rfl (hts (.fieldLink RX10 61 "ShadowBenchModel" "shelf" "[I") (by decide +kernel)) rfl dX10_make_42 ?_
          refine lv_iload_n hx hb dX10_make_45 rfl (lv_at hl 1 rfl) ?_
          refine lv_iload_n hx hb dX10_make_46 rfl (lv_at hl 2 rfl) ?_
          refine m_iast (w := (r 29)) hx hb hK hP hD hS 17 rfl (vp_in_iff.mpr ⟨by omega, by omega⟩) (va_up r 29 (upd (r 29) d.toNatClampNeg what)) (ms_29 cy mo a _ _ _ _ _) dX10_make_47 (fun H locs hP hS => ?_)
          refine lv_aload_n hx hb dX10_make_48 rfl (lv_at hl 0 rfl) ?_
          refine m_get (v := .ref (a 30)) hx hb hts hin hown hK hP 30 (by decide) rfl (hts (.fieldLink RX10 64 "ShadowBenchModel" "shelfSize" "[I") (by decide +kernel)) rfl dX10_make_49 ?_
          refine lv_iload_n hx hb dX10_make_52 rfl (lv_at hl 1 rfl) ?_
          refine lv_iload_n hx hb dX10_make_53 rfl (lv_at hl 3 rfl) ?_
          refine m_iast (w := (r 30)) hx hb hK hP hD hS 18 rfl (vp_in_iff.mpr ⟨by omega, by omega⟩) (va_up (va_up r 29 ((upd (r 29) d.toNatClampNeg what))) 30 (upd (r 30) d.toNatClampNeg n1)) (ms_30 cy mo a _ _ _ _ _) dX10_make_54 (fun H locs hP hS => ?_)
          refine lv_iconst (v := 0) hx hb dX10_make_55 (by decide) ?_
          refine lv_istore (lv' := [(4, .int (0 : Int32)), (0, .ref mo), (1, .int d), (2, .int what), (3, .int n1)]) hx hb dX10_make_56 hl (by decide) rfl (fun ls hl => ?_)
          have loop_58 : ∀ (n : Nat) (i : Nat) (s3 : Nat → Int64), (i ≤ 60 ∧ (i : Int) ≤ n1.toInt) → (s3 = setQ (q 33) (60 * d.toNatClampNeg) (fun _ => 0) i) → 60 - i < n → ∀ (H : Heap) (locs : List Loc), va_P D vwCl (WM cy mo a (upd f 0 (0 : Int32)) g (va_up (va_up r 29 ((upd (r 29) d.toNatClampNeg what))) 30 ((upd (r 30) d.toNatClampNeg n1))) (va_up q 33 s3)) H → va_S (AM mo a) s.heap H locs → ∀ (ls : Array Slot), lv_has ls 5 [(4, .int (nI i)), (0, .ref mo), (1, .int d), (2, .int what), (3, .int n1)] → W p l e (headSpec wsX10_make ({ frames := 1, cells := 0, slots := 0, locals := 25 })).room s m #[Value.ref mo, Value.int d, Value.int what, Value.int n1] below meth c H locs 0 0 (MQ below (va_Qi (fun r0 u => ∃ (sh : Nat → Int32), ∃ (sz : Nat → Int32), ∃ (sr : Nat → Int64), u = ((upd f 0 (0 : Int32)), g, (va_up (va_up r 29 sh) 30 sz), (va_up q 33 sr)) ∧ (r0 = mkAns d what n1 ∧ ((mkOk d what n1 ∧ sh = upd (r 29) d.toNatClampNeg what ∧ sz = upd (r 30) d.toNatClampNeg n1 ∧ sr = setQ (q 33) (60 * d.toNatClampNeg) (fun _ => 0) n1.toNatClampNeg) ∨ (¬ mkOk d what n1 ∧ sh = r 29 ∧ sz = r 30 ∧ sr = q 33)) ∧ MI (upd f 0 (0 : Int32)) (va_up (va_up r 29 sh) 30 sz))) (mB D cy mo a) (AM mo a)) #[Value.ref mo, Value.int d, Value.int what, Value.int n1] s 0 0 (AM mo a)) (F0 m 58 ls []) := by
            intro n
            induction n with
            | zero => intro i s3 j58_0 j58_1 hn; exact absurd hn (Nat.not_lt_zero _)
            | succ n ih_58 =>
              intro i s3 j58_0 j58_1 hn_58 H locs hP hS ls hl
              have ii : (nI i).toInt = (i : Int) := nI_toInt (by omega)
              refine lv_iload hx hb dX10_make_58 (lv_at hl 0 rfl) ?_
              refine lv_iload_n hx hb dX10_make_60 rfl (lv_at hl 4 rfl) ?_
              refine lv_icmp_ge (tgt := 83) hx hb dX10_make_61 (by decide) (fun c61 => ?_) (fun c61 => ?_)
              · skip
                have d61 := c61
                rw [fa_le] at d61
                refine lv_iconst (v := 0) hx hb dX10_make_83 (by decide) ?_
                have hP := wm_eq rfl rfl (ec_r_29_30__29_30 r ((upd (r 29) d.toNatClampNeg what)) ((upd (r 30) d.toNatClampNeg n1))) rfl hP
                exact W.iret (v := (0 : Int32)) hx hb hr (fun t ht hW => ⟨⟨_, ((upd f 0 (0 : Int32)), g, (va_up (va_up r 29 (((upd (r 29) d.toNatClampNeg what)))) 30 (((upd (r 30) d.toNatClampNeg n1)))), (va_up q 33 s3)), rfl, ⟨((upd (r 29) d.toNatClampNeg what)), ((upd (r 30) d.toNatClampNeg n1)), s3, rfl, ⟨by unfold mkAns; split <;> (try split) <;> first | rfl | (exfalso; omega), (Or.inl ⟨(by unfold mkOk; omega), rfl, rfl, (by have c9 := m_cl (x := n1) (by omega); rw [j58_1, show i = n1.toNatClampNeg by omega])⟩), by first | exact hI | exact mi_sz (d := d) hI (v := n1) (by omega) rfl rfl rfl rfl rfl rfl rfl rfl⟩⟩, by unfold mB; rw [ht]; exact hP⟩, hS.F ht⟩) hS.2.2 dX10_make_84
              · skip
                have d61 := c61
                rw [fa_le] at d61
                refine lv_aload_n hx hb dX10_make_64 rfl (lv_at hl 1 rfl) ?_
                refine m_get (v := .ref (a 33)) hx hb hts hin hown hK hP 33 (by decide) rfl (hts (.fieldLink RX10 73 "ShadowBenchModel" "shelfRow" "[J") (by decide +kernel)) rfl dX10_make_65 ?_
                refine lv_bipush (v := 60) hx hb dX10_make_68 (by decide) ?_
                refine lv_iload_n hx hb dX10_make_70 rfl (lv_at hl 2 rfl) ?_
                refine lv_imul hx hb dX10_make_71 ?_
                refine lv_topi (fun v71 e71 => ?_)
                have i71 : v71.toInt = 60 * d.toInt := by rw [e71]; exact mulcL rfl (by omega) (by omega)
                refine lv_iload hx hb dX10_make_72 (lv_at hl 0 rfl) ?_
                refine lv_iadd hx hb dX10_make_74 ?_
                refine lv_topi (fun v74 e74 => ?_)
                have i74 : v74.toInt = v71.toInt + (nI i).toInt := by rw [e74]; exact fb_addI (by omega) (by omega)
                refine lv_lconst (v := 0) hx hb dX10_make_75 (by decide) ?_
                have cd9 := m_cl (x := d) (by omega)
                have cv9 := m_cl (x := v74) (by omega)
                have f74 : v74.toNatClampNeg = 60 * d.toNatClampNeg + i := by omega
                refine m_last (w := s3) hx hb hK hP hD hS 21 rfl (vp_in_iff.mpr ⟨by omega, by omega⟩) (va_up (va_up q 33 s3) 33 (vp_updL s3 v74.toNatClampNeg (0 : Int64))) (ms_33 cy mo a _ _ _ _ _) dX10_make_76 (fun H locs hP hS => ?_)
                have hP := wm_eq rfl rfl rfl (es_q_33__33 q s3 (vp_updL s3 v74.toNatClampNeg (0 : Int64))) hP
                refine lv_iinc (v := (nI (i + 1))) (lv' := [(4, .int (nI (i + 1))), (0, .ref mo), (1, .int d), (2, .int what), (3, .int n1)]) hx hb dX10_make_77 hl (k := 0) rfl (nI_1 _) (by decide) rfl (fun ls hl => ?_)
                refine lv_goto (tgt := 58) hx hb dX10_make_80 (by decide) ?_
                have hP := wm_eq rfl rfl (ec_r_29_30__29_30 r ((upd (r 29) d.toNatClampNeg what)) ((upd (r 30) d.toNatClampNeg n1))) (ec_q_33__33 q ((vp_updL s3 v74.toNatClampNeg (0 : Int64)))) hP
                exact ih_58 (i + 1) (((vp_updL s3 v74.toNatClampNeg (0 : Int64)))) (by omega) (by rw [j58_1, f74]; exact setQ_s _ _ _ _) (by omega) _ _ hP hS ls (lv_sub hl [0, 1, 2, 3, 4] rfl)
          have hP := wm_eq rfl rfl (ec_r_29_30__29_30 r ((upd (r 29) d.toNatClampNeg what)) ((upd (r 30) d.toNatClampNeg n1))) (ec_q___33 q ) hP
          exact loop_58 (60 + 1) 0 (q 33) (by omega) ((setQ_0 _ _ _).symm) (by omega) _ _ hP hS ls (lv_sub hl [0, 1, 2, 3, 4] rfl)
        · skip
          have d35 := c35
          rw [fa_le] at d35
          refine lv_bipush (v := (-14)) hx hb dX10_make_38 (by decide) ?_
          have hP := wm_eq rfl rfl (ec_r___29_30 r ) (ec_q___33 q ) hP
          exact W.iret (v := ((-14) : Int32)) hx hb hr (fun t ht hW => ⟨⟨_, ((upd f 0 (0 : Int32)), g, (va_up (va_up r 29 (r 29)) 30 (r 30)), (va_up q 33 (q 33))), rfl, ⟨(r 29), (r 30), (q 33), rfl, ⟨by unfold mkAns; split <;> (try split) <;> first | rfl | (exfalso; omega), (Or.inr ⟨(by unfold mkOk; omega), rfl, rfl, rfl⟩), by first | exact hI | exact mi_sz (d := d) hI (v := n1) (by omega) rfl rfl rfl rfl rfl rfl rfl rfl⟩⟩, by unfold mB; rw [ht]; exact hP⟩, hS.F ht⟩) hS.2.2 dX10_make_40
      · skip
        have d29 := c29
        rw [fa_le] at d29
        refine lv_iconst (v := (-1)) hx hb dX10_make_32 (by decide) ?_
        have hP := wm_eq rfl rfl (ec_r___29_30 r ) (ec_q___33 q ) hP
        exact W.iret (v := ((-1) : Int32)) hx hb hr (fun t ht hW => ⟨⟨_, ((upd f 0 (0 : Int32)), g, (va_up (va_up r 29 (r 29)) 30 (r 30)), (va_up q 33 (q 33))), rfl, ⟨(r 29), (r 30), (q 33), rfl, ⟨by unfold mkAns; split <;> (try split) <;> first | rfl | (exfalso; omega), (Or.inr ⟨(by unfold mkOk; omega), rfl, rfl, rfl⟩), by first | exact hI | exact mi_sz (d := d) hI (v := n1) (by omega) rfl rfl rfl rfl rfl rfl rfl rfl⟩⟩, by unfold mB; rw [ht]; exact hP⟩, hS.F ht⟩) hS.2.2 dX10_make_33
set_option maxHeartbeats 4000000 in
set_option maxRecDepth 100000 in
theorem c_X10_copy_w (l : Launch) (D : va_G) (cy : Nat → ClassId) (mo : Nat) (a : Nat → Nat) (f : Nat → Int32) (g : Nat → Int64) (r : Nat → Nat → Int32) (q : Nat → Nat → Int64) (d : Int32) (i0 : Int32) (e0 : Int32) (j0 : Int32) (n1 : Int32) (hD : DM cy mo a) (hI : MI f r) : Mi l D cy mo a yX10_copy wsX10_copy ({ frames := 1, cells := 0, slots := 0, locals := 23 }) f g r q [.int d, .int i0, .int e0, .int j0, .int n1] (fun r0 u => ∃ (sr : Nat → Int64), ∃ (bt : Nat → Int64), u = ((upd f 0 (0 : Int32)), g, r, (va_up (va_up q 33 sr) 34 bt)) ∧ (cpA (r 29) (r 30) d i0 e0 j0 n1 r0 ∧ ((cpOk (r 29) (r 30) d i0 e0 j0 n1 ∧ sr = setQ (q 33) (60 * e0.toNatClampNeg + j0.toNatClampNeg) (fun x9 => q 33 (60 * d.toNatClampNeg + i0.toNatClampNeg + x9)) n1.toNatClampNeg) ∨ (¬ cpOk (r 29) (r 30) d i0 e0 j0 n1 ∧ sr = q 33)))) := by
  refine Met.ofW (cc := cX10_copy) (maxL := 7) (ret := (some .int)) (by decide) rfl ?_
  intro p e s m args below meth c s₁ B hml hv
  obtain ⟨rfl, hP, hK⟩ := hv
  have hx := B.exec
  have hb := B.bytes
  have hr := B.returns
  have hts := atoms_spec (ws := wsX10_copy) B.pre
  have hin : ∀ w ∈ u_ws RX10 TX10 35, w ∈ wsX10_copy := by decide +kernel
  have hown : s.vm.findClass RX10 = some m.cls := findClass_of_methodNamed B.named
  have hlocks := B.notSynchronized
  have hS : va_S (AM mo a) s.heap s.heap [] := va_S.rf
  have hl := lv_entry ([.ref mo, .int d, .int i0, .int e0, .int j0, .int n1]) (n := 7) (Nat.le_of_ble_eq_true rfl)
  rw [lg_entry_eq]
  generalize (lg_sl ([.ref mo, .int d, .int i0, .int e0, .int j0, .int n1]) ++ List.replicate (7 - (lg_sl ([.ref mo, .int d, .int i0, .int e0, .int j0, .int n1])).length) Slot.unset).toArray = ls at hl ⊢
  have hl : lv_has ls 7 [(0, .ref mo), (1, .int d), (2, .int i0), (3, .int e0), (4, .int j0), (5, .int n1)] := hl
  have k_m13 : (-13 : Int32).toInt = -13 := by decide
  have k_m12 : (-12 : Int32).toInt = -12 := by decide
  have k_m11 : (-11 : Int32).toInt = -11 := by decide
  have k_m1 : (-1 : Int32).toInt = -1 := by decide
  have k_0 : (0 : Int32).toInt = 0 := by decide
  have k_3 : (3 : Int32).toInt = 3 := by decide
  have k_60 : (60 : Int32).toInt = 60 := by decide
  refine lv_aload_n hx hb dX10_copy_0 rfl (lv_at hl 0 rfl) ?_
  refine lv_iconst (v := 0) hx hb dX10_copy_1 (by decide) ?_
  refine m_put (v := .int (0 : Int32)) (ty := .int) hx hb hts hin hown hK hP hD hS 0 (by decide) rfl (hts (.fieldLink RX10 79 "ShadowBenchModel" "thrown" "I") (by decide +kernel)) rfl (by decide +kernel) rfl rfl (upd f 0 (0 : Int32)) g rfl dX10_copy_2 (fun H locs hP hS => ?_)
  refine lv_iload_n hx hb dX10_copy_5 rfl (lv_at hl 1 rfl) ?_
  refine m_pu (As := [.int d]) (rest := []) ⟨hx, hb, hml, hown, hts⟩ (c_X10_isShelf l d ) (va_cwS 1 hts gX10_copy_X10_isShelf rfl rfl rfl (by decide +kernel) ⟨Nat.le_of_ble_eq_true rfl, Nat.le_of_ble_eq_true rfl⟩) hP rfl hl.1 rfl (Nat.le_of_ble_eq_true rfl) dX10_copy_6 ⟨Nat.le_of_ble_eq_true rfl, Nat.le_of_ble_eq_true rfl⟩ hS (fun r6 H locs q6 hP hS => ?_)
  refine lv_if_eq (tgt := 19) hx hb dX10_copy_9 (by decide) (fun c9 => ?_) (fun c9 => ?_)
  · skip
    have b9 := bo_f q6 c9
    refine lv_iconst (v := (-1)) hx hb dX10_copy_19 (by decide) ?_
    have hP := wm_eq rfl rfl rfl (ec_q___33_34 q ) hP
    exact W.iret (v := ((-1) : Int32)) hx hb hr (fun t ht hW => ⟨⟨_, ((upd f 0 (0 : Int32)), g, r, (va_up (va_up q 33 (q 33)) 34 (q 34))), rfl, ⟨(q 33), (q 34), rfl, ⟨(Or.inl ⟨(fun z9 => by first | exact b9 z9.1 | exact b16 z9.2), rfl⟩), Or.inr ⟨(fun z8 => by first | exact b9 z8.1.1 | exact b16 z8.1.2), rfl⟩⟩⟩, by unfold mB; rw [ht]; exact hP⟩, hS.F ht⟩) hS.2.2 dX10_copy_20
  · skip
    have b9 := bo_t q6 c9
    refine lv_iload_n hx hb dX10_copy_12 rfl (lv_at hl 3 rfl) ?_
    refine m_pu (As := [.int e0]) (rest := []) ⟨hx, hb, hml, hown, hts⟩ (c_X10_isShelf l e0 ) (va_cwS 1 hts gX10_copy_X10_isShelf rfl rfl rfl (by decide +kernel) ⟨Nat.le_of_ble_eq_true rfl, Nat.le_of_ble_eq_true rfl⟩) hP rfl hl.1 rfl (Nat.le_of_ble_eq_true rfl) dX10_copy_13 ⟨Nat.le_of_ble_eq_true rfl, Nat.le_of_ble_eq_true rfl⟩ hS (fun r13 H locs q13 hP hS => ?_)
    refine lv_if_ne (tgt := 21) hx hb dX10_copy_16 (by decide) (fun c16 => ?_) (fun c16 => ?_)
    · skip
      have b16 := bo_t q13 c16
      refine lv_aload_n hx hb dX10_copy_21 rfl (lv_at hl 0 rfl) ?_
      refine m_get (v := .ref (a 29)) hx hb hts hin hown hK hP 29 (by decide) rfl (hts (.fieldLink RX10 61 "ShadowBenchModel" "shelf" "[I") (by decide +kernel)) rfl dX10_copy_22 ?_
      refine lv_iload_n hx hb dX10_copy_25 rfl (lv_at hl 1 rfl) ?_
      refine m_iald (w := (r 29)) hx hb hK hP 17 rfl (vp_in_iff.mpr ⟨by omega, by omega⟩) dX10_copy_26 ?_
      refine lv_topi (fun v26 e26 => ?_)
      have i26 : v26.toInt = ((r 29) d.toNatClampNeg).toInt := congrArg Int32.toInt e26
      refine lv_if_eq (tgt := 39) hx hb dX10_copy_27 (by decide) (fun c27 => ?_) (fun c27 => ?_)
      · skip
        have d27 := c27
        rw [fa_eq] at d27
        refine lv_bipush (v := (-11)) hx hb dX10_copy_39 (by decide) ?_
        have hP := wm_eq rfl rfl rfl (ec_q___33_34 q ) hP
        exact W.iret (v := ((-11) : Int32)) hx hb hr (fun t ht hW => ⟨⟨_, ((upd f 0 (0 : Int32)), g, r, (va_up (va_up q 33 (q 33)) 34 (q 34))), rfl, ⟨(q 33), (q 34), rfl, ⟨(Or.inr ⟨⟨b9, b16⟩, Or.inl ⟨(by first | exact Or.inl (e26.symm.trans c27) | exact Or.inr (e35.symm.trans c36)), rfl⟩⟩), Or.inr ⟨(fun z8 => z8.2.1 (by first | exact Or.inl (e26.symm.trans c27) | exact Or.inr (e35.symm.trans c36))), rfl⟩⟩⟩, by unfold mB; rw [ht]; exact hP⟩, hS.F ht⟩) hS.2.2 dX10_copy_41
      · skip
        have d27 := c27
        rw [fa_eq] at d27
        refine lv_aload_n hx hb dX10_copy_30 rfl (lv_at hl 0 rfl) ?_
        refine m_get (v := .ref (a 29)) hx hb hts hin hown hK hP 29 (by decide) rfl (hts (.fieldLink RX10 61 "ShadowBenchModel" "shelf" "[I") (by decide +kernel)) rfl dX10_copy_31 ?_
        refine lv_iload_n hx hb dX10_copy_34 rfl (lv_at hl 3 rfl) ?_
        refine m_iald (w := (r 29)) hx hb hK hP 17 rfl (vp_in_iff.mpr ⟨by omega, by omega⟩) dX10_copy_35 ?_
        refine lv_topi (fun v35 e35 => ?_)
        have i35 : v35.toInt = ((r 29) e0.toNatClampNeg).toInt := congrArg Int32.toInt e35
        refine lv_if_ne (tgt := 42) hx hb dX10_copy_36 (by decide) (fun c36 => ?_) (fun c36 => ?_)
        · skip
          have d36 := c36
          rw [fa_eq] at d36
          have nk9 : ¬ (r 29 d.toNatClampNeg = 0 ∨ r 29 e0.toNatClampNeg = 0) := by rintro (z9 | z9); exact c27 (e26.trans z9); exact c36 (e35.trans z9)
          refine lv_aload_n hx hb dX10_copy_42 rfl (lv_at hl 0 rfl) ?_
          refine m_get (v := .ref (a 29)) hx hb hts hin hown hK hP 29 (by decide) rfl (hts (.fieldLink RX10 61 "ShadowBenchModel" "shelf" "[I") (by decide +kernel)) rfl dX10_copy_43 ?_
          refine lv_iload_n hx hb dX10_copy_46 rfl (lv_at hl 1 rfl) ?_
          refine m_iald (w := (r 29)) hx hb hK hP 17 rfl (vp_in_iff.mpr ⟨by omega, by omega⟩) dX10_copy_47 ?_
          refine lv_topi (fun v47 e47 => ?_)
          have i47 : v47.toInt = ((r 29) d.toNatClampNeg).toInt := congrArg Int32.toInt e47
          refine lv_iconst (v := 3) hx hb dX10_copy_48 (by decide) ?_
          refine lv_icmp_lt (tgt := 67) hx hb dX10_copy_49 (by decide) (fun c49 => ?_) (fun c49 => ?_)
          · skip
            have d49 := c49
            rw [fa_lt] at d49
            refine lv_bipush (v := (-12)) hx hb dX10_copy_67 (by decide) ?_
            have hP := wm_eq rfl rfl rfl (ec_q___33_34 q ) hP
            exact W.iret (v := ((-12) : Int32)) hx hb hr (fun t ht hW => ⟨⟨_, ((upd f 0 (0 : Int32)), g, r, (va_up (va_up q 33 (q 33)) 34 (q 34))), rfl, ⟨(q 33), (q 34), rfl, ⟨(Or.inr ⟨⟨b9, b16⟩, Or.inr ⟨nk9, Or.inl ⟨(fun z9 => by first | exact c64 (e57.trans (z9.2.trans e63.symm)) | (have y9 := z9.1; rw [← e47] at y9; omega)), rfl⟩⟩⟩), Or.inr ⟨(fun z8 => by have z9 := z8.2.2.1; first | exact c64 (e57.trans (z9.2.trans e63.symm)) | (have y9 := z9.1; rw [← e47] at y9; omega)), rfl⟩⟩⟩, by unfold mB; rw [ht]; exact hP⟩, hS.F ht⟩) hS.2.2 dX10_copy_69
          · skip
            have d49 := c49
            rw [fa_lt] at d49
            refine lv_aload_n hx hb dX10_copy_52 rfl (lv_at hl 0 rfl) ?_
            refine m_get (v := .ref (a 29)) hx hb hts hin hown hK hP 29 (by decide) rfl (hts (.fieldLink RX10 61 "ShadowBenchModel" "shelf" "[I") (by decide +kernel)) rfl dX10_copy_53 ?_
            refine lv_iload_n hx hb dX10_copy_56 rfl (lv_at hl 1 rfl) ?_
            refine m_iald (w := (r 29)) hx hb hK hP 17 rfl (vp_in_iff.mpr ⟨by omega, by omega⟩) dX10_copy_57 ?_
            refine lv_topi (fun v57 e57 => ?_)
            have i57 : v57.toInt = ((r 29) d.toNatClampNeg).toInt := congrArg Int32.toInt e57
            refine lv_aload_n hx hb dX10_copy_58 rfl (lv_at hl 0 rfl) ?_
            refine m_get (v := .ref (a 29)) hx hb hts hin hown hK hP 29 (by decide) rfl (hts (.fieldLink RX10 61 "ShadowBenchModel" "shelf" "[I") (by decide +kernel)) rfl dX10_copy_59 ?_
            refine lv_iload_n hx hb dX10_copy_62 rfl (lv_at hl 3 rfl) ?_
            refine m_iald (w := (r 29)) hx hb hK hP 17 rfl (vp_in_iff.mpr ⟨by omega, by omega⟩) dX10_copy_63 ?_
            refine lv_topi (fun v63 e63 => ?_)
            have i63 : v63.toInt = ((r 29) e0.toNatClampNeg).toInt := congrArg Int32.toInt e63
            refine lv_icmp_eq (tgt := 70) hx hb dX10_copy_64 (by decide) (fun c64 => ?_) (fun c64 => ?_)
            · skip
              have d64 := c64
              rw [fa_eq] at d64
              have ke9 : 3 ≤ (r 29 d.toNatClampNeg).toInt ∧ r 29 d.toNatClampNeg = r 29 e0.toNatClampNeg := ⟨by rw [← e47]; omega, by rw [← e57, ← e63]; exact c64⟩
              refine lv_aload_n hx hb dX10_copy_70 rfl (lv_at hl 0 rfl) ?_
              refine lv_iload_n hx hb dX10_copy_71 rfl (lv_at hl 1 rfl) ?_
              refine lv_iload_n hx hb dX10_copy_72 rfl (lv_at hl 2 rfl) ?_
              refine lv_iload hx hb dX10_copy_73 (lv_at hl 5 rfl) ?_
              refine m_calli (As := [.int d, .int i0, .int n1]) (rest := []) ⟨hx, hb, hml, hown, hts⟩ (c_X10_hasPlaces l D cy mo a (upd f 0 (0 : Int32)) g r q d i0 n1 hD hI (show 0 ≤ d.toInt ∧ d.toInt < 8 by omega)) (cwV 3 hts gX10_copy_X10_hasPlaces rfl rfl rfl (by decide +kernel) ⟨Nat.le_of_ble_eq_true rfl, Nat.le_of_ble_eq_true rfl⟩) hK hP rfl hl.1 rfl (Nat.le_of_ble_eq_true rfl) dX10_copy_75 ⟨Nat.le_of_ble_eq_true rfl, Nat.le_of_ble_eq_true rfl⟩ hS (fun r75 u H locs q75 hP hS => ?_)
              obtain ⟨rfl, q75⟩ := q75
              have hP : va_P D vwCl (WM cy mo a (upd f 0 (0 : Int32)) g r q) H := hP
              have q75 : Bo r75 ((0 ≤ n1.toInt ∧ 0 ≤ i0.toInt) ∧ i0.toInt + n1.toInt ≤ ((r 30) d.toNatClampNeg).toInt) := q75
              refine lv_if_eq (tgt := 93) hx hb dX10_copy_78 (by decide) (fun c78 => ?_) (fun c78 => ?_)
              · skip
                have b78 := bo_f q75 c78
                refine lv_bipush (v := (-13)) hx hb dX10_copy_93 (by decide) ?_
                have hP := wm_eq rfl rfl rfl (ec_q___33_34 q ) hP
                exact W.iret (v := ((-13) : Int32)) hx hb hr (fun t ht hW => ⟨⟨_, ((upd f 0 (0 : Int32)), g, r, (va_up (va_up q 33 (q 33)) 34 (q 34))), rfl, ⟨(q 33), (q 34), rfl, ⟨(Or.inr ⟨⟨b9, b16⟩, Or.inr ⟨nk9, Or.inr ⟨ke9, Or.inl ⟨(fun z9 => by unfold hasP at z9; omega), rfl⟩⟩⟩⟩), Or.inr ⟨(fun z8 => by have z9 := z8.2.2.2; unfold hasP at z9; omega), rfl⟩⟩⟩, by unfold mB; rw [ht]; exact hP⟩, hS.F ht⟩) hS.2.2 dX10_copy_95
              · skip
                have b78 := bo_t q75 c78
                refine lv_aload_n hx hb dX10_copy_81 rfl (lv_at hl 0 rfl) ?_
                refine lv_iload_n hx hb dX10_copy_82 rfl (lv_at hl 3 rfl) ?_
                refine lv_iload hx hb dX10_copy_83 (lv_at hl 4 rfl) ?_
                refine lv_iload hx hb dX10_copy_85 (lv_at hl 5 rfl) ?_
                refine m_calli (As := [.int e0, .int j0, .int n1]) (rest := []) ⟨hx, hb, hml, hown, hts⟩ (c_X10_hasPlaces l D cy mo a (upd f 0 (0 : Int32)) g r q e0 j0 n1 hD hI (show 0 ≤ e0.toInt ∧ e0.toInt < 8 by omega)) (cwV 3 hts gX10_copy_X10_hasPlaces rfl rfl rfl (by decide +kernel) ⟨Nat.le_of_ble_eq_true rfl, Nat.le_of_ble_eq_true rfl⟩) hK hP rfl hl.1 rfl (Nat.le_of_ble_eq_true rfl) dX10_copy_87 ⟨Nat.le_of_ble_eq_true rfl, Nat.le_of_ble_eq_true rfl⟩ hS (fun r87 u H locs q87 hP hS => ?_)
                obtain ⟨rfl, q87⟩ := q87
                have hP : va_P D vwCl (WM cy mo a (upd f 0 (0 : Int32)) g r q) H := hP
                have q87 : Bo r87 ((0 ≤ n1.toInt ∧ 0 ≤ j0.toInt) ∧ j0.toInt + n1.toInt ≤ ((r 30) e0.toNatClampNeg).toInt) := q87
                refine lv_if_ne (tgt := 96) hx hb dX10_copy_90 (by decide) (fun c90 => ?_) (fun c90 => ?_)
                · skip
                  have b90 := bo_t q87 c90
                  have z1 := hI.2.2.2.2 d (by omega) (by omega)
                  have z2 := hI.2.2.2.2 e0 (by omega) (by omega)
                  have cd9 := m_cl (x := d) (by omega)
                  have ce9 := m_cl (x := e0) (by omega)
                  have ci9 := m_cl (x := i0) (by omega)
                  have cj9 := m_cl (x := j0) (by omega)
                  have cn9 := m_cl (x := n1) (by omega)
                  refine lv_iconst (v := 0) hx hb dX10_copy_96 (by decide) ?_
                  refine lv_istore (lv' := [(6, .int (0 : Int32)), (0, .ref mo), (1, .int d), (2, .int i0), (3, .int e0), (4, .int j0), (5, .int n1)]) hx hb dX10_copy_97 hl (by decide) rfl (fun ls hl => ?_)
                  have loop_99 : ∀ (n : Nat) (i : Nat) (b1 : Nat → Int64), (i ≤ 60 ∧ (i : Int) ≤ n1.toInt) → (b1 = setQ (q 34) 0 (fun x9 => q 33 (60 * d.toNatClampNeg + i0.toNatClampNeg + x9)) i) → 60 - i < n → ∀ (H : Heap) (locs : List Loc), va_P D vwCl (WM cy mo a (upd f 0 (0 : Int32)) g r (va_up q 34 b1)) H → va_S (AM mo a) s.heap H locs → ∀ (ls : Array Slot), lv_has ls 7 [(6, .int (nI i)), (0, .ref mo), (1, .int d), (2, .int i0), (3, .int e0), (4, .int j0), (5, .int n1)] → W p l e (headSpec wsX10_copy ({ frames := 1, cells := 0, slots := 0, locals := 23 })).room s m #[Value.ref mo, Value.int d, Value.int i0, Value.int e0, Value.int j0, Value.int n1] below meth c H locs 0 0 (MQ below (va_Qi (fun r0 u => ∃ (sr : Nat → Int64), ∃ (bt : Nat → Int64), u = ((upd f 0 (0 : Int32)), g, r, (va_up (va_up q 33 sr) 34 bt)) ∧ (cpA (r 29) (r 30) d i0 e0 j0 n1 r0 ∧ ((cpOk (r 29) (r 30) d i0 e0 j0 n1 ∧ sr = setQ (q 33) (60 * e0.toNatClampNeg + j0.toNatClampNeg) (fun x9 => q 33 (60 * d.toNatClampNeg + i0.toNatClampNeg + x9)) n1.toNatClampNeg) ∨ (¬ cpOk (r 29) (r 30) d i0 e0 j0 n1 ∧ sr = q 33)))) (mB D cy mo a) (AM mo a)) #[Value.ref mo, Value.int d, Value.int i0, Value.int e0, Value.int j0, Value.int n1] s 0 0 (AM mo a)) (F0 m 99 ls []) := by
                    intro n
                    induction n with
                    | zero => intro i b1 j99_0 j99_1 hn; exact absurd hn (Nat.not_lt_zero _)
                    | succ n ih_99 =>
                      intro i b1 j99_0 j99_1 hn_99 H locs hP hS ls hl
                      have ii : (nI i).toInt = (i : Int) := nI_toInt (by omega)
                      refine lv_iload hx hb dX10_copy_99 (lv_at hl 0 rfl) ?_
                      refine lv_iload hx hb dX10_copy_101 (lv_at hl 6 rfl) ?_
                      refine lv_icmp_ge (tgt := 133) hx hb dX10_copy_103 (by decide) (fun c103 => ?_) (fun c103 => ?_)
                      · skip
                        have d103 := c103
                        rw [fa_le] at d103
                        refine lv_iconst (v := 0) hx hb dX10_copy_133 (by decide) ?_
                        refine lv_istore (lv' := [(6, .int (0 : Int32)), (0, .ref mo), (1, .int d), (2, .int i0), (3, .int e0), (4, .int j0), (5, .int n1)]) hx hb dX10_copy_134 hl (by decide) rfl (fun ls hl => ?_)
                        have loop_136 : ∀ (n : Nat) (i2 : Nat) (s1 : Nat → Int64), (i2 ≤ 60 ∧ (i2 : Int) ≤ n1.toInt) → (s1 = setQ (q 33) (60 * e0.toNatClampNeg + j0.toNatClampNeg) (fun x9 => q 33 (60 * d.toNatClampNeg + i0.toNatClampNeg + x9)) i2) → 60 - i2 < n → ∀ (H : Heap) (locs : List Loc), va_P D vwCl (WM cy mo a (upd f 0 (0 : Int32)) g r (va_up (va_up q 34 b1) 33 s1)) H → va_S (AM mo a) s.heap H locs → ∀ (ls : Array Slot), lv_has ls 7 [(6, .int (nI i2)), (0, .ref mo), (1, .int d), (2, .int i0), (3, .int e0), (4, .int j0), (5, .int n1)] → W p l e (headSpec wsX10_copy ({ frames := 1, cells := 0, slots := 0, locals := 23 })).room s m #[Value.ref mo, Value.int d, Value.int i0, Value.int e0, Value.int j0, Value.int n1] below meth c H locs 0 0 (MQ below (va_Qi (fun r0 u => ∃ (sr : Nat → Int64), ∃ (bt : Nat → Int64), u = ((upd f 0 (0 : Int32)), g, r, (va_up (va_up q 33 sr) 34 bt)) ∧ (cpA (r 29) (r 30) d i0 e0 j0 n1 r0 ∧ ((cpOk (r 29) (r 30) d i0 e0 j0 n1 ∧ sr = setQ (q 33) (60 * e0.toNatClampNeg + j0.toNatClampNeg) (fun x9 => q 33 (60 * d.toNatClampNeg + i0.toNatClampNeg + x9)) n1.toNatClampNeg) ∨ (¬ cpOk (r 29) (r 30) d i0 e0 j0 n1 ∧ sr = q 33)))) (mB D cy mo a) (AM mo a)) #[Value.ref mo, Value.int d, Value.int i0, Value.int e0, Value.int j0, Value.int n1] s 0 0 (AM mo a)) (F0 m 136 ls []) := by
                          intro n
                          induction n with
                          | zero => intro i2 s1 j136_0 j136_1 hn; exact absurd hn (Nat.not_lt_zero _)
                          | succ n ih_136 =>
                            intro i2 s1 j136_0 j136_1 hn_136 H locs hP hS ls hl
                            have ii2 : (nI i2).toInt = (i2 : Int) := nI_toInt (by omega)
                            refine lv_iload hx hb dX10_copy_136 (lv_at hl 0 rfl) ?_
                            refine lv_iload hx hb dX10_copy_138 (lv_at hl 6 rfl) ?_
                            refine lv_icmp_ge (tgt := 171) hx hb dX10_copy_140 (by decide) (fun c140 => ?_) (fun c140 => ?_)
                            · skip
                              have d140 := c140
                              rw [fa_le] at d140
                              refine lv_iload hx hb dX10_copy_171 (lv_at hl 6 rfl) ?_
                              have hP := wm_eq rfl rfl rfl (ec_q_34_33__33_34 q b1 s1) hP
                              exact W.iret (v := n1) hx hb hr (fun t ht hW => ⟨⟨_, ((upd f 0 (0 : Int32)), g, r, (va_up (va_up q 33 s1) 34 b1)), rfl, ⟨s1, b1, rfl, ⟨(Or.inr ⟨⟨b9, b16⟩, Or.inr ⟨nk9, Or.inr ⟨ke9, Or.inr ⟨(by unfold hasP; omega), rfl⟩⟩⟩⟩), Or.inl ⟨⟨⟨b9, b16⟩, nk9, ke9, (by unfold hasP; omega)⟩, (by rw [j136_1, show i2 = n1.toNatClampNeg by omega])⟩⟩⟩, by unfold mB; rw [ht]; exact hP⟩, hS.F ht⟩) hS.2.2 dX10_copy_173
                            · skip
                              have d140 := c140
                              rw [fa_le] at d140
                              refine lv_aload_n hx hb dX10_copy_143 rfl (lv_at hl 1 rfl) ?_
                              refine m_get (v := .ref (a 33)) hx hb hts hin hown hK hP 33 (by decide) rfl (hts (.fieldLink RX10 73 "ShadowBenchModel" "shelfRow" "[J") (by decide +kernel)) rfl dX10_copy_144 ?_
                              refine lv_bipush (v := 60) hx hb dX10_copy_147 (by decide) ?_
                              refine lv_iload_n hx hb dX10_copy_149 rfl (lv_at hl 4 rfl) ?_
                              refine lv_imul hx hb dX10_copy_150 ?_
                              refine lv_topi (fun v150 e150 => ?_)
                              have i150 : v150.toInt = 60 * e0.toInt := by rw [e150]; exact mulcL rfl (by omega) (by omega)
                              refine lv_iload hx hb dX10_copy_151 (lv_at hl 5 rfl) ?_
                              refine lv_iadd hx hb dX10_copy_153 ?_
                              refine lv_topi (fun v153 e153 => ?_)
                              have i153 : v153.toInt = v150.toInt + j0.toInt := by rw [e153]; exact fb_addI (by omega) (by omega)
                              refine lv_iload hx hb dX10_copy_154 (lv_at hl 0 rfl) ?_
                              refine lv_iadd hx hb dX10_copy_156 ?_
                              refine lv_topi (fun v156 e156 => ?_)
                              have i156 : v156.toInt = v153.toInt + (nI i2).toInt := by rw [e156]; exact fb_addI (by omega) (by omega)
                              refine lv_aload_n hx hb dX10_copy_157 rfl (lv_at hl 1 rfl) ?_
                              refine m_get (v := .ref (a 34)) hx hb hts hin hown hK hP 34 (by decide) rfl (hts (.fieldLink RX10 76 "ShadowBenchModel" "between" "[J") (by decide +kernel)) rfl dX10_copy_158 ?_
                              refine lv_iload hx hb dX10_copy_161 (lv_at hl 0 rfl) ?_
                              refine m_lald (w := b1) hx hb hK hP 22 rfl (vp_in_iff.mpr ⟨by omega, by omega⟩) dX10_copy_163 ?_
                              refine lv_topl (fun v163 e163 => ?_)
                              have cv8 := m_cl (x := v156) (by omega)
                              have f156 : v156.toNatClampNeg = 60 * e0.toNatClampNeg + j0.toNatClampNeg + i2 := by omega
                              refine m_last (w := s1) hx hb hK hP hD hS 21 rfl (vp_in_iff.mpr ⟨by omega, by omega⟩) (va_up (va_up (va_up q 34 b1) 33 s1) 33 (vp_updL s1 v156.toNatClampNeg v163)) (ms_33 cy mo a _ _ _ _ _) dX10_copy_164 (fun H locs hP hS => ?_)
                              have hP := wm_eq rfl rfl rfl (es_q_34_33__33 q b1 s1 (vp_updL s1 v156.toNatClampNeg v163)) hP
                              refine lv_iinc (v := (nI (i2 + 1))) (lv' := [(6, .int (nI (i2 + 1))), (0, .ref mo), (1, .int d), (2, .int i0), (3, .int e0), (4, .int j0), (5, .int n1)]) hx hb dX10_copy_165 hl (k := 0) rfl (nI_1 _) (by decide) rfl (fun ls hl => ?_)
                              refine lv_goto (tgt := 136) hx hb dX10_copy_168 (by decide) ?_
                              exact ih_136 (i2 + 1) (vp_updL s1 v156.toNatClampNeg v163) (by omega) (by have z9 := setQ_in (fs := q 34) (b := 0) (g := (fun x9 => q 33 (60 * d.toNatClampNeg + i0.toNatClampNeg + x9))) (n := i) (e := i2) (by omega); rw [Nat.zero_add, ← j99_1] at z9; rw [j136_1, f156]; exact setQ_v (by rw [e163, nI_clamp (n := i2) (by omega)]; exact z9)) (by omega) _ _ hP hS ls (lv_sub hl [0, 1, 2, 3, 4, 5, 6] rfl)
                        have hP := wm_eq rfl rfl rfl (ec_q_34__34_33 q b1) hP
                        exact loop_136 (60 + 1) 0 (q 33) (by omega) ((setQ_0 _ _ _).symm) (by omega) _ _ hP hS ls (lv_sub hl [0, 1, 2, 3, 4, 5, 6] rfl)
                      · skip
                        have d103 := c103
                        rw [fa_le] at d103
                        refine lv_aload_n hx hb dX10_copy_106 rfl (lv_at hl 1 rfl) ?_
                        refine m_get (v := .ref (a 34)) hx hb hts hin hown hK hP 34 (by decide) rfl (hts (.fieldLink RX10 76 "ShadowBenchModel" "between" "[J") (by decide +kernel)) rfl dX10_copy_107 ?_
                        refine lv_iload hx hb dX10_copy_110 (lv_at hl 0 rfl) ?_
                        refine lv_aload_n hx hb dX10_copy_112 rfl (lv_at hl 1 rfl) ?_
                        refine m_get (v := .ref (a 33)) hx hb hts hin hown hK hP 33 (by decide) rfl (hts (.fieldLink RX10 73 "ShadowBenchModel" "shelfRow" "[J") (by decide +kernel)) rfl dX10_copy_113 ?_
                        refine lv_bipush (v := 60) hx hb dX10_copy_116 (by decide) ?_
                        refine lv_iload_n hx hb dX10_copy_118 rfl (lv_at hl 2 rfl) ?_
                        refine lv_imul hx hb dX10_copy_119 ?_
                        refine lv_topi (fun v119 e119 => ?_)
                        have i119 : v119.toInt = 60 * d.toInt := by rw [e119]; exact mulcL rfl (by omega) (by omega)
                        refine lv_iload_n hx hb dX10_copy_120 rfl (lv_at hl 3 rfl) ?_
                        refine lv_iadd hx hb dX10_copy_121 ?_
                        refine lv_topi (fun v121 e121 => ?_)
                        have i121 : v121.toInt = v119.toInt + i0.toInt := by rw [e121]; exact fb_addI (by omega) (by omega)
                        refine lv_iload hx hb dX10_copy_122 (lv_at hl 0 rfl) ?_
                        refine lv_iadd hx hb dX10_copy_124 ?_
                        refine lv_topi (fun v124 e124 => ?_)
                        have i124 : v124.toInt = v121.toInt + (nI i).toInt := by rw [e124]; exact fb_addI (by omega) (by omega)
                        have cv9 := m_cl (x := v124) (by omega)
                        have f124 : v124.toNatClampNeg = 60 * d.toNatClampNeg + i0.toNatClampNeg + i := by omega
                        refine m_lald (w := (q 33)) hx hb hK hP 21 rfl (vp_in_iff.mpr ⟨by omega, by omega⟩) dX10_copy_125 ?_
                        refine lv_topl (fun v125 e125 => ?_)
                        refine m_last (w := b1) hx hb hK hP hD hS 22 rfl (vp_in_iff.mpr ⟨by omega, by omega⟩) (va_up (va_up q 34 b1) 34 (vp_updL b1 (nI i).toNatClampNeg v125)) (ms_34 cy mo a _ _ _ _ _) dX10_copy_126 (fun H locs hP hS => ?_)
                        have hP := wm_eq rfl rfl rfl (es_q_34__34 q b1 (vp_updL b1 (nI i).toNatClampNeg v125)) hP
                        refine lv_iinc (v := (nI (i + 1))) (lv' := [(6, .int (nI (i + 1))), (0, .ref mo), (1, .int d), (2, .int i0), (3, .int e0), (4, .int j0), (5, .int n1)]) hx hb dX10_copy_127 hl (k := 0) rfl (nI_1 _) (by decide) rfl (fun ls hl => ?_)
                        refine lv_goto (tgt := 99) hx hb dX10_copy_130 (by decide) ?_
                        have hP := wm_eq rfl rfl rfl (ec_q_34__34 q ((vp_updL b1 (nI i).toNatClampNeg v125))) hP
                        exact ih_99 (i + 1) (((vp_updL b1 (nI i).toNatClampNeg v125))) (by omega) (by have z9 := setQ_s (q 34) 0 (fun x9 => q 33 (60 * d.toNatClampNeg + i0.toNatClampNeg + x9)) i; rw [Nat.zero_add] at z9; rw [j99_1, nI_clamp (n := i) (by omega), e125, f124]; exact z9) (by omega) _ _ hP hS ls (lv_sub hl [0, 1, 2, 3, 4, 5, 6] rfl)
                  have hP := wm_eq rfl rfl rfl (ec_q___34 q ) hP
                  exact loop_99 (60 + 1) 0 (q 34) (by omega) ((setQ_0 _ _ _).symm) (by omega) _ _ hP hS ls (lv_sub hl [0, 1, 2, 3, 4, 5, 6] rfl)
                · skip
                  have b90 := bo_f q87 c90
                  refine lv_bipush (v := (-13)) hx hb dX10_copy_93 (by decide) ?_
                  have hP := wm_eq rfl rfl rfl (ec_q___33_34 q ) hP
                  exact W.iret (v := ((-13) : Int32)) hx hb hr (fun t ht hW => ⟨⟨_, ((upd f 0 (0 : Int32)), g, r, (va_up (va_up q 33 (q 33)) 34 (q 34))), rfl, ⟨(q 33), (q 34), rfl, ⟨(Or.inr ⟨⟨b9, b16⟩, Or.inr ⟨nk9, Or.inr ⟨ke9, Or.inl ⟨(fun z9 => by unfold hasP at z9; omega), rfl⟩⟩⟩⟩), Or.inr ⟨(fun z8 => by have z9 := z8.2.2.2; unfold hasP at z9; omega), rfl⟩⟩⟩, by unfold mB; rw [ht]; exact hP⟩, hS.F ht⟩) hS.2.2 dX10_copy_95
            · skip
              have d64 := c64
              rw [fa_eq] at d64
              refine lv_bipush (v := (-12)) hx hb dX10_copy_67 (by decide) ?_
              have hP := wm_eq rfl rfl rfl (ec_q___33_34 q ) hP
              exact W.iret (v := ((-12) : Int32)) hx hb hr (fun t ht hW => ⟨⟨_, ((upd f 0 (0 : Int32)), g, r, (va_up (va_up q 33 (q 33)) 34 (q 34))), rfl, ⟨(q 33), (q 34), rfl, ⟨(Or.inr ⟨⟨b9, b16⟩, Or.inr ⟨nk9, Or.inl ⟨(fun z9 => by first | exact c64 (e57.trans (z9.2.trans e63.symm)) | (have y9 := z9.1; rw [← e47] at y9; omega)), rfl⟩⟩⟩), Or.inr ⟨(fun z8 => by have z9 := z8.2.2.1; first | exact c64 (e57.trans (z9.2.trans e63.symm)) | (have y9 := z9.1; rw [← e47] at y9; omega)), rfl⟩⟩⟩, by unfold mB; rw [ht]; exact hP⟩, hS.F ht⟩) hS.2.2 dX10_copy_69
        · skip
          have d36 := c36
          rw [fa_eq] at d36
          refine lv_bipush (v := (-11)) hx hb dX10_copy_39 (by decide) ?_
          have hP := wm_eq rfl rfl rfl (ec_q___33_34 q ) hP
          exact W.iret (v := ((-11) : Int32)) hx hb hr (fun t ht hW => ⟨⟨_, ((upd f 0 (0 : Int32)), g, r, (va_up (va_up q 33 (q 33)) 34 (q 34))), rfl, ⟨(q 33), (q 34), rfl, ⟨(Or.inr ⟨⟨b9, b16⟩, Or.inl ⟨(by first | exact Or.inl (e26.symm.trans c27) | exact Or.inr (e35.symm.trans c36)), rfl⟩⟩), Or.inr ⟨(fun z8 => z8.2.1 (by first | exact Or.inl (e26.symm.trans c27) | exact Or.inr (e35.symm.trans c36))), rfl⟩⟩⟩, by unfold mB; rw [ht]; exact hP⟩, hS.F ht⟩) hS.2.2 dX10_copy_41
    · skip
      have b16 := bo_f q13 c16
      refine lv_iconst (v := (-1)) hx hb dX10_copy_19 (by decide) ?_
      have hP := wm_eq rfl rfl rfl (ec_q___33_34 q ) hP
      exact W.iret (v := ((-1) : Int32)) hx hb hr (fun t ht hW => ⟨⟨_, ((upd f 0 (0 : Int32)), g, r, (va_up (va_up q 33 (q 33)) 34 (q 34))), rfl, ⟨(q 33), (q 34), rfl, ⟨(Or.inl ⟨(fun z9 => by first | exact b9 z9.1 | exact b16 z9.2), rfl⟩), Or.inr ⟨(fun z8 => by first | exact b9 z8.1.1 | exact b16 z8.1.2), rfl⟩⟩⟩, by unfold mB; rw [ht]; exact hP⟩, hS.F ht⟩) hS.2.2 dX10_copy_20
set_option maxHeartbeats 4000000 in
set_option maxRecDepth 100000 in
theorem c_X10_keep_w (l : Launch) (D : va_G) (cy : Nat → ClassId) (mo : Nat) (a : Nat → Nat) (f : Nat → Int32) (g : Nat → Int64) (r : Nat → Nat → Int32) (q : Nat → Nat → Int64) (d : Int32) (what : Int32) (k0 : Int32) (p0 : Int64) (hD : DM cy mo a) (hI : MI f r) : Mi l D cy mo a yX10_keep wsX10_keep ({ frames := 3, cells := 0, slots := 0, locals := 69 }) f g r q [.int d, .int what, .int k0, .long p0] (fun r0 u => ∃ (sh : Nat → Int32), ∃ (sz : Nat → Int32), ∃ (sw : Nat → Int32), ∃ (sf : Nat → Int32), ∃ (sr : Nat → Int64), u = ((upd f 0 (0 : Int32)), g, (va_up (va_up (va_up (va_up r 29 sh) 30 sz) 31 sw) 32 sf), (va_up q 33 sr)) ∧ (yesNo (okKeep (f 1) (fun j9 => (r 3 j9).toNatClampNeg) (fun j9 => (r 4 j9).toNatClampNeg) d what k0 p0) 0 (-1) r0 ∧ ((okKeep (f 1) (fun j9 => (r 3 j9).toNatClampNeg) (fun j9 => (r 4 j9).toNatClampNeg) d what k0 p0 ∧ ∃ nv, sh = upd (r 29) d.toNatClampNeg what ∧ sz = upd (r 30) d.toNatClampNeg nv ∧ (what.toInt = 3 → nv.toInt = (((r 3 k0.toNatClampNeg).toNatClampNeg * (r 4 k0.toNatClampNeg).toNatClampNeg : Nat) : Int)) ∧ (what.toInt = 4 → nv.toInt = (((r 4 k0.toNatClampNeg).toNatClampNeg + (r 3 k0.toNatClampNeg).toNatClampNeg : Nat) : Int)) ∧ sr = setQ (q 33) (60 * d.toNatClampNeg) (keG what p0 (r 4 k0.toNatClampNeg).toNatClampNeg (fun x9 => r 5 (44 * k0.toNatClampNeg + x9))) nv.toNatClampNeg ∧ nv.toNatClampNeg ≤ 60) ∨ (¬ okKeep (f 1) (fun j9 => (r 3 j9).toNatClampNeg) (fun j9 => (r 4 j9).toNatClampNeg) d what k0 p0 ∧ sh = r 29 ∧ sz = r 30 ∧ sr = q 33)) ∧ MI (upd f 0 (0 : Int32)) (va_up (va_up (va_up (va_up r 29 sh) 30 sz) 31 sw) 32 sf))) := by
  refine Met.ofW (cc := cX10_keep) (maxL := 8) (ret := (some .int)) (by decide) rfl ?_
  intro p e s m args below meth c s₁ B hml hv
  obtain ⟨rfl, hP, hK⟩ := hv
  have hx := B.exec
  have hb := B.bytes
  have hr := B.returns
  have hts := atoms_spec (ws := wsX10_keep) B.pre
  have hin : ∀ w ∈ u_ws RX10 TX10 35, w ∈ wsX10_keep := by decide +kernel
  have hown : s.vm.findClass RX10 = some m.cls := findClass_of_methodNamed B.named
  have hlocks := B.notSynchronized
  have hS : va_S (AM mo a) s.heap s.heap [] := va_S.rf
  have hl := lv_entry ([.ref mo, .int d, .int what, .int k0, .long p0]) (n := 8) (Nat.le_of_ble_eq_true rfl)
  rw [lg_entry_eq]
  generalize (lg_sl ([.ref mo, .int d, .int what, .int k0, .long p0]) ++ List.replicate (8 - (lg_sl ([.ref mo, .int d, .int what, .int k0, .long p0])).length) Slot.unset).toArray = ls at hl ⊢
  have hl : lv_has ls 8 [(0, .ref mo), (1, .int d), (2, .int what), (3, .int k0), (4, .long p0)] := hl
  have k_m15 : (-15 : Int32).toInt = -15 := by decide
  have k_m1 : (-1 : Int32).toInt = -1 := by decide
  have k_0 : (0 : Int32).toInt = 0 := by decide
  have k_1 : (1 : Int32).toInt = 1 := by decide
  have k_3 : (3 : Int32).toInt = 3 := by decide
  have k_4 : (4 : Int32).toInt = 4 := by decide
  have k_11 : (11 : Int32).toInt = 11 := by decide
  have k_44 : (44 : Int32).toInt = 44 := by decide
  have k_60 : (60 : Int32).toInt = 60 := by decide
  have hI1 := hI.1
  refine lv_aload_n hx hb dX10_keep_0 rfl (lv_at hl 0 rfl) ?_
  refine lv_iconst (v := 0) hx hb dX10_keep_1 (by decide) ?_
  refine m_put (v := .int (0 : Int32)) (ty := .int) hx hb hts hin hown hK hP hD hS 0 (by decide) rfl (hts (.fieldLink RX10 79 "ShadowBenchModel" "thrown" "I") (by decide +kernel)) rfl (by decide +kernel) rfl rfl (upd f 0 (0 : Int32)) g rfl dX10_keep_2 (fun H locs hP hS => ?_)
  refine lv_iload_n hx hb dX10_keep_5 rfl (lv_at hl 1 rfl) ?_
  refine m_pu (As := [.int d]) (rest := []) ⟨hx, hb, hml, hown, hts⟩ (c_X10_isShelf l d ) (va_cwS 1 hts gX10_keep_X10_isShelf rfl rfl rfl (by decide +kernel) ⟨Nat.le_of_ble_eq_true rfl, Nat.le_of_ble_eq_true rfl⟩) hP rfl hl.1 rfl (Nat.le_of_ble_eq_true rfl) dX10_keep_6 ⟨Nat.le_of_ble_eq_true rfl, Nat.le_of_ble_eq_true rfl⟩ hS (fun r6 H locs q6 hP hS => ?_)
  refine lv_if_eq (tgt := 71) hx hb dX10_keep_9 (by decide) (fun c9 => ?_) (fun c9 => ?_)
  · skip
    have b9 := bo_f q6 c9
    refine lv_iconst (v := 0) hx hb dX10_keep_71 (by decide) ?_
    refine lv_istore (lv' := [(6, .int (0 : Int32)), (0, .ref mo), (1, .int d), (2, .int what), (3, .int k0), (4, .long p0)]) hx hb dX10_keep_72 hl (by decide) rfl (fun ls hl => ?_)
    refine lv_iload hx hb dX10_keep_74 (lv_at hl 0 rfl) ?_
    refine lv_if_ne (tgt := 81) hx hb dX10_keep_76 (by decide) (fun c76 => ?_) (fun c76 => ?_)
    · first | exact absurd c76 (by decide) | exact absurd (by decide) c76
    · skip
      have d76 := c76
      rw [fa_eq] at d76
      refine lv_iconst (v := (-1)) hx hb dX10_keep_79 (by decide) ?_
      have hP := wm_eq rfl rfl (ec_r___29_30_31_32 r ) (ec_q___33 q ) hP
      exact W.iret (v := ((-1) : Int32)) hx hb hr (fun t ht hW => ⟨⟨_, ((upd f 0 (0 : Int32)), g, (va_up (va_up (va_up (va_up r 29 (r 29)) 30 (r 30)) 31 (r 31)) 32 (r 32)), (va_up q 33 (q 33))), rfl, ⟨(r 29), (r 30), (r 31), (r 32), (q 33), rfl, ⟨(Or.inr ⟨(fun z9 => by unfold okKeep okJob at z9; rcases z9.2 with z8 | ⟨z8, z7⟩ | ⟨z8, z7, z6⟩; (first | exact b9 z9.1 | omega); (first | exact b9 z9.1 | exact b31 z7 | omega); (first | exact b9 z9.1 | exact b44 z7 | (have szw := mi_w hI (x := k0) (by omega) (by omega) rfl; have szh := mi_h hI (x := k0) (by omega) (by omega) rfl; subst e52; subst e58; exact goodP_no b64 ⟨⟨szw, szh⟩, z6⟩) | omega)), rfl⟩), (Or.inr ⟨(fun z9 => by unfold okKeep okJob at z9; rcases z9.2 with z8 | ⟨z8, z7⟩ | ⟨z8, z7, z6⟩; (first | exact b9 z9.1 | omega); (first | exact b9 z9.1 | exact b31 z7 | omega); (first | exact b9 z9.1 | exact b44 z7 | (have szw := mi_w hI (x := k0) (by omega) (by omega) rfl; have szh := mi_h hI (x := k0) (by omega) (by omega) rfl; subst e52; subst e58; exact goodP_no b64 ⟨⟨szw, szh⟩, z6⟩) | omega)), rfl, rfl, rfl⟩), by first | exact hI | exact mi_sz (d := d) hI (v := v110) (by omega) rfl rfl rfl rfl rfl rfl rfl rfl | exact mi_sz (d := d) hI (v := v131) (by omega) rfl rfl rfl rfl rfl rfl rfl rfl | exact mi_sz (d := d) hI (v := 0) (by decide) rfl rfl rfl rfl rfl rfl rfl rfl⟩⟩, by unfold mB; rw [ht]; exact hP⟩, hS.F ht⟩) hS.2.2 dX10_keep_80
  · skip
    have b9 := bo_t q6 c9
    refine lv_iload_n hx hb dX10_keep_12 rfl (lv_at hl 2 rfl) ?_
    refine lv_if_eq (tgt := 67) hx hb dX10_keep_13 (by decide) (fun c13 => ?_) (fun c13 => ?_)
    · skip
      have d13 := c13
      rw [fa_eq] at d13
      refine lv_iconst (v := 1) hx hb dX10_keep_67 (by decide) ?_
      refine lv_goto (tgt := 72) hx hb dX10_keep_68 (by decide) ?_
      refine lv_istore (lv' := [(6, .int (1 : Int32)), (0, .ref mo), (1, .int d), (2, .int what), (3, .int k0), (4, .long p0)]) hx hb dX10_keep_72 hl (by decide) rfl (fun ls hl => ?_)
      refine lv_iload hx hb dX10_keep_74 (lv_at hl 0 rfl) ?_
      refine lv_if_ne (tgt := 81) hx hb dX10_keep_76 (by decide) (fun c76 => ?_) (fun c76 => ?_)
      · skip
        have d76 := c76
        rw [fa_eq] at d76
        refine lv_aload_n hx hb dX10_keep_81 rfl (lv_at hl 1 rfl) ?_
        refine m_get (v := .ref (a 29)) hx hb hts hin hown hK hP 29 (by decide) rfl (hts (.fieldLink RX10 61 "ShadowBenchModel" "shelf" "[I") (by decide +kernel)) rfl dX10_keep_82 ?_
        refine lv_iload_n hx hb dX10_keep_85 rfl (lv_at hl 2 rfl) ?_
        refine lv_iload_n hx hb dX10_keep_86 rfl (lv_at hl 3 rfl) ?_
        refine m_iast (w := (r 29)) hx hb hK hP hD hS 17 rfl (vp_in_iff.mpr ⟨by omega, by omega⟩) (va_up r 29 (upd (r 29) d.toNatClampNeg what)) (ms_29 cy mo a _ _ _ _ _) dX10_keep_87 (fun H locs hP hS => ?_)
        refine lv_aload_n hx hb dX10_keep_88 rfl (lv_at hl 1 rfl) ?_
        refine m_get (v := .ref (a 30)) hx hb hts hin hown hK hP 30 (by decide) rfl (hts (.fieldLink RX10 64 "ShadowBenchModel" "shelfSize" "[I") (by decide +kernel)) rfl dX10_keep_89 ?_
        refine lv_iload_n hx hb dX10_keep_92 rfl (lv_at hl 2 rfl) ?_
        refine lv_iload_n hx hb dX10_keep_93 rfl (lv_at hl 3 rfl) ?_
        refine lv_iconst (v := 3) hx hb dX10_keep_94 (by decide) ?_
        refine lv_icmp_ne (tgt := 114) hx hb dX10_keep_95 (by decide) (fun c95 => ?_) (fun c95 => ?_)
        · skip
          have d95 := c95
          rw [fa_eq] at d95
          refine lv_iload_n hx hb dX10_keep_114 rfl (lv_at hl 3 rfl) ?_
          refine lv_iconst (v := 4) hx hb dX10_keep_115 (by decide) ?_
          refine lv_icmp_ne (tgt := 135) hx hb dX10_keep_116 (by decide) (fun c116 => ?_) (fun c116 => ?_)
          · skip
            have d116 := c116
            rw [fa_eq] at d116
            obtain ⟨nv9, hnv9⟩ : ∃ z9, z9 = (0 : Int32) := ⟨_, rfl⟩
            have n184 := congrArg Int32.toInt hnv9
            refine lv_iconst (v := 0) hx hb dX10_keep_135 (by decide) ?_
            refine m_iast (w := (r 30)) hx hb hK hP hD hS 18 rfl (vp_in_iff.mpr ⟨by omega, by omega⟩) (va_up (va_up r 29 ((upd (r 29) d.toNatClampNeg what))) 30 (upd (r 30) d.toNatClampNeg (0 : Int32))) (ms_30 cy mo a _ _ _ _ _) dX10_keep_136 (fun H locs hP hS => ?_)
            refine lv_iload_n hx hb dX10_keep_137 rfl (lv_at hl 3 rfl) ?_
            refine lv_iconst (v := 1) hx hb dX10_keep_138 (by decide) ?_
            refine lv_icmp_ne (tgt := 174) hx hb dX10_keep_139 (by decide) (fun c139 => ?_) (fun c139 => ?_)
            · skip
              have d139 := c139
              rw [fa_eq] at d139
              refine lv_iconst (v := 0) hx hb dX10_keep_174 (by decide) ?_
              refine lv_istore (lv' := [(7, .int (0 : Int32)), (6, .int (1 : Int32)), (0, .ref mo), (1, .int d), (2, .int what), (3, .int k0), (4, .long p0)]) hx hb dX10_keep_175 hl (by decide) rfl (fun ls hl => ?_)
              have loop_177 : ∀ (n : Nat) (i : Nat) (s3 : Nat → Int64), (i ≤ 60 ∧ (i : Int) ≤ nv9.toInt) → (s3 = setQ (q 33) (60 * d.toNatClampNeg) (keG what p0 (r 4 k0.toNatClampNeg).toNatClampNeg (fun x9 => r 5 (44 * k0.toNatClampNeg + x9))) i) → 60 - i < n → ∀ (H : Heap) (locs : List Loc), va_P D vwCl (WM cy mo a (upd f 0 (0 : Int32)) g (va_up (va_up r 29 ((upd (r 29) d.toNatClampNeg what))) 30 ((upd (r 30) d.toNatClampNeg (0 : Int32)))) (va_up q 33 s3)) H → va_S (AM mo a) s.heap H locs → ∀ (ls : Array Slot), lv_has ls 8 [(7, .int (nI i)), (6, .int (1 : Int32)), (0, .ref mo), (1, .int d), (2, .int what), (3, .int k0), (4, .long p0)] → W p l e (headSpec wsX10_keep ({ frames := 3, cells := 0, slots := 0, locals := 69 })).room s m #[Value.ref mo, Value.int d, Value.int what, Value.int k0, Value.long p0] below meth c H locs 0 0 (MQ below (va_Qi (fun r0 u => ∃ (sh : Nat → Int32), ∃ (sz : Nat → Int32), ∃ (sw : Nat → Int32), ∃ (sf : Nat → Int32), ∃ (sr : Nat → Int64), u = ((upd f 0 (0 : Int32)), g, (va_up (va_up (va_up (va_up r 29 sh) 30 sz) 31 sw) 32 sf), (va_up q 33 sr)) ∧ (yesNo (okKeep (f 1) (fun j9 => (r 3 j9).toNatClampNeg) (fun j9 => (r 4 j9).toNatClampNeg) d what k0 p0) 0 (-1) r0 ∧ ((okKeep (f 1) (fun j9 => (r 3 j9).toNatClampNeg) (fun j9 => (r 4 j9).toNatClampNeg) d what k0 p0 ∧ ∃ nv, sh = upd (r 29) d.toNatClampNeg what ∧ sz = upd (r 30) d.toNatClampNeg nv ∧ (what.toInt = 3 → nv.toInt = (((r 3 k0.toNatClampNeg).toNatClampNeg * (r 4 k0.toNatClampNeg).toNatClampNeg : Nat) : Int)) ∧ (what.toInt = 4 → nv.toInt = (((r 4 k0.toNatClampNeg).toNatClampNeg + (r 3 k0.toNatClampNeg).toNatClampNeg : Nat) : Int)) ∧ sr = setQ (q 33) (60 * d.toNatClampNeg) (keG what p0 (r 4 k0.toNatClampNeg).toNatClampNeg (fun x9 => r 5 (44 * k0.toNatClampNeg + x9))) nv.toNatClampNeg ∧ nv.toNatClampNeg ≤ 60) ∨ (¬ okKeep (f 1) (fun j9 => (r 3 j9).toNatClampNeg) (fun j9 => (r 4 j9).toNatClampNeg) d what k0 p0 ∧ sh = r 29 ∧ sz = r 30 ∧ sr = q 33)) ∧ MI (upd f 0 (0 : Int32)) (va_up (va_up (va_up (va_up r 29 sh) 30 sz) 31 sw) 32 sf))) (mB D cy mo a) (AM mo a)) #[Value.ref mo, Value.int d, Value.int what, Value.int k0, Value.long p0] s 0 0 (AM mo a)) (F0 m 177 ls []) := by
                intro n
                induction n with
                | zero => intro i s3 j177_0 j177_1 hn; exact absurd hn (Nat.not_lt_zero _)
                | succ n ih_177 =>
                  intro i s3 j177_0 j177_1 hn_177 H locs hP hS ls hl
                  have ii : (nI i).toInt = (i : Int) := nI_toInt (by omega)
                  refine lv_iload hx hb dX10_keep_177 (lv_at hl 0 rfl) ?_
                  refine lv_aload_n hx hb dX10_keep_179 rfl (lv_at hl 2 rfl) ?_
                  refine m_get (v := .ref (a 30)) hx hb hts hin hown hK hP 30 (by decide) rfl (hts (.fieldLink RX10 64 "ShadowBenchModel" "shelfSize" "[I") (by decide +kernel)) rfl dX10_keep_180 ?_
                  refine lv_iload_n hx hb dX10_keep_183 rfl (lv_at hl 3 rfl) ?_
                  refine m_iald (w := ((upd (r 30) d.toNatClampNeg (0 : Int32)))) hx hb hK hP 18 rfl (vp_in_iff.mpr ⟨by omega, by omega⟩) dX10_keep_184 ?_
                  refine lv_topi (fun v184 e184 => ?_)
                  have i184 : v184.toInt = (((upd (r 30) d.toNatClampNeg (0 : Int32))) d.toNatClampNeg).toInt := congrArg Int32.toInt e184
                  have z184 := e184
                  simp only [upd, if_true] at z184
                  have y184 := congrArg Int32.toInt z184
                  have y184 : v184 = nv9 := by rw [e184, hnv9]; simp only [upd, if_true]
                  have i184 := congrArg Int32.toInt y184
                  refine lv_icmp_ge (tgt := 272) hx hb dX10_keep_185 (by decide) (fun c185 => ?_) (fun c185 => ?_)
                  · skip
                    have d185 := c185
                    rw [fa_le] at d185
                    refine lv_iconst (v := 0) hx hb dX10_keep_272 (by decide) ?_
                    have hP := wm_eq rfl rfl (ec_r_29_30__29_30_31_32 r ((upd (r 29) d.toNatClampNeg what)) ((upd (r 30) d.toNatClampNeg (0 : Int32)))) rfl hP
                    exact W.iret (v := (0 : Int32)) hx hb hr (fun t ht hW => ⟨⟨_, ((upd f 0 (0 : Int32)), g, (va_up (va_up (va_up (va_up r 29 (((upd (r 29) d.toNatClampNeg what)))) 30 (((upd (r 30) d.toNatClampNeg (0 : Int32))))) 31 (r 31)) 32 (r 32)), (va_up q 33 s3)), rfl, ⟨((upd (r 29) d.toNatClampNeg what)), ((upd (r 30) d.toNatClampNeg (0 : Int32))), (r 31), (r 32), s3, rfl, ⟨(Or.inl ⟨⟨b9, (by unfold okJob; first | exact Or.inl (by omega) | exact Or.inr (Or.inl ⟨by omega, b31⟩) | (have z9 := goodP_of b64; subst e52; subst e58; exact Or.inr (Or.inr ⟨by omega, b44, z9.2⟩)))⟩, rfl⟩), (Or.inl ⟨⟨b9, (by unfold okJob; first | exact Or.inl (by omega) | exact Or.inr (Or.inl ⟨by omega, b31⟩) | (have z9 := goodP_of b64; subst e52; subst e58; exact Or.inr (Or.inr ⟨by omega, b44, z9.2⟩)))⟩, _, rfl, rfl, (fun z9 => by first | (exfalso; omega) | exact y110), (fun z9 => by first | (exfalso; omega) | exact y131), (by have c9 := m_cl (x := nv9) (by omega); rw [j177_1, ← hnv9, show i = nv9.toNatClampNeg by omega]), (by have c9 := m_cl (x := nv9) (by omega); rw [hnv9] at c9; omega)⟩), by first | exact hI | exact mi_sz (d := d) hI (v := v110) (by omega) rfl rfl rfl rfl rfl rfl rfl rfl | exact mi_sz (d := d) hI (v := v131) (by omega) rfl rfl rfl rfl rfl rfl rfl rfl | exact mi_sz (d := d) hI (v := 0) (by decide) rfl rfl rfl rfl rfl rfl rfl rfl⟩⟩, by unfold mB; rw [ht]; exact hP⟩, hS.F ht⟩) hS.2.2 dX10_keep_273
                  · skip
                    have d185 := c185
                    rw [fa_le] at d185
                    refine lv_aload_n hx hb dX10_keep_188 rfl (lv_at hl 2 rfl) ?_
                    refine m_get (v := .ref (a 33)) hx hb hts hin hown hK hP 33 (by decide) rfl (hts (.fieldLink RX10 73 "ShadowBenchModel" "shelfRow" "[J") (by decide +kernel)) rfl dX10_keep_189 ?_
                    refine lv_bipush (v := 60) hx hb dX10_keep_192 (by decide) ?_
                    refine lv_iload_n hx hb dX10_keep_194 rfl (lv_at hl 3 rfl) ?_
                    refine lv_imul hx hb dX10_keep_195 ?_
                    refine lv_topi (fun v195 e195 => ?_)
                    have i195 : v195.toInt = 60 * d.toInt := by rw [e195]; exact mulcL rfl (by omega) (by omega)
                    refine lv_iload hx hb dX10_keep_196 (lv_at hl 0 rfl) ?_
                    refine lv_iadd hx hb dX10_keep_198 ?_
                    refine lv_topi (fun v198 e198 => ?_)
                    have i198 : v198.toInt = v195.toInt + (nI i).toInt := by rw [e198]; exact fb_addI (by omega) (by omega)
                    have cd9 := m_cl (x := d) (by omega)
                    have cv9 := m_cl (x := v198) (by omega)
                    have f198 : v198.toNatClampNeg = 60 * d.toNatClampNeg + i := by omega
                    refine lv_iload_n hx hb dX10_keep_199 rfl (lv_at hl 4 rfl) ?_
                    refine lv_iconst (v := 3) hx hb dX10_keep_200 (by decide) ?_
                    refine lv_icmp_ne (tgt := 215) hx hb dX10_keep_201 (by decide) (fun c201 => ?_) (fun c201 => ?_)
                    · skip
                      have d201 := c201
                      rw [fa_eq] at d201
                      refine lv_iload hx hb dX10_keep_215 (lv_at hl 0 rfl) ?_
                      refine lv_aload_n hx hb dX10_keep_217 rfl (lv_at hl 2 rfl) ?_
                      refine m_get (v := .ref (a 4)) hx hb hts hin hown hK hP 4 (by decide) rfl (hts (.fieldLink RX10 16 "ShadowBenchModel" "high" "[I") (by decide +kernel)) rfl dX10_keep_218 ?_
                      refine lv_iload_n hx hb dX10_keep_221 rfl (lv_at hl 5 rfl) ?_
                      refine m_iald (w := (r 4)) hx hb hK hP 3 rfl (vp_in_iff.mpr ⟨by omega, by omega⟩) dX10_keep_222 ?_
                      refine lv_topi (fun v222 e222 => ?_)
                      have i222 : v222.toInt = ((r 4) k0.toNatClampNeg).toInt := congrArg Int32.toInt e222
                      have w222 := mi_h hI (x := k0) (by omega) (by omega) e222
                      refine lv_icmp_ge (tgt := 242) hx hb dX10_keep_223 (by decide) (fun c223 => ?_) (fun c223 => ?_)
                      · skip
                        have d223 := c223
                        rw [fa_le] at d223
                        refine lv_aload_n hx hb dX10_keep_242 rfl (lv_at hl 2 rfl) ?_
                        refine m_get (v := .ref (a 5)) hx hb hts hin hown hK hP 5 (by decide) rfl (hts (.fieldLink RX10 19 "ShadowBenchModel" "sums" "[I") (by decide +kernel)) rfl dX10_keep_243 ?_
                        refine lv_bipush (v := 44) hx hb dX10_keep_246 (by decide) ?_
                        refine lv_iload_n hx hb dX10_keep_248 rfl (lv_at hl 5 rfl) ?_
                        refine lv_imul hx hb dX10_keep_249 ?_
                        refine lv_topi (fun v249 e249 => ?_)
                        have i249 : v249.toInt = 44 * k0.toInt := by rw [e249]; exact mulcL rfl (by omega) (by omega)
                        refine lv_bipush (v := 11) hx hb dX10_keep_250 (by decide) ?_
                        refine lv_iadd hx hb dX10_keep_252 ?_
                        refine lv_topi (fun v252 e252 => ?_)
                        have i252 : v252.toInt = v249.toInt + (11 : Int32).toInt := by rw [e252]; exact fb_addI (by omega) (by omega)
                        refine lv_iload hx hb dX10_keep_253 (lv_at hl 0 rfl) ?_
                        refine lv_iadd hx hb dX10_keep_255 ?_
                        refine lv_topi (fun v255 e255 => ?_)
                        have i255 : v255.toInt = v252.toInt + (nI i).toInt := by rw [e255]; exact fb_addI (by omega) (by omega)
                        refine lv_aload_n hx hb dX10_keep_256 rfl (lv_at hl 2 rfl) ?_
                        refine m_get (v := .ref (a 4)) hx hb hts hin hown hK hP 4 (by decide) rfl (hts (.fieldLink RX10 16 "ShadowBenchModel" "high" "[I") (by decide +kernel)) rfl dX10_keep_257 ?_
                        refine lv_iload_n hx hb dX10_keep_260 rfl (lv_at hl 5 rfl) ?_
                        refine m_iald (w := (r 4)) hx hb hK hP 3 rfl (vp_in_iff.mpr ⟨by omega, by omega⟩) dX10_keep_261 ?_
                        refine lv_topi (fun v261 e261 => ?_)
                        have i261 : v261.toInt = ((r 4) k0.toNatClampNeg).toInt := congrArg Int32.toInt e261
                        have w261 := mi_h hI (x := k0) (by omega) (by omega) e261
                        refine lv_isub hx hb dX10_keep_262 ?_
                        refine lv_topi (fun v262 e262 => ?_)
                        have i262 : v262.toInt = v255.toInt - v261.toInt := by rw [e262]; exact fb_subI (by omega) (by omega)
                        have ck9 := m_cl (x := k0) (by omega)
                        have cv8 := m_cl (x := v262) (by omega)
                        have ch9 := m_cl (x := v222) (by omega)
                        have f262 : v262.toNatClampNeg = 44 * k0.toNatClampNeg + (11 + i - v222.toNatClampNeg) := by omega
                        rw [e222] at ch9 f262
                        refine m_iald (w := (r 5)) hx hb hK hP 4 rfl (vp_in_iff.mpr ⟨by omega, by omega⟩) dX10_keep_263 ?_
                        refine lv_topi (fun v263 e263 => ?_)
                        have i263 : v263.toInt = ((r 5) v262.toNatClampNeg).toInt := congrArg Int32.toInt e263
                        refine lv_i2l (v := v263.toInt64) hx hb dX10_keep_264 rfl ?_
                        refine m_last (w := s3) hx hb hK hP hD hS 21 rfl (vp_in_iff.mpr ⟨by omega, by omega⟩) (va_up (va_up q 33 s3) 33 (vp_updL s3 v198.toNatClampNeg v263.toInt64)) (ms_33 cy mo a _ _ _ _ _) dX10_keep_265 (fun H locs hP hS => ?_)
                        have hP := wm_eq rfl rfl rfl (es_q_33__33 q s3 (vp_updL s3 v198.toNatClampNeg v263.toInt64)) hP
                        refine lv_iinc (v := (nI (i + 1))) (lv' := [(7, .int (nI (i + 1))), (6, .int (1 : Int32)), (0, .ref mo), (1, .int d), (2, .int what), (3, .int k0), (4, .long p0)]) hx hb dX10_keep_266 hl (k := 0) rfl (nI_1 _) (by decide) rfl (fun ls hl => ?_)
                        refine lv_goto (tgt := 177) hx hb dX10_keep_269 (by decide) ?_
                        have hP := wm_eq rfl rfl (ec_r_29_30__29_30 r ((upd (r 29) d.toNatClampNeg what)) ((upd (r 30) d.toNatClampNeg (0 : Int32)))) rfl hP
                        exact ih_177 (i + 1) (vp_updL s3 v198.toNatClampNeg v263.toInt64) (by omega) (by rw [j177_1, f198]; exact setQ_v (by first | (rw [keG_3 (by omega)]; exact one_bI (by omega) q208) | (rw [keG_4 (by omega) (by omega), e237, f236]; done) | (rw [keG_5 (by omega) (by omega), e263, f262]; done) | (exfalso; omega))) (by omega) _ _ hP hS ls (lv_sub hl [0, 1, 2, 3, 4, 5, 6] rfl)
                      · skip
                        have d223 := c223
                        rw [fa_le] at d223
                        refine lv_aload_n hx hb dX10_keep_226 rfl (lv_at hl 2 rfl) ?_
                        refine m_get (v := .ref (a 5)) hx hb hts hin hown hK hP 5 (by decide) rfl (hts (.fieldLink RX10 19 "ShadowBenchModel" "sums" "[I") (by decide +kernel)) rfl dX10_keep_227 ?_
                        refine lv_bipush (v := 44) hx hb dX10_keep_230 (by decide) ?_
                        refine lv_iload_n hx hb dX10_keep_232 rfl (lv_at hl 5 rfl) ?_
                        refine lv_imul hx hb dX10_keep_233 ?_
                        refine lv_topi (fun v233 e233 => ?_)
                        have i233 : v233.toInt = 44 * k0.toInt := by rw [e233]; exact mulcL rfl (by omega) (by omega)
                        refine lv_iload hx hb dX10_keep_234 (lv_at hl 0 rfl) ?_
                        refine lv_iadd hx hb dX10_keep_236 ?_
                        refine lv_topi (fun v236 e236 => ?_)
                        have i236 : v236.toInt = v233.toInt + (nI i).toInt := by rw [e236]; exact fb_addI (by omega) (by omega)
                        have ck9 := m_cl (x := k0) (by omega)
                        have cv8 := m_cl (x := v236) (by omega)
                        have f236 : v236.toNatClampNeg = 44 * k0.toNatClampNeg + i := by omega
                        have ch9 := m_cl (x := v222) (by omega)
                        rw [e222] at ch9
                        refine m_iald (w := (r 5)) hx hb hK hP 4 rfl (vp_in_iff.mpr ⟨by omega, by omega⟩) dX10_keep_237 ?_
                        refine lv_topi (fun v237 e237 => ?_)
                        have i237 : v237.toInt = ((r 5) v236.toNatClampNeg).toInt := congrArg Int32.toInt e237
                        refine lv_i2l (v := v237.toInt64) hx hb dX10_keep_238 rfl ?_
                        refine lv_goto (tgt := 265) hx hb dX10_keep_239 (by decide) ?_
                        refine m_last (w := s3) hx hb hK hP hD hS 21 rfl (vp_in_iff.mpr ⟨by omega, by omega⟩) (va_up (va_up q 33 s3) 33 (vp_updL s3 v198.toNatClampNeg v237.toInt64)) (ms_33 cy mo a _ _ _ _ _) dX10_keep_265 (fun H locs hP hS => ?_)
                        have hP := wm_eq rfl rfl rfl (es_q_33__33 q s3 (vp_updL s3 v198.toNatClampNeg v237.toInt64)) hP
                        refine lv_iinc (v := (nI (i + 1))) (lv' := [(7, .int (nI (i + 1))), (6, .int (1 : Int32)), (0, .ref mo), (1, .int d), (2, .int what), (3, .int k0), (4, .long p0)]) hx hb dX10_keep_266 hl (k := 0) rfl (nI_1 _) (by decide) rfl (fun ls hl => ?_)
                        refine lv_goto (tgt := 177) hx hb dX10_keep_269 (by decide) ?_
                        have hP := wm_eq rfl rfl (ec_r_29_30__29_30 r ((upd (r 29) d.toNatClampNeg what)) ((upd (r 30) d.toNatClampNeg (0 : Int32)))) rfl hP
                        exact ih_177 (i + 1) (vp_updL s3 v198.toNatClampNeg v237.toInt64) (by omega) (by rw [j177_1, f198]; exact setQ_v (by first | (rw [keG_3 (by omega)]; exact one_bI (by omega) q208) | (rw [keG_4 (by omega) (by omega), e237, f236]; done) | (rw [keG_5 (by omega) (by omega), e263, f262]; done) | (exfalso; omega))) (by omega) _ _ hP hS ls (lv_sub hl [0, 1, 2, 3, 4, 5, 6] rfl)
                    · first | exact absurd c201 c95 | exact absurd c95 c201
              have hP := wm_eq rfl rfl (ec_r_29_30__29_30 r ((upd (r 29) d.toNatClampNeg what)) ((upd (r 30) d.toNatClampNeg (0 : Int32)))) (ec_q___33 q ) hP
              exact loop_177 (60 + 1) 0 (q 33) (by omega) ((setQ_0 _ _ _).symm) (by omega) _ _ hP hS ls (lv_sub hl [0, 1, 2, 3, 4, 5, 6] rfl)
            · skip
              have d139 := c139
              rw [fa_eq] at d139
              refine lv_aload_n hx hb dX10_keep_142 rfl (lv_at hl 1 rfl) ?_
              refine m_get (v := .ref (a 31)) hx hb hts hin hown hK hP 31 (by decide) rfl (hts (.fieldLink RX10 67 "ShadowBenchModel" "shelfWeight" "[I") (by decide +kernel)) rfl dX10_keep_143 ?_
              refine lv_iload_n hx hb dX10_keep_146 rfl (lv_at hl 2 rfl) ?_
              refine lv_aload_n hx hb dX10_keep_147 rfl (lv_at hl 1 rfl) ?_
              refine lv_iload_n hx hb dX10_keep_148 rfl (lv_at hl 4 rfl) ?_
              refine m_calli (As := [.int k0]) (rest := [.int d, .ref (a 31)]) ⟨hx, hb, hml, hown, hts⟩ (c_X10_weightOf l D cy mo a (upd f 0 (0 : Int32)) g (va_up (va_up r 29 ((upd (r 29) d.toNatClampNeg what))) 30 ((upd (r 30) d.toNatClampNeg (0 : Int32)))) q k0 hD (by first | exact hI | exact mi_sz (d := d) hI (v := 0) (by first | omega | decide) rfl rfl rfl rfl rfl rfl rfl rfl | exact mi_sz (d := d) hI (v := v131) (by first | omega | decide) rfl rfl rfl rfl rfl rfl rfl rfl | exact mi_sz (d := d) hI (v := v110) (by first | omega | decide) rfl rfl rfl rfl rfl rfl rfl rfl) (show 0 ≤ k0.toInt ∧ k0.toInt < (f 1).toInt by omega)) (cwV 1 hts gX10_keep_X10_weightOf rfl rfl rfl (by decide +kernel) ⟨Nat.le_of_ble_eq_true rfl, Nat.le_of_ble_eq_true rfl⟩) hK hP rfl hl.1 rfl (Nat.le_of_ble_eq_true rfl) dX10_keep_149 ⟨Nat.le_of_ble_eq_true rfl, Nat.le_of_ble_eq_true rfl⟩ hS (fun r149 u H locs q149 hP hS => ?_)
              obtain ⟨rfl, q149⟩ := q149
              have hP : va_P D vwCl (WM cy mo a (upd f 0 (0 : Int32)) g (va_up (va_up r 29 ((upd (r 29) d.toNatClampNeg what))) 30 ((upd (r 30) d.toNatClampNeg (0 : Int32)))) q) H := hP
              have q149 : True := q149
              refine m_iast (w := (r 31)) hx hb hK hP hD hS 19 rfl (vp_in_iff.mpr ⟨by omega, by omega⟩) (va_up (va_up (va_up r 29 ((upd (r 29) d.toNatClampNeg what))) 30 ((upd (r 30) d.toNatClampNeg (0 : Int32)))) 31 (upd (r 31) d.toNatClampNeg r149)) (ms_31 cy mo a _ _ _ _ _) dX10_keep_152 (fun H locs hP hS => ?_)
              refine lv_aload_n hx hb dX10_keep_153 rfl (lv_at hl 1 rfl) ?_
              refine m_get (v := .ref (a 32)) hx hb hts hin hown hK hP 32 (by decide) rfl (hts (.fieldLink RX10 70 "ShadowBenchModel" "shelfFailure" "[I") (by decide +kernel)) rfl dX10_keep_154 ?_
              refine lv_iload_n hx hb dX10_keep_157 rfl (lv_at hl 2 rfl) ?_
              refine lv_aload_n hx hb dX10_keep_158 rfl (lv_at hl 1 rfl) ?_
              refine m_get (v := .ref (a 2)) hx hb hts hin hown hK hP 2 (by decide) rfl (hts (.fieldLink RX10 7 "ShadowBenchModel" "kind" "[I") (by decide +kernel)) rfl dX10_keep_159 ?_
              refine lv_iload_n hx hb dX10_keep_162 rfl (lv_at hl 4 rfl) ?_
              refine m_iald (w := (r 2)) hx hb hK hP 1 rfl (vp_in_iff.mpr ⟨by omega, by omega⟩) dX10_keep_163 ?_
              refine lv_topi (fun v163 e163 => ?_)
              have i163 : v163.toInt = ((r 2) k0.toNatClampNeg).toInt := congrArg Int32.toInt e163
              refine lv_if_ne (tgt := 172) hx hb dX10_keep_164 (by decide) (fun c164 => ?_) (fun c164 => ?_)
              · skip
                have d164 := c164
                rw [fa_eq] at d164
                refine lv_iload_n hx hb dX10_keep_172 rfl (lv_at hl 4 rfl) ?_
                refine m_iast (w := (r 32)) hx hb hK hP hD hS 20 rfl (vp_in_iff.mpr ⟨by omega, by omega⟩) (va_up (va_up (va_up (va_up r 29 ((upd (r 29) d.toNatClampNeg what))) 30 ((upd (r 30) d.toNatClampNeg (0 : Int32)))) 31 ((upd (r 31) d.toNatClampNeg r149))) 32 (upd (r 32) d.toNatClampNeg k0)) (ms_32 cy mo a _ _ _ _ _) dX10_keep_173 (fun H locs hP hS => ?_)
                refine lv_iconst (v := 0) hx hb dX10_keep_174 (by decide) ?_
                refine lv_istore (lv' := [(7, .int (0 : Int32)), (6, .int (1 : Int32)), (0, .ref mo), (1, .int d), (2, .int what), (3, .int k0), (4, .long p0)]) hx hb dX10_keep_175 hl (by decide) rfl (fun ls hl => ?_)
                have loop_177 : ∀ (n : Nat) (i : Nat) (s3 : Nat → Int64), (i ≤ 60 ∧ (i : Int) ≤ nv9.toInt) → (s3 = setQ (q 33) (60 * d.toNatClampNeg) (keG what p0 (r 4 k0.toNatClampNeg).toNatClampNeg (fun x9 => r 5 (44 * k0.toNatClampNeg + x9))) i) → 60 - i < n → ∀ (H : Heap) (locs : List Loc), va_P D vwCl (WM cy mo a (upd f 0 (0 : Int32)) g (va_up (va_up (va_up (va_up r 29 ((upd (r 29) d.toNatClampNeg what))) 30 ((upd (r 30) d.toNatClampNeg (0 : Int32)))) 31 ((upd (r 31) d.toNatClampNeg r149))) 32 ((upd (r 32) d.toNatClampNeg k0))) (va_up q 33 s3)) H → va_S (AM mo a) s.heap H locs → ∀ (ls : Array Slot), lv_has ls 8 [(7, .int (nI i)), (6, .int (1 : Int32)), (0, .ref mo), (1, .int d), (2, .int what), (3, .int k0), (4, .long p0)] → W p l e (headSpec wsX10_keep ({ frames := 3, cells := 0, slots := 0, locals := 69 })).room s m #[Value.ref mo, Value.int d, Value.int what, Value.int k0, Value.long p0] below meth c H locs 0 0 (MQ below (va_Qi (fun r0 u => ∃ (sh : Nat → Int32), ∃ (sz : Nat → Int32), ∃ (sw : Nat → Int32), ∃ (sf : Nat → Int32), ∃ (sr : Nat → Int64), u = ((upd f 0 (0 : Int32)), g, (va_up (va_up (va_up (va_up r 29 sh) 30 sz) 31 sw) 32 sf), (va_up q 33 sr)) ∧ (yesNo (okKeep (f 1) (fun j9 => (r 3 j9).toNatClampNeg) (fun j9 => (r 4 j9).toNatClampNeg) d what k0 p0) 0 (-1) r0 ∧ ((okKeep (f 1) (fun j9 => (r 3 j9).toNatClampNeg) (fun j9 => (r 4 j9).toNatClampNeg) d what k0 p0 ∧ ∃ nv, sh = upd (r 29) d.toNatClampNeg what ∧ sz = upd (r 30) d.toNatClampNeg nv ∧ (what.toInt = 3 → nv.toInt = (((r 3 k0.toNatClampNeg).toNatClampNeg * (r 4 k0.toNatClampNeg).toNatClampNeg : Nat) : Int)) ∧ (what.toInt = 4 → nv.toInt = (((r 4 k0.toNatClampNeg).toNatClampNeg + (r 3 k0.toNatClampNeg).toNatClampNeg : Nat) : Int)) ∧ sr = setQ (q 33) (60 * d.toNatClampNeg) (keG what p0 (r 4 k0.toNatClampNeg).toNatClampNeg (fun x9 => r 5 (44 * k0.toNatClampNeg + x9))) nv.toNatClampNeg ∧ nv.toNatClampNeg ≤ 60) ∨ (¬ okKeep (f 1) (fun j9 => (r 3 j9).toNatClampNeg) (fun j9 => (r 4 j9).toNatClampNeg) d what k0 p0 ∧ sh = r 29 ∧ sz = r 30 ∧ sr = q 33)) ∧ MI (upd f 0 (0 : Int32)) (va_up (va_up (va_up (va_up r 29 sh) 30 sz) 31 sw) 32 sf))) (mB D cy mo a) (AM mo a)) #[Value.ref mo, Value.int d, Value.int what, Value.int k0, Value.long p0] s 0 0 (AM mo a)) (F0 m 177 ls []) := by
                  intro n
                  induction n with
                  | zero => intro i s3 j177_0 j177_1 hn; exact absurd hn (Nat.not_lt_zero _)
                  | succ n ih_177 =>
                    intro i s3 j177_0 j177_1 hn_177 H locs hP hS ls hl
                    have ii : (nI i).toInt = (i : Int) := nI_toInt (by omega)
                    refine lv_iload hx hb dX10_keep_177 (lv_at hl 0 rfl) ?_
                    refine lv_aload_n hx hb dX10_keep_179 rfl (lv_at hl 2 rfl) ?_
                    refine m_get (v := .ref (a 30)) hx hb hts hin hown hK hP 30 (by decide) rfl (hts (.fieldLink RX10 64 "ShadowBenchModel" "shelfSize" "[I") (by decide +kernel)) rfl dX10_keep_180 ?_
                    refine lv_iload_n hx hb dX10_keep_183 rfl (lv_at hl 3 rfl) ?_
                    refine m_iald (w := ((upd (r 30) d.toNatClampNeg (0 : Int32)))) hx hb hK hP 18 rfl (vp_in_iff.mpr ⟨by omega, by omega⟩) dX10_keep_184 ?_
                    refine lv_topi (fun v184 e184 => ?_)
                    have i184 : v184.toInt = (((upd (r 30) d.toNatClampNeg (0 : Int32))) d.toNatClampNeg).toInt := congrArg Int32.toInt e184
                    have z184 := e184
                    simp only [upd, if_true] at z184
                    have y184 := congrArg Int32.toInt z184
                    have y184 : v184 = nv9 := by rw [e184, hnv9]; simp only [upd, if_true]
                    have i184 := congrArg Int32.toInt y184
                    refine lv_icmp_ge (tgt := 272) hx hb dX10_keep_185 (by decide) (fun c185 => ?_) (fun c185 => ?_)
                    · skip
                      have d185 := c185
                      rw [fa_le] at d185
                      refine lv_iconst (v := 0) hx hb dX10_keep_272 (by decide) ?_
                      have hP := wm_eq rfl rfl (ec_r_29_30_31_32__29_30_31_32 r ((upd (r 29) d.toNatClampNeg what)) ((upd (r 30) d.toNatClampNeg (0 : Int32))) ((upd (r 31) d.toNatClampNeg r149)) ((upd (r 32) d.toNatClampNeg k0))) rfl hP
                      exact W.iret (v := (0 : Int32)) hx hb hr (fun t ht hW => ⟨⟨_, ((upd f 0 (0 : Int32)), g, (va_up (va_up (va_up (va_up r 29 (((upd (r 29) d.toNatClampNeg what)))) 30 (((upd (r 30) d.toNatClampNeg (0 : Int32))))) 31 (((upd (r 31) d.toNatClampNeg r149)))) 32 (((upd (r 32) d.toNatClampNeg k0)))), (va_up q 33 s3)), rfl, ⟨((upd (r 29) d.toNatClampNeg what)), ((upd (r 30) d.toNatClampNeg (0 : Int32))), ((upd (r 31) d.toNatClampNeg r149)), ((upd (r 32) d.toNatClampNeg k0)), s3, rfl, ⟨(Or.inl ⟨⟨b9, (by unfold okJob; first | exact Or.inl (by omega) | exact Or.inr (Or.inl ⟨by omega, b31⟩) | (have z9 := goodP_of b64; subst e52; subst e58; exact Or.inr (Or.inr ⟨by omega, b44, z9.2⟩)))⟩, rfl⟩), (Or.inl ⟨⟨b9, (by unfold okJob; first | exact Or.inl (by omega) | exact Or.inr (Or.inl ⟨by omega, b31⟩) | (have z9 := goodP_of b64; subst e52; subst e58; exact Or.inr (Or.inr ⟨by omega, b44, z9.2⟩)))⟩, _, rfl, rfl, (fun z9 => by first | (exfalso; omega) | exact y110), (fun z9 => by first | (exfalso; omega) | exact y131), (by have c9 := m_cl (x := nv9) (by omega); rw [j177_1, ← hnv9, show i = nv9.toNatClampNeg by omega]), (by have c9 := m_cl (x := nv9) (by omega); rw [hnv9] at c9; omega)⟩), by first | exact hI | exact mi_sz (d := d) hI (v := v110) (by omega) rfl rfl rfl rfl rfl rfl rfl rfl | exact mi_sz (d := d) hI (v := v131) (by omega) rfl rfl rfl rfl rfl rfl rfl rfl | exact mi_sz (d := d) hI (v := 0) (by decide) rfl rfl rfl rfl rfl rfl rfl rfl⟩⟩, by unfold mB; rw [ht]; exact hP⟩, hS.F ht⟩) hS.2.2 dX10_keep_273
                    · skip
                      have d185 := c185
                      rw [fa_le] at d185
                      refine lv_aload_n hx hb dX10_keep_188 rfl (lv_at hl 2 rfl) ?_
                      refine m_get (v := .ref (a 33)) hx hb hts hin hown hK hP 33 (by decide) rfl (hts (.fieldLink RX10 73 "ShadowBenchModel" "shelfRow" "[J") (by decide +kernel)) rfl dX10_keep_189 ?_
                      refine lv_bipush (v := 60) hx hb dX10_keep_192 (by decide) ?_
                      refine lv_iload_n hx hb dX10_keep_194 rfl (lv_at hl 3 rfl) ?_
                      refine lv_imul hx hb dX10_keep_195 ?_
                      refine lv_topi (fun v195 e195 => ?_)
                      have i195 : v195.toInt = 60 * d.toInt := by rw [e195]; exact mulcL rfl (by omega) (by omega)
                      refine lv_iload hx hb dX10_keep_196 (lv_at hl 0 rfl) ?_
                      refine lv_iadd hx hb dX10_keep_198 ?_
                      refine lv_topi (fun v198 e198 => ?_)
                      have i198 : v198.toInt = v195.toInt + (nI i).toInt := by rw [e198]; exact fb_addI (by omega) (by omega)
                      have cd9 := m_cl (x := d) (by omega)
                      have cv9 := m_cl (x := v198) (by omega)
                      have f198 : v198.toNatClampNeg = 60 * d.toNatClampNeg + i := by omega
                      refine lv_iload_n hx hb dX10_keep_199 rfl (lv_at hl 4 rfl) ?_
                      refine lv_iconst (v := 3) hx hb dX10_keep_200 (by decide) ?_
                      refine lv_icmp_ne (tgt := 215) hx hb dX10_keep_201 (by decide) (fun c201 => ?_) (fun c201 => ?_)
                      · skip
                        have d201 := c201
                        rw [fa_eq] at d201
                        refine lv_iload hx hb dX10_keep_215 (lv_at hl 0 rfl) ?_
                        refine lv_aload_n hx hb dX10_keep_217 rfl (lv_at hl 2 rfl) ?_
                        refine m_get (v := .ref (a 4)) hx hb hts hin hown hK hP 4 (by decide) rfl (hts (.fieldLink RX10 16 "ShadowBenchModel" "high" "[I") (by decide +kernel)) rfl dX10_keep_218 ?_
                        refine lv_iload_n hx hb dX10_keep_221 rfl (lv_at hl 5 rfl) ?_
                        refine m_iald (w := (r 4)) hx hb hK hP 3 rfl (vp_in_iff.mpr ⟨by omega, by omega⟩) dX10_keep_222 ?_
                        refine lv_topi (fun v222 e222 => ?_)
                        have i222 : v222.toInt = ((r 4) k0.toNatClampNeg).toInt := congrArg Int32.toInt e222
                        have w222 := mi_h hI (x := k0) (by omega) (by omega) e222
                        refine lv_icmp_ge (tgt := 242) hx hb dX10_keep_223 (by decide) (fun c223 => ?_) (fun c223 => ?_)
                        · skip
                          have d223 := c223
                          rw [fa_le] at d223
                          refine lv_aload_n hx hb dX10_keep_242 rfl (lv_at hl 2 rfl) ?_
                          refine m_get (v := .ref (a 5)) hx hb hts hin hown hK hP 5 (by decide) rfl (hts (.fieldLink RX10 19 "ShadowBenchModel" "sums" "[I") (by decide +kernel)) rfl dX10_keep_243 ?_
                          refine lv_bipush (v := 44) hx hb dX10_keep_246 (by decide) ?_
                          refine lv_iload_n hx hb dX10_keep_248 rfl (lv_at hl 5 rfl) ?_
                          refine lv_imul hx hb dX10_keep_249 ?_
                          refine lv_topi (fun v249 e249 => ?_)
                          have i249 : v249.toInt = 44 * k0.toInt := by rw [e249]; exact mulcL rfl (by omega) (by omega)
                          refine lv_bipush (v := 11) hx hb dX10_keep_250 (by decide) ?_
                          refine lv_iadd hx hb dX10_keep_252 ?_
                          refine lv_topi (fun v252 e252 => ?_)
                          have i252 : v252.toInt = v249.toInt + (11 : Int32).toInt := by rw [e252]; exact fb_addI (by omega) (by omega)
                          refine lv_iload hx hb dX10_keep_253 (lv_at hl 0 rfl) ?_
                          refine lv_iadd hx hb dX10_keep_255 ?_
                          refine lv_topi (fun v255 e255 => ?_)
                          have i255 : v255.toInt = v252.toInt + (nI i).toInt := by rw [e255]; exact fb_addI (by omega) (by omega)
                          refine lv_aload_n hx hb dX10_keep_256 rfl (lv_at hl 2 rfl) ?_
                          refine m_get (v := .ref (a 4)) hx hb hts hin hown hK hP 4 (by decide) rfl (hts (.fieldLink RX10 16 "ShadowBenchModel" "high" "[I") (by decide +kernel)) rfl dX10_keep_257 ?_
                          refine lv_iload_n hx hb dX10_keep_260 rfl (lv_at hl 5 rfl) ?_
                          refine m_iald (w := (r 4)) hx hb hK hP 3 rfl (vp_in_iff.mpr ⟨by omega, by omega⟩) dX10_keep_261 ?_
                          refine lv_topi (fun v261 e261 => ?_)
                          have i261 : v261.toInt = ((r 4) k0.toNatClampNeg).toInt := congrArg Int32.toInt e261
                          have w261 := mi_h hI (x := k0) (by omega) (by omega) e261
                          refine lv_isub hx hb dX10_keep_262 ?_
                          refine lv_topi (fun v262 e262 => ?_)
                          have i262 : v262.toInt = v255.toInt - v261.toInt := by rw [e262]; exact fb_subI (by omega) (by omega)
                          have ck9 := m_cl (x := k0) (by omega)
                          have cv8 := m_cl (x := v262) (by omega)
                          have ch9 := m_cl (x := v222) (by omega)
                          have f262 : v262.toNatClampNeg = 44 * k0.toNatClampNeg + (11 + i - v222.toNatClampNeg) := by omega
                          rw [e222] at ch9 f262
                          refine m_iald (w := (r 5)) hx hb hK hP 4 rfl (vp_in_iff.mpr ⟨by omega, by omega⟩) dX10_keep_263 ?_
                          refine lv_topi (fun v263 e263 => ?_)
                          have i263 : v263.toInt = ((r 5) v262.toNatClampNeg).toInt := congrArg Int32.toInt e263
                          refine lv_i2l (v := v263.toInt64) hx hb dX10_keep_264 rfl ?_
                          refine m_last (w := s3) hx hb hK hP hD hS 21 rfl (vp_in_iff.mpr ⟨by omega, by omega⟩) (va_up (va_up q 33 s3) 33 (vp_updL s3 v198.toNatClampNeg v263.toInt64)) (ms_33 cy mo a _ _ _ _ _) dX10_keep_265 (fun H locs hP hS => ?_)
                          have hP := wm_eq rfl rfl rfl (es_q_33__33 q s3 (vp_updL s3 v198.toNatClampNeg v263.toInt64)) hP
                          refine lv_iinc (v := (nI (i + 1))) (lv' := [(7, .int (nI (i + 1))), (6, .int (1 : Int32)), (0, .ref mo), (1, .int d), (2, .int what), (3, .int k0), (4, .long p0)]) hx hb dX10_keep_266 hl (k := 0) rfl (nI_1 _) (by decide) rfl (fun ls hl => ?_)
                          refine lv_goto (tgt := 177) hx hb dX10_keep_269 (by decide) ?_
                          have hP := wm_eq rfl rfl (ec_r_29_30_31_32__29_30_31_32 r ((upd (r 29) d.toNatClampNeg what)) ((upd (r 30) d.toNatClampNeg (0 : Int32))) ((upd (r 31) d.toNatClampNeg r149)) ((upd (r 32) d.toNatClampNeg k0))) rfl hP
                          exact ih_177 (i + 1) (vp_updL s3 v198.toNatClampNeg v263.toInt64) (by omega) (by rw [j177_1, f198]; exact setQ_v (by first | (rw [keG_3 (by omega)]; exact one_bI (by omega) q208) | (rw [keG_4 (by omega) (by omega), e237, f236]; done) | (rw [keG_5 (by omega) (by omega), e263, f262]; done) | (exfalso; omega))) (by omega) _ _ hP hS ls (lv_sub hl [0, 1, 2, 3, 4, 5, 6] rfl)
                        · skip
                          have d223 := c223
                          rw [fa_le] at d223
                          refine lv_aload_n hx hb dX10_keep_226 rfl (lv_at hl 2 rfl) ?_
                          refine m_get (v := .ref (a 5)) hx hb hts hin hown hK hP 5 (by decide) rfl (hts (.fieldLink RX10 19 "ShadowBenchModel" "sums" "[I") (by decide +kernel)) rfl dX10_keep_227 ?_
                          refine lv_bipush (v := 44) hx hb dX10_keep_230 (by decide) ?_
                          refine lv_iload_n hx hb dX10_keep_232 rfl (lv_at hl 5 rfl) ?_
                          refine lv_imul hx hb dX10_keep_233 ?_
                          refine lv_topi (fun v233 e233 => ?_)
                          have i233 : v233.toInt = 44 * k0.toInt := by rw [e233]; exact mulcL rfl (by omega) (by omega)
                          refine lv_iload hx hb dX10_keep_234 (lv_at hl 0 rfl) ?_
                          refine lv_iadd hx hb dX10_keep_236 ?_
                          refine lv_topi (fun v236 e236 => ?_)
                          have i236 : v236.toInt = v233.toInt + (nI i).toInt := by rw [e236]; exact fb_addI (by omega) (by omega)
                          have ck9 := m_cl (x := k0) (by omega)
                          have cv8 := m_cl (x := v236) (by omega)
                          have f236 : v236.toNatClampNeg = 44 * k0.toNatClampNeg + i := by omega
                          have ch9 := m_cl (x := v222) (by omega)
                          rw [e222] at ch9
                          refine m_iald (w := (r 5)) hx hb hK hP 4 rfl (vp_in_iff.mpr ⟨by omega, by omega⟩) dX10_keep_237 ?_
                          refine lv_topi (fun v237 e237 => ?_)
                          have i237 : v237.toInt = ((r 5) v236.toNatClampNeg).toInt := congrArg Int32.toInt e237
                          refine lv_i2l (v := v237.toInt64) hx hb dX10_keep_238 rfl ?_
                          refine lv_goto (tgt := 265) hx hb dX10_keep_239 (by decide) ?_
                          refine m_last (w := s3) hx hb hK hP hD hS 21 rfl (vp_in_iff.mpr ⟨by omega, by omega⟩) (va_up (va_up q 33 s3) 33 (vp_updL s3 v198.toNatClampNeg v237.toInt64)) (ms_33 cy mo a _ _ _ _ _) dX10_keep_265 (fun H locs hP hS => ?_)
                          have hP := wm_eq rfl rfl rfl (es_q_33__33 q s3 (vp_updL s3 v198.toNatClampNeg v237.toInt64)) hP
                          refine lv_iinc (v := (nI (i + 1))) (lv' := [(7, .int (nI (i + 1))), (6, .int (1 : Int32)), (0, .ref mo), (1, .int d), (2, .int what), (3, .int k0), (4, .long p0)]) hx hb dX10_keep_266 hl (k := 0) rfl (nI_1 _) (by decide) rfl (fun ls hl => ?_)
                          refine lv_goto (tgt := 177) hx hb dX10_keep_269 (by decide) ?_
                          have hP := wm_eq rfl rfl (ec_r_29_30_31_32__29_30_31_32 r ((upd (r 29) d.toNatClampNeg what)) ((upd (r 30) d.toNatClampNeg (0 : Int32))) ((upd (r 31) d.toNatClampNeg r149)) ((upd (r 32) d.toNatClampNeg k0))) rfl hP
                          exact ih_177 (i + 1) (vp_updL s3 v198.toNatClampNeg v237.toInt64) (by omega) (by rw [j177_1, f198]; exact setQ_v (by first | (rw [keG_3 (by omega)]; exact one_bI (by omega) q208) | (rw [keG_4 (by omega) (by omega), e237, f236]; done) | (rw [keG_5 (by omega) (by omega), e263, f262]; done) | (exfalso; omega))) (by omega) _ _ hP hS ls (lv_sub hl [0, 1, 2, 3, 4, 5, 6] rfl)
                      · first | exact absurd c201 c95 | exact absurd c95 c201
                have hP := wm_eq rfl rfl (ec_r_29_30_31_32__29_30_31_32 r ((upd (r 29) d.toNatClampNeg what)) ((upd (r 30) d.toNatClampNeg (0 : Int32))) ((upd (r 31) d.toNatClampNeg r149)) ((upd (r 32) d.toNatClampNeg k0))) (ec_q___33 q ) hP
                exact loop_177 (60 + 1) 0 (q 33) (by omega) ((setQ_0 _ _ _).symm) (by omega) _ _ hP hS ls (lv_sub hl [0, 1, 2, 3, 4, 5, 6] rfl)
              · skip
                have d164 := c164
                rw [fa_eq] at d164
                refine lv_bipush (v := (-15)) hx hb dX10_keep_167 (by decide) ?_
                refine lv_goto (tgt := 173) hx hb dX10_keep_169 (by decide) ?_
                refine m_iast (w := (r 32)) hx hb hK hP hD hS 20 rfl (vp_in_iff.mpr ⟨by omega, by omega⟩) (va_up (va_up (va_up (va_up r 29 ((upd (r 29) d.toNatClampNeg what))) 30 ((upd (r 30) d.toNatClampNeg (0 : Int32)))) 31 ((upd (r 31) d.toNatClampNeg r149))) 32 (upd (r 32) d.toNatClampNeg (((-15) : Int32)))) (ms_32 cy mo a _ _ _ _ _) dX10_keep_173 (fun H locs hP hS => ?_)
                refine lv_iconst (v := 0) hx hb dX10_keep_174 (by decide) ?_
                refine lv_istore (lv' := [(7, .int (0 : Int32)), (6, .int (1 : Int32)), (0, .ref mo), (1, .int d), (2, .int what), (3, .int k0), (4, .long p0)]) hx hb dX10_keep_175 hl (by decide) rfl (fun ls hl => ?_)
                have loop_177 : ∀ (n : Nat) (i : Nat) (s3 : Nat → Int64), (i ≤ 60 ∧ (i : Int) ≤ nv9.toInt) → (s3 = setQ (q 33) (60 * d.toNatClampNeg) (keG what p0 (r 4 k0.toNatClampNeg).toNatClampNeg (fun x9 => r 5 (44 * k0.toNatClampNeg + x9))) i) → 60 - i < n → ∀ (H : Heap) (locs : List Loc), va_P D vwCl (WM cy mo a (upd f 0 (0 : Int32)) g (va_up (va_up (va_up (va_up r 29 ((upd (r 29) d.toNatClampNeg what))) 30 ((upd (r 30) d.toNatClampNeg (0 : Int32)))) 31 ((upd (r 31) d.toNatClampNeg r149))) 32 ((upd (r 32) d.toNatClampNeg (((-15) : Int32))))) (va_up q 33 s3)) H → va_S (AM mo a) s.heap H locs → ∀ (ls : Array Slot), lv_has ls 8 [(7, .int (nI i)), (6, .int (1 : Int32)), (0, .ref mo), (1, .int d), (2, .int what), (3, .int k0), (4, .long p0)] → W p l e (headSpec wsX10_keep ({ frames := 3, cells := 0, slots := 0, locals := 69 })).room s m #[Value.ref mo, Value.int d, Value.int what, Value.int k0, Value.long p0] below meth c H locs 0 0 (MQ below (va_Qi (fun r0 u => ∃ (sh : Nat → Int32), ∃ (sz : Nat → Int32), ∃ (sw : Nat → Int32), ∃ (sf : Nat → Int32), ∃ (sr : Nat → Int64), u = ((upd f 0 (0 : Int32)), g, (va_up (va_up (va_up (va_up r 29 sh) 30 sz) 31 sw) 32 sf), (va_up q 33 sr)) ∧ (yesNo (okKeep (f 1) (fun j9 => (r 3 j9).toNatClampNeg) (fun j9 => (r 4 j9).toNatClampNeg) d what k0 p0) 0 (-1) r0 ∧ ((okKeep (f 1) (fun j9 => (r 3 j9).toNatClampNeg) (fun j9 => (r 4 j9).toNatClampNeg) d what k0 p0 ∧ ∃ nv, sh = upd (r 29) d.toNatClampNeg what ∧ sz = upd (r 30) d.toNatClampNeg nv ∧ (what.toInt = 3 → nv.toInt = (((r 3 k0.toNatClampNeg).toNatClampNeg * (r 4 k0.toNatClampNeg).toNatClampNeg : Nat) : Int)) ∧ (what.toInt = 4 → nv.toInt = (((r 4 k0.toNatClampNeg).toNatClampNeg + (r 3 k0.toNatClampNeg).toNatClampNeg : Nat) : Int)) ∧ sr = setQ (q 33) (60 * d.toNatClampNeg) (keG what p0 (r 4 k0.toNatClampNeg).toNatClampNeg (fun x9 => r 5 (44 * k0.toNatClampNeg + x9))) nv.toNatClampNeg ∧ nv.toNatClampNeg ≤ 60) ∨ (¬ okKeep (f 1) (fun j9 => (r 3 j9).toNatClampNeg) (fun j9 => (r 4 j9).toNatClampNeg) d what k0 p0 ∧ sh = r 29 ∧ sz = r 30 ∧ sr = q 33)) ∧ MI (upd f 0 (0 : Int32)) (va_up (va_up (va_up (va_up r 29 sh) 30 sz) 31 sw) 32 sf))) (mB D cy mo a) (AM mo a)) #[Value.ref mo, Value.int d, Value.int what, Value.int k0, Value.long p0] s 0 0 (AM mo a)) (F0 m 177 ls []) := by
                  intro n
                  induction n with
                  | zero => intro i s3 j177_0 j177_1 hn; exact absurd hn (Nat.not_lt_zero _)
                  | succ n ih_177 =>
                    intro i s3 j177_0 j177_1 hn_177 H locs hP hS ls hl
                    have ii : (nI i).toInt = (i : Int) := nI_toInt (by omega)
                    refine lv_iload hx hb dX10_keep_177 (lv_at hl 0 rfl) ?_
                    refine lv_aload_n hx hb dX10_keep_179 rfl (lv_at hl 2 rfl) ?_
                    refine m_get (v := .ref (a 30)) hx hb hts hin hown hK hP 30 (by decide) rfl (hts (.fieldLink RX10 64 "ShadowBenchModel" "shelfSize" "[I") (by decide +kernel)) rfl dX10_keep_180 ?_
                    refine lv_iload_n hx hb dX10_keep_183 rfl (lv_at hl 3 rfl) ?_
                    refine m_iald (w := ((upd (r 30) d.toNatClampNeg (0 : Int32)))) hx hb hK hP 18 rfl (vp_in_iff.mpr ⟨by omega, by omega⟩) dX10_keep_184 ?_
                    refine lv_topi (fun v184 e184 => ?_)
                    have i184 : v184.toInt = (((upd (r 30) d.toNatClampNeg (0 : Int32))) d.toNatClampNeg).toInt := congrArg Int32.toInt e184
                    have z184 := e184
                    simp only [upd, if_true] at z184
                    have y184 := congrArg Int32.toInt z184
                    have y184 : v184 = nv9 := by rw [e184, hnv9]; simp only [upd, if_true]
                    have i184 := congrArg Int32.toInt y184
                    refine lv_icmp_ge (tgt := 272) hx hb dX10_keep_185 (by decide) (fun c185 => ?_) (fun c185 => ?_)
                    · skip
                      have d185 := c185
                      rw [fa_le] at d185
                      refine lv_iconst (v := 0) hx hb dX10_keep_272 (by decide) ?_
                      have hP := wm_eq rfl rfl (ec_r_29_30_31_32__29_30_31_32 r ((upd (r 29) d.toNatClampNeg what)) ((upd (r 30) d.toNatClampNeg (0 : Int32))) ((upd (r 31) d.toNatClampNeg r149)) ((upd (r 32) d.toNatClampNeg (((-15) : Int32))))) rfl hP
                      exact W.iret (v := (0 : Int32)) hx hb hr (fun t ht hW => ⟨⟨_, ((upd f 0 (0 : Int32)), g, (va_up (va_up (va_up (va_up r 29 (((upd (r 29) d.toNatClampNeg what)))) 30 (((upd (r 30) d.toNatClampNeg (0 : Int32))))) 31 (((upd (r 31) d.toNatClampNeg r149)))) 32 (((upd (r 32) d.toNatClampNeg (((-15) : Int32)))))), (va_up q 33 s3)), rfl, ⟨((upd (r 29) d.toNatClampNeg what)), ((upd (r 30) d.toNatClampNeg (0 : Int32))), ((upd (r 31) d.toNatClampNeg r149)), ((upd (r 32) d.toNatClampNeg (((-15) : Int32)))), s3, rfl, ⟨(Or.inl ⟨⟨b9, (by unfold okJob; first | exact Or.inl (by omega) | exact Or.inr (Or.inl ⟨by omega, b31⟩) | (have z9 := goodP_of b64; subst e52; subst e58; exact Or.inr (Or.inr ⟨by omega, b44, z9.2⟩)))⟩, rfl⟩), (Or.inl ⟨⟨b9, (by unfold okJob; first | exact Or.inl (by omega) | exact Or.inr (Or.inl ⟨by omega, b31⟩) | (have z9 := goodP_of b64; subst e52; subst e58; exact Or.inr (Or.inr ⟨by omega, b44, z9.2⟩)))⟩, _, rfl, rfl, (fun z9 => by first | (exfalso; omega) | exact y110), (fun z9 => by first | (exfalso; omega) | exact y131), (by have c9 := m_cl (x := nv9) (by omega); rw [j177_1, ← hnv9, show i = nv9.toNatClampNeg by omega]), (by have c9 := m_cl (x := nv9) (by omega); rw [hnv9] at c9; omega)⟩), by first | exact hI | exact mi_sz (d := d) hI (v := v110) (by omega) rfl rfl rfl rfl rfl rfl rfl rfl | exact mi_sz (d := d) hI (v := v131) (by omega) rfl rfl rfl rfl rfl rfl rfl rfl | exact mi_sz (d := d) hI (v := 0) (by decide) rfl rfl rfl rfl rfl rfl rfl rfl⟩⟩, by unfold mB; rw [ht]; exact hP⟩, hS.F ht⟩) hS.2.2 dX10_keep_273
                    · skip
                      have d185 := c185
                      rw [fa_le] at d185
                      refine lv_aload_n hx hb dX10_keep_188 rfl (lv_at hl 2 rfl) ?_
                      refine m_get (v := .ref (a 33)) hx hb hts hin hown hK hP 33 (by decide) rfl (hts (.fieldLink RX10 73 "ShadowBenchModel" "shelfRow" "[J") (by decide +kernel)) rfl dX10_keep_189 ?_
                      refine lv_bipush (v := 60) hx hb dX10_keep_192 (by decide) ?_
                      refine lv_iload_n hx hb dX10_keep_194 rfl (lv_at hl 3 rfl) ?_
                      refine lv_imul hx hb dX10_keep_195 ?_
                      refine lv_topi (fun v195 e195 => ?_)
                      have i195 : v195.toInt = 60 * d.toInt := by rw [e195]; exact mulcL rfl (by omega) (by omega)
                      refine lv_iload hx hb dX10_keep_196 (lv_at hl 0 rfl) ?_
                      refine lv_iadd hx hb dX10_keep_198 ?_
                      refine lv_topi (fun v198 e198 => ?_)
                      have i198 : v198.toInt = v195.toInt + (nI i).toInt := by rw [e198]; exact fb_addI (by omega) (by omega)
                      have cd9 := m_cl (x := d) (by omega)
                      have cv9 := m_cl (x := v198) (by omega)
                      have f198 : v198.toNatClampNeg = 60 * d.toNatClampNeg + i := by omega
                      refine lv_iload_n hx hb dX10_keep_199 rfl (lv_at hl 4 rfl) ?_
                      refine lv_iconst (v := 3) hx hb dX10_keep_200 (by decide) ?_
                      refine lv_icmp_ne (tgt := 215) hx hb dX10_keep_201 (by decide) (fun c201 => ?_) (fun c201 => ?_)
                      · skip
                        have d201 := c201
                        rw [fa_eq] at d201
                        refine lv_iload hx hb dX10_keep_215 (lv_at hl 0 rfl) ?_
                        refine lv_aload_n hx hb dX10_keep_217 rfl (lv_at hl 2 rfl) ?_
                        refine m_get (v := .ref (a 4)) hx hb hts hin hown hK hP 4 (by decide) rfl (hts (.fieldLink RX10 16 "ShadowBenchModel" "high" "[I") (by decide +kernel)) rfl dX10_keep_218 ?_
                        refine lv_iload_n hx hb dX10_keep_221 rfl (lv_at hl 5 rfl) ?_
                        refine m_iald (w := (r 4)) hx hb hK hP 3 rfl (vp_in_iff.mpr ⟨by omega, by omega⟩) dX10_keep_222 ?_
                        refine lv_topi (fun v222 e222 => ?_)
                        have i222 : v222.toInt = ((r 4) k0.toNatClampNeg).toInt := congrArg Int32.toInt e222
                        have w222 := mi_h hI (x := k0) (by omega) (by omega) e222
                        refine lv_icmp_ge (tgt := 242) hx hb dX10_keep_223 (by decide) (fun c223 => ?_) (fun c223 => ?_)
                        · skip
                          have d223 := c223
                          rw [fa_le] at d223
                          refine lv_aload_n hx hb dX10_keep_242 rfl (lv_at hl 2 rfl) ?_
                          refine m_get (v := .ref (a 5)) hx hb hts hin hown hK hP 5 (by decide) rfl (hts (.fieldLink RX10 19 "ShadowBenchModel" "sums" "[I") (by decide +kernel)) rfl dX10_keep_243 ?_
                          refine lv_bipush (v := 44) hx hb dX10_keep_246 (by decide) ?_
                          refine lv_iload_n hx hb dX10_keep_248 rfl (lv_at hl 5 rfl) ?_
                          refine lv_imul hx hb dX10_keep_249 ?_
                          refine lv_topi (fun v249 e249 => ?_)
                          have i249 : v249.toInt = 44 * k0.toInt := by rw [e249]; exact mulcL rfl (by omega) (by omega)
                          refine lv_bipush (v := 11) hx hb dX10_keep_250 (by decide) ?_
                          refine lv_iadd hx hb dX10_keep_252 ?_
                          refine lv_topi (fun v252 e252 => ?_)
                          have i252 : v252.toInt = v249.toInt + (11 : Int32).toInt := by rw [e252]; exact fb_addI (by omega) (by omega)
                          refine lv_iload hx hb dX10_keep_253 (lv_at hl 0 rfl) ?_
                          refine lv_iadd hx hb dX10_keep_255 ?_
                          refine lv_topi (fun v255 e255 => ?_)
                          have i255 : v255.toInt = v252.toInt + (nI i).toInt := by rw [e255]; exact fb_addI (by omega) (by omega)
                          refine lv_aload_n hx hb dX10_keep_256 rfl (lv_at hl 2 rfl) ?_
                          refine m_get (v := .ref (a 4)) hx hb hts hin hown hK hP 4 (by decide) rfl (hts (.fieldLink RX10 16 "ShadowBenchModel" "high" "[I") (by decide +kernel)) rfl dX10_keep_257 ?_
                          refine lv_iload_n hx hb dX10_keep_260 rfl (lv_at hl 5 rfl) ?_
                          refine m_iald (w := (r 4)) hx hb hK hP 3 rfl (vp_in_iff.mpr ⟨by omega, by omega⟩) dX10_keep_261 ?_
                          refine lv_topi (fun v261 e261 => ?_)
                          have i261 : v261.toInt = ((r 4) k0.toNatClampNeg).toInt := congrArg Int32.toInt e261
                          have w261 := mi_h hI (x := k0) (by omega) (by omega) e261
                          refine lv_isub hx hb dX10_keep_262 ?_
                          refine lv_topi (fun v262 e262 => ?_)
                          have i262 : v262.toInt = v255.toInt - v261.toInt := by rw [e262]; exact fb_subI (by omega) (by omega)
                          have ck9 := m_cl (x := k0) (by omega)
                          have cv8 := m_cl (x := v262) (by omega)
                          have ch9 := m_cl (x := v222) (by omega)
                          have f262 : v262.toNatClampNeg = 44 * k0.toNatClampNeg + (11 + i - v222.toNatClampNeg) := by omega
                          rw [e222] at ch9 f262
                          refine m_iald (w := (r 5)) hx hb hK hP 4 rfl (vp_in_iff.mpr ⟨by omega, by omega⟩) dX10_keep_263 ?_
                          refine lv_topi (fun v263 e263 => ?_)
                          have i263 : v263.toInt = ((r 5) v262.toNatClampNeg).toInt := congrArg Int32.toInt e263
                          refine lv_i2l (v := v263.toInt64) hx hb dX10_keep_264 rfl ?_
                          refine m_last (w := s3) hx hb hK hP hD hS 21 rfl (vp_in_iff.mpr ⟨by omega, by omega⟩) (va_up (va_up q 33 s3) 33 (vp_updL s3 v198.toNatClampNeg v263.toInt64)) (ms_33 cy mo a _ _ _ _ _) dX10_keep_265 (fun H locs hP hS => ?_)
                          have hP := wm_eq rfl rfl rfl (es_q_33__33 q s3 (vp_updL s3 v198.toNatClampNeg v263.toInt64)) hP
                          refine lv_iinc (v := (nI (i + 1))) (lv' := [(7, .int (nI (i + 1))), (6, .int (1 : Int32)), (0, .ref mo), (1, .int d), (2, .int what), (3, .int k0), (4, .long p0)]) hx hb dX10_keep_266 hl (k := 0) rfl (nI_1 _) (by decide) rfl (fun ls hl => ?_)
                          refine lv_goto (tgt := 177) hx hb dX10_keep_269 (by decide) ?_
                          have hP := wm_eq rfl rfl (ec_r_29_30_31_32__29_30_31_32 r ((upd (r 29) d.toNatClampNeg what)) ((upd (r 30) d.toNatClampNeg (0 : Int32))) ((upd (r 31) d.toNatClampNeg r149)) ((upd (r 32) d.toNatClampNeg (((-15) : Int32))))) rfl hP
                          exact ih_177 (i + 1) (vp_updL s3 v198.toNatClampNeg v263.toInt64) (by omega) (by rw [j177_1, f198]; exact setQ_v (by first | (rw [keG_3 (by omega)]; exact one_bI (by omega) q208) | (rw [keG_4 (by omega) (by omega), e237, f236]; done) | (rw [keG_5 (by omega) (by omega), e263, f262]; done) | (exfalso; omega))) (by omega) _ _ hP hS ls (lv_sub hl [0, 1, 2, 3, 4, 5, 6] rfl)
                        · skip
                          have d223 := c223
                          rw [fa_le] at d223
                          refine lv_aload_n hx hb dX10_keep_226 rfl (lv_at hl 2 rfl) ?_
                          refine m_get (v := .ref (a 5)) hx hb hts hin hown hK hP 5 (by decide) rfl (hts (.fieldLink RX10 19 "ShadowBenchModel" "sums" "[I") (by decide +kernel)) rfl dX10_keep_227 ?_
                          refine lv_bipush (v := 44) hx hb dX10_keep_230 (by decide) ?_
                          refine lv_iload_n hx hb dX10_keep_232 rfl (lv_at hl 5 rfl) ?_
                          refine lv_imul hx hb dX10_keep_233 ?_
                          refine lv_topi (fun v233 e233 => ?_)
                          have i233 : v233.toInt = 44 * k0.toInt := by rw [e233]; exact mulcL rfl (by omega) (by omega)
                          refine lv_iload hx hb dX10_keep_234 (lv_at hl 0 rfl) ?_
                          refine lv_iadd hx hb dX10_keep_236 ?_
                          refine lv_topi (fun v236 e236 => ?_)
                          have i236 : v236.toInt = v233.toInt + (nI i).toInt := by rw [e236]; exact fb_addI (by omega) (by omega)
                          have ck9 := m_cl (x := k0) (by omega)
                          have cv8 := m_cl (x := v236) (by omega)
                          have f236 : v236.toNatClampNeg = 44 * k0.toNatClampNeg + i := by omega
                          have ch9 := m_cl (x := v222) (by omega)
                          rw [e222] at ch9
                          refine m_iald (w := (r 5)) hx hb hK hP 4 rfl (vp_in_iff.mpr ⟨by omega, by omega⟩) dX10_keep_237 ?_
                          refine lv_topi (fun v237 e237 => ?_)
                          have i237 : v237.toInt = ((r 5) v236.toNatClampNeg).toInt := congrArg Int32.toInt e237
                          refine lv_i2l (v := v237.toInt64) hx hb dX10_keep_238 rfl ?_
                          refine lv_goto (tgt := 265) hx hb dX10_keep_239 (by decide) ?_
                          refine m_last (w := s3) hx hb hK hP hD hS 21 rfl (vp_in_iff.mpr ⟨by omega, by omega⟩) (va_up (va_up q 33 s3) 33 (vp_updL s3 v198.toNatClampNeg v237.toInt64)) (ms_33 cy mo a _ _ _ _ _) dX10_keep_265 (fun H locs hP hS => ?_)
                          have hP := wm_eq rfl rfl rfl (es_q_33__33 q s3 (vp_updL s3 v198.toNatClampNeg v237.toInt64)) hP
                          refine lv_iinc (v := (nI (i + 1))) (lv' := [(7, .int (nI (i + 1))), (6, .int (1 : Int32)), (0, .ref mo), (1, .int d), (2, .int what), (3, .int k0), (4, .long p0)]) hx hb dX10_keep_266 hl (k := 0) rfl (nI_1 _) (by decide) rfl (fun ls hl => ?_)
                          refine lv_goto (tgt := 177) hx hb dX10_keep_269 (by decide) ?_
                          have hP := wm_eq rfl rfl (ec_r_29_30_31_32__29_30_31_32 r ((upd (r 29) d.toNatClampNeg what)) ((upd (r 30) d.toNatClampNeg (0 : Int32))) ((upd (r 31) d.toNatClampNeg r149)) ((upd (r 32) d.toNatClampNeg (((-15) : Int32))))) rfl hP
                          exact ih_177 (i + 1) (vp_updL s3 v198.toNatClampNeg v237.toInt64) (by omega) (by rw [j177_1, f198]; exact setQ_v (by first | (rw [keG_3 (by omega)]; exact one_bI (by omega) q208) | (rw [keG_4 (by omega) (by omega), e237, f236]; done) | (rw [keG_5 (by omega) (by omega), e263, f262]; done) | (exfalso; omega))) (by omega) _ _ hP hS ls (lv_sub hl [0, 1, 2, 3, 4, 5, 6] rfl)
                      · first | exact absurd c201 c95 | exact absurd c95 c201
                have hP := wm_eq rfl rfl (ec_r_29_30_31_32__29_30_31_32 r ((upd (r 29) d.toNatClampNeg what)) ((upd (r 30) d.toNatClampNeg (0 : Int32))) ((upd (r 31) d.toNatClampNeg r149)) ((upd (r 32) d.toNatClampNeg (((-15) : Int32))))) (ec_q___33 q ) hP
                exact loop_177 (60 + 1) 0 (q 33) (by omega) ((setQ_0 _ _ _).symm) (by omega) _ _ hP hS ls (lv_sub hl [0, 1, 2, 3, 4, 5, 6] rfl)
          · skip
            have d116 := c116
            rw [fa_eq] at d116
            refine lv_aload_n hx hb dX10_keep_119 rfl (lv_at hl 1 rfl) ?_
            refine m_get (v := .ref (a 4)) hx hb hts hin hown hK hP 4 (by decide) rfl (hts (.fieldLink RX10 16 "ShadowBenchModel" "high" "[I") (by decide +kernel)) rfl dX10_keep_120 ?_
            refine lv_iload_n hx hb dX10_keep_123 rfl (lv_at hl 4 rfl) ?_
            refine m_iald (w := (r 4)) hx hb hK hP 3 rfl (vp_in_iff.mpr ⟨by omega, by omega⟩) dX10_keep_124 ?_
            refine lv_topi (fun v124 e124 => ?_)
            have i124 : v124.toInt = ((r 4) k0.toNatClampNeg).toInt := congrArg Int32.toInt e124
            have w124 := mi_h hI (x := k0) (by omega) (by omega) e124
            refine lv_aload_n hx hb dX10_keep_125 rfl (lv_at hl 1 rfl) ?_
            refine m_get (v := .ref (a 3)) hx hb hts hin hown hK hP 3 (by decide) rfl (hts (.fieldLink RX10 13 "ShadowBenchModel" "wide" "[I") (by decide +kernel)) rfl dX10_keep_126 ?_
            refine lv_iload_n hx hb dX10_keep_129 rfl (lv_at hl 4 rfl) ?_
            refine m_iald (w := (r 3)) hx hb hK hP 2 rfl (vp_in_iff.mpr ⟨by omega, by omega⟩) dX10_keep_130 ?_
            refine lv_topi (fun v130 e130 => ?_)
            have i130 : v130.toInt = ((r 3) k0.toNatClampNeg).toInt := congrArg Int32.toInt e130
            have w130 := mi_w hI (x := k0) (by omega) (by omega) e130
            refine lv_iadd hx hb dX10_keep_131 ?_
            refine lv_topi (fun v131 e131 => ?_)
            have i131 : v131.toInt = v124.toInt + v130.toInt := by rw [e131]; exact fb_addI (by omega) (by omega)
            have y131 : v131.toInt = (((r 4 k0.toNatClampNeg).toNatClampNeg + (r 3 k0.toNatClampNeg).toNatClampNeg : Nat) : Int) := by
              have z1 := m_cl (x := r 4 k0.toNatClampNeg) (by omega)
              have z2 := m_cl (x := r 3 k0.toNatClampNeg) (by omega)
              omega
            obtain ⟨nv9, hnv9⟩ : ∃ z9, z9 = v131 := ⟨_, rfl⟩
            have n184 := congrArg Int32.toInt hnv9
            refine lv_goto (tgt := 136) hx hb dX10_keep_132 (by decide) ?_
            refine m_iast (w := (r 30)) hx hb hK hP hD hS 18 rfl (vp_in_iff.mpr ⟨by omega, by omega⟩) (va_up (va_up r 29 ((upd (r 29) d.toNatClampNeg what))) 30 (upd (r 30) d.toNatClampNeg v131)) (ms_30 cy mo a _ _ _ _ _) dX10_keep_136 (fun H locs hP hS => ?_)
            refine lv_iload_n hx hb dX10_keep_137 rfl (lv_at hl 3 rfl) ?_
            refine lv_iconst (v := 1) hx hb dX10_keep_138 (by decide) ?_
            refine lv_icmp_ne (tgt := 174) hx hb dX10_keep_139 (by decide) (fun c139 => ?_) (fun c139 => ?_)
            · skip
              have d139 := c139
              rw [fa_eq] at d139
              refine lv_iconst (v := 0) hx hb dX10_keep_174 (by decide) ?_
              refine lv_istore (lv' := [(7, .int (0 : Int32)), (6, .int (1 : Int32)), (0, .ref mo), (1, .int d), (2, .int what), (3, .int k0), (4, .long p0)]) hx hb dX10_keep_175 hl (by decide) rfl (fun ls hl => ?_)
              have loop_177 : ∀ (n : Nat) (i : Nat) (s3 : Nat → Int64), (i ≤ 60 ∧ (i : Int) ≤ nv9.toInt) → (s3 = setQ (q 33) (60 * d.toNatClampNeg) (keG what p0 (r 4 k0.toNatClampNeg).toNatClampNeg (fun x9 => r 5 (44 * k0.toNatClampNeg + x9))) i) → 60 - i < n → ∀ (H : Heap) (locs : List Loc), va_P D vwCl (WM cy mo a (upd f 0 (0 : Int32)) g (va_up (va_up r 29 ((upd (r 29) d.toNatClampNeg what))) 30 ((upd (r 30) d.toNatClampNeg v131))) (va_up q 33 s3)) H → va_S (AM mo a) s.heap H locs → ∀ (ls : Array Slot), lv_has ls 8 [(7, .int (nI i)), (6, .int (1 : Int32)), (0, .ref mo), (1, .int d), (2, .int what), (3, .int k0), (4, .long p0)] → W p l e (headSpec wsX10_keep ({ frames := 3, cells := 0, slots := 0, locals := 69 })).room s m #[Value.ref mo, Value.int d, Value.int what, Value.int k0, Value.long p0] below meth c H locs 0 0 (MQ below (va_Qi (fun r0 u => ∃ (sh : Nat → Int32), ∃ (sz : Nat → Int32), ∃ (sw : Nat → Int32), ∃ (sf : Nat → Int32), ∃ (sr : Nat → Int64), u = ((upd f 0 (0 : Int32)), g, (va_up (va_up (va_up (va_up r 29 sh) 30 sz) 31 sw) 32 sf), (va_up q 33 sr)) ∧ (yesNo (okKeep (f 1) (fun j9 => (r 3 j9).toNatClampNeg) (fun j9 => (r 4 j9).toNatClampNeg) d what k0 p0) 0 (-1) r0 ∧ ((okKeep (f 1) (fun j9 => (r 3 j9).toNatClampNeg) (fun j9 => (r 4 j9).toNatClampNeg) d what k0 p0 ∧ ∃ nv, sh = upd (r 29) d.toNatClampNeg what ∧ sz = upd (r 30) d.toNatClampNeg nv ∧ (what.toInt = 3 → nv.toInt = (((r 3 k0.toNatClampNeg).toNatClampNeg * (r 4 k0.toNatClampNeg).toNatClampNeg : Nat) : Int)) ∧ (what.toInt = 4 → nv.toInt = (((r 4 k0.toNatClampNeg).toNatClampNeg + (r 3 k0.toNatClampNeg).toNatClampNeg : Nat) : Int)) ∧ sr = setQ (q 33) (60 * d.toNatClampNeg) (keG what p0 (r 4 k0.toNatClampNeg).toNatClampNeg (fun x9 => r 5 (44 * k0.toNatClampNeg + x9))) nv.toNatClampNeg ∧ nv.toNatClampNeg ≤ 60) ∨ (¬ okKeep (f 1) (fun j9 => (r 3 j9).toNatClampNeg) (fun j9 => (r 4 j9).toNatClampNeg) d what k0 p0 ∧ sh = r 29 ∧ sz = r 30 ∧ sr = q 33)) ∧ MI (upd f 0 (0 : Int32)) (va_up (va_up (va_up (va_up r 29 sh) 30 sz) 31 sw) 32 sf))) (mB D cy mo a) (AM mo a)) #[Value.ref mo, Value.int d, Value.int what, Value.int k0, Value.long p0] s 0 0 (AM mo a)) (F0 m 177 ls []) := by
                intro n
                induction n with
                | zero => intro i s3 j177_0 j177_1 hn; exact absurd hn (Nat.not_lt_zero _)
                | succ n ih_177 =>
                  intro i s3 j177_0 j177_1 hn_177 H locs hP hS ls hl
                  have ii : (nI i).toInt = (i : Int) := nI_toInt (by omega)
                  refine lv_iload hx hb dX10_keep_177 (lv_at hl 0 rfl) ?_
                  refine lv_aload_n hx hb dX10_keep_179 rfl (lv_at hl 2 rfl) ?_
                  refine m_get (v := .ref (a 30)) hx hb hts hin hown hK hP 30 (by decide) rfl (hts (.fieldLink RX10 64 "ShadowBenchModel" "shelfSize" "[I") (by decide +kernel)) rfl dX10_keep_180 ?_
                  refine lv_iload_n hx hb dX10_keep_183 rfl (lv_at hl 3 rfl) ?_
                  refine m_iald (w := ((upd (r 30) d.toNatClampNeg v131))) hx hb hK hP 18 rfl (vp_in_iff.mpr ⟨by omega, by omega⟩) dX10_keep_184 ?_
                  refine lv_topi (fun v184 e184 => ?_)
                  have i184 : v184.toInt = (((upd (r 30) d.toNatClampNeg v131)) d.toNatClampNeg).toInt := congrArg Int32.toInt e184
                  have z184 := e184
                  simp only [upd, if_true] at z184
                  have y184 := congrArg Int32.toInt z184
                  have y184 : v184 = nv9 := by rw [e184, hnv9]; simp only [upd, if_true]
                  have i184 := congrArg Int32.toInt y184
                  refine lv_icmp_ge (tgt := 272) hx hb dX10_keep_185 (by decide) (fun c185 => ?_) (fun c185 => ?_)
                  · skip
                    have d185 := c185
                    rw [fa_le] at d185
                    refine lv_iconst (v := 0) hx hb dX10_keep_272 (by decide) ?_
                    have hP := wm_eq rfl rfl (ec_r_29_30__29_30_31_32 r ((upd (r 29) d.toNatClampNeg what)) ((upd (r 30) d.toNatClampNeg v131))) rfl hP
                    exact W.iret (v := (0 : Int32)) hx hb hr (fun t ht hW => ⟨⟨_, ((upd f 0 (0 : Int32)), g, (va_up (va_up (va_up (va_up r 29 (((upd (r 29) d.toNatClampNeg what)))) 30 (((upd (r 30) d.toNatClampNeg v131)))) 31 (r 31)) 32 (r 32)), (va_up q 33 s3)), rfl, ⟨((upd (r 29) d.toNatClampNeg what)), ((upd (r 30) d.toNatClampNeg v131)), (r 31), (r 32), s3, rfl, ⟨(Or.inl ⟨⟨b9, (by unfold okJob; first | exact Or.inl (by omega) | exact Or.inr (Or.inl ⟨by omega, b31⟩) | (have z9 := goodP_of b64; subst e52; subst e58; exact Or.inr (Or.inr ⟨by omega, b44, z9.2⟩)))⟩, rfl⟩), (Or.inl ⟨⟨b9, (by unfold okJob; first | exact Or.inl (by omega) | exact Or.inr (Or.inl ⟨by omega, b31⟩) | (have z9 := goodP_of b64; subst e52; subst e58; exact Or.inr (Or.inr ⟨by omega, b44, z9.2⟩)))⟩, _, rfl, rfl, (fun z9 => by first | (exfalso; omega) | exact y110), (fun z9 => by first | (exfalso; omega) | exact y131), (by have c9 := m_cl (x := nv9) (by omega); rw [j177_1, ← hnv9, show i = nv9.toNatClampNeg by omega]), (by have c9 := m_cl (x := nv9) (by omega); rw [hnv9] at c9; omega)⟩), by first | exact hI | exact mi_sz (d := d) hI (v := v110) (by omega) rfl rfl rfl rfl rfl rfl rfl rfl | exact mi_sz (d := d) hI (v := v131) (by omega) rfl rfl rfl rfl rfl rfl rfl rfl | exact mi_sz (d := d) hI (v := 0) (by decide) rfl rfl rfl rfl rfl rfl rfl rfl⟩⟩, by unfold mB; rw [ht]; exact hP⟩, hS.F ht⟩) hS.2.2 dX10_keep_273
                  · skip
                    have d185 := c185
                    rw [fa_le] at d185
                    refine lv_aload_n hx hb dX10_keep_188 rfl (lv_at hl 2 rfl) ?_
                    refine m_get (v := .ref (a 33)) hx hb hts hin hown hK hP 33 (by decide) rfl (hts (.fieldLink RX10 73 "ShadowBenchModel" "shelfRow" "[J") (by decide +kernel)) rfl dX10_keep_189 ?_
                    refine lv_bipush (v := 60) hx hb dX10_keep_192 (by decide) ?_
                    refine lv_iload_n hx hb dX10_keep_194 rfl (lv_at hl 3 rfl) ?_
                    refine lv_imul hx hb dX10_keep_195 ?_
                    refine lv_topi (fun v195 e195 => ?_)
                    have i195 : v195.toInt = 60 * d.toInt := by rw [e195]; exact mulcL rfl (by omega) (by omega)
                    refine lv_iload hx hb dX10_keep_196 (lv_at hl 0 rfl) ?_
                    refine lv_iadd hx hb dX10_keep_198 ?_
                    refine lv_topi (fun v198 e198 => ?_)
                    have i198 : v198.toInt = v195.toInt + (nI i).toInt := by rw [e198]; exact fb_addI (by omega) (by omega)
                    have cd9 := m_cl (x := d) (by omega)
                    have cv9 := m_cl (x := v198) (by omega)
                    have f198 : v198.toNatClampNeg = 60 * d.toNatClampNeg + i := by omega
                    refine lv_iload_n hx hb dX10_keep_199 rfl (lv_at hl 4 rfl) ?_
                    refine lv_iconst (v := 3) hx hb dX10_keep_200 (by decide) ?_
                    refine lv_icmp_ne (tgt := 215) hx hb dX10_keep_201 (by decide) (fun c201 => ?_) (fun c201 => ?_)
                    · skip
                      have d201 := c201
                      rw [fa_eq] at d201
                      refine lv_iload hx hb dX10_keep_215 (lv_at hl 0 rfl) ?_
                      refine lv_aload_n hx hb dX10_keep_217 rfl (lv_at hl 2 rfl) ?_
                      refine m_get (v := .ref (a 4)) hx hb hts hin hown hK hP 4 (by decide) rfl (hts (.fieldLink RX10 16 "ShadowBenchModel" "high" "[I") (by decide +kernel)) rfl dX10_keep_218 ?_
                      refine lv_iload_n hx hb dX10_keep_221 rfl (lv_at hl 5 rfl) ?_
                      refine m_iald (w := (r 4)) hx hb hK hP 3 rfl (vp_in_iff.mpr ⟨by omega, by omega⟩) dX10_keep_222 ?_
                      refine lv_topi (fun v222 e222 => ?_)
                      have i222 : v222.toInt = ((r 4) k0.toNatClampNeg).toInt := congrArg Int32.toInt e222
                      have w222 := mi_h hI (x := k0) (by omega) (by omega) e222
                      refine lv_icmp_ge (tgt := 242) hx hb dX10_keep_223 (by decide) (fun c223 => ?_) (fun c223 => ?_)
                      · skip
                        have d223 := c223
                        rw [fa_le] at d223
                        refine lv_aload_n hx hb dX10_keep_242 rfl (lv_at hl 2 rfl) ?_
                        refine m_get (v := .ref (a 5)) hx hb hts hin hown hK hP 5 (by decide) rfl (hts (.fieldLink RX10 19 "ShadowBenchModel" "sums" "[I") (by decide +kernel)) rfl dX10_keep_243 ?_
                        refine lv_bipush (v := 44) hx hb dX10_keep_246 (by decide) ?_
                        refine lv_iload_n hx hb dX10_keep_248 rfl (lv_at hl 5 rfl) ?_
                        refine lv_imul hx hb dX10_keep_249 ?_
                        refine lv_topi (fun v249 e249 => ?_)
                        have i249 : v249.toInt = 44 * k0.toInt := by rw [e249]; exact mulcL rfl (by omega) (by omega)
                        refine lv_bipush (v := 11) hx hb dX10_keep_250 (by decide) ?_
                        refine lv_iadd hx hb dX10_keep_252 ?_
                        refine lv_topi (fun v252 e252 => ?_)
                        have i252 : v252.toInt = v249.toInt + (11 : Int32).toInt := by rw [e252]; exact fb_addI (by omega) (by omega)
                        refine lv_iload hx hb dX10_keep_253 (lv_at hl 0 rfl) ?_
                        refine lv_iadd hx hb dX10_keep_255 ?_
                        refine lv_topi (fun v255 e255 => ?_)
                        have i255 : v255.toInt = v252.toInt + (nI i).toInt := by rw [e255]; exact fb_addI (by omega) (by omega)
                        refine lv_aload_n hx hb dX10_keep_256 rfl (lv_at hl 2 rfl) ?_
                        refine m_get (v := .ref (a 4)) hx hb hts hin hown hK hP 4 (by decide) rfl (hts (.fieldLink RX10 16 "ShadowBenchModel" "high" "[I") (by decide +kernel)) rfl dX10_keep_257 ?_
                        refine lv_iload_n hx hb dX10_keep_260 rfl (lv_at hl 5 rfl) ?_
                        refine m_iald (w := (r 4)) hx hb hK hP 3 rfl (vp_in_iff.mpr ⟨by omega, by omega⟩) dX10_keep_261 ?_
                        refine lv_topi (fun v261 e261 => ?_)
                        have i261 : v261.toInt = ((r 4) k0.toNatClampNeg).toInt := congrArg Int32.toInt e261
                        have w261 := mi_h hI (x := k0) (by omega) (by omega) e261
                        refine lv_isub hx hb dX10_keep_262 ?_
                        refine lv_topi (fun v262 e262 => ?_)
                        have i262 : v262.toInt = v255.toInt - v261.toInt := by rw [e262]; exact fb_subI (by omega) (by omega)
                        have ck9 := m_cl (x := k0) (by omega)
                        have cv8 := m_cl (x := v262) (by omega)
                        have ch9 := m_cl (x := v222) (by omega)
                        have f262 : v262.toNatClampNeg = 44 * k0.toNatClampNeg + (11 + i - v222.toNatClampNeg) := by omega
                        rw [e222] at ch9 f262
                        refine m_iald (w := (r 5)) hx hb hK hP 4 rfl (vp_in_iff.mpr ⟨by omega, by omega⟩) dX10_keep_263 ?_
                        refine lv_topi (fun v263 e263 => ?_)
                        have i263 : v263.toInt = ((r 5) v262.toNatClampNeg).toInt := congrArg Int32.toInt e263
                        refine lv_i2l (v := v263.toInt64) hx hb dX10_keep_264 rfl ?_
                        refine m_last (w := s3) hx hb hK hP hD hS 21 rfl (vp_in_iff.mpr ⟨by omega, by omega⟩) (va_up (va_up q 33 s3) 33 (vp_updL s3 v198.toNatClampNeg v263.toInt64)) (ms_33 cy mo a _ _ _ _ _) dX10_keep_265 (fun H locs hP hS => ?_)
                        have hP := wm_eq rfl rfl rfl (es_q_33__33 q s3 (vp_updL s3 v198.toNatClampNeg v263.toInt64)) hP
                        refine lv_iinc (v := (nI (i + 1))) (lv' := [(7, .int (nI (i + 1))), (6, .int (1 : Int32)), (0, .ref mo), (1, .int d), (2, .int what), (3, .int k0), (4, .long p0)]) hx hb dX10_keep_266 hl (k := 0) rfl (nI_1 _) (by decide) rfl (fun ls hl => ?_)
                        refine lv_goto (tgt := 177) hx hb dX10_keep_269 (by decide) ?_
                        have hP := wm_eq rfl rfl (ec_r_29_30__29_30 r ((upd (r 29) d.toNatClampNeg what)) ((upd (r 30) d.toNatClampNeg v131))) rfl hP
                        exact ih_177 (i + 1) (vp_updL s3 v198.toNatClampNeg v263.toInt64) (by omega) (by rw [j177_1, f198]; exact setQ_v (by first | (rw [keG_3 (by omega)]; exact one_bI (by omega) q208) | (rw [keG_4 (by omega) (by omega), e237, f236]; done) | (rw [keG_5 (by omega) (by omega), e263, f262]; done) | (exfalso; omega))) (by omega) _ _ hP hS ls (lv_sub hl [0, 1, 2, 3, 4, 5, 6] rfl)
                      · skip
                        have d223 := c223
                        rw [fa_le] at d223
                        refine lv_aload_n hx hb dX10_keep_226 rfl (lv_at hl 2 rfl) ?_
                        refine m_get (v := .ref (a 5)) hx hb hts hin hown hK hP 5 (by decide) rfl (hts (.fieldLink RX10 19 "ShadowBenchModel" "sums" "[I") (by decide +kernel)) rfl dX10_keep_227 ?_
                        refine lv_bipush (v := 44) hx hb dX10_keep_230 (by decide) ?_
                        refine lv_iload_n hx hb dX10_keep_232 rfl (lv_at hl 5 rfl) ?_
                        refine lv_imul hx hb dX10_keep_233 ?_
                        refine lv_topi (fun v233 e233 => ?_)
                        have i233 : v233.toInt = 44 * k0.toInt := by rw [e233]; exact mulcL rfl (by omega) (by omega)
                        refine lv_iload hx hb dX10_keep_234 (lv_at hl 0 rfl) ?_
                        refine lv_iadd hx hb dX10_keep_236 ?_
                        refine lv_topi (fun v236 e236 => ?_)
                        have i236 : v236.toInt = v233.toInt + (nI i).toInt := by rw [e236]; exact fb_addI (by omega) (by omega)
                        have ck9 := m_cl (x := k0) (by omega)
                        have cv8 := m_cl (x := v236) (by omega)
                        have f236 : v236.toNatClampNeg = 44 * k0.toNatClampNeg + i := by omega
                        have ch9 := m_cl (x := v222) (by omega)
                        rw [e222] at ch9
                        refine m_iald (w := (r 5)) hx hb hK hP 4 rfl (vp_in_iff.mpr ⟨by omega, by omega⟩) dX10_keep_237 ?_
                        refine lv_topi (fun v237 e237 => ?_)
                        have i237 : v237.toInt = ((r 5) v236.toNatClampNeg).toInt := congrArg Int32.toInt e237
                        refine lv_i2l (v := v237.toInt64) hx hb dX10_keep_238 rfl ?_
                        refine lv_goto (tgt := 265) hx hb dX10_keep_239 (by decide) ?_
                        refine m_last (w := s3) hx hb hK hP hD hS 21 rfl (vp_in_iff.mpr ⟨by omega, by omega⟩) (va_up (va_up q 33 s3) 33 (vp_updL s3 v198.toNatClampNeg v237.toInt64)) (ms_33 cy mo a _ _ _ _ _) dX10_keep_265 (fun H locs hP hS => ?_)
                        have hP := wm_eq rfl rfl rfl (es_q_33__33 q s3 (vp_updL s3 v198.toNatClampNeg v237.toInt64)) hP
                        refine lv_iinc (v := (nI (i + 1))) (lv' := [(7, .int (nI (i + 1))), (6, .int (1 : Int32)), (0, .ref mo), (1, .int d), (2, .int what), (3, .int k0), (4, .long p0)]) hx hb dX10_keep_266 hl (k := 0) rfl (nI_1 _) (by decide) rfl (fun ls hl => ?_)
                        refine lv_goto (tgt := 177) hx hb dX10_keep_269 (by decide) ?_
                        have hP := wm_eq rfl rfl (ec_r_29_30__29_30 r ((upd (r 29) d.toNatClampNeg what)) ((upd (r 30) d.toNatClampNeg v131))) rfl hP
                        exact ih_177 (i + 1) (vp_updL s3 v198.toNatClampNeg v237.toInt64) (by omega) (by rw [j177_1, f198]; exact setQ_v (by first | (rw [keG_3 (by omega)]; exact one_bI (by omega) q208) | (rw [keG_4 (by omega) (by omega), e237, f236]; done) | (rw [keG_5 (by omega) (by omega), e263, f262]; done) | (exfalso; omega))) (by omega) _ _ hP hS ls (lv_sub hl [0, 1, 2, 3, 4, 5, 6] rfl)
                    · first | exact absurd c201 c95 | exact absurd c95 c201
              have hP := wm_eq rfl rfl (ec_r_29_30__29_30 r ((upd (r 29) d.toNatClampNeg what)) ((upd (r 30) d.toNatClampNeg v131))) (ec_q___33 q ) hP
              exact loop_177 (60 + 1) 0 (q 33) (by omega) ((setQ_0 _ _ _).symm) (by omega) _ _ hP hS ls (lv_sub hl [0, 1, 2, 3, 4, 5, 6] rfl)
            · skip
              have d139 := c139
              rw [fa_eq] at d139
              refine lv_aload_n hx hb dX10_keep_142 rfl (lv_at hl 1 rfl) ?_
              refine m_get (v := .ref (a 31)) hx hb hts hin hown hK hP 31 (by decide) rfl (hts (.fieldLink RX10 67 "ShadowBenchModel" "shelfWeight" "[I") (by decide +kernel)) rfl dX10_keep_143 ?_
              refine lv_iload_n hx hb dX10_keep_146 rfl (lv_at hl 2 rfl) ?_
              refine lv_aload_n hx hb dX10_keep_147 rfl (lv_at hl 1 rfl) ?_
              refine lv_iload_n hx hb dX10_keep_148 rfl (lv_at hl 4 rfl) ?_
              refine m_calli (As := [.int k0]) (rest := [.int d, .ref (a 31)]) ⟨hx, hb, hml, hown, hts⟩ (c_X10_weightOf l D cy mo a (upd f 0 (0 : Int32)) g (va_up (va_up r 29 ((upd (r 29) d.toNatClampNeg what))) 30 ((upd (r 30) d.toNatClampNeg v131))) q k0 hD (by first | exact hI | exact mi_sz (d := d) hI (v := 0) (by first | omega | decide) rfl rfl rfl rfl rfl rfl rfl rfl | exact mi_sz (d := d) hI (v := v131) (by first | omega | decide) rfl rfl rfl rfl rfl rfl rfl rfl | exact mi_sz (d := d) hI (v := v110) (by first | omega | decide) rfl rfl rfl rfl rfl rfl rfl rfl) (show 0 ≤ k0.toInt ∧ k0.toInt < (f 1).toInt by omega)) (cwV 1 hts gX10_keep_X10_weightOf rfl rfl rfl (by decide +kernel) ⟨Nat.le_of_ble_eq_true rfl, Nat.le_of_ble_eq_true rfl⟩) hK hP rfl hl.1 rfl (Nat.le_of_ble_eq_true rfl) dX10_keep_149 ⟨Nat.le_of_ble_eq_true rfl, Nat.le_of_ble_eq_true rfl⟩ hS (fun r149 u H locs q149 hP hS => ?_)
              obtain ⟨rfl, q149⟩ := q149
              have hP : va_P D vwCl (WM cy mo a (upd f 0 (0 : Int32)) g (va_up (va_up r 29 ((upd (r 29) d.toNatClampNeg what))) 30 ((upd (r 30) d.toNatClampNeg v131))) q) H := hP
              have q149 : True := q149
              refine m_iast (w := (r 31)) hx hb hK hP hD hS 19 rfl (vp_in_iff.mpr ⟨by omega, by omega⟩) (va_up (va_up (va_up r 29 ((upd (r 29) d.toNatClampNeg what))) 30 ((upd (r 30) d.toNatClampNeg v131))) 31 (upd (r 31) d.toNatClampNeg r149)) (ms_31 cy mo a _ _ _ _ _) dX10_keep_152 (fun H locs hP hS => ?_)
              refine lv_aload_n hx hb dX10_keep_153 rfl (lv_at hl 1 rfl) ?_
              refine m_get (v := .ref (a 32)) hx hb hts hin hown hK hP 32 (by decide) rfl (hts (.fieldLink RX10 70 "ShadowBenchModel" "shelfFailure" "[I") (by decide +kernel)) rfl dX10_keep_154 ?_
              refine lv_iload_n hx hb dX10_keep_157 rfl (lv_at hl 2 rfl) ?_
              refine lv_aload_n hx hb dX10_keep_158 rfl (lv_at hl 1 rfl) ?_
              refine m_get (v := .ref (a 2)) hx hb hts hin hown hK hP 2 (by decide) rfl (hts (.fieldLink RX10 7 "ShadowBenchModel" "kind" "[I") (by decide +kernel)) rfl dX10_keep_159 ?_
              refine lv_iload_n hx hb dX10_keep_162 rfl (lv_at hl 4 rfl) ?_
              refine m_iald (w := (r 2)) hx hb hK hP 1 rfl (vp_in_iff.mpr ⟨by omega, by omega⟩) dX10_keep_163 ?_
              refine lv_topi (fun v163 e163 => ?_)
              have i163 : v163.toInt = ((r 2) k0.toNatClampNeg).toInt := congrArg Int32.toInt e163
              refine lv_if_ne (tgt := 172) hx hb dX10_keep_164 (by decide) (fun c164 => ?_) (fun c164 => ?_)
              · skip
                have d164 := c164
                rw [fa_eq] at d164
                refine lv_iload_n hx hb dX10_keep_172 rfl (lv_at hl 4 rfl) ?_
                refine m_iast (w := (r 32)) hx hb hK hP hD hS 20 rfl (vp_in_iff.mpr ⟨by omega, by omega⟩) (va_up (va_up (va_up (va_up r 29 ((upd (r 29) d.toNatClampNeg what))) 30 ((upd (r 30) d.toNatClampNeg v131))) 31 ((upd (r 31) d.toNatClampNeg r149))) 32 (upd (r 32) d.toNatClampNeg k0)) (ms_32 cy mo a _ _ _ _ _) dX10_keep_173 (fun H locs hP hS => ?_)
                refine lv_iconst (v := 0) hx hb dX10_keep_174 (by decide) ?_
                refine lv_istore (lv' := [(7, .int (0 : Int32)), (6, .int (1 : Int32)), (0, .ref mo), (1, .int d), (2, .int what), (3, .int k0), (4, .long p0)]) hx hb dX10_keep_175 hl (by decide) rfl (fun ls hl => ?_)
                have loop_177 : ∀ (n : Nat) (i : Nat) (s3 : Nat → Int64), (i ≤ 60 ∧ (i : Int) ≤ nv9.toInt) → (s3 = setQ (q 33) (60 * d.toNatClampNeg) (keG what p0 (r 4 k0.toNatClampNeg).toNatClampNeg (fun x9 => r 5 (44 * k0.toNatClampNeg + x9))) i) → 60 - i < n → ∀ (H : Heap) (locs : List Loc), va_P D vwCl (WM cy mo a (upd f 0 (0 : Int32)) g (va_up (va_up (va_up (va_up r 29 ((upd (r 29) d.toNatClampNeg what))) 30 ((upd (r 30) d.toNatClampNeg v131))) 31 ((upd (r 31) d.toNatClampNeg r149))) 32 ((upd (r 32) d.toNatClampNeg k0))) (va_up q 33 s3)) H → va_S (AM mo a) s.heap H locs → ∀ (ls : Array Slot), lv_has ls 8 [(7, .int (nI i)), (6, .int (1 : Int32)), (0, .ref mo), (1, .int d), (2, .int what), (3, .int k0), (4, .long p0)] → W p l e (headSpec wsX10_keep ({ frames := 3, cells := 0, slots := 0, locals := 69 })).room s m #[Value.ref mo, Value.int d, Value.int what, Value.int k0, Value.long p0] below meth c H locs 0 0 (MQ below (va_Qi (fun r0 u => ∃ (sh : Nat → Int32), ∃ (sz : Nat → Int32), ∃ (sw : Nat → Int32), ∃ (sf : Nat → Int32), ∃ (sr : Nat → Int64), u = ((upd f 0 (0 : Int32)), g, (va_up (va_up (va_up (va_up r 29 sh) 30 sz) 31 sw) 32 sf), (va_up q 33 sr)) ∧ (yesNo (okKeep (f 1) (fun j9 => (r 3 j9).toNatClampNeg) (fun j9 => (r 4 j9).toNatClampNeg) d what k0 p0) 0 (-1) r0 ∧ ((okKeep (f 1) (fun j9 => (r 3 j9).toNatClampNeg) (fun j9 => (r 4 j9).toNatClampNeg) d what k0 p0 ∧ ∃ nv, sh = upd (r 29) d.toNatClampNeg what ∧ sz = upd (r 30) d.toNatClampNeg nv ∧ (what.toInt = 3 → nv.toInt = (((r 3 k0.toNatClampNeg).toNatClampNeg * (r 4 k0.toNatClampNeg).toNatClampNeg : Nat) : Int)) ∧ (what.toInt = 4 → nv.toInt = (((r 4 k0.toNatClampNeg).toNatClampNeg + (r 3 k0.toNatClampNeg).toNatClampNeg : Nat) : Int)) ∧ sr = setQ (q 33) (60 * d.toNatClampNeg) (keG what p0 (r 4 k0.toNatClampNeg).toNatClampNeg (fun x9 => r 5 (44 * k0.toNatClampNeg + x9))) nv.toNatClampNeg ∧ nv.toNatClampNeg ≤ 60) ∨ (¬ okKeep (f 1) (fun j9 => (r 3 j9).toNatClampNeg) (fun j9 => (r 4 j9).toNatClampNeg) d what k0 p0 ∧ sh = r 29 ∧ sz = r 30 ∧ sr = q 33)) ∧ MI (upd f 0 (0 : Int32)) (va_up (va_up (va_up (va_up r 29 sh) 30 sz) 31 sw) 32 sf))) (mB D cy mo a) (AM mo a)) #[Value.ref mo, Value.int d, Value.int what, Value.int k0, Value.long p0] s 0 0 (AM mo a)) (F0 m 177 ls []) := by
                  intro n
                  induction n with
                  | zero => intro i s3 j177_0 j177_1 hn; exact absurd hn (Nat.not_lt_zero _)
                  | succ n ih_177 =>
                    intro i s3 j177_0 j177_1 hn_177 H locs hP hS ls hl
                    have ii : (nI i).toInt = (i : Int) := nI_toInt (by omega)
                    refine lv_iload hx hb dX10_keep_177 (lv_at hl 0 rfl) ?_
                    refine lv_aload_n hx hb dX10_keep_179 rfl (lv_at hl 2 rfl) ?_
                    refine m_get (v := .ref (a 30)) hx hb hts hin hown hK hP 30 (by decide) rfl (hts (.fieldLink RX10 64 "ShadowBenchModel" "shelfSize" "[I") (by decide +kernel)) rfl dX10_keep_180 ?_
                    refine lv_iload_n hx hb dX10_keep_183 rfl (lv_at hl 3 rfl) ?_
                    refine m_iald (w := ((upd (r 30) d.toNatClampNeg v131))) hx hb hK hP 18 rfl (vp_in_iff.mpr ⟨by omega, by omega⟩) dX10_keep_184 ?_
                    refine lv_topi (fun v184 e184 => ?_)
                    have i184 : v184.toInt = (((upd (r 30) d.toNatClampNeg v131)) d.toNatClampNeg).toInt := congrArg Int32.toInt e184
                    have z184 := e184
                    simp only [upd, if_true] at z184
                    have y184 := congrArg Int32.toInt z184
                    have y184 : v184 = nv9 := by rw [e184, hnv9]; simp only [upd, if_true]
                    have i184 := congrArg Int32.toInt y184
                    refine lv_icmp_ge (tgt := 272) hx hb dX10_keep_185 (by decide) (fun c185 => ?_) (fun c185 => ?_)
                    · skip
                      have d185 := c185
                      rw [fa_le] at d185
                      refine lv_iconst (v := 0) hx hb dX10_keep_272 (by decide) ?_
                      have hP := wm_eq rfl rfl (ec_r_29_30_31_32__29_30_31_32 r ((upd (r 29) d.toNatClampNeg what)) ((upd (r 30) d.toNatClampNeg v131)) ((upd (r 31) d.toNatClampNeg r149)) ((upd (r 32) d.toNatClampNeg k0))) rfl hP
                      exact W.iret (v := (0 : Int32)) hx hb hr (fun t ht hW => ⟨⟨_, ((upd f 0 (0 : Int32)), g, (va_up (va_up (va_up (va_up r 29 (((upd (r 29) d.toNatClampNeg what)))) 30 (((upd (r 30) d.toNatClampNeg v131)))) 31 (((upd (r 31) d.toNatClampNeg r149)))) 32 (((upd (r 32) d.toNatClampNeg k0)))), (va_up q 33 s3)), rfl, ⟨((upd (r 29) d.toNatClampNeg what)), ((upd (r 30) d.toNatClampNeg v131)), ((upd (r 31) d.toNatClampNeg r149)), ((upd (r 32) d.toNatClampNeg k0)), s3, rfl, ⟨(Or.inl ⟨⟨b9, (by unfold okJob; first | exact Or.inl (by omega) | exact Or.inr (Or.inl ⟨by omega, b31⟩) | (have z9 := goodP_of b64; subst e52; subst e58; exact Or.inr (Or.inr ⟨by omega, b44, z9.2⟩)))⟩, rfl⟩), (Or.inl ⟨⟨b9, (by unfold okJob; first | exact Or.inl (by omega) | exact Or.inr (Or.inl ⟨by omega, b31⟩) | (have z9 := goodP_of b64; subst e52; subst e58; exact Or.inr (Or.inr ⟨by omega, b44, z9.2⟩)))⟩, _, rfl, rfl, (fun z9 => by first | (exfalso; omega) | exact y110), (fun z9 => by first | (exfalso; omega) | exact y131), (by have c9 := m_cl (x := nv9) (by omega); rw [j177_1, ← hnv9, show i = nv9.toNatClampNeg by omega]), (by have c9 := m_cl (x := nv9) (by omega); rw [hnv9] at c9; omega)⟩), by first | exact hI | exact mi_sz (d := d) hI (v := v110) (by omega) rfl rfl rfl rfl rfl rfl rfl rfl | exact mi_sz (d := d) hI (v := v131) (by omega) rfl rfl rfl rfl rfl rfl rfl rfl | exact mi_sz (d := d) hI (v := 0) (by decide) rfl rfl rfl rfl rfl rfl rfl rfl⟩⟩, by unfold mB; rw [ht]; exact hP⟩, hS.F ht⟩) hS.2.2 dX10_keep_273
                    · skip
                      have d185 := c185
                      rw [fa_le] at d185
                      refine lv_aload_n hx hb dX10_keep_188 rfl (lv_at hl 2 rfl) ?_
                      refine m_get (v := .ref (a 33)) hx hb hts hin hown hK hP 33 (by decide) rfl (hts (.fieldLink RX10 73 "ShadowBenchModel" "shelfRow" "[J") (by decide +kernel)) rfl dX10_keep_189 ?_
                      refine lv_bipush (v := 60) hx hb dX10_keep_192 (by decide) ?_
                      refine lv_iload_n hx hb dX10_keep_194 rfl (lv_at hl 3 rfl) ?_
                      refine lv_imul hx hb dX10_keep_195 ?_
                      refine lv_topi (fun v195 e195 => ?_)
                      have i195 : v195.toInt = 60 * d.toInt := by rw [e195]; exact mulcL rfl (by omega) (by omega)
                      refine lv_iload hx hb dX10_keep_196 (lv_at hl 0 rfl) ?_
                      refine lv_iadd hx hb dX10_keep_198 ?_
                      refine lv_topi (fun v198 e198 => ?_)
                      have i198 : v198.toInt = v195.toInt + (nI i).toInt := by rw [e198]; exact fb_addI (by omega) (by omega)
                      have cd9 := m_cl (x := d) (by omega)
                      have cv9 := m_cl (x := v198) (by omega)
                      have f198 : v198.toNatClampNeg = 60 * d.toNatClampNeg + i := by omega
                      refine lv_iload_n hx hb dX10_keep_199 rfl (lv_at hl 4 rfl) ?_
                      refine lv_iconst (v := 3) hx hb dX10_keep_200 (by decide) ?_
                      refine lv_icmp_ne (tgt := 215) hx hb dX10_keep_201 (by decide) (fun c201 => ?_) (fun c201 => ?_)
                      · skip
                        have d201 := c201
                        rw [fa_eq] at d201
                        refine lv_iload hx hb dX10_keep_215 (lv_at hl 0 rfl) ?_
                        refine lv_aload_n hx hb dX10_keep_217 rfl (lv_at hl 2 rfl) ?_
                        refine m_get (v := .ref (a 4)) hx hb hts hin hown hK hP 4 (by decide) rfl (hts (.fieldLink RX10 16 "ShadowBenchModel" "high" "[I") (by decide +kernel)) rfl dX10_keep_218 ?_
                        refine lv_iload_n hx hb dX10_keep_221 rfl (lv_at hl 5 rfl) ?_
                        refine m_iald (w := (r 4)) hx hb hK hP 3 rfl (vp_in_iff.mpr ⟨by omega, by omega⟩) dX10_keep_222 ?_
                        refine lv_topi (fun v222 e222 => ?_)
                        have i222 : v222.toInt = ((r 4) k0.toNatClampNeg).toInt := congrArg Int32.toInt e222
                        have w222 := mi_h hI (x := k0) (by omega) (by omega) e222
                        refine lv_icmp_ge (tgt := 242) hx hb dX10_keep_223 (by decide) (fun c223 => ?_) (fun c223 => ?_)
                        · skip
                          have d223 := c223
                          rw [fa_le] at d223
                          refine lv_aload_n hx hb dX10_keep_242 rfl (lv_at hl 2 rfl) ?_
                          refine m_get (v := .ref (a 5)) hx hb hts hin hown hK hP 5 (by decide) rfl (hts (.fieldLink RX10 19 "ShadowBenchModel" "sums" "[I") (by decide +kernel)) rfl dX10_keep_243 ?_
                          refine lv_bipush (v := 44) hx hb dX10_keep_246 (by decide) ?_
                          refine lv_iload_n hx hb dX10_keep_248 rfl (lv_at hl 5 rfl) ?_
                          refine lv_imul hx hb dX10_keep_249 ?_
                          refine lv_topi (fun v249 e249 => ?_)
                          have i249 : v249.toInt = 44 * k0.toInt := by rw [e249]; exact mulcL rfl (by omega) (by omega)
                          refine lv_bipush (v := 11) hx hb dX10_keep_250 (by decide) ?_
                          refine lv_iadd hx hb dX10_keep_252 ?_
                          refine lv_topi (fun v252 e252 => ?_)
                          have i252 : v252.toInt = v249.toInt + (11 : Int32).toInt := by rw [e252]; exact fb_addI (by omega) (by omega)
                          refine lv_iload hx hb dX10_keep_253 (lv_at hl 0 rfl) ?_
                          refine lv_iadd hx hb dX10_keep_255 ?_
                          refine lv_topi (fun v255 e255 => ?_)
                          have i255 : v255.toInt = v252.toInt + (nI i).toInt := by rw [e255]; exact fb_addI (by omega) (by omega)
                          refine lv_aload_n hx hb dX10_keep_256 rfl (lv_at hl 2 rfl) ?_
                          refine m_get (v := .ref (a 4)) hx hb hts hin hown hK hP 4 (by decide) rfl (hts (.fieldLink RX10 16 "ShadowBenchModel" "high" "[I") (by decide +kernel)) rfl dX10_keep_257 ?_
                          refine lv_iload_n hx hb dX10_keep_260 rfl (lv_at hl 5 rfl) ?_
                          refine m_iald (w := (r 4)) hx hb hK hP 3 rfl (vp_in_iff.mpr ⟨by omega, by omega⟩) dX10_keep_261 ?_
                          refine lv_topi (fun v261 e261 => ?_)
                          have i261 : v261.toInt = ((r 4) k0.toNatClampNeg).toInt := congrArg Int32.toInt e261
                          have w261 := mi_h hI (x := k0) (by omega) (by omega) e261
                          refine lv_isub hx hb dX10_keep_262 ?_
                          refine lv_topi (fun v262 e262 => ?_)
                          have i262 : v262.toInt = v255.toInt - v261.toInt := by rw [e262]; exact fb_subI (by omega) (by omega)
                          have ck9 := m_cl (x := k0) (by omega)
                          have cv8 := m_cl (x := v262) (by omega)
                          have ch9 := m_cl (x := v222) (by omega)
                          have f262 : v262.toNatClampNeg = 44 * k0.toNatClampNeg + (11 + i - v222.toNatClampNeg) := by omega
                          rw [e222] at ch9 f262
                          refine m_iald (w := (r 5)) hx hb hK hP 4 rfl (vp_in_iff.mpr ⟨by omega, by omega⟩) dX10_keep_263 ?_
                          refine lv_topi (fun v263 e263 => ?_)
                          have i263 : v263.toInt = ((r 5) v262.toNatClampNeg).toInt := congrArg Int32.toInt e263
                          refine lv_i2l (v := v263.toInt64) hx hb dX10_keep_264 rfl ?_
                          refine m_last (w := s3) hx hb hK hP hD hS 21 rfl (vp_in_iff.mpr ⟨by omega, by omega⟩) (va_up (va_up q 33 s3) 33 (vp_updL s3 v198.toNatClampNeg v263.toInt64)) (ms_33 cy mo a _ _ _ _ _) dX10_keep_265 (fun H locs hP hS => ?_)
                          have hP := wm_eq rfl rfl rfl (es_q_33__33 q s3 (vp_updL s3 v198.toNatClampNeg v263.toInt64)) hP
                          refine lv_iinc (v := (nI (i + 1))) (lv' := [(7, .int (nI (i + 1))), (6, .int (1 : Int32)), (0, .ref mo), (1, .int d), (2, .int what), (3, .int k0), (4, .long p0)]) hx hb dX10_keep_266 hl (k := 0) rfl (nI_1 _) (by decide) rfl (fun ls hl => ?_)
                          refine lv_goto (tgt := 177) hx hb dX10_keep_269 (by decide) ?_
                          have hP := wm_eq rfl rfl (ec_r_29_30_31_32__29_30_31_32 r ((upd (r 29) d.toNatClampNeg what)) ((upd (r 30) d.toNatClampNeg v131)) ((upd (r 31) d.toNatClampNeg r149)) ((upd (r 32) d.toNatClampNeg k0))) rfl hP
                          exact ih_177 (i + 1) (vp_updL s3 v198.toNatClampNeg v263.toInt64) (by omega) (by rw [j177_1, f198]; exact setQ_v (by first | (rw [keG_3 (by omega)]; exact one_bI (by omega) q208) | (rw [keG_4 (by omega) (by omega), e237, f236]; done) | (rw [keG_5 (by omega) (by omega), e263, f262]; done) | (exfalso; omega))) (by omega) _ _ hP hS ls (lv_sub hl [0, 1, 2, 3, 4, 5, 6] rfl)
                        · skip
                          have d223 := c223
                          rw [fa_le] at d223
                          refine lv_aload_n hx hb dX10_keep_226 rfl (lv_at hl 2 rfl) ?_
                          refine m_get (v := .ref (a 5)) hx hb hts hin hown hK hP 5 (by decide) rfl (hts (.fieldLink RX10 19 "ShadowBenchModel" "sums" "[I") (by decide +kernel)) rfl dX10_keep_227 ?_
                          refine lv_bipush (v := 44) hx hb dX10_keep_230 (by decide) ?_
                          refine lv_iload_n hx hb dX10_keep_232 rfl (lv_at hl 5 rfl) ?_
                          refine lv_imul hx hb dX10_keep_233 ?_
                          refine lv_topi (fun v233 e233 => ?_)
                          have i233 : v233.toInt = 44 * k0.toInt := by rw [e233]; exact mulcL rfl (by omega) (by omega)
                          refine lv_iload hx hb dX10_keep_234 (lv_at hl 0 rfl) ?_
                          refine lv_iadd hx hb dX10_keep_236 ?_
                          refine lv_topi (fun v236 e236 => ?_)
                          have i236 : v236.toInt = v233.toInt + (nI i).toInt := by rw [e236]; exact fb_addI (by omega) (by omega)
                          have ck9 := m_cl (x := k0) (by omega)
                          have cv8 := m_cl (x := v236) (by omega)
                          have f236 : v236.toNatClampNeg = 44 * k0.toNatClampNeg + i := by omega
                          have ch9 := m_cl (x := v222) (by omega)
                          rw [e222] at ch9
                          refine m_iald (w := (r 5)) hx hb hK hP 4 rfl (vp_in_iff.mpr ⟨by omega, by omega⟩) dX10_keep_237 ?_
                          refine lv_topi (fun v237 e237 => ?_)
                          have i237 : v237.toInt = ((r 5) v236.toNatClampNeg).toInt := congrArg Int32.toInt e237
                          refine lv_i2l (v := v237.toInt64) hx hb dX10_keep_238 rfl ?_
                          refine lv_goto (tgt := 265) hx hb dX10_keep_239 (by decide) ?_
                          refine m_last (w := s3) hx hb hK hP hD hS 21 rfl (vp_in_iff.mpr ⟨by omega, by omega⟩) (va_up (va_up q 33 s3) 33 (vp_updL s3 v198.toNatClampNeg v237.toInt64)) (ms_33 cy mo a _ _ _ _ _) dX10_keep_265 (fun H locs hP hS => ?_)
                          have hP := wm_eq rfl rfl rfl (es_q_33__33 q s3 (vp_updL s3 v198.toNatClampNeg v237.toInt64)) hP
                          refine lv_iinc (v := (nI (i + 1))) (lv' := [(7, .int (nI (i + 1))), (6, .int (1 : Int32)), (0, .ref mo), (1, .int d), (2, .int what), (3, .int k0), (4, .long p0)]) hx hb dX10_keep_266 hl (k := 0) rfl (nI_1 _) (by decide) rfl (fun ls hl => ?_)
                          refine lv_goto (tgt := 177) hx hb dX10_keep_269 (by decide) ?_
                          have hP := wm_eq rfl rfl (ec_r_29_30_31_32__29_30_31_32 r ((upd (r 29) d.toNatClampNeg what)) ((upd (r 30) d.toNatClampNeg v131)) ((upd (r 31) d.toNatClampNeg r149)) ((upd (r 32) d.toNatClampNeg k0))) rfl hP
                          exact ih_177 (i + 1) (vp_updL s3 v198.toNatClampNeg v237.toInt64) (by omega) (by rw [j177_1, f198]; exact setQ_v (by first | (rw [keG_3 (by omega)]; exact one_bI (by omega) q208) | (rw [keG_4 (by omega) (by omega), e237, f236]; done) | (rw [keG_5 (by omega) (by omega), e263, f262]; done) | (exfalso; omega))) (by omega) _ _ hP hS ls (lv_sub hl [0, 1, 2, 3, 4, 5, 6] rfl)
                      · first | exact absurd c201 c95 | exact absurd c95 c201
                have hP := wm_eq rfl rfl (ec_r_29_30_31_32__29_30_31_32 r ((upd (r 29) d.toNatClampNeg what)) ((upd (r 30) d.toNatClampNeg v131)) ((upd (r 31) d.toNatClampNeg r149)) ((upd (r 32) d.toNatClampNeg k0))) (ec_q___33 q ) hP
                exact loop_177 (60 + 1) 0 (q 33) (by omega) ((setQ_0 _ _ _).symm) (by omega) _ _ hP hS ls (lv_sub hl [0, 1, 2, 3, 4, 5, 6] rfl)
              · skip
                have d164 := c164
                rw [fa_eq] at d164
                refine lv_bipush (v := (-15)) hx hb dX10_keep_167 (by decide) ?_
                refine lv_goto (tgt := 173) hx hb dX10_keep_169 (by decide) ?_
                refine m_iast (w := (r 32)) hx hb hK hP hD hS 20 rfl (vp_in_iff.mpr ⟨by omega, by omega⟩) (va_up (va_up (va_up (va_up r 29 ((upd (r 29) d.toNatClampNeg what))) 30 ((upd (r 30) d.toNatClampNeg v131))) 31 ((upd (r 31) d.toNatClampNeg r149))) 32 (upd (r 32) d.toNatClampNeg (((-15) : Int32)))) (ms_32 cy mo a _ _ _ _ _) dX10_keep_173 (fun H locs hP hS => ?_)
                refine lv_iconst (v := 0) hx hb dX10_keep_174 (by decide) ?_
                refine lv_istore (lv' := [(7, .int (0 : Int32)), (6, .int (1 : Int32)), (0, .ref mo), (1, .int d), (2, .int what), (3, .int k0), (4, .long p0)]) hx hb dX10_keep_175 hl (by decide) rfl (fun ls hl => ?_)
                have loop_177 : ∀ (n : Nat) (i : Nat) (s3 : Nat → Int64), (i ≤ 60 ∧ (i : Int) ≤ nv9.toInt) → (s3 = setQ (q 33) (60 * d.toNatClampNeg) (keG what p0 (r 4 k0.toNatClampNeg).toNatClampNeg (fun x9 => r 5 (44 * k0.toNatClampNeg + x9))) i) → 60 - i < n → ∀ (H : Heap) (locs : List Loc), va_P D vwCl (WM cy mo a (upd f 0 (0 : Int32)) g (va_up (va_up (va_up (va_up r 29 ((upd (r 29) d.toNatClampNeg what))) 30 ((upd (r 30) d.toNatClampNeg v131))) 31 ((upd (r 31) d.toNatClampNeg r149))) 32 ((upd (r 32) d.toNatClampNeg (((-15) : Int32))))) (va_up q 33 s3)) H → va_S (AM mo a) s.heap H locs → ∀ (ls : Array Slot), lv_has ls 8 [(7, .int (nI i)), (6, .int (1 : Int32)), (0, .ref mo), (1, .int d), (2, .int what), (3, .int k0), (4, .long p0)] → W p l e (headSpec wsX10_keep ({ frames := 3, cells := 0, slots := 0, locals := 69 })).room s m #[Value.ref mo, Value.int d, Value.int what, Value.int k0, Value.long p0] below meth c H locs 0 0 (MQ below (va_Qi (fun r0 u => ∃ (sh : Nat → Int32), ∃ (sz : Nat → Int32), ∃ (sw : Nat → Int32), ∃ (sf : Nat → Int32), ∃ (sr : Nat → Int64), u = ((upd f 0 (0 : Int32)), g, (va_up (va_up (va_up (va_up r 29 sh) 30 sz) 31 sw) 32 sf), (va_up q 33 sr)) ∧ (yesNo (okKeep (f 1) (fun j9 => (r 3 j9).toNatClampNeg) (fun j9 => (r 4 j9).toNatClampNeg) d what k0 p0) 0 (-1) r0 ∧ ((okKeep (f 1) (fun j9 => (r 3 j9).toNatClampNeg) (fun j9 => (r 4 j9).toNatClampNeg) d what k0 p0 ∧ ∃ nv, sh = upd (r 29) d.toNatClampNeg what ∧ sz = upd (r 30) d.toNatClampNeg nv ∧ (what.toInt = 3 → nv.toInt = (((r 3 k0.toNatClampNeg).toNatClampNeg * (r 4 k0.toNatClampNeg).toNatClampNeg : Nat) : Int)) ∧ (what.toInt = 4 → nv.toInt = (((r 4 k0.toNatClampNeg).toNatClampNeg + (r 3 k0.toNatClampNeg).toNatClampNeg : Nat) : Int)) ∧ sr = setQ (q 33) (60 * d.toNatClampNeg) (keG what p0 (r 4 k0.toNatClampNeg).toNatClampNeg (fun x9 => r 5 (44 * k0.toNatClampNeg + x9))) nv.toNatClampNeg ∧ nv.toNatClampNeg ≤ 60) ∨ (¬ okKeep (f 1) (fun j9 => (r 3 j9).toNatClampNeg) (fun j9 => (r 4 j9).toNatClampNeg) d what k0 p0 ∧ sh = r 29 ∧ sz = r 30 ∧ sr = q 33)) ∧ MI (upd f 0 (0 : Int32)) (va_up (va_up (va_up (va_up r 29 sh) 30 sz) 31 sw) 32 sf))) (mB D cy mo a) (AM mo a)) #[Value.ref mo, Value.int d, Value.int what, Value.int k0, Value.long p0] s 0 0 (AM mo a)) (F0 m 177 ls []) := by
                  intro n
                  induction n with
                  | zero => intro i s3 j177_0 j177_1 hn; exact absurd hn (Nat.not_lt_zero _)
                  | succ n ih_177 =>
                    intro i s3 j177_0 j177_1 hn_177 H locs hP hS ls hl
                    have ii : (nI i).toInt = (i : Int) := nI_toInt (by omega)
                    refine lv_iload hx hb dX10_keep_177 (lv_at hl 0 rfl) ?_
                    refine lv_aload_n hx hb dX10_keep_179 rfl (lv_at hl 2 rfl) ?_
                    refine m_get (v := .ref (a 30)) hx hb hts hin hown hK hP 30 (by decide) rfl (hts (.fieldLink RX10 64 "ShadowBenchModel" "shelfSize" "[I") (by decide +kernel)) rfl dX10_keep_180 ?_
                    refine lv_iload_n hx hb dX10_keep_183 rfl (lv_at hl 3 rfl) ?_
                    refine m_iald (w := ((upd (r 30) d.toNatClampNeg v131))) hx hb hK hP 18 rfl (vp_in_iff.mpr ⟨by omega, by omega⟩) dX10_keep_184 ?_
                    refine lv_topi (fun v184 e184 => ?_)
                    have i184 : v184.toInt = (((upd (r 30) d.toNatClampNeg v131)) d.toNatClampNeg).toInt := congrArg Int32.toInt e184
                    have z184 := e184
                    simp only [upd, if_true] at z184
                    have y184 := congrArg Int32.toInt z184
                    have y184 : v184 = nv9 := by rw [e184, hnv9]; simp only [upd, if_true]
                    have i184 := congrArg Int32.toInt y184
                    refine lv_icmp_ge (tgt := 272) hx hb dX10_keep_185 (by decide) (fun c185 => ?_) (fun c185 => ?_)
                    · skip
                      have d185 := c185
                      rw [fa_le] at d185
                      refine lv_iconst (v := 0) hx hb dX10_keep_272 (by decide) ?_
                      have hP := wm_eq rfl rfl (ec_r_29_30_31_32__29_30_31_32 r ((upd (r 29) d.toNatClampNeg what)) ((upd (r 30) d.toNatClampNeg v131)) ((upd (r 31) d.toNatClampNeg r149)) ((upd (r 32) d.toNatClampNeg (((-15) : Int32))))) rfl hP
                      exact W.iret (v := (0 : Int32)) hx hb hr (fun t ht hW => ⟨⟨_, ((upd f 0 (0 : Int32)), g, (va_up (va_up (va_up (va_up r 29 (((upd (r 29) d.toNatClampNeg what)))) 30 (((upd (r 30) d.toNatClampNeg v131)))) 31 (((upd (r 31) d.toNatClampNeg r149)))) 32 (((upd (r 32) d.toNatClampNeg (((-15) : Int32)))))), (va_up q 33 s3)), rfl, ⟨((upd (r 29) d.toNatClampNeg what)), ((upd (r 30) d.toNatClampNeg v131)), ((upd (r 31) d.toNatClampNeg r149)), ((upd (r 32) d.toNatClampNeg (((-15) : Int32)))), s3, rfl, ⟨(Or.inl ⟨⟨b9, (by unfold okJob; first | exact Or.inl (by omega) | exact Or.inr (Or.inl ⟨by omega, b31⟩) | (have z9 := goodP_of b64; subst e52; subst e58; exact Or.inr (Or.inr ⟨by omega, b44, z9.2⟩)))⟩, rfl⟩), (Or.inl ⟨⟨b9, (by unfold okJob; first | exact Or.inl (by omega) | exact Or.inr (Or.inl ⟨by omega, b31⟩) | (have z9 := goodP_of b64; subst e52; subst e58; exact Or.inr (Or.inr ⟨by omega, b44, z9.2⟩)))⟩, _, rfl, rfl, (fun z9 => by first | (exfalso; omega) | exact y110), (fun z9 => by first | (exfalso; omega) | exact y131), (by have c9 := m_cl (x := nv9) (by omega); rw [j177_1, ← hnv9, show i = nv9.toNatClampNeg by omega]), (by have c9 := m_cl (x := nv9) (by omega); rw [hnv9] at c9; omega)⟩), by first | exact hI | exact mi_sz (d := d) hI (v := v110) (by omega) rfl rfl rfl rfl rfl rfl rfl rfl | exact mi_sz (d := d) hI (v := v131) (by omega) rfl rfl rfl rfl rfl rfl rfl rfl | exact mi_sz (d := d) hI (v := 0) (by decide) rfl rfl rfl rfl rfl rfl rfl rfl⟩⟩, by unfold mB; rw [ht]; exact hP⟩, hS.F ht⟩) hS.2.2 dX10_keep_273
                    · skip
                      have d185 := c185
                      rw [fa_le] at d185
                      refine lv_aload_n hx hb dX10_keep_188 rfl (lv_at hl 2 rfl) ?_
                      refine m_get (v := .ref (a 33)) hx hb hts hin hown hK hP 33 (by decide) rfl (hts (.fieldLink RX10 73 "ShadowBenchModel" "shelfRow" "[J") (by decide +kernel)) rfl dX10_keep_189 ?_
                      refine lv_bipush (v := 60) hx hb dX10_keep_192 (by decide) ?_
                      refine lv_iload_n hx hb dX10_keep_194 rfl (lv_at hl 3 rfl) ?_
                      refine lv_imul hx hb dX10_keep_195 ?_
                      refine lv_topi (fun v195 e195 => ?_)
                      have i195 : v195.toInt = 60 * d.toInt := by rw [e195]; exact mulcL rfl (by omega) (by omega)
                      refine lv_iload hx hb dX10_keep_196 (lv_at hl 0 rfl) ?_
                      refine lv_iadd hx hb dX10_keep_198 ?_
                      refine lv_topi (fun v198 e198 => ?_)
                      have i198 : v198.toInt = v195.toInt + (nI i).toInt := by rw [e198]; exact fb_addI (by omega) (by omega)
                      have cd9 := m_cl (x := d) (by omega)
                      have cv9 := m_cl (x := v198) (by omega)
                      have f198 : v198.toNatClampNeg = 60 * d.toNatClampNeg + i := by omega
                      refine lv_iload_n hx hb dX10_keep_199 rfl (lv_at hl 4 rfl) ?_
                      refine lv_iconst (v := 3) hx hb dX10_keep_200 (by decide) ?_
                      refine lv_icmp_ne (tgt := 215) hx hb dX10_keep_201 (by decide) (fun c201 => ?_) (fun c201 => ?_)
                      · skip
                        have d201 := c201
                        rw [fa_eq] at d201
                        refine lv_iload hx hb dX10_keep_215 (lv_at hl 0 rfl) ?_
                        refine lv_aload_n hx hb dX10_keep_217 rfl (lv_at hl 2 rfl) ?_
                        refine m_get (v := .ref (a 4)) hx hb hts hin hown hK hP 4 (by decide) rfl (hts (.fieldLink RX10 16 "ShadowBenchModel" "high" "[I") (by decide +kernel)) rfl dX10_keep_218 ?_
                        refine lv_iload_n hx hb dX10_keep_221 rfl (lv_at hl 5 rfl) ?_
                        refine m_iald (w := (r 4)) hx hb hK hP 3 rfl (vp_in_iff.mpr ⟨by omega, by omega⟩) dX10_keep_222 ?_
                        refine lv_topi (fun v222 e222 => ?_)
                        have i222 : v222.toInt = ((r 4) k0.toNatClampNeg).toInt := congrArg Int32.toInt e222
                        have w222 := mi_h hI (x := k0) (by omega) (by omega) e222
                        refine lv_icmp_ge (tgt := 242) hx hb dX10_keep_223 (by decide) (fun c223 => ?_) (fun c223 => ?_)
                        · skip
                          have d223 := c223
                          rw [fa_le] at d223
                          refine lv_aload_n hx hb dX10_keep_242 rfl (lv_at hl 2 rfl) ?_
                          refine m_get (v := .ref (a 5)) hx hb hts hin hown hK hP 5 (by decide) rfl (hts (.fieldLink RX10 19 "ShadowBenchModel" "sums" "[I") (by decide +kernel)) rfl dX10_keep_243 ?_
                          refine lv_bipush (v := 44) hx hb dX10_keep_246 (by decide) ?_
                          refine lv_iload_n hx hb dX10_keep_248 rfl (lv_at hl 5 rfl) ?_
                          refine lv_imul hx hb dX10_keep_249 ?_
                          refine lv_topi (fun v249 e249 => ?_)
                          have i249 : v249.toInt = 44 * k0.toInt := by rw [e249]; exact mulcL rfl (by omega) (by omega)
                          refine lv_bipush (v := 11) hx hb dX10_keep_250 (by decide) ?_
                          refine lv_iadd hx hb dX10_keep_252 ?_
                          refine lv_topi (fun v252 e252 => ?_)
                          have i252 : v252.toInt = v249.toInt + (11 : Int32).toInt := by rw [e252]; exact fb_addI (by omega) (by omega)
                          refine lv_iload hx hb dX10_keep_253 (lv_at hl 0 rfl) ?_
                          refine lv_iadd hx hb dX10_keep_255 ?_
                          refine lv_topi (fun v255 e255 => ?_)
                          have i255 : v255.toInt = v252.toInt + (nI i).toInt := by rw [e255]; exact fb_addI (by omega) (by omega)
                          refine lv_aload_n hx hb dX10_keep_256 rfl (lv_at hl 2 rfl) ?_
                          refine m_get (v := .ref (a 4)) hx hb hts hin hown hK hP 4 (by decide) rfl (hts (.fieldLink RX10 16 "ShadowBenchModel" "high" "[I") (by decide +kernel)) rfl dX10_keep_257 ?_
                          refine lv_iload_n hx hb dX10_keep_260 rfl (lv_at hl 5 rfl) ?_
                          refine m_iald (w := (r 4)) hx hb hK hP 3 rfl (vp_in_iff.mpr ⟨by omega, by omega⟩) dX10_keep_261 ?_
                          refine lv_topi (fun v261 e261 => ?_)
                          have i261 : v261.toInt = ((r 4) k0.toNatClampNeg).toInt := congrArg Int32.toInt e261
                          have w261 := mi_h hI (x := k0) (by omega) (by omega) e261
                          refine lv_isub hx hb dX10_keep_262 ?_
                          refine lv_topi (fun v262 e262 => ?_)
                          have i262 : v262.toInt = v255.toInt - v261.toInt := by rw [e262]; exact fb_subI (by omega) (by omega)
                          have ck9 := m_cl (x := k0) (by omega)
                          have cv8 := m_cl (x := v262) (by omega)
                          have ch9 := m_cl (x := v222) (by omega)
                          have f262 : v262.toNatClampNeg = 44 * k0.toNatClampNeg + (11 + i - v222.toNatClampNeg) := by omega
                          rw [e222] at ch9 f262
                          refine m_iald (w := (r 5)) hx hb hK hP 4 rfl (vp_in_iff.mpr ⟨by omega, by omega⟩) dX10_keep_263 ?_
                          refine lv_topi (fun v263 e263 => ?_)
                          have i263 : v263.toInt = ((r 5) v262.toNatClampNeg).toInt := congrArg Int32.toInt e263
                          refine lv_i2l (v := v263.toInt64) hx hb dX10_keep_264 rfl ?_
                          refine m_last (w := s3) hx hb hK hP hD hS 21 rfl (vp_in_iff.mpr ⟨by omega, by omega⟩) (va_up (va_up q 33 s3) 33 (vp_updL s3 v198.toNatClampNeg v263.toInt64)) (ms_33 cy mo a _ _ _ _ _) dX10_keep_265 (fun H locs hP hS => ?_)
                          have hP := wm_eq rfl rfl rfl (es_q_33__33 q s3 (vp_updL s3 v198.toNatClampNeg v263.toInt64)) hP
                          refine lv_iinc (v := (nI (i + 1))) (lv' := [(7, .int (nI (i + 1))), (6, .int (1 : Int32)), (0, .ref mo), (1, .int d), (2, .int what), (3, .int k0), (4, .long p0)]) hx hb dX10_keep_266 hl (k := 0) rfl (nI_1 _) (by decide) rfl (fun ls hl => ?_)
                          refine lv_goto (tgt := 177) hx hb dX10_keep_269 (by decide) ?_
                          have hP := wm_eq rfl rfl (ec_r_29_30_31_32__29_30_31_32 r ((upd (r 29) d.toNatClampNeg what)) ((upd (r 30) d.toNatClampNeg v131)) ((upd (r 31) d.toNatClampNeg r149)) ((upd (r 32) d.toNatClampNeg (((-15) : Int32))))) rfl hP
                          exact ih_177 (i + 1) (vp_updL s3 v198.toNatClampNeg v263.toInt64) (by omega) (by rw [j177_1, f198]; exact setQ_v (by first | (rw [keG_3 (by omega)]; exact one_bI (by omega) q208) | (rw [keG_4 (by omega) (by omega), e237, f236]; done) | (rw [keG_5 (by omega) (by omega), e263, f262]; done) | (exfalso; omega))) (by omega) _ _ hP hS ls (lv_sub hl [0, 1, 2, 3, 4, 5, 6] rfl)
                        · skip
                          have d223 := c223
                          rw [fa_le] at d223
                          refine lv_aload_n hx hb dX10_keep_226 rfl (lv_at hl 2 rfl) ?_
                          refine m_get (v := .ref (a 5)) hx hb hts hin hown hK hP 5 (by decide) rfl (hts (.fieldLink RX10 19 "ShadowBenchModel" "sums" "[I") (by decide +kernel)) rfl dX10_keep_227 ?_
                          refine lv_bipush (v := 44) hx hb dX10_keep_230 (by decide) ?_
                          refine lv_iload_n hx hb dX10_keep_232 rfl (lv_at hl 5 rfl) ?_
                          refine lv_imul hx hb dX10_keep_233 ?_
                          refine lv_topi (fun v233 e233 => ?_)
                          have i233 : v233.toInt = 44 * k0.toInt := by rw [e233]; exact mulcL rfl (by omega) (by omega)
                          refine lv_iload hx hb dX10_keep_234 (lv_at hl 0 rfl) ?_
                          refine lv_iadd hx hb dX10_keep_236 ?_
                          refine lv_topi (fun v236 e236 => ?_)
                          have i236 : v236.toInt = v233.toInt + (nI i).toInt := by rw [e236]; exact fb_addI (by omega) (by omega)
                          have ck9 := m_cl (x := k0) (by omega)
                          have cv8 := m_cl (x := v236) (by omega)
                          have f236 : v236.toNatClampNeg = 44 * k0.toNatClampNeg + i := by omega
                          have ch9 := m_cl (x := v222) (by omega)
                          rw [e222] at ch9
                          refine m_iald (w := (r 5)) hx hb hK hP 4 rfl (vp_in_iff.mpr ⟨by omega, by omega⟩) dX10_keep_237 ?_
                          refine lv_topi (fun v237 e237 => ?_)
                          have i237 : v237.toInt = ((r 5) v236.toNatClampNeg).toInt := congrArg Int32.toInt e237
                          refine lv_i2l (v := v237.toInt64) hx hb dX10_keep_238 rfl ?_
                          refine lv_goto (tgt := 265) hx hb dX10_keep_239 (by decide) ?_
                          refine m_last (w := s3) hx hb hK hP hD hS 21 rfl (vp_in_iff.mpr ⟨by omega, by omega⟩) (va_up (va_up q 33 s3) 33 (vp_updL s3 v198.toNatClampNeg v237.toInt64)) (ms_33 cy mo a _ _ _ _ _) dX10_keep_265 (fun H locs hP hS => ?_)
                          have hP := wm_eq rfl rfl rfl (es_q_33__33 q s3 (vp_updL s3 v198.toNatClampNeg v237.toInt64)) hP
                          refine lv_iinc (v := (nI (i + 1))) (lv' := [(7, .int (nI (i + 1))), (6, .int (1 : Int32)), (0, .ref mo), (1, .int d), (2, .int what), (3, .int k0), (4, .long p0)]) hx hb dX10_keep_266 hl (k := 0) rfl (nI_1 _) (by decide) rfl (fun ls hl => ?_)
                          refine lv_goto (tgt := 177) hx hb dX10_keep_269 (by decide) ?_
                          have hP := wm_eq rfl rfl (ec_r_29_30_31_32__29_30_31_32 r ((upd (r 29) d.toNatClampNeg what)) ((upd (r 30) d.toNatClampNeg v131)) ((upd (r 31) d.toNatClampNeg r149)) ((upd (r 32) d.toNatClampNeg (((-15) : Int32))))) rfl hP
                          exact ih_177 (i + 1) (vp_updL s3 v198.toNatClampNeg v237.toInt64) (by omega) (by rw [j177_1, f198]; exact setQ_v (by first | (rw [keG_3 (by omega)]; exact one_bI (by omega) q208) | (rw [keG_4 (by omega) (by omega), e237, f236]; done) | (rw [keG_5 (by omega) (by omega), e263, f262]; done) | (exfalso; omega))) (by omega) _ _ hP hS ls (lv_sub hl [0, 1, 2, 3, 4, 5, 6] rfl)
                      · first | exact absurd c201 c95 | exact absurd c95 c201
                have hP := wm_eq rfl rfl (ec_r_29_30_31_32__29_30_31_32 r ((upd (r 29) d.toNatClampNeg what)) ((upd (r 30) d.toNatClampNeg v131)) ((upd (r 31) d.toNatClampNeg r149)) ((upd (r 32) d.toNatClampNeg (((-15) : Int32))))) (ec_q___33 q ) hP
                exact loop_177 (60 + 1) 0 (q 33) (by omega) ((setQ_0 _ _ _).symm) (by omega) _ _ hP hS ls (lv_sub hl [0, 1, 2, 3, 4, 5, 6] rfl)
        · skip
          have d95 := c95
          rw [fa_eq] at d95
          refine lv_aload_n hx hb dX10_keep_98 rfl (lv_at hl 1 rfl) ?_
          refine m_get (v := .ref (a 3)) hx hb hts hin hown hK hP 3 (by decide) rfl (hts (.fieldLink RX10 13 "ShadowBenchModel" "wide" "[I") (by decide +kernel)) rfl dX10_keep_99 ?_
          refine lv_iload_n hx hb dX10_keep_102 rfl (lv_at hl 4 rfl) ?_
          refine m_iald (w := (r 3)) hx hb hK hP 2 rfl (vp_in_iff.mpr ⟨by omega, by omega⟩) dX10_keep_103 ?_
          refine lv_topi (fun v103 e103 => ?_)
          have i103 : v103.toInt = ((r 3) k0.toNatClampNeg).toInt := congrArg Int32.toInt e103
          have w103 := mi_w hI (x := k0) (by omega) (by omega) e103
          refine lv_aload_n hx hb dX10_keep_104 rfl (lv_at hl 1 rfl) ?_
          refine m_get (v := .ref (a 4)) hx hb hts hin hown hK hP 4 (by decide) rfl (hts (.fieldLink RX10 16 "ShadowBenchModel" "high" "[I") (by decide +kernel)) rfl dX10_keep_105 ?_
          refine lv_iload_n hx hb dX10_keep_108 rfl (lv_at hl 4 rfl) ?_
          refine m_iald (w := (r 4)) hx hb hK hP 3 rfl (vp_in_iff.mpr ⟨by omega, by omega⟩) dX10_keep_109 ?_
          refine lv_topi (fun v109 e109 => ?_)
          have i109 : v109.toInt = ((r 4) k0.toNatClampNeg).toInt := congrArg Int32.toInt e109
          have w109 := mi_h hI (x := k0) (by omega) (by omega) e109
          have m110 := mul66 w103 w109
          refine lv_imul hx hb dX10_keep_110 ?_
          refine lv_topi (fun v110 e110 => ?_)
          have i110 : v110.toInt = v103.toInt * v109.toInt := by rw [e110]; exact fb_mulI (by omega) (by omega)
          have y110 : v110.toInt = (((r 3 k0.toNatClampNeg).toNatClampNeg * (r 4 k0.toNatClampNeg).toNatClampNeg : Nat) : Int) := by rw [sq_eq hI (j := k0) (by omega) (by omega), i110, e103, e109]
          obtain ⟨nv9, hnv9⟩ : ∃ z9, z9 = v110 := ⟨_, rfl⟩
          have n184 := congrArg Int32.toInt hnv9
          refine lv_goto (tgt := 136) hx hb dX10_keep_111 (by decide) ?_
          refine m_iast (w := (r 30)) hx hb hK hP hD hS 18 rfl (vp_in_iff.mpr ⟨by omega, by omega⟩) (va_up (va_up r 29 ((upd (r 29) d.toNatClampNeg what))) 30 (upd (r 30) d.toNatClampNeg v110)) (ms_30 cy mo a _ _ _ _ _) dX10_keep_136 (fun H locs hP hS => ?_)
          refine lv_iload_n hx hb dX10_keep_137 rfl (lv_at hl 3 rfl) ?_
          refine lv_iconst (v := 1) hx hb dX10_keep_138 (by decide) ?_
          refine lv_icmp_ne (tgt := 174) hx hb dX10_keep_139 (by decide) (fun c139 => ?_) (fun c139 => ?_)
          · skip
            have d139 := c139
            rw [fa_eq] at d139
            refine lv_iconst (v := 0) hx hb dX10_keep_174 (by decide) ?_
            refine lv_istore (lv' := [(7, .int (0 : Int32)), (6, .int (1 : Int32)), (0, .ref mo), (1, .int d), (2, .int what), (3, .int k0), (4, .long p0)]) hx hb dX10_keep_175 hl (by decide) rfl (fun ls hl => ?_)
            have loop_177 : ∀ (n : Nat) (i : Nat) (s3 : Nat → Int64), (i ≤ 60 ∧ (i : Int) ≤ nv9.toInt) → (s3 = setQ (q 33) (60 * d.toNatClampNeg) (keG what p0 (r 4 k0.toNatClampNeg).toNatClampNeg (fun x9 => r 5 (44 * k0.toNatClampNeg + x9))) i) → 60 - i < n → ∀ (H : Heap) (locs : List Loc), va_P D vwCl (WM cy mo a (upd f 0 (0 : Int32)) g (va_up (va_up r 29 ((upd (r 29) d.toNatClampNeg what))) 30 ((upd (r 30) d.toNatClampNeg v110))) (va_up q 33 s3)) H → va_S (AM mo a) s.heap H locs → ∀ (ls : Array Slot), lv_has ls 8 [(7, .int (nI i)), (6, .int (1 : Int32)), (0, .ref mo), (1, .int d), (2, .int what), (3, .int k0), (4, .long p0)] → W p l e (headSpec wsX10_keep ({ frames := 3, cells := 0, slots := 0, locals := 69 })).room s m #[Value.ref mo, Value.int d, Value.int what, Value.int k0, Value.long p0] below meth c H locs 0 0 (MQ below (va_Qi (fun r0 u => ∃ (sh : Nat → Int32), ∃ (sz : Nat → Int32), ∃ (sw : Nat → Int32), ∃ (sf : Nat → Int32), ∃ (sr : Nat → Int64), u = ((upd f 0 (0 : Int32)), g, (va_up (va_up (va_up (va_up r 29 sh) 30 sz) 31 sw) 32 sf), (va_up q 33 sr)) ∧ (yesNo (okKeep (f 1) (fun j9 => (r 3 j9).toNatClampNeg) (fun j9 => (r 4 j9).toNatClampNeg) d what k0 p0) 0 (-1) r0 ∧ ((okKeep (f 1) (fun j9 => (r 3 j9).toNatClampNeg) (fun j9 => (r 4 j9).toNatClampNeg) d what k0 p0 ∧ ∃ nv, sh = upd (r 29) d.toNatClampNeg what ∧ sz = upd (r 30) d.toNatClampNeg nv ∧ (what.toInt = 3 → nv.toInt = (((r 3 k0.toNatClampNeg).toNatClampNeg * (r 4 k0.toNatClampNeg).toNatClampNeg : Nat) : Int)) ∧ (what.toInt = 4 → nv.toInt = (((r 4 k0.toNatClampNeg).toNatClampNeg + (r 3 k0.toNatClampNeg).toNatClampNeg : Nat) : Int)) ∧ sr = setQ (q 33) (60 * d.toNatClampNeg) (keG what p0 (r 4 k0.toNatClampNeg).toNatClampNeg (fun x9 => r 5 (44 * k0.toNatClampNeg + x9))) nv.toNatClampNeg ∧ nv.toNatClampNeg ≤ 60) ∨ (¬ okKeep (f 1) (fun j9 => (r 3 j9).toNatClampNeg) (fun j9 => (r 4 j9).toNatClampNeg) d what k0 p0 ∧ sh = r 29 ∧ sz = r 30 ∧ sr = q 33)) ∧ MI (upd f 0 (0 : Int32)) (va_up (va_up (va_up (va_up r 29 sh) 30 sz) 31 sw) 32 sf))) (mB D cy mo a) (AM mo a)) #[Value.ref mo, Value.int d, Value.int what, Value.int k0, Value.long p0] s 0 0 (AM mo a)) (F0 m 177 ls []) := by
              intro n
              induction n with
              | zero => intro i s3 j177_0 j177_1 hn; exact absurd hn (Nat.not_lt_zero _)
              | succ n ih_177 =>
                intro i s3 j177_0 j177_1 hn_177 H locs hP hS ls hl
                have ii : (nI i).toInt = (i : Int) := nI_toInt (by omega)
                refine lv_iload hx hb dX10_keep_177 (lv_at hl 0 rfl) ?_
                refine lv_aload_n hx hb dX10_keep_179 rfl (lv_at hl 2 rfl) ?_
                refine m_get (v := .ref (a 30)) hx hb hts hin hown hK hP 30 (by decide) rfl (hts (.fieldLink RX10 64 "ShadowBenchModel" "shelfSize" "[I") (by decide +kernel)) rfl dX10_keep_180 ?_
                refine lv_iload_n hx hb dX10_keep_183 rfl (lv_at hl 3 rfl) ?_
                refine m_iald (w := ((upd (r 30) d.toNatClampNeg v110))) hx hb hK hP 18 rfl (vp_in_iff.mpr ⟨by omega, by omega⟩) dX10_keep_184 ?_
                refine lv_topi (fun v184 e184 => ?_)
                have i184 : v184.toInt = (((upd (r 30) d.toNatClampNeg v110)) d.toNatClampNeg).toInt := congrArg Int32.toInt e184
                have z184 := e184
                simp only [upd, if_true] at z184
                have y184 := congrArg Int32.toInt z184
                have y184 : v184 = nv9 := by rw [e184, hnv9]; simp only [upd, if_true]
                have i184 := congrArg Int32.toInt y184
                refine lv_icmp_ge (tgt := 272) hx hb dX10_keep_185 (by decide) (fun c185 => ?_) (fun c185 => ?_)
                · skip
                  have d185 := c185
                  rw [fa_le] at d185
                  refine lv_iconst (v := 0) hx hb dX10_keep_272 (by decide) ?_
                  have hP := wm_eq rfl rfl (ec_r_29_30__29_30_31_32 r ((upd (r 29) d.toNatClampNeg what)) ((upd (r 30) d.toNatClampNeg v110))) rfl hP
                  exact W.iret (v := (0 : Int32)) hx hb hr (fun t ht hW => ⟨⟨_, ((upd f 0 (0 : Int32)), g, (va_up (va_up (va_up (va_up r 29 (((upd (r 29) d.toNatClampNeg what)))) 30 (((upd (r 30) d.toNatClampNeg v110)))) 31 (r 31)) 32 (r 32)), (va_up q 33 s3)), rfl, ⟨((upd (r 29) d.toNatClampNeg what)), ((upd (r 30) d.toNatClampNeg v110)), (r 31), (r 32), s3, rfl, ⟨(Or.inl ⟨⟨b9, (by unfold okJob; first | exact Or.inl (by omega) | exact Or.inr (Or.inl ⟨by omega, b31⟩) | (have z9 := goodP_of b64; subst e52; subst e58; exact Or.inr (Or.inr ⟨by omega, b44, z9.2⟩)))⟩, rfl⟩), (Or.inl ⟨⟨b9, (by unfold okJob; first | exact Or.inl (by omega) | exact Or.inr (Or.inl ⟨by omega, b31⟩) | (have z9 := goodP_of b64; subst e52; subst e58; exact Or.inr (Or.inr ⟨by omega, b44, z9.2⟩)))⟩, _, rfl, rfl, (fun z9 => by first | (exfalso; omega) | exact y110), (fun z9 => by first | (exfalso; omega) | exact y131), (by have c9 := m_cl (x := nv9) (by omega); rw [j177_1, ← hnv9, show i = nv9.toNatClampNeg by omega]), (by have c9 := m_cl (x := nv9) (by omega); rw [hnv9] at c9; omega)⟩), by first | exact hI | exact mi_sz (d := d) hI (v := v110) (by omega) rfl rfl rfl rfl rfl rfl rfl rfl | exact mi_sz (d := d) hI (v := v131) (by omega) rfl rfl rfl rfl rfl rfl rfl rfl | exact mi_sz (d := d) hI (v := 0) (by decide) rfl rfl rfl rfl rfl rfl rfl rfl⟩⟩, by unfold mB; rw [ht]; exact hP⟩, hS.F ht⟩) hS.2.2 dX10_keep_273
                · skip
                  have d185 := c185
                  rw [fa_le] at d185
                  refine lv_aload_n hx hb dX10_keep_188 rfl (lv_at hl 2 rfl) ?_
                  refine m_get (v := .ref (a 33)) hx hb hts hin hown hK hP 33 (by decide) rfl (hts (.fieldLink RX10 73 "ShadowBenchModel" "shelfRow" "[J") (by decide +kernel)) rfl dX10_keep_189 ?_
                  refine lv_bipush (v := 60) hx hb dX10_keep_192 (by decide) ?_
                  refine lv_iload_n hx hb dX10_keep_194 rfl (lv_at hl 3 rfl) ?_
                  refine lv_imul hx hb dX10_keep_195 ?_
                  refine lv_topi (fun v195 e195 => ?_)
                  have i195 : v195.toInt = 60 * d.toInt := by rw [e195]; exact mulcL rfl (by omega) (by omega)
                  refine lv_iload hx hb dX10_keep_196 (lv_at hl 0 rfl) ?_
                  refine lv_iadd hx hb dX10_keep_198 ?_
                  refine lv_topi (fun v198 e198 => ?_)
                  have i198 : v198.toInt = v195.toInt + (nI i).toInt := by rw [e198]; exact fb_addI (by omega) (by omega)
                  have cd9 := m_cl (x := d) (by omega)
                  have cv9 := m_cl (x := v198) (by omega)
                  have f198 : v198.toNatClampNeg = 60 * d.toNatClampNeg + i := by omega
                  refine lv_iload_n hx hb dX10_keep_199 rfl (lv_at hl 4 rfl) ?_
                  refine lv_iconst (v := 3) hx hb dX10_keep_200 (by decide) ?_
                  refine lv_icmp_ne (tgt := 215) hx hb dX10_keep_201 (by decide) (fun c201 => ?_) (fun c201 => ?_)
                  · first | exact absurd c201 c95 | exact absurd c95 c201
                  · skip
                    have d201 := c201
                    rw [fa_eq] at d201
                    refine lv_lload hx hb dX10_keep_204 (lv_at hl 6 rfl) ?_
                    refine lv_iload hx hb dX10_keep_206 (lv_at hl 0 rfl) ?_
                    refine m_pu (As := [.long p0, .int (nI i)]) (rest := [.int v198, .ref (a 33)]) ⟨hx, hb, hml, hown, hts⟩ (c_X10_one l p0 (nI i) ) (va_cwS 2 hts gX10_keep_X10_one rfl rfl rfl (by decide +kernel) ⟨Nat.le_of_ble_eq_true rfl, Nat.le_of_ble_eq_true rfl⟩) hP rfl hl.1 rfl (Nat.le_of_ble_eq_true rfl) dX10_keep_208 ⟨Nat.le_of_ble_eq_true rfl, Nat.le_of_ble_eq_true rfl⟩ hS (fun r208 H locs q208 hP hS => ?_)
                    have i208 : r208.toInt = (r_one p0 (nI i)).toInt := congrArg Int32.toInt q208
                    refine lv_i2l (v := r208.toInt64) hx hb dX10_keep_211 rfl ?_
                    refine lv_goto (tgt := 265) hx hb dX10_keep_212 (by decide) ?_
                    refine m_last (w := s3) hx hb hK hP hD hS 21 rfl (vp_in_iff.mpr ⟨by omega, by omega⟩) (va_up (va_up q 33 s3) 33 (vp_updL s3 v198.toNatClampNeg r208.toInt64)) (ms_33 cy mo a _ _ _ _ _) dX10_keep_265 (fun H locs hP hS => ?_)
                    have hP := wm_eq rfl rfl rfl (es_q_33__33 q s3 (vp_updL s3 v198.toNatClampNeg r208.toInt64)) hP
                    refine lv_iinc (v := (nI (i + 1))) (lv' := [(7, .int (nI (i + 1))), (6, .int (1 : Int32)), (0, .ref mo), (1, .int d), (2, .int what), (3, .int k0), (4, .long p0)]) hx hb dX10_keep_266 hl (k := 0) rfl (nI_1 _) (by decide) rfl (fun ls hl => ?_)
                    refine lv_goto (tgt := 177) hx hb dX10_keep_269 (by decide) ?_
                    have hP := wm_eq rfl rfl (ec_r_29_30__29_30 r ((upd (r 29) d.toNatClampNeg what)) ((upd (r 30) d.toNatClampNeg v110))) rfl hP
                    exact ih_177 (i + 1) (vp_updL s3 v198.toNatClampNeg r208.toInt64) (by omega) (by rw [j177_1, f198]; exact setQ_v (by first | (rw [keG_3 (by omega)]; exact one_bI (by omega) q208) | (rw [keG_4 (by omega) (by omega), e237, f236]; done) | (rw [keG_5 (by omega) (by omega), e263, f262]; done) | (exfalso; omega))) (by omega) _ _ hP hS ls (lv_sub hl [0, 1, 2, 3, 4, 5, 6] rfl)
            have hP := wm_eq rfl rfl (ec_r_29_30__29_30 r ((upd (r 29) d.toNatClampNeg what)) ((upd (r 30) d.toNatClampNeg v110))) (ec_q___33 q ) hP
            exact loop_177 (60 + 1) 0 (q 33) (by omega) ((setQ_0 _ _ _).symm) (by omega) _ _ hP hS ls (lv_sub hl [0, 1, 2, 3, 4, 5, 6] rfl)
          · skip
            have d139 := c139
            rw [fa_eq] at d139
            refine lv_aload_n hx hb dX10_keep_142 rfl (lv_at hl 1 rfl) ?_
            refine m_get (v := .ref (a 31)) hx hb hts hin hown hK hP 31 (by decide) rfl (hts (.fieldLink RX10 67 "ShadowBenchModel" "shelfWeight" "[I") (by decide +kernel)) rfl dX10_keep_143 ?_
            refine lv_iload_n hx hb dX10_keep_146 rfl (lv_at hl 2 rfl) ?_
            refine lv_aload_n hx hb dX10_keep_147 rfl (lv_at hl 1 rfl) ?_
            refine lv_iload_n hx hb dX10_keep_148 rfl (lv_at hl 4 rfl) ?_
            refine m_calli (As := [.int k0]) (rest := [.int d, .ref (a 31)]) ⟨hx, hb, hml, hown, hts⟩ (c_X10_weightOf l D cy mo a (upd f 0 (0 : Int32)) g (va_up (va_up r 29 ((upd (r 29) d.toNatClampNeg what))) 30 ((upd (r 30) d.toNatClampNeg v110))) q k0 hD (by first | exact hI | exact mi_sz (d := d) hI (v := 0) (by first | omega | decide) rfl rfl rfl rfl rfl rfl rfl rfl | exact mi_sz (d := d) hI (v := v131) (by first | omega | decide) rfl rfl rfl rfl rfl rfl rfl rfl | exact mi_sz (d := d) hI (v := v110) (by first | omega | decide) rfl rfl rfl rfl rfl rfl rfl rfl) (show 0 ≤ k0.toInt ∧ k0.toInt < (f 1).toInt by omega)) (cwV 1 hts gX10_keep_X10_weightOf rfl rfl rfl (by decide +kernel) ⟨Nat.le_of_ble_eq_true rfl, Nat.le_of_ble_eq_true rfl⟩) hK hP rfl hl.1 rfl (Nat.le_of_ble_eq_true rfl) dX10_keep_149 ⟨Nat.le_of_ble_eq_true rfl, Nat.le_of_ble_eq_true rfl⟩ hS (fun r149 u H locs q149 hP hS => ?_)
            obtain ⟨rfl, q149⟩ := q149
            have hP : va_P D vwCl (WM cy mo a (upd f 0 (0 : Int32)) g (va_up (va_up r 29 ((upd (r 29) d.toNatClampNeg what))) 30 ((upd (r 30) d.toNatClampNeg v110))) q) H := hP
            have q149 : True := q149
            refine m_iast (w := (r 31)) hx hb hK hP hD hS 19 rfl (vp_in_iff.mpr ⟨by omega, by omega⟩) (va_up (va_up (va_up r 29 ((upd (r 29) d.toNatClampNeg what))) 30 ((upd (r 30) d.toNatClampNeg v110))) 31 (upd (r 31) d.toNatClampNeg r149)) (ms_31 cy mo a _ _ _ _ _) dX10_keep_152 (fun H locs hP hS => ?_)
            refine lv_aload_n hx hb dX10_keep_153 rfl (lv_at hl 1 rfl) ?_
            refine m_get (v := .ref (a 32)) hx hb hts hin hown hK hP 32 (by decide) rfl (hts (.fieldLink RX10 70 "ShadowBenchModel" "shelfFailure" "[I") (by decide +kernel)) rfl dX10_keep_154 ?_
            refine lv_iload_n hx hb dX10_keep_157 rfl (lv_at hl 2 rfl) ?_
            refine lv_aload_n hx hb dX10_keep_158 rfl (lv_at hl 1 rfl) ?_
            refine m_get (v := .ref (a 2)) hx hb hts hin hown hK hP 2 (by decide) rfl (hts (.fieldLink RX10 7 "ShadowBenchModel" "kind" "[I") (by decide +kernel)) rfl dX10_keep_159 ?_
            refine lv_iload_n hx hb dX10_keep_162 rfl (lv_at hl 4 rfl) ?_
            refine m_iald (w := (r 2)) hx hb hK hP 1 rfl (vp_in_iff.mpr ⟨by omega, by omega⟩) dX10_keep_163 ?_
            refine lv_topi (fun v163 e163 => ?_)
            have i163 : v163.toInt = ((r 2) k0.toNatClampNeg).toInt := congrArg Int32.toInt e163
            refine lv_if_ne (tgt := 172) hx hb dX10_keep_164 (by decide) (fun c164 => ?_) (fun c164 => ?_)
            · skip
              have d164 := c164
              rw [fa_eq] at d164
              refine lv_iload_n hx hb dX10_keep_172 rfl (lv_at hl 4 rfl) ?_
              refine m_iast (w := (r 32)) hx hb hK hP hD hS 20 rfl (vp_in_iff.mpr ⟨by omega, by omega⟩) (va_up (va_up (va_up (va_up r 29 ((upd (r 29) d.toNatClampNeg what))) 30 ((upd (r 30) d.toNatClampNeg v110))) 31 ((upd (r 31) d.toNatClampNeg r149))) 32 (upd (r 32) d.toNatClampNeg k0)) (ms_32 cy mo a _ _ _ _ _) dX10_keep_173 (fun H locs hP hS => ?_)
              refine lv_iconst (v := 0) hx hb dX10_keep_174 (by decide) ?_
              refine lv_istore (lv' := [(7, .int (0 : Int32)), (6, .int (1 : Int32)), (0, .ref mo), (1, .int d), (2, .int what), (3, .int k0), (4, .long p0)]) hx hb dX10_keep_175 hl (by decide) rfl (fun ls hl => ?_)
              have loop_177 : ∀ (n : Nat) (i : Nat) (s3 : Nat → Int64), (i ≤ 60 ∧ (i : Int) ≤ nv9.toInt) → (s3 = setQ (q 33) (60 * d.toNatClampNeg) (keG what p0 (r 4 k0.toNatClampNeg).toNatClampNeg (fun x9 => r 5 (44 * k0.toNatClampNeg + x9))) i) → 60 - i < n → ∀ (H : Heap) (locs : List Loc), va_P D vwCl (WM cy mo a (upd f 0 (0 : Int32)) g (va_up (va_up (va_up (va_up r 29 ((upd (r 29) d.toNatClampNeg what))) 30 ((upd (r 30) d.toNatClampNeg v110))) 31 ((upd (r 31) d.toNatClampNeg r149))) 32 ((upd (r 32) d.toNatClampNeg k0))) (va_up q 33 s3)) H → va_S (AM mo a) s.heap H locs → ∀ (ls : Array Slot), lv_has ls 8 [(7, .int (nI i)), (6, .int (1 : Int32)), (0, .ref mo), (1, .int d), (2, .int what), (3, .int k0), (4, .long p0)] → W p l e (headSpec wsX10_keep ({ frames := 3, cells := 0, slots := 0, locals := 69 })).room s m #[Value.ref mo, Value.int d, Value.int what, Value.int k0, Value.long p0] below meth c H locs 0 0 (MQ below (va_Qi (fun r0 u => ∃ (sh : Nat → Int32), ∃ (sz : Nat → Int32), ∃ (sw : Nat → Int32), ∃ (sf : Nat → Int32), ∃ (sr : Nat → Int64), u = ((upd f 0 (0 : Int32)), g, (va_up (va_up (va_up (va_up r 29 sh) 30 sz) 31 sw) 32 sf), (va_up q 33 sr)) ∧ (yesNo (okKeep (f 1) (fun j9 => (r 3 j9).toNatClampNeg) (fun j9 => (r 4 j9).toNatClampNeg) d what k0 p0) 0 (-1) r0 ∧ ((okKeep (f 1) (fun j9 => (r 3 j9).toNatClampNeg) (fun j9 => (r 4 j9).toNatClampNeg) d what k0 p0 ∧ ∃ nv, sh = upd (r 29) d.toNatClampNeg what ∧ sz = upd (r 30) d.toNatClampNeg nv ∧ (what.toInt = 3 → nv.toInt = (((r 3 k0.toNatClampNeg).toNatClampNeg * (r 4 k0.toNatClampNeg).toNatClampNeg : Nat) : Int)) ∧ (what.toInt = 4 → nv.toInt = (((r 4 k0.toNatClampNeg).toNatClampNeg + (r 3 k0.toNatClampNeg).toNatClampNeg : Nat) : Int)) ∧ sr = setQ (q 33) (60 * d.toNatClampNeg) (keG what p0 (r 4 k0.toNatClampNeg).toNatClampNeg (fun x9 => r 5 (44 * k0.toNatClampNeg + x9))) nv.toNatClampNeg ∧ nv.toNatClampNeg ≤ 60) ∨ (¬ okKeep (f 1) (fun j9 => (r 3 j9).toNatClampNeg) (fun j9 => (r 4 j9).toNatClampNeg) d what k0 p0 ∧ sh = r 29 ∧ sz = r 30 ∧ sr = q 33)) ∧ MI (upd f 0 (0 : Int32)) (va_up (va_up (va_up (va_up r 29 sh) 30 sz) 31 sw) 32 sf))) (mB D cy mo a) (AM mo a)) #[Value.ref mo, Value.int d, Value.int what, Value.int k0, Value.long p0] s 0 0 (AM mo a)) (F0 m 177 ls []) := by
                intro n
                induction n with
                | zero => intro i s3 j177_0 j177_1 hn; exact absurd hn (Nat.not_lt_zero _)
                | succ n ih_177 =>
                  intro i s3 j177_0 j177_1 hn_177 H locs hP hS ls hl
                  have ii : (nI i).toInt = (i : Int) := nI_toInt (by omega)
                  refine lv_iload hx hb dX10_keep_177 (lv_at hl 0 rfl) ?_
                  refine lv_aload_n hx hb dX10_keep_179 rfl (lv_at hl 2 rfl) ?_
                  refine m_get (v := .ref (a 30)) hx hb hts hin hown hK hP 30 (by decide) rfl (hts (.fieldLink RX10 64 "ShadowBenchModel" "shelfSize" "[I") (by decide +kernel)) rfl dX10_keep_180 ?_
                  refine lv_iload_n hx hb dX10_keep_183 rfl (lv_at hl 3 rfl) ?_
                  refine m_iald (w := ((upd (r 30) d.toNatClampNeg v110))) hx hb hK hP 18 rfl (vp_in_iff.mpr ⟨by omega, by omega⟩) dX10_keep_184 ?_
                  refine lv_topi (fun v184 e184 => ?_)
                  have i184 : v184.toInt = (((upd (r 30) d.toNatClampNeg v110)) d.toNatClampNeg).toInt := congrArg Int32.toInt e184
                  have z184 := e184
                  simp only [upd, if_true] at z184
                  have y184 := congrArg Int32.toInt z184
                  have y184 : v184 = nv9 := by rw [e184, hnv9]; simp only [upd, if_true]
                  have i184 := congrArg Int32.toInt y184
                  refine lv_icmp_ge (tgt := 272) hx hb dX10_keep_185 (by decide) (fun c185 => ?_) (fun c185 => ?_)
                  · skip
                    have d185 := c185
                    rw [fa_le] at d185
                    refine lv_iconst (v := 0) hx hb dX10_keep_272 (by decide) ?_
                    have hP := wm_eq rfl rfl (ec_r_29_30_31_32__29_30_31_32 r ((upd (r 29) d.toNatClampNeg what)) ((upd (r 30) d.toNatClampNeg v110)) ((upd (r 31) d.toNatClampNeg r149)) ((upd (r 32) d.toNatClampNeg k0))) rfl hP
                    exact W.iret (v := (0 : Int32)) hx hb hr (fun t ht hW => ⟨⟨_, ((upd f 0 (0 : Int32)), g, (va_up (va_up (va_up (va_up r 29 (((upd (r 29) d.toNatClampNeg what)))) 30 (((upd (r 30) d.toNatClampNeg v110)))) 31 (((upd (r 31) d.toNatClampNeg r149)))) 32 (((upd (r 32) d.toNatClampNeg k0)))), (va_up q 33 s3)), rfl, ⟨((upd (r 29) d.toNatClampNeg what)), ((upd (r 30) d.toNatClampNeg v110)), ((upd (r 31) d.toNatClampNeg r149)), ((upd (r 32) d.toNatClampNeg k0)), s3, rfl, ⟨(Or.inl ⟨⟨b9, (by unfold okJob; first | exact Or.inl (by omega) | exact Or.inr (Or.inl ⟨by omega, b31⟩) | (have z9 := goodP_of b64; subst e52; subst e58; exact Or.inr (Or.inr ⟨by omega, b44, z9.2⟩)))⟩, rfl⟩), (Or.inl ⟨⟨b9, (by unfold okJob; first | exact Or.inl (by omega) | exact Or.inr (Or.inl ⟨by omega, b31⟩) | (have z9 := goodP_of b64; subst e52; subst e58; exact Or.inr (Or.inr ⟨by omega, b44, z9.2⟩)))⟩, _, rfl, rfl, (fun z9 => by first | (exfalso; omega) | exact y110), (fun z9 => by first | (exfalso; omega) | exact y131), (by have c9 := m_cl (x := nv9) (by omega); rw [j177_1, ← hnv9, show i = nv9.toNatClampNeg by omega]), (by have c9 := m_cl (x := nv9) (by omega); rw [hnv9] at c9; omega)⟩), by first | exact hI | exact mi_sz (d := d) hI (v := v110) (by omega) rfl rfl rfl rfl rfl rfl rfl rfl | exact mi_sz (d := d) hI (v := v131) (by omega) rfl rfl rfl rfl rfl rfl rfl rfl | exact mi_sz (d := d) hI (v := 0) (by decide) rfl rfl rfl rfl rfl rfl rfl rfl⟩⟩, by unfold mB; rw [ht]; exact hP⟩, hS.F ht⟩) hS.2.2 dX10_keep_273
                  · skip
                    have d185 := c185
                    rw [fa_le] at d185
                    refine lv_aload_n hx hb dX10_keep_188 rfl (lv_at hl 2 rfl) ?_
                    refine m_get (v := .ref (a 33)) hx hb hts hin hown hK hP 33 (by decide) rfl (hts (.fieldLink RX10 73 "ShadowBenchModel" "shelfRow" "[J") (by decide +kernel)) rfl dX10_keep_189 ?_
                    refine lv_bipush (v := 60) hx hb dX10_keep_192 (by decide) ?_
                    refine lv_iload_n hx hb dX10_keep_194 rfl (lv_at hl 3 rfl) ?_
                    refine lv_imul hx hb dX10_keep_195 ?_
                    refine lv_topi (fun v195 e195 => ?_)
                    have i195 : v195.toInt = 60 * d.toInt := by rw [e195]; exact mulcL rfl (by omega) (by omega)
                    refine lv_iload hx hb dX10_keep_196 (lv_at hl 0 rfl) ?_
                    refine lv_iadd hx hb dX10_keep_198 ?_
                    refine lv_topi (fun v198 e198 => ?_)
                    have i198 : v198.toInt = v195.toInt + (nI i).toInt := by rw [e198]; exact fb_addI (by omega) (by omega)
                    have cd9 := m_cl (x := d) (by omega)
                    have cv9 := m_cl (x := v198) (by omega)
                    have f198 : v198.toNatClampNeg = 60 * d.toNatClampNeg + i := by omega
                    refine lv_iload_n hx hb dX10_keep_199 rfl (lv_at hl 4 rfl) ?_
                    refine lv_iconst (v := 3) hx hb dX10_keep_200 (by decide) ?_
                    refine lv_icmp_ne (tgt := 215) hx hb dX10_keep_201 (by decide) (fun c201 => ?_) (fun c201 => ?_)
                    · first | exact absurd c201 c95 | exact absurd c95 c201
                    · skip
                      have d201 := c201
                      rw [fa_eq] at d201
                      refine lv_lload hx hb dX10_keep_204 (lv_at hl 6 rfl) ?_
                      refine lv_iload hx hb dX10_keep_206 (lv_at hl 0 rfl) ?_
                      refine m_pu (As := [.long p0, .int (nI i)]) (rest := [.int v198, .ref (a 33)]) ⟨hx, hb, hml, hown, hts⟩ (c_X10_one l p0 (nI i) ) (va_cwS 2 hts gX10_keep_X10_one rfl rfl rfl (by decide +kernel) ⟨Nat.le_of_ble_eq_true rfl, Nat.le_of_ble_eq_true rfl⟩) hP rfl hl.1 rfl (Nat.le_of_ble_eq_true rfl) dX10_keep_208 ⟨Nat.le_of_ble_eq_true rfl, Nat.le_of_ble_eq_true rfl⟩ hS (fun r208 H locs q208 hP hS => ?_)
                      have i208 : r208.toInt = (r_one p0 (nI i)).toInt := congrArg Int32.toInt q208
                      refine lv_i2l (v := r208.toInt64) hx hb dX10_keep_211 rfl ?_
                      refine lv_goto (tgt := 265) hx hb dX10_keep_212 (by decide) ?_
                      refine m_last (w := s3) hx hb hK hP hD hS 21 rfl (vp_in_iff.mpr ⟨by omega, by omega⟩) (va_up (va_up q 33 s3) 33 (vp_updL s3 v198.toNatClampNeg r208.toInt64)) (ms_33 cy mo a _ _ _ _ _) dX10_keep_265 (fun H locs hP hS => ?_)
                      have hP := wm_eq rfl rfl rfl (es_q_33__33 q s3 (vp_updL s3 v198.toNatClampNeg r208.toInt64)) hP
                      refine lv_iinc (v := (nI (i + 1))) (lv' := [(7, .int (nI (i + 1))), (6, .int (1 : Int32)), (0, .ref mo), (1, .int d), (2, .int what), (3, .int k0), (4, .long p0)]) hx hb dX10_keep_266 hl (k := 0) rfl (nI_1 _) (by decide) rfl (fun ls hl => ?_)
                      refine lv_goto (tgt := 177) hx hb dX10_keep_269 (by decide) ?_
                      have hP := wm_eq rfl rfl (ec_r_29_30_31_32__29_30_31_32 r ((upd (r 29) d.toNatClampNeg what)) ((upd (r 30) d.toNatClampNeg v110)) ((upd (r 31) d.toNatClampNeg r149)) ((upd (r 32) d.toNatClampNeg k0))) rfl hP
                      exact ih_177 (i + 1) (vp_updL s3 v198.toNatClampNeg r208.toInt64) (by omega) (by rw [j177_1, f198]; exact setQ_v (by first | (rw [keG_3 (by omega)]; exact one_bI (by omega) q208) | (rw [keG_4 (by omega) (by omega), e237, f236]; done) | (rw [keG_5 (by omega) (by omega), e263, f262]; done) | (exfalso; omega))) (by omega) _ _ hP hS ls (lv_sub hl [0, 1, 2, 3, 4, 5, 6] rfl)
              have hP := wm_eq rfl rfl (ec_r_29_30_31_32__29_30_31_32 r ((upd (r 29) d.toNatClampNeg what)) ((upd (r 30) d.toNatClampNeg v110)) ((upd (r 31) d.toNatClampNeg r149)) ((upd (r 32) d.toNatClampNeg k0))) (ec_q___33 q ) hP
              exact loop_177 (60 + 1) 0 (q 33) (by omega) ((setQ_0 _ _ _).symm) (by omega) _ _ hP hS ls (lv_sub hl [0, 1, 2, 3, 4, 5, 6] rfl)
            · skip
              have d164 := c164
              rw [fa_eq] at d164
              refine lv_bipush (v := (-15)) hx hb dX10_keep_167 (by decide) ?_
              refine lv_goto (tgt := 173) hx hb dX10_keep_169 (by decide) ?_
              refine m_iast (w := (r 32)) hx hb hK hP hD hS 20 rfl (vp_in_iff.mpr ⟨by omega, by omega⟩) (va_up (va_up (va_up (va_up r 29 ((upd (r 29) d.toNatClampNeg what))) 30 ((upd (r 30) d.toNatClampNeg v110))) 31 ((upd (r 31) d.toNatClampNeg r149))) 32 (upd (r 32) d.toNatClampNeg (((-15) : Int32)))) (ms_32 cy mo a _ _ _ _ _) dX10_keep_173 (fun H locs hP hS => ?_)
              refine lv_iconst (v := 0) hx hb dX10_keep_174 (by decide) ?_
              refine lv_istore (lv' := [(7, .int (0 : Int32)), (6, .int (1 : Int32)), (0, .ref mo), (1, .int d), (2, .int what), (3, .int k0), (4, .long p0)]) hx hb dX10_keep_175 hl (by decide) rfl (fun ls hl => ?_)
              have loop_177 : ∀ (n : Nat) (i : Nat) (s3 : Nat → Int64), (i ≤ 60 ∧ (i : Int) ≤ nv9.toInt) → (s3 = setQ (q 33) (60 * d.toNatClampNeg) (keG what p0 (r 4 k0.toNatClampNeg).toNatClampNeg (fun x9 => r 5 (44 * k0.toNatClampNeg + x9))) i) → 60 - i < n → ∀ (H : Heap) (locs : List Loc), va_P D vwCl (WM cy mo a (upd f 0 (0 : Int32)) g (va_up (va_up (va_up (va_up r 29 ((upd (r 29) d.toNatClampNeg what))) 30 ((upd (r 30) d.toNatClampNeg v110))) 31 ((upd (r 31) d.toNatClampNeg r149))) 32 ((upd (r 32) d.toNatClampNeg (((-15) : Int32))))) (va_up q 33 s3)) H → va_S (AM mo a) s.heap H locs → ∀ (ls : Array Slot), lv_has ls 8 [(7, .int (nI i)), (6, .int (1 : Int32)), (0, .ref mo), (1, .int d), (2, .int what), (3, .int k0), (4, .long p0)] → W p l e (headSpec wsX10_keep ({ frames := 3, cells := 0, slots := 0, locals := 69 })).room s m #[Value.ref mo, Value.int d, Value.int what, Value.int k0, Value.long p0] below meth c H locs 0 0 (MQ below (va_Qi (fun r0 u => ∃ (sh : Nat → Int32), ∃ (sz : Nat → Int32), ∃ (sw : Nat → Int32), ∃ (sf : Nat → Int32), ∃ (sr : Nat → Int64), u = ((upd f 0 (0 : Int32)), g, (va_up (va_up (va_up (va_up r 29 sh) 30 sz) 31 sw) 32 sf), (va_up q 33 sr)) ∧ (yesNo (okKeep (f 1) (fun j9 => (r 3 j9).toNatClampNeg) (fun j9 => (r 4 j9).toNatClampNeg) d what k0 p0) 0 (-1) r0 ∧ ((okKeep (f 1) (fun j9 => (r 3 j9).toNatClampNeg) (fun j9 => (r 4 j9).toNatClampNeg) d what k0 p0 ∧ ∃ nv, sh = upd (r 29) d.toNatClampNeg what ∧ sz = upd (r 30) d.toNatClampNeg nv ∧ (what.toInt = 3 → nv.toInt = (((r 3 k0.toNatClampNeg).toNatClampNeg * (r 4 k0.toNatClampNeg).toNatClampNeg : Nat) : Int)) ∧ (what.toInt = 4 → nv.toInt = (((r 4 k0.toNatClampNeg).toNatClampNeg + (r 3 k0.toNatClampNeg).toNatClampNeg : Nat) : Int)) ∧ sr = setQ (q 33) (60 * d.toNatClampNeg) (keG what p0 (r 4 k0.toNatClampNeg).toNatClampNeg (fun x9 => r 5 (44 * k0.toNatClampNeg + x9))) nv.toNatClampNeg ∧ nv.toNatClampNeg ≤ 60) ∨ (¬ okKeep (f 1) (fun j9 => (r 3 j9).toNatClampNeg) (fun j9 => (r 4 j9).toNatClampNeg) d what k0 p0 ∧ sh = r 29 ∧ sz = r 30 ∧ sr = q 33)) ∧ MI (upd f 0 (0 : Int32)) (va_up (va_up (va_up (va_up r 29 sh) 30 sz) 31 sw) 32 sf))) (mB D cy mo a) (AM mo a)) #[Value.ref mo, Value.int d, Value.int what, Value.int k0, Value.long p0] s 0 0 (AM mo a)) (F0 m 177 ls []) := by
                intro n
                induction n with
                | zero => intro i s3 j177_0 j177_1 hn; exact absurd hn (Nat.not_lt_zero _)
                | succ n ih_177 =>
                  intro i s3 j177_0 j177_1 hn_177 H locs hP hS ls hl
                  have ii : (nI i).toInt = (i : Int) := nI_toInt (by omega)
                  refine lv_iload hx hb dX10_keep_177 (lv_at hl 0 rfl) ?_
                  refine lv_aload_n hx hb dX10_keep_179 rfl (lv_at hl 2 rfl) ?_
                  refine m_get (v := .ref (a 30)) hx hb hts hin hown hK hP 30 (by decide) rfl (hts (.fieldLink RX10 64 "ShadowBenchModel" "shelfSize" "[I") (by decide +kernel)) rfl dX10_keep_180 ?_
                  refine lv_iload_n hx hb dX10_keep_183 rfl (lv_at hl 3 rfl) ?_
                  refine m_iald (w := ((upd (r 30) d.toNatClampNeg v110))) hx hb hK hP 18 rfl (vp_in_iff.mpr ⟨by omega, by omega⟩) dX10_keep_184 ?_
                  refine lv_topi (fun v184 e184 => ?_)
                  have i184 : v184.toInt = (((upd (r 30) d.toNatClampNeg v110)) d.toNatClampNeg).toInt := congrArg Int32.toInt e184
                  have z184 := e184
                  simp only [upd, if_true] at z184
                  have y184 := congrArg Int32.toInt z184
                  have y184 : v184 = nv9 := by rw [e184, hnv9]; simp only [upd, if_true]
                  have i184 := congrArg Int32.toInt y184
                  refine lv_icmp_ge (tgt := 272) hx hb dX10_keep_185 (by decide) (fun c185 => ?_) (fun c185 => ?_)
                  · skip
                    have d185 := c185
                    rw [fa_le] at d185
                    refine lv_iconst (v := 0) hx hb dX10_keep_272 (by decide) ?_
                    have hP := wm_eq rfl rfl (ec_r_29_30_31_32__29_30_31_32 r ((upd (r 29) d.toNatClampNeg what)) ((upd (r 30) d.toNatClampNeg v110)) ((upd (r 31) d.toNatClampNeg r149)) ((upd (r 32) d.toNatClampNeg (((-15) : Int32))))) rfl hP
                    exact W.iret (v := (0 : Int32)) hx hb hr (fun t ht hW => ⟨⟨_, ((upd f 0 (0 : Int32)), g, (va_up (va_up (va_up (va_up r 29 (((upd (r 29) d.toNatClampNeg what)))) 30 (((upd (r 30) d.toNatClampNeg v110)))) 31 (((upd (r 31) d.toNatClampNeg r149)))) 32 (((upd (r 32) d.toNatClampNeg (((-15) : Int32)))))), (va_up q 33 s3)), rfl, ⟨((upd (r 29) d.toNatClampNeg what)), ((upd (r 30) d.toNatClampNeg v110)), ((upd (r 31) d.toNatClampNeg r149)), ((upd (r 32) d.toNatClampNeg (((-15) : Int32)))), s3, rfl, ⟨(Or.inl ⟨⟨b9, (by unfold okJob; first | exact Or.inl (by omega) | exact Or.inr (Or.inl ⟨by omega, b31⟩) | (have z9 := goodP_of b64; subst e52; subst e58; exact Or.inr (Or.inr ⟨by omega, b44, z9.2⟩)))⟩, rfl⟩), (Or.inl ⟨⟨b9, (by unfold okJob; first | exact Or.inl (by omega) | exact Or.inr (Or.inl ⟨by omega, b31⟩) | (have z9 := goodP_of b64; subst e52; subst e58; exact Or.inr (Or.inr ⟨by omega, b44, z9.2⟩)))⟩, _, rfl, rfl, (fun z9 => by first | (exfalso; omega) | exact y110), (fun z9 => by first | (exfalso; omega) | exact y131), (by have c9 := m_cl (x := nv9) (by omega); rw [j177_1, ← hnv9, show i = nv9.toNatClampNeg by omega]), (by have c9 := m_cl (x := nv9) (by omega); rw [hnv9] at c9; omega)⟩), by first | exact hI | exact mi_sz (d := d) hI (v := v110) (by omega) rfl rfl rfl rfl rfl rfl rfl rfl | exact mi_sz (d := d) hI (v := v131) (by omega) rfl rfl rfl rfl rfl rfl rfl rfl | exact mi_sz (d := d) hI (v := 0) (by decide) rfl rfl rfl rfl rfl rfl rfl rfl⟩⟩, by unfold mB; rw [ht]; exact hP⟩, hS.F ht⟩) hS.2.2 dX10_keep_273
                  · skip
                    have d185 := c185
                    rw [fa_le] at d185
                    refine lv_aload_n hx hb dX10_keep_188 rfl (lv_at hl 2 rfl) ?_
                    refine m_get (v := .ref (a 33)) hx hb hts hin hown hK hP 33 (by decide) rfl (hts (.fieldLink RX10 73 "ShadowBenchModel" "shelfRow" "[J") (by decide +kernel)) rfl dX10_keep_189 ?_
                    refine lv_bipush (v := 60) hx hb dX10_keep_192 (by decide) ?_
                    refine lv_iload_n hx hb dX10_keep_194 rfl (lv_at hl 3 rfl) ?_
                    refine lv_imul hx hb dX10_keep_195 ?_
                    refine lv_topi (fun v195 e195 => ?_)
                    have i195 : v195.toInt = 60 * d.toInt := by rw [e195]; exact mulcL rfl (by omega) (by omega)
                    refine lv_iload hx hb dX10_keep_196 (lv_at hl 0 rfl) ?_
                    refine lv_iadd hx hb dX10_keep_198 ?_
                    refine lv_topi (fun v198 e198 => ?_)
                    have i198 : v198.toInt = v195.toInt + (nI i).toInt := by rw [e198]; exact fb_addI (by omega) (by omega)
                    have cd9 := m_cl (x := d) (by omega)
                    have cv9 := m_cl (x := v198) (by omega)
                    have f198 : v198.toNatClampNeg = 60 * d.toNatClampNeg + i := by omega
                    refine lv_iload_n hx hb dX10_keep_199 rfl (lv_at hl 4 rfl) ?_
                    refine lv_iconst (v := 3) hx hb dX10_keep_200 (by decide) ?_
                    refine lv_icmp_ne (tgt := 215) hx hb dX10_keep_201 (by decide) (fun c201 => ?_) (fun c201 => ?_)
                    · first | exact absurd c201 c95 | exact absurd c95 c201
                    · skip
                      have d201 := c201
                      rw [fa_eq] at d201
                      refine lv_lload hx hb dX10_keep_204 (lv_at hl 6 rfl) ?_
                      refine lv_iload hx hb dX10_keep_206 (lv_at hl 0 rfl) ?_
                      refine m_pu (As := [.long p0, .int (nI i)]) (rest := [.int v198, .ref (a 33)]) ⟨hx, hb, hml, hown, hts⟩ (c_X10_one l p0 (nI i) ) (va_cwS 2 hts gX10_keep_X10_one rfl rfl rfl (by decide +kernel) ⟨Nat.le_of_ble_eq_true rfl, Nat.le_of_ble_eq_true rfl⟩) hP rfl hl.1 rfl (Nat.le_of_ble_eq_true rfl) dX10_keep_208 ⟨Nat.le_of_ble_eq_true rfl, Nat.le_of_ble_eq_true rfl⟩ hS (fun r208 H locs q208 hP hS => ?_)
                      have i208 : r208.toInt = (r_one p0 (nI i)).toInt := congrArg Int32.toInt q208
                      refine lv_i2l (v := r208.toInt64) hx hb dX10_keep_211 rfl ?_
                      refine lv_goto (tgt := 265) hx hb dX10_keep_212 (by decide) ?_
                      refine m_last (w := s3) hx hb hK hP hD hS 21 rfl (vp_in_iff.mpr ⟨by omega, by omega⟩) (va_up (va_up q 33 s3) 33 (vp_updL s3 v198.toNatClampNeg r208.toInt64)) (ms_33 cy mo a _ _ _ _ _) dX10_keep_265 (fun H locs hP hS => ?_)
                      have hP := wm_eq rfl rfl rfl (es_q_33__33 q s3 (vp_updL s3 v198.toNatClampNeg r208.toInt64)) hP
                      refine lv_iinc (v := (nI (i + 1))) (lv' := [(7, .int (nI (i + 1))), (6, .int (1 : Int32)), (0, .ref mo), (1, .int d), (2, .int what), (3, .int k0), (4, .long p0)]) hx hb dX10_keep_266 hl (k := 0) rfl (nI_1 _) (by decide) rfl (fun ls hl => ?_)
                      refine lv_goto (tgt := 177) hx hb dX10_keep_269 (by decide) ?_
                      have hP := wm_eq rfl rfl (ec_r_29_30_31_32__29_30_31_32 r ((upd (r 29) d.toNatClampNeg what)) ((upd (r 30) d.toNatClampNeg v110)) ((upd (r 31) d.toNatClampNeg r149)) ((upd (r 32) d.toNatClampNeg (((-15) : Int32))))) rfl hP
                      exact ih_177 (i + 1) (vp_updL s3 v198.toNatClampNeg r208.toInt64) (by omega) (by rw [j177_1, f198]; exact setQ_v (by first | (rw [keG_3 (by omega)]; exact one_bI (by omega) q208) | (rw [keG_4 (by omega) (by omega), e237, f236]; done) | (rw [keG_5 (by omega) (by omega), e263, f262]; done) | (exfalso; omega))) (by omega) _ _ hP hS ls (lv_sub hl [0, 1, 2, 3, 4, 5, 6] rfl)
              have hP := wm_eq rfl rfl (ec_r_29_30_31_32__29_30_31_32 r ((upd (r 29) d.toNatClampNeg what)) ((upd (r 30) d.toNatClampNeg v110)) ((upd (r 31) d.toNatClampNeg r149)) ((upd (r 32) d.toNatClampNeg (((-15) : Int32))))) (ec_q___33 q ) hP
              exact loop_177 (60 + 1) 0 (q 33) (by omega) ((setQ_0 _ _ _).symm) (by omega) _ _ hP hS ls (lv_sub hl [0, 1, 2, 3, 4, 5, 6] rfl)
      · first | exact absurd c76 (by decide) | exact absurd (by decide) c76
    · skip
      have d13 := c13
      rw [fa_eq] at d13
      refine lv_iload_n hx hb dX10_keep_16 rfl (lv_at hl 2 rfl) ?_
      refine lv_iconst (v := 1) hx hb dX10_keep_17 (by decide) ?_
      refine lv_icmp_eq (tgt := 26) hx hb dX10_keep_18 (by decide) (fun c18 => ?_) (fun c18 => ?_)
      · skip
        have d18 := c18
        rw [fa_eq] at d18
        refine lv_aload_n hx hb dX10_keep_26 rfl (lv_at hl 0 rfl) ?_
        refine lv_iload_n hx hb dX10_keep_27 rfl (lv_at hl 3 rfl) ?_
        refine m_calli (As := [.int k0]) (rest := []) ⟨hx, hb, hml, hown, hts⟩ (c_X10_isJob l D cy mo a (upd f 0 (0 : Int32)) g r q k0 hD) (cwV 1 hts gX10_keep_X10_isJob rfl rfl rfl (by decide +kernel) ⟨Nat.le_of_ble_eq_true rfl, Nat.le_of_ble_eq_true rfl⟩) hK hP rfl hl.1 rfl (Nat.le_of_ble_eq_true rfl) dX10_keep_28 ⟨Nat.le_of_ble_eq_true rfl, Nat.le_of_ble_eq_true rfl⟩ hS (fun r28 u H locs q28 hP hS => ?_)
        obtain ⟨rfl, q28⟩ := q28
        have hP : va_P D vwCl (WM cy mo a (upd f 0 (0 : Int32)) g r q) H := hP
        have q28 : Bo r28 (0 ≤ k0.toInt ∧ k0.toInt < ((f 1)).toInt) := q28
        refine lv_if_ne (tgt := 67) hx hb dX10_keep_31 (by decide) (fun c31 => ?_) (fun c31 => ?_)
        · skip
          have b31 := bo_t q28 c31
          refine lv_iconst (v := 1) hx hb dX10_keep_67 (by decide) ?_
          refine lv_goto (tgt := 72) hx hb dX10_keep_68 (by decide) ?_
          refine lv_istore (lv' := [(6, .int (1 : Int32)), (0, .ref mo), (1, .int d), (2, .int what), (3, .int k0), (4, .long p0)]) hx hb dX10_keep_72 hl (by decide) rfl (fun ls hl => ?_)
          refine lv_iload hx hb dX10_keep_74 (lv_at hl 0 rfl) ?_
          refine lv_if_ne (tgt := 81) hx hb dX10_keep_76 (by decide) (fun c76 => ?_) (fun c76 => ?_)
          · skip
            have d76 := c76
            rw [fa_eq] at d76
            refine lv_aload_n hx hb dX10_keep_81 rfl (lv_at hl 1 rfl) ?_
            refine m_get (v := .ref (a 29)) hx hb hts hin hown hK hP 29 (by decide) rfl (hts (.fieldLink RX10 61 "ShadowBenchModel" "shelf" "[I") (by decide +kernel)) rfl dX10_keep_82 ?_
            refine lv_iload_n hx hb dX10_keep_85 rfl (lv_at hl 2 rfl) ?_
            refine lv_iload_n hx hb dX10_keep_86 rfl (lv_at hl 3 rfl) ?_
            refine m_iast (w := (r 29)) hx hb hK hP hD hS 17 rfl (vp_in_iff.mpr ⟨by omega, by omega⟩) (va_up r 29 (upd (r 29) d.toNatClampNeg what)) (ms_29 cy mo a _ _ _ _ _) dX10_keep_87 (fun H locs hP hS => ?_)
            refine lv_aload_n hx hb dX10_keep_88 rfl (lv_at hl 1 rfl) ?_
            refine m_get (v := .ref (a 30)) hx hb hts hin hown hK hP 30 (by decide) rfl (hts (.fieldLink RX10 64 "ShadowBenchModel" "shelfSize" "[I") (by decide +kernel)) rfl dX10_keep_89 ?_
            refine lv_iload_n hx hb dX10_keep_92 rfl (lv_at hl 2 rfl) ?_
            refine lv_iload_n hx hb dX10_keep_93 rfl (lv_at hl 3 rfl) ?_
            refine lv_iconst (v := 3) hx hb dX10_keep_94 (by decide) ?_
            refine lv_icmp_ne (tgt := 114) hx hb dX10_keep_95 (by decide) (fun c95 => ?_) (fun c95 => ?_)
            · skip
              have d95 := c95
              rw [fa_eq] at d95
              refine lv_iload_n hx hb dX10_keep_114 rfl (lv_at hl 3 rfl) ?_
              refine lv_iconst (v := 4) hx hb dX10_keep_115 (by decide) ?_
              refine lv_icmp_ne (tgt := 135) hx hb dX10_keep_116 (by decide) (fun c116 => ?_) (fun c116 => ?_)
              · skip
                have d116 := c116
                rw [fa_eq] at d116
                obtain ⟨nv9, hnv9⟩ : ∃ z9, z9 = (0 : Int32) := ⟨_, rfl⟩
                have n184 := congrArg Int32.toInt hnv9
                refine lv_iconst (v := 0) hx hb dX10_keep_135 (by decide) ?_
                refine m_iast (w := (r 30)) hx hb hK hP hD hS 18 rfl (vp_in_iff.mpr ⟨by omega, by omega⟩) (va_up (va_up r 29 ((upd (r 29) d.toNatClampNeg what))) 30 (upd (r 30) d.toNatClampNeg (0 : Int32))) (ms_30 cy mo a _ _ _ _ _) dX10_keep_136 (fun H locs hP hS => ?_)
                refine lv_iload_n hx hb dX10_keep_137 rfl (lv_at hl 3 rfl) ?_
                refine lv_iconst (v := 1) hx hb dX10_keep_138 (by decide) ?_
                refine lv_icmp_ne (tgt := 174) hx hb dX10_keep_139 (by decide) (fun c139 => ?_) (fun c139 => ?_)
                · skip
                  have d139 := c139
                  rw [fa_eq] at d139
                  refine lv_iconst (v := 0) hx hb dX10_keep_174 (by decide) ?_
                  refine lv_istore (lv' := [(7, .int (0 : Int32)), (6, .int (1 : Int32)), (0, .ref mo), (1, .int d), (2, .int what), (3, .int k0), (4, .long p0)]) hx hb dX10_keep_175 hl (by decide) rfl (fun ls hl => ?_)
                  have loop_177 : ∀ (n : Nat) (i : Nat) (s3 : Nat → Int64), (i ≤ 60 ∧ (i : Int) ≤ nv9.toInt) → (s3 = setQ (q 33) (60 * d.toNatClampNeg) (keG what p0 (r 4 k0.toNatClampNeg).toNatClampNeg (fun x9 => r 5 (44 * k0.toNatClampNeg + x9))) i) → 60 - i < n → ∀ (H : Heap) (locs : List Loc), va_P D vwCl (WM cy mo a (upd f 0 (0 : Int32)) g (va_up (va_up r 29 ((upd (r 29) d.toNatClampNeg what))) 30 ((upd (r 30) d.toNatClampNeg (0 : Int32)))) (va_up q 33 s3)) H → va_S (AM mo a) s.heap H locs → ∀ (ls : Array Slot), lv_has ls 8 [(7, .int (nI i)), (6, .int (1 : Int32)), (0, .ref mo), (1, .int d), (2, .int what), (3, .int k0), (4, .long p0)] → W p l e (headSpec wsX10_keep ({ frames := 3, cells := 0, slots := 0, locals := 69 })).room s m #[Value.ref mo, Value.int d, Value.int what, Value.int k0, Value.long p0] below meth c H locs 0 0 (MQ below (va_Qi (fun r0 u => ∃ (sh : Nat → Int32), ∃ (sz : Nat → Int32), ∃ (sw : Nat → Int32), ∃ (sf : Nat → Int32), ∃ (sr : Nat → Int64), u = ((upd f 0 (0 : Int32)), g, (va_up (va_up (va_up (va_up r 29 sh) 30 sz) 31 sw) 32 sf), (va_up q 33 sr)) ∧ (yesNo (okKeep (f 1) (fun j9 => (r 3 j9).toNatClampNeg) (fun j9 => (r 4 j9).toNatClampNeg) d what k0 p0) 0 (-1) r0 ∧ ((okKeep (f 1) (fun j9 => (r 3 j9).toNatClampNeg) (fun j9 => (r 4 j9).toNatClampNeg) d what k0 p0 ∧ ∃ nv, sh = upd (r 29) d.toNatClampNeg what ∧ sz = upd (r 30) d.toNatClampNeg nv ∧ (what.toInt = 3 → nv.toInt = (((r 3 k0.toNatClampNeg).toNatClampNeg * (r 4 k0.toNatClampNeg).toNatClampNeg : Nat) : Int)) ∧ (what.toInt = 4 → nv.toInt = (((r 4 k0.toNatClampNeg).toNatClampNeg + (r 3 k0.toNatClampNeg).toNatClampNeg : Nat) : Int)) ∧ sr = setQ (q 33) (60 * d.toNatClampNeg) (keG what p0 (r 4 k0.toNatClampNeg).toNatClampNeg (fun x9 => r 5 (44 * k0.toNatClampNeg + x9))) nv.toNatClampNeg ∧ nv.toNatClampNeg ≤ 60) ∨ (¬ okKeep (f 1) (fun j9 => (r 3 j9).toNatClampNeg) (fun j9 => (r 4 j9).toNatClampNeg) d what k0 p0 ∧ sh = r 29 ∧ sz = r 30 ∧ sr = q 33)) ∧ MI (upd f 0 (0 : Int32)) (va_up (va_up (va_up (va_up r 29 sh) 30 sz) 31 sw) 32 sf))) (mB D cy mo a) (AM mo a)) #[Value.ref mo, Value.int d, Value.int what, Value.int k0, Value.long p0] s 0 0 (AM mo a)) (F0 m 177 ls []) := by
                    intro n
                    induction n with
                    | zero => intro i s3 j177_0 j177_1 hn; exact absurd hn (Nat.not_lt_zero _)
                    | succ n ih_177 =>
                      intro i s3 j177_0 j177_1 hn_177 H locs hP hS ls hl
                      have ii : (nI i).toInt = (i : Int) := nI_toInt (by omega)
                      refine lv_iload hx hb dX10_keep_177 (lv_at hl 0 rfl) ?_
                      refine lv_aload_n hx hb dX10_keep_179 rfl (lv_at hl 2 rfl) ?_
                      refine m_get (v := .ref (a 30)) hx hb hts hin hown hK hP 30 (by decide) rfl (hts (.fieldLink RX10 64 "ShadowBenchModel" "shelfSize" "[I") (by decide +kernel)) rfl dX10_keep_180 ?_
                      refine lv_iload_n hx hb dX10_keep_183 rfl (lv_at hl 3 rfl) ?_
                      refine m_iald (w := ((upd (r 30) d.toNatClampNeg (0 : Int32)))) hx hb hK hP 18 rfl (vp_in_iff.mpr ⟨by omega, by omega⟩) dX10_keep_184 ?_
                      refine lv_topi (fun v184 e184 => ?_)
                      have i184 : v184.toInt = (((upd (r 30) d.toNatClampNeg (0 : Int32))) d.toNatClampNeg).toInt := congrArg Int32.toInt e184
                      have z184 := e184
                      simp only [upd, if_true] at z184
                      have y184 := congrArg Int32.toInt z184
                      have y184 : v184 = nv9 := by rw [e184, hnv9]; simp only [upd, if_true]
                      have i184 := congrArg Int32.toInt y184
                      refine lv_icmp_ge (tgt := 272) hx hb dX10_keep_185 (by decide) (fun c185 => ?_) (fun c185 => ?_)
                      · skip
                        have d185 := c185
                        rw [fa_le] at d185
                        refine lv_iconst (v := 0) hx hb dX10_keep_272 (by decide) ?_
                        have hP := wm_eq rfl rfl (ec_r_29_30__29_30_31_32 r ((upd (r 29) d.toNatClampNeg what)) ((upd (r 30) d.toNatClampNeg (0 : Int32)))) rfl hP
                        exact W.iret (v := (0 : Int32)) hx hb hr (fun t ht hW => ⟨⟨_, ((upd f 0 (0 : Int32)), g, (va_up (va_up (va_up (va_up r 29 (((upd (r 29) d.toNatClampNeg what)))) 30 (((upd (r 30) d.toNatClampNeg (0 : Int32))))) 31 (r 31)) 32 (r 32)), (va_up q 33 s3)), rfl, ⟨((upd (r 29) d.toNatClampNeg what)), ((upd (r 30) d.toNatClampNeg (0 : Int32))), (r 31), (r 32), s3, rfl, ⟨(Or.inl ⟨⟨b9, (by unfold okJob; first | exact Or.inl (by omega) | exact Or.inr (Or.inl ⟨by omega, b31⟩) | (have z9 := goodP_of b64; subst e52; subst e58; exact Or.inr (Or.inr ⟨by omega, b44, z9.2⟩)))⟩, rfl⟩), (Or.inl ⟨⟨b9, (by unfold okJob; first | exact Or.inl (by omega) | exact Or.inr (Or.inl ⟨by omega, b31⟩) | (have z9 := goodP_of b64; subst e52; subst e58; exact Or.inr (Or.inr ⟨by omega, b44, z9.2⟩)))⟩, _, rfl, rfl, (fun z9 => by first | (exfalso; omega) | exact y110), (fun z9 => by first | (exfalso; omega) | exact y131), (by have c9 := m_cl (x := nv9) (by omega); rw [j177_1, ← hnv9, show i = nv9.toNatClampNeg by omega]), (by have c9 := m_cl (x := nv9) (by omega); rw [hnv9] at c9; omega)⟩), by first | exact hI | exact mi_sz (d := d) hI (v := v110) (by omega) rfl rfl rfl rfl rfl rfl rfl rfl | exact mi_sz (d := d) hI (v := v131) (by omega) rfl rfl rfl rfl rfl rfl rfl rfl | exact mi_sz (d := d) hI (v := 0) (by decide) rfl rfl rfl rfl rfl rfl rfl rfl⟩⟩, by unfold mB; rw [ht]; exact hP⟩, hS.F ht⟩) hS.2.2 dX10_keep_273
                      · skip
                        have d185 := c185
                        rw [fa_le] at d185
                        refine lv_aload_n hx hb dX10_keep_188 rfl (lv_at hl 2 rfl) ?_
                        refine m_get (v := .ref (a 33)) hx hb hts hin hown hK hP 33 (by decide) rfl (hts (.fieldLink RX10 73 "ShadowBenchModel" "shelfRow" "[J") (by decide +kernel)) rfl dX10_keep_189 ?_
                        refine lv_bipush (v := 60) hx hb dX10_keep_192 (by decide) ?_
                        refine lv_iload_n hx hb dX10_keep_194 rfl (lv_at hl 3 rfl) ?_
                        refine lv_imul hx hb dX10_keep_195 ?_
                        refine lv_topi (fun v195 e195 => ?_)
                        have i195 : v195.toInt = 60 * d.toInt := by rw [e195]; exact mulcL rfl (by omega) (by omega)
                        refine lv_iload hx hb dX10_keep_196 (lv_at hl 0 rfl) ?_
                        refine lv_iadd hx hb dX10_keep_198 ?_
                        refine lv_topi (fun v198 e198 => ?_)
                        have i198 : v198.toInt = v195.toInt + (nI i).toInt := by rw [e198]; exact fb_addI (by omega) (by omega)
                        have cd9 := m_cl (x := d) (by omega)
                        have cv9 := m_cl (x := v198) (by omega)
                        have f198 : v198.toNatClampNeg = 60 * d.toNatClampNeg + i := by omega
                        refine lv_iload_n hx hb dX10_keep_199 rfl (lv_at hl 4 rfl) ?_
                        refine lv_iconst (v := 3) hx hb dX10_keep_200 (by decide) ?_
                        refine lv_icmp_ne (tgt := 215) hx hb dX10_keep_201 (by decide) (fun c201 => ?_) (fun c201 => ?_)
                        · skip
                          have d201 := c201
                          rw [fa_eq] at d201
                          refine lv_iload hx hb dX10_keep_215 (lv_at hl 0 rfl) ?_
                          refine lv_aload_n hx hb dX10_keep_217 rfl (lv_at hl 2 rfl) ?_
                          refine m_get (v := .ref (a 4)) hx hb hts hin hown hK hP 4 (by decide) rfl (hts (.fieldLink RX10 16 "ShadowBenchModel" "high" "[I") (by decide +kernel)) rfl dX10_keep_218 ?_
                          refine lv_iload_n hx hb dX10_keep_221 rfl (lv_at hl 5 rfl) ?_
                          refine m_iald (w := (r 4)) hx hb hK hP 3 rfl (vp_in_iff.mpr ⟨by omega, by omega⟩) dX10_keep_222 ?_
                          refine lv_topi (fun v222 e222 => ?_)
                          have i222 : v222.toInt = ((r 4) k0.toNatClampNeg).toInt := congrArg Int32.toInt e222
                          have w222 := mi_h hI (x := k0) (by omega) (by omega) e222
                          refine lv_icmp_ge (tgt := 242) hx hb dX10_keep_223 (by decide) (fun c223 => ?_) (fun c223 => ?_)
                          · skip
                            have d223 := c223
                            rw [fa_le] at d223
                            refine lv_aload_n hx hb dX10_keep_242 rfl (lv_at hl 2 rfl) ?_
                            refine m_get (v := .ref (a 5)) hx hb hts hin hown hK hP 5 (by decide) rfl (hts (.fieldLink RX10 19 "ShadowBenchModel" "sums" "[I") (by decide +kernel)) rfl dX10_keep_243 ?_
                            refine lv_bipush (v := 44) hx hb dX10_keep_246 (by decide) ?_
                            refine lv_iload_n hx hb dX10_keep_248 rfl (lv_at hl 5 rfl) ?_
                            refine lv_imul hx hb dX10_keep_249 ?_
                            refine lv_topi (fun v249 e249 => ?_)
                            have i249 : v249.toInt = 44 * k0.toInt := by rw [e249]; exact mulcL rfl (by omega) (by omega)
                            refine lv_bipush (v := 11) hx hb dX10_keep_250 (by decide) ?_
                            refine lv_iadd hx hb dX10_keep_252 ?_
                            refine lv_topi (fun v252 e252 => ?_)
                            have i252 : v252.toInt = v249.toInt + (11 : Int32).toInt := by rw [e252]; exact fb_addI (by omega) (by omega)
                            refine lv_iload hx hb dX10_keep_253 (lv_at hl 0 rfl) ?_
                            refine lv_iadd hx hb dX10_keep_255 ?_
                            refine lv_topi (fun v255 e255 => ?_)
                            have i255 : v255.toInt = v252.toInt + (nI i).toInt := by rw [e255]; exact fb_addI (by omega) (by omega)
                            refine lv_aload_n hx hb dX10_keep_256 rfl (lv_at hl 2 rfl) ?_
                            refine m_get (v := .ref (a 4)) hx hb hts hin hown hK hP 4 (by decide) rfl (hts (.fieldLink RX10 16 "ShadowBenchModel" "high" "[I") (by decide +kernel)) rfl dX10_keep_257 ?_
                            refine lv_iload_n hx hb dX10_keep_260 rfl (lv_at hl 5 rfl) ?_
                            refine m_iald (w := (r 4)) hx hb hK hP 3 rfl (vp_in_iff.mpr ⟨by omega, by omega⟩) dX10_keep_261 ?_
                            refine lv_topi (fun v261 e261 => ?_)
                            have i261 : v261.toInt = ((r 4) k0.toNatClampNeg).toInt := congrArg Int32.toInt e261
                            have w261 := mi_h hI (x := k0) (by omega) (by omega) e261
                            refine lv_isub hx hb dX10_keep_262 ?_
                            refine lv_topi (fun v262 e262 => ?_)
                            have i262 : v262.toInt = v255.toInt - v261.toInt := by rw [e262]; exact fb_subI (by omega) (by omega)
                            have ck9 := m_cl (x := k0) (by omega)
                            have cv8 := m_cl (x := v262) (by omega)
                            have ch9 := m_cl (x := v222) (by omega)
                            have f262 : v262.toNatClampNeg = 44 * k0.toNatClampNeg + (11 + i - v222.toNatClampNeg) := by omega
                            rw [e222] at ch9 f262
                            refine m_iald (w := (r 5)) hx hb hK hP 4 rfl (vp_in_iff.mpr ⟨by omega, by omega⟩) dX10_keep_263 ?_
                            refine lv_topi (fun v263 e263 => ?_)
                            have i263 : v263.toInt = ((r 5) v262.toNatClampNeg).toInt := congrArg Int32.toInt e263
                            refine lv_i2l (v := v263.toInt64) hx hb dX10_keep_264 rfl ?_
                            refine m_last (w := s3) hx hb hK hP hD hS 21 rfl (vp_in_iff.mpr ⟨by omega, by omega⟩) (va_up (va_up q 33 s3) 33 (vp_updL s3 v198.toNatClampNeg v263.toInt64)) (ms_33 cy mo a _ _ _ _ _) dX10_keep_265 (fun H locs hP hS => ?_)
                            have hP := wm_eq rfl rfl rfl (es_q_33__33 q s3 (vp_updL s3 v198.toNatClampNeg v263.toInt64)) hP
                            refine lv_iinc (v := (nI (i + 1))) (lv' := [(7, .int (nI (i + 1))), (6, .int (1 : Int32)), (0, .ref mo), (1, .int d), (2, .int what), (3, .int k0), (4, .long p0)]) hx hb dX10_keep_266 hl (k := 0) rfl (nI_1 _) (by decide) rfl (fun ls hl => ?_)
                            refine lv_goto (tgt := 177) hx hb dX10_keep_269 (by decide) ?_
                            have hP := wm_eq rfl rfl (ec_r_29_30__29_30 r ((upd (r 29) d.toNatClampNeg what)) ((upd (r 30) d.toNatClampNeg (0 : Int32)))) rfl hP
                            exact ih_177 (i + 1) (vp_updL s3 v198.toNatClampNeg v263.toInt64) (by omega) (by rw [j177_1, f198]; exact setQ_v (by first | (rw [keG_3 (by omega)]; exact one_bI (by omega) q208) | (rw [keG_4 (by omega) (by omega), e237, f236]; done) | (rw [keG_5 (by omega) (by omega), e263, f262]; done) | (exfalso; omega))) (by omega) _ _ hP hS ls (lv_sub hl [0, 1, 2, 3, 4, 5, 6] rfl)
                          · skip
                            have d223 := c223
                            rw [fa_le] at d223
                            refine lv_aload_n hx hb dX10_keep_226 rfl (lv_at hl 2 rfl) ?_
                            refine m_get (v := .ref (a 5)) hx hb hts hin hown hK hP 5 (by decide) rfl (hts (.fieldLink RX10 19 "ShadowBenchModel" "sums" "[I") (by decide +kernel)) rfl dX10_keep_227 ?_
                            refine lv_bipush (v := 44) hx hb dX10_keep_230 (by decide) ?_
                            refine lv_iload_n hx hb dX10_keep_232 rfl (lv_at hl 5 rfl) ?_
                            refine lv_imul hx hb dX10_keep_233 ?_
                            refine lv_topi (fun v233 e233 => ?_)
                            have i233 : v233.toInt = 44 * k0.toInt := by rw [e233]; exact mulcL rfl (by omega) (by omega)
                            refine lv_iload hx hb dX10_keep_234 (lv_at hl 0 rfl) ?_
                            refine lv_iadd hx hb dX10_keep_236 ?_
                            refine lv_topi (fun v236 e236 => ?_)
                            have i236 : v236.toInt = v233.toInt + (nI i).toInt := by rw [e236]; exact fb_addI (by omega) (by omega)
                            have ck9 := m_cl (x := k0) (by omega)
                            have cv8 := m_cl (x := v236) (by omega)
                            have f236 : v236.toNatClampNeg = 44 * k0.toNatClampNeg + i := by omega
                            have ch9 := m_cl (x := v222) (by omega)
                            rw [e222] at ch9
                            refine m_iald (w := (r 5)) hx hb hK hP 4 rfl (vp_in_iff.mpr ⟨by omega, by omega⟩) dX10_keep_237 ?_
                            refine lv_topi (fun v237 e237 => ?_)
                            have i237 : v237.toInt = ((r 5) v236.toNatClampNeg).toInt := congrArg Int32.toInt e237
                            refine lv_i2l (v := v237.toInt64) hx hb dX10_keep_238 rfl ?_
                            refine lv_goto (tgt := 265) hx hb dX10_keep_239 (by decide) ?_
                            refine m_last (w := s3) hx hb hK hP hD hS 21 rfl (vp_in_iff.mpr ⟨by omega, by omega⟩) (va_up (va_up q 33 s3) 33 (vp_updL s3 v198.toNatClampNeg v237.toInt64)) (ms_33 cy mo a _ _ _ _ _) dX10_keep_265 (fun H locs hP hS => ?_)
                            have hP := wm_eq rfl rfl rfl (es_q_33__33 q s3 (vp_updL s3 v198.toNatClampNeg v237.toInt64)) hP
                            refine lv_iinc (v := (nI (i + 1))) (lv' := [(7, .int (nI (i + 1))), (6, .int (1 : Int32)), (0, .ref mo), (1, .int d), (2, .int what), (3, .int k0), (4, .long p0)]) hx hb dX10_keep_266 hl (k := 0) rfl (nI_1 _) (by decide) rfl (fun ls hl => ?_)
                            refine lv_goto (tgt := 177) hx hb dX10_keep_269 (by decide) ?_
                            have hP := wm_eq rfl rfl (ec_r_29_30__29_30 r ((upd (r 29) d.toNatClampNeg what)) ((upd (r 30) d.toNatClampNeg (0 : Int32)))) rfl hP
                            exact ih_177 (i + 1) (vp_updL s3 v198.toNatClampNeg v237.toInt64) (by omega) (by rw [j177_1, f198]; exact setQ_v (by first | (rw [keG_3 (by omega)]; exact one_bI (by omega) q208) | (rw [keG_4 (by omega) (by omega), e237, f236]; done) | (rw [keG_5 (by omega) (by omega), e263, f262]; done) | (exfalso; omega))) (by omega) _ _ hP hS ls (lv_sub hl [0, 1, 2, 3, 4, 5, 6] rfl)
                        · first | exact absurd c201 c95 | exact absurd c95 c201
                  have hP := wm_eq rfl rfl (ec_r_29_30__29_30 r ((upd (r 29) d.toNatClampNeg what)) ((upd (r 30) d.toNatClampNeg (0 : Int32)))) (ec_q___33 q ) hP
                  exact loop_177 (60 + 1) 0 (q 33) (by omega) ((setQ_0 _ _ _).symm) (by omega) _ _ hP hS ls (lv_sub hl [0, 1, 2, 3, 4, 5, 6] rfl)
                · skip
                  have d139 := c139
                  rw [fa_eq] at d139
                  refine lv_aload_n hx hb dX10_keep_142 rfl (lv_at hl 1 rfl) ?_
                  refine m_get (v := .ref (a 31)) hx hb hts hin hown hK hP 31 (by decide) rfl (hts (.fieldLink RX10 67 "ShadowBenchModel" "shelfWeight" "[I") (by decide +kernel)) rfl dX10_keep_143 ?_
                  refine lv_iload_n hx hb dX10_keep_146 rfl (lv_at hl 2 rfl) ?_
                  refine lv_aload_n hx hb dX10_keep_147 rfl (lv_at hl 1 rfl) ?_
                  refine lv_iload_n hx hb dX10_keep_148 rfl (lv_at hl 4 rfl) ?_
                  refine m_calli (As := [.int k0]) (rest := [.int d, .ref (a 31)]) ⟨hx, hb, hml, hown, hts⟩ (c_X10_weightOf l D cy mo a (upd f 0 (0 : Int32)) g (va_up (va_up r 29 ((upd (r 29) d.toNatClampNeg what))) 30 ((upd (r 30) d.toNatClampNeg (0 : Int32)))) q k0 hD (by first | exact hI | exact mi_sz (d := d) hI (v := 0) (by first | omega | decide) rfl rfl rfl rfl rfl rfl rfl rfl | exact mi_sz (d := d) hI (v := v131) (by first | omega | decide) rfl rfl rfl rfl rfl rfl rfl rfl | exact mi_sz (d := d) hI (v := v110) (by first | omega | decide) rfl rfl rfl rfl rfl rfl rfl rfl) (show 0 ≤ k0.toInt ∧ k0.toInt < (f 1).toInt by omega)) (cwV 1 hts gX10_keep_X10_weightOf rfl rfl rfl (by decide +kernel) ⟨Nat.le_of_ble_eq_true rfl, Nat.le_of_ble_eq_true rfl⟩) hK hP rfl hl.1 rfl (Nat.le_of_ble_eq_true rfl) dX10_keep_149 ⟨Nat.le_of_ble_eq_true rfl, Nat.le_of_ble_eq_true rfl⟩ hS (fun r149 u H locs q149 hP hS => ?_)
                  obtain ⟨rfl, q149⟩ := q149
                  have hP : va_P D vwCl (WM cy mo a (upd f 0 (0 : Int32)) g (va_up (va_up r 29 ((upd (r 29) d.toNatClampNeg what))) 30 ((upd (r 30) d.toNatClampNeg (0 : Int32)))) q) H := hP
                  have q149 : True := q149
                  refine m_iast (w := (r 31)) hx hb hK hP hD hS 19 rfl (vp_in_iff.mpr ⟨by omega, by omega⟩) (va_up (va_up (va_up r 29 ((upd (r 29) d.toNatClampNeg what))) 30 ((upd (r 30) d.toNatClampNeg (0 : Int32)))) 31 (upd (r 31) d.toNatClampNeg r149)) (ms_31 cy mo a _ _ _ _ _) dX10_keep_152 (fun H locs hP hS => ?_)
                  refine lv_aload_n hx hb dX10_keep_153 rfl (lv_at hl 1 rfl) ?_
                  refine m_get (v := .ref (a 32)) hx hb hts hin hown hK hP 32 (by decide) rfl (hts (.fieldLink RX10 70 "ShadowBenchModel" "shelfFailure" "[I") (by decide +kernel)) rfl dX10_keep_154 ?_
                  refine lv_iload_n hx hb dX10_keep_157 rfl (lv_at hl 2 rfl) ?_
                  refine lv_aload_n hx hb dX10_keep_158 rfl (lv_at hl 1 rfl) ?_
                  refine m_get (v := .ref (a 2)) hx hb hts hin hown hK hP 2 (by decide) rfl (hts (.fieldLink RX10 7 "ShadowBenchModel" "kind" "[I") (by decide +kernel)) rfl dX10_keep_159 ?_
                  refine lv_iload_n hx hb dX10_keep_162 rfl (lv_at hl 4 rfl) ?_
                  refine m_iald (w := (r 2)) hx hb hK hP 1 rfl (vp_in_iff.mpr ⟨by omega, by omega⟩) dX10_keep_163 ?_
                  refine lv_topi (fun v163 e163 => ?_)
                  have i163 : v163.toInt = ((r 2) k0.toNatClampNeg).toInt := congrArg Int32.toInt e163
                  refine lv_if_ne (tgt := 172) hx hb dX10_keep_164 (by decide) (fun c164 => ?_) (fun c164 => ?_)
                  · skip
                    have d164 := c164
                    rw [fa_eq] at d164
                    refine lv_iload_n hx hb dX10_keep_172 rfl (lv_at hl 4 rfl) ?_
                    refine m_iast (w := (r 32)) hx hb hK hP hD hS 20 rfl (vp_in_iff.mpr ⟨by omega, by omega⟩) (va_up (va_up (va_up (va_up r 29 ((upd (r 29) d.toNatClampNeg what))) 30 ((upd (r 30) d.toNatClampNeg (0 : Int32)))) 31 ((upd (r 31) d.toNatClampNeg r149))) 32 (upd (r 32) d.toNatClampNeg k0)) (ms_32 cy mo a _ _ _ _ _) dX10_keep_173 (fun H locs hP hS => ?_)
                    refine lv_iconst (v := 0) hx hb dX10_keep_174 (by decide) ?_
                    refine lv_istore (lv' := [(7, .int (0 : Int32)), (6, .int (1 : Int32)), (0, .ref mo), (1, .int d), (2, .int what), (3, .int k0), (4, .long p0)]) hx hb dX10_keep_175 hl (by decide) rfl (fun ls hl => ?_)
                    have loop_177 : ∀ (n : Nat) (i : Nat) (s3 : Nat → Int64), (i ≤ 60 ∧ (i : Int) ≤ nv9.toInt) → (s3 = setQ (q 33) (60 * d.toNatClampNeg) (keG what p0 (r 4 k0.toNatClampNeg).toNatClampNeg (fun x9 => r 5 (44 * k0.toNatClampNeg + x9))) i) → 60 - i < n → ∀ (H : Heap) (locs : List Loc), va_P D vwCl (WM cy mo a (upd f 0 (0 : Int32)) g (va_up (va_up (va_up (va_up r 29 ((upd (r 29) d.toNatClampNeg what))) 30 ((upd (r 30) d.toNatClampNeg (0 : Int32)))) 31 ((upd (r 31) d.toNatClampNeg r149))) 32 ((upd (r 32) d.toNatClampNeg k0))) (va_up q 33 s3)) H → va_S (AM mo a) s.heap H locs → ∀ (ls : Array Slot), lv_has ls 8 [(7, .int (nI i)), (6, .int (1 : Int32)), (0, .ref mo), (1, .int d), (2, .int what), (3, .int k0), (4, .long p0)] → W p l e (headSpec wsX10_keep ({ frames := 3, cells := 0, slots := 0, locals := 69 })).room s m #[Value.ref mo, Value.int d, Value.int what, Value.int k0, Value.long p0] below meth c H locs 0 0 (MQ below (va_Qi (fun r0 u => ∃ (sh : Nat → Int32), ∃ (sz : Nat → Int32), ∃ (sw : Nat → Int32), ∃ (sf : Nat → Int32), ∃ (sr : Nat → Int64), u = ((upd f 0 (0 : Int32)), g, (va_up (va_up (va_up (va_up r 29 sh) 30 sz) 31 sw) 32 sf), (va_up q 33 sr)) ∧ (yesNo (okKeep (f 1) (fun j9 => (r 3 j9).toNatClampNeg) (fun j9 => (r 4 j9).toNatClampNeg) d what k0 p0) 0 (-1) r0 ∧ ((okKeep (f 1) (fun j9 => (r 3 j9).toNatClampNeg) (fun j9 => (r 4 j9).toNatClampNeg) d what k0 p0 ∧ ∃ nv, sh = upd (r 29) d.toNatClampNeg what ∧ sz = upd (r 30) d.toNatClampNeg nv ∧ (what.toInt = 3 → nv.toInt = (((r 3 k0.toNatClampNeg).toNatClampNeg * (r 4 k0.toNatClampNeg).toNatClampNeg : Nat) : Int)) ∧ (what.toInt = 4 → nv.toInt = (((r 4 k0.toNatClampNeg).toNatClampNeg + (r 3 k0.toNatClampNeg).toNatClampNeg : Nat) : Int)) ∧ sr = setQ (q 33) (60 * d.toNatClampNeg) (keG what p0 (r 4 k0.toNatClampNeg).toNatClampNeg (fun x9 => r 5 (44 * k0.toNatClampNeg + x9))) nv.toNatClampNeg ∧ nv.toNatClampNeg ≤ 60) ∨ (¬ okKeep (f 1) (fun j9 => (r 3 j9).toNatClampNeg) (fun j9 => (r 4 j9).toNatClampNeg) d what k0 p0 ∧ sh = r 29 ∧ sz = r 30 ∧ sr = q 33)) ∧ MI (upd f 0 (0 : Int32)) (va_up (va_up (va_up (va_up r 29 sh) 30 sz) 31 sw) 32 sf))) (mB D cy mo a) (AM mo a)) #[Value.ref mo, Value.int d, Value.int what, Value.int k0, Value.long p0] s 0 0 (AM mo a)) (F0 m 177 ls []) := by
                      intro n
                      induction n with
                      | zero => intro i s3 j177_0 j177_1 hn; exact absurd hn (Nat.not_lt_zero _)
                      | succ n ih_177 =>
                        intro i s3 j177_0 j177_1 hn_177 H locs hP hS ls hl
                        have ii : (nI i).toInt = (i : Int) := nI_toInt (by omega)
                        refine lv_iload hx hb dX10_keep_177 (lv_at hl 0 rfl) ?_
                        refine lv_aload_n hx hb dX10_keep_179 rfl (lv_at hl 2 rfl) ?_
                        refine m_get (v := .ref (a 30)) hx hb hts hin hown hK hP 30 (by decide) rfl (hts (.fieldLink RX10 64 "ShadowBenchModel" "shelfSize" "[I") (by decide +kernel)) rfl dX10_keep_180 ?_
                        refine lv_iload_n hx hb dX10_keep_183 rfl (lv_at hl 3 rfl) ?_
                        refine m_iald (w := ((upd (r 30) d.toNatClampNeg (0 : Int32)))) hx hb hK hP 18 rfl (vp_in_iff.mpr ⟨by omega, by omega⟩) dX10_keep_184 ?_
                        refine lv_topi (fun v184 e184 => ?_)
                        have i184 : v184.toInt = (((upd (r 30) d.toNatClampNeg (0 : Int32))) d.toNatClampNeg).toInt := congrArg Int32.toInt e184
                        have z184 := e184
                        simp only [upd, if_true] at z184
                        have y184 := congrArg Int32.toInt z184
                        have y184 : v184 = nv9 := by rw [e184, hnv9]; simp only [upd, if_true]
                        have i184 := congrArg Int32.toInt y184
                        refine lv_icmp_ge (tgt := 272) hx hb dX10_keep_185 (by decide) (fun c185 => ?_) (fun c185 => ?_)
                        · skip
                          have d185 := c185
                          rw [fa_le] at d185
                          refine lv_iconst (v := 0) hx hb dX10_keep_272 (by decide) ?_
                          have hP := wm_eq rfl rfl (ec_r_29_30_31_32__29_30_31_32 r ((upd (r 29) d.toNatClampNeg what)) ((upd (r 30) d.toNatClampNeg (0 : Int32))) ((upd (r 31) d.toNatClampNeg r149)) ((upd (r 32) d.toNatClampNeg k0))) rfl hP
                          exact W.iret (v := (0 : Int32)) hx hb hr (fun t ht hW => ⟨⟨_, ((upd f 0 (0 : Int32)), g, (va_up (va_up (va_up (va_up r 29 (((upd (r 29) d.toNatClampNeg what)))) 30 (((upd (r 30) d.toNatClampNeg (0 : Int32))))) 31 (((upd (r 31) d.toNatClampNeg r149)))) 32 (((upd (r 32) d.toNatClampNeg k0)))), (va_up q 33 s3)), rfl, ⟨((upd (r 29) d.toNatClampNeg what)), ((upd (r 30) d.toNatClampNeg (0 : Int32))), ((upd (r 31) d.toNatClampNeg r149)), ((upd (r 32) d.toNatClampNeg k0)), s3, rfl, ⟨(Or.inl ⟨⟨b9, (by unfold okJob; first | exact Or.inl (by omega) | exact Or.inr (Or.inl ⟨by omega, b31⟩) | (have z9 := goodP_of b64; subst e52; subst e58; exact Or.inr (Or.inr ⟨by omega, b44, z9.2⟩)))⟩, rfl⟩), (Or.inl ⟨⟨b9, (by unfold okJob; first | exact Or.inl (by omega) | exact Or.inr (Or.inl ⟨by omega, b31⟩) | (have z9 := goodP_of b64; subst e52; subst e58; exact Or.inr (Or.inr ⟨by omega, b44, z9.2⟩)))⟩, _, rfl, rfl, (fun z9 => by first | (exfalso; omega) | exact y110), (fun z9 => by first | (exfalso; omega) | exact y131), (by have c9 := m_cl (x := nv9) (by omega); rw [j177_1, ← hnv9, show i = nv9.toNatClampNeg by omega]), (by have c9 := m_cl (x := nv9) (by omega); rw [hnv9] at c9; omega)⟩), by first | exact hI | exact mi_sz (d := d) hI (v := v110) (by omega) rfl rfl rfl rfl rfl rfl rfl rfl | exact mi_sz (d := d) hI (v := v131) (by omega) rfl rfl rfl rfl rfl rfl rfl rfl | exact mi_sz (d := d) hI (v := 0) (by decide) rfl rfl rfl rfl rfl rfl rfl rfl⟩⟩, by unfold mB; rw [ht]; exact hP⟩, hS.F ht⟩) hS.2.2 dX10_keep_273
                        · skip
                          have d185 := c185
                          rw [fa_le] at d185
                          refine lv_aload_n hx hb dX10_keep_188 rfl (lv_at hl 2 rfl) ?_
                          refine m_get (v := .ref (a 33)) hx hb hts hin hown hK hP 33 (by decide) rfl (hts (.fieldLink RX10 73 "ShadowBenchModel" "shelfRow" "[J") (by decide +kernel)) rfl dX10_keep_189 ?_
                          refine lv_bipush (v := 60) hx hb dX10_keep_192 (by decide) ?_
                          refine lv_iload_n hx hb dX10_keep_194 rfl (lv_at hl 3 rfl) ?_
                          refine lv_imul hx hb dX10_keep_195 ?_
                          refine lv_topi (fun v195 e195 => ?_)
                          have i195 : v195.toInt = 60 * d.toInt := by rw [e195]; exact mulcL rfl (by omega) (by omega)
                          refine lv_iload hx hb dX10_keep_196 (lv_at hl 0 rfl) ?_
                          refine lv_iadd hx hb dX10_keep_198 ?_
                          refine lv_topi (fun v198 e198 => ?_)
                          have i198 : v198.toInt = v195.toInt + (nI i).toInt := by rw [e198]; exact fb_addI (by omega) (by omega)
                          have cd9 := m_cl (x := d) (by omega)
                          have cv9 := m_cl (x := v198) (by omega)
                          have f198 : v198.toNatClampNeg = 60 * d.toNatClampNeg + i := by omega
                          refine lv_iload_n hx hb dX10_keep_199 rfl (lv_at hl 4 rfl) ?_
                          refine lv_iconst (v := 3) hx hb dX10_keep_200 (by decide) ?_
                          refine lv_icmp_ne (tgt := 215) hx hb dX10_keep_201 (by decide) (fun c201 => ?_) (fun c201 => ?_)
                          · skip
                            have d201 := c201
                            rw [fa_eq] at d201
                            refine lv_iload hx hb dX10_keep_215 (lv_at hl 0 rfl) ?_
                            refine lv_aload_n hx hb dX10_keep_217 rfl (lv_at hl 2 rfl) ?_
                            refine m_get (v := .ref (a 4)) hx hb hts hin hown hK hP 4 (by decide) rfl (hts (.fieldLink RX10 16 "ShadowBenchModel" "high" "[I") (by decide +kernel)) rfl dX10_keep_218 ?_
                            refine lv_iload_n hx hb dX10_keep_221 rfl (lv_at hl 5 rfl) ?_
                            refine m_iald (w := (r 4)) hx hb hK hP 3 rfl (vp_in_iff.mpr ⟨by omega, by omega⟩) dX10_keep_222 ?_
                            refine lv_topi (fun v222 e222 => ?_)
                            have i222 : v222.toInt = ((r 4) k0.toNatClampNeg).toInt := congrArg Int32.toInt e222
                            have w222 := mi_h hI (x := k0) (by omega) (by omega) e222
                            refine lv_icmp_ge (tgt := 242) hx hb dX10_keep_223 (by decide) (fun c223 => ?_) (fun c223 => ?_)
                            · skip
                              have d223 := c223
                              rw [fa_le] at d223
                              refine lv_aload_n hx hb dX10_keep_242 rfl (lv_at hl 2 rfl) ?_
                              refine m_get (v := .ref (a 5)) hx hb hts hin hown hK hP 5 (by decide) rfl (hts (.fieldLink RX10 19 "ShadowBenchModel" "sums" "[I") (by decide +kernel)) rfl dX10_keep_243 ?_
                              refine lv_bipush (v := 44) hx hb dX10_keep_246 (by decide) ?_
                              refine lv_iload_n hx hb dX10_keep_248 rfl (lv_at hl 5 rfl) ?_
                              refine lv_imul hx hb dX10_keep_249 ?_
                              refine lv_topi (fun v249 e249 => ?_)
                              have i249 : v249.toInt = 44 * k0.toInt := by rw [e249]; exact mulcL rfl (by omega) (by omega)
                              refine lv_bipush (v := 11) hx hb dX10_keep_250 (by decide) ?_
                              refine lv_iadd hx hb dX10_keep_252 ?_
                              refine lv_topi (fun v252 e252 => ?_)
                              have i252 : v252.toInt = v249.toInt + (11 : Int32).toInt := by rw [e252]; exact fb_addI (by omega) (by omega)
                              refine lv_iload hx hb dX10_keep_253 (lv_at hl 0 rfl) ?_
                              refine lv_iadd hx hb dX10_keep_255 ?_
                              refine lv_topi (fun v255 e255 => ?_)
                              have i255 : v255.toInt = v252.toInt + (nI i).toInt := by rw [e255]; exact fb_addI (by omega) (by omega)
                              refine lv_aload_n hx hb dX10_keep_256 rfl (lv_at hl 2 rfl) ?_
                              refine m_get (v := .ref (a 4)) hx hb hts hin hown hK hP 4 (by decide) rfl (hts (.fieldLink RX10 16 "ShadowBenchModel" "high" "[I") (by decide +kernel)) rfl dX10_keep_257 ?_
                              refine lv_iload_n hx hb dX10_keep_260 rfl (lv_at hl 5 rfl) ?_
                              refine m_iald (w := (r 4)) hx hb hK hP 3 rfl (vp_in_iff.mpr ⟨by omega, by omega⟩) dX10_keep_261 ?_
                              refine lv_topi (fun v261 e261 => ?_)
                              have i261 : v261.toInt = ((r 4) k0.toNatClampNeg).toInt := congrArg Int32.toInt e261
                              have w261 := mi_h hI (x := k0) (by omega) (by omega) e261
                              refine lv_isub hx hb dX10_keep_262 ?_
                              refine lv_topi (fun v262 e262 => ?_)
                              have i262 : v262.toInt = v255.toInt - v261.toInt := by rw [e262]; exact fb_subI (by omega) (by omega)
                              have ck9 := m_cl (x := k0) (by omega)
                              have cv8 := m_cl (x := v262) (by omega)
                              have ch9 := m_cl (x := v222) (by omega)
                              have f262 : v262.toNatClampNeg = 44 * k0.toNatClampNeg + (11 + i - v222.toNatClampNeg) := by omega
                              rw [e222] at ch9 f262
                              refine m_iald (w := (r 5)) hx hb hK hP 4 rfl (vp_in_iff.mpr ⟨by omega, by omega⟩) dX10_keep_263 ?_
                              refine lv_topi (fun v263 e263 => ?_)
                              have i263 : v263.toInt = ((r 5) v262.toNatClampNeg).toInt := congrArg Int32.toInt e263
                              refine lv_i2l (v := v263.toInt64) hx hb dX10_keep_264 rfl ?_
                              refine m_last (w := s3) hx hb hK hP hD hS 21 rfl (vp_in_iff.mpr ⟨by omega, by omega⟩) (va_up (va_up q 33 s3) 33 (vp_updL s3 v198.toNatClampNeg v263.toInt64)) (ms_33 cy mo a _ _ _ _ _) dX10_keep_265 (fun H locs hP hS => ?_)
                              have hP := wm_eq rfl rfl rfl (es_q_33__33 q s3 (vp_updL s3 v198.toNatClampNeg v263.toInt64)) hP
                              refine lv_iinc (v := (nI (i + 1))) (lv' := [(7, .int (nI (i + 1))), (6, .int (1 : Int32)), (0, .ref mo), (1, .int d), (2, .int what), (3, .int k0), (4, .long p0)]) hx hb dX10_keep_266 hl (k := 0) rfl (nI_1 _) (by decide) rfl (fun ls hl => ?_)
                              refine lv_goto (tgt := 177) hx hb dX10_keep_269 (by decide) ?_
                              have hP := wm_eq rfl rfl (ec_r_29_30_31_32__29_30_31_32 r ((upd (r 29) d.toNatClampNeg what)) ((upd (r 30) d.toNatClampNeg (0 : Int32))) ((upd (r 31) d.toNatClampNeg r149)) ((upd (r 32) d.toNatClampNeg k0))) rfl hP
                              exact ih_177 (i + 1) (vp_updL s3 v198.toNatClampNeg v263.toInt64) (by omega) (by rw [j177_1, f198]; exact setQ_v (by first | (rw [keG_3 (by omega)]; exact one_bI (by omega) q208) | (rw [keG_4 (by omega) (by omega), e237, f236]; done) | (rw [keG_5 (by omega) (by omega), e263, f262]; done) | (exfalso; omega))) (by omega) _ _ hP hS ls (lv_sub hl [0, 1, 2, 3, 4, 5, 6] rfl)
                            · skip
                              have d223 := c223
                              rw [fa_le] at d223
                              refine lv_aload_n hx hb dX10_keep_226 rfl (lv_at hl 2 rfl) ?_
                              refine m_get (v := .ref (a 5)) hx hb hts hin hown hK hP 5 (by decide) rfl (hts (.fieldLink RX10 19 "ShadowBenchModel" "sums" "[I") (by decide +kernel)) rfl dX10_keep_227 ?_
                              refine lv_bipush (v := 44) hx hb dX10_keep_230 (by decide) ?_
                              refine lv_iload_n hx hb dX10_keep_232 rfl (lv_at hl 5 rfl) ?_
                              refine lv_imul hx hb dX10_keep_233 ?_
                              refine lv_topi (fun v233 e233 => ?_)
                              have i233 : v233.toInt = 44 * k0.toInt := by rw [e233]; exact mulcL rfl (by omega) (by omega)
                              refine lv_iload hx hb dX10_keep_234 (lv_at hl 0 rfl) ?_
                              refine lv_iadd hx hb dX10_keep_236 ?_
                              refine lv_topi (fun v236 e236 => ?_)
                              have i236 : v236.toInt = v233.toInt + (nI i).toInt := by rw [e236]; exact fb_addI (by omega) (by omega)
                              have ck9 := m_cl (x := k0) (by omega)
                              have cv8 := m_cl (x := v236) (by omega)
                              have f236 : v236.toNatClampNeg = 44 * k0.toNatClampNeg + i := by omega
                              have ch9 := m_cl (x := v222) (by omega)
                              rw [e222] at ch9
                              refine m_iald (w := (r 5)) hx hb hK hP 4 rfl (vp_in_iff.mpr ⟨by omega, by omega⟩) dX10_keep_237 ?_
                              refine lv_topi (fun v237 e237 => ?_)
                              have i237 : v237.toInt = ((r 5) v236.toNatClampNeg).toInt := congrArg Int32.toInt e237
                              refine lv_i2l (v := v237.toInt64) hx hb dX10_keep_238 rfl ?_
                              refine lv_goto (tgt := 265) hx hb dX10_keep_239 (by decide) ?_
                              refine m_last (w := s3) hx hb hK hP hD hS 21 rfl (vp_in_iff.mpr ⟨by omega, by omega⟩) (va_up (va_up q 33 s3) 33 (vp_updL s3 v198.toNatClampNeg v237.toInt64)) (ms_33 cy mo a _ _ _ _ _) dX10_keep_265 (fun H locs hP hS => ?_)
                              have hP := wm_eq rfl rfl rfl (es_q_33__33 q s3 (vp_updL s3 v198.toNatClampNeg v237.toInt64)) hP
                              refine lv_iinc (v := (nI (i + 1))) (lv' := [(7, .int (nI (i + 1))), (6, .int (1 : Int32)), (0, .ref mo), (1, .int d), (2, .int what), (3, .int k0), (4, .long p0)]) hx hb dX10_keep_266 hl (k := 0) rfl (nI_1 _) (by decide) rfl (fun ls hl => ?_)
                              refine lv_goto (tgt := 177) hx hb dX10_keep_269 (by decide) ?_
                              have hP := wm_eq rfl rfl (ec_r_29_30_31_32__29_30_31_32 r ((upd (r 29) d.toNatClampNeg what)) ((upd (r 30) d.toNatClampNeg (0 : Int32))) ((upd (r 31) d.toNatClampNeg r149)) ((upd (r 32) d.toNatClampNeg k0))) rfl hP
                              exact ih_177 (i + 1) (vp_updL s3 v198.toNatClampNeg v237.toInt64) (by omega) (by rw [j177_1, f198]; exact setQ_v (by first | (rw [keG_3 (by omega)]; exact one_bI (by omega) q208) | (rw [keG_4 (by omega) (by omega), e237, f236]; done) | (rw [keG_5 (by omega) (by omega), e263, f262]; done) | (exfalso; omega))) (by omega) _ _ hP hS ls (lv_sub hl [0, 1, 2, 3, 4, 5, 6] rfl)
                          · first | exact absurd c201 c95 | exact absurd c95 c201
                    have hP := wm_eq rfl rfl (ec_r_29_30_31_32__29_30_31_32 r ((upd (r 29) d.toNatClampNeg what)) ((upd (r 30) d.toNatClampNeg (0 : Int32))) ((upd (r 31) d.toNatClampNeg r149)) ((upd (r 32) d.toNatClampNeg k0))) (ec_q___33 q ) hP
                    exact loop_177 (60 + 1) 0 (q 33) (by omega) ((setQ_0 _ _ _).symm) (by omega) _ _ hP hS ls (lv_sub hl [0, 1, 2, 3, 4, 5, 6] rfl)
                  · skip
                    have d164 := c164
                    rw [fa_eq] at d164
                    refine lv_bipush (v := (-15)) hx hb dX10_keep_167 (by decide) ?_
                    refine lv_goto (tgt := 173) hx hb dX10_keep_169 (by decide) ?_
                    refine m_iast (w := (r 32)) hx hb hK hP hD hS 20 rfl (vp_in_iff.mpr ⟨by omega, by omega⟩) (va_up (va_up (va_up (va_up r 29 ((upd (r 29) d.toNatClampNeg what))) 30 ((upd (r 30) d.toNatClampNeg (0 : Int32)))) 31 ((upd (r 31) d.toNatClampNeg r149))) 32 (upd (r 32) d.toNatClampNeg (((-15) : Int32)))) (ms_32 cy mo a _ _ _ _ _) dX10_keep_173 (fun H locs hP hS => ?_)
                    refine lv_iconst (v := 0) hx hb dX10_keep_174 (by decide) ?_
                    refine lv_istore (lv' := [(7, .int (0 : Int32)), (6, .int (1 : Int32)), (0, .ref mo), (1, .int d), (2, .int what), (3, .int k0), (4, .long p0)]) hx hb dX10_keep_175 hl (by decide) rfl (fun ls hl => ?_)
                    have loop_177 : ∀ (n : Nat) (i : Nat) (s3 : Nat → Int64), (i ≤ 60 ∧ (i : Int) ≤ nv9.toInt) → (s3 = setQ (q 33) (60 * d.toNatClampNeg) (keG what p0 (r 4 k0.toNatClampNeg).toNatClampNeg (fun x9 => r 5 (44 * k0.toNatClampNeg + x9))) i) → 60 - i < n → ∀ (H : Heap) (locs : List Loc), va_P D vwCl (WM cy mo a (upd f 0 (0 : Int32)) g (va_up (va_up (va_up (va_up r 29 ((upd (r 29) d.toNatClampNeg what))) 30 ((upd (r 30) d.toNatClampNeg (0 : Int32)))) 31 ((upd (r 31) d.toNatClampNeg r149))) 32 ((upd (r 32) d.toNatClampNeg (((-15) : Int32))))) (va_up q 33 s3)) H → va_S (AM mo a) s.heap H locs → ∀ (ls : Array Slot), lv_has ls 8 [(7, .int (nI i)), (6, .int (1 : Int32)), (0, .ref mo), (1, .int d), (2, .int what), (3, .int k0), (4, .long p0)] → W p l e (headSpec wsX10_keep ({ frames := 3, cells := 0, slots := 0, locals := 69 })).room s m #[Value.ref mo, Value.int d, Value.int what, Value.int k0, Value.long p0] below meth c H locs 0 0 (MQ below (va_Qi (fun r0 u => ∃ (sh : Nat → Int32), ∃ (sz : Nat → Int32), ∃ (sw : Nat → Int32), ∃ (sf : Nat → Int32), ∃ (sr : Nat → Int64), u = ((upd f 0 (0 : Int32)), g, (va_up (va_up (va_up (va_up r 29 sh) 30 sz) 31 sw) 32 sf), (va_up q 33 sr)) ∧ (yesNo (okKeep (f 1) (fun j9 => (r 3 j9).toNatClampNeg) (fun j9 => (r 4 j9).toNatClampNeg) d what k0 p0) 0 (-1) r0 ∧ ((okKeep (f 1) (fun j9 => (r 3 j9).toNatClampNeg) (fun j9 => (r 4 j9).toNatClampNeg) d what k0 p0 ∧ ∃ nv, sh = upd (r 29) d.toNatClampNeg what ∧ sz = upd (r 30) d.toNatClampNeg nv ∧ (what.toInt = 3 → nv.toInt = (((r 3 k0.toNatClampNeg).toNatClampNeg * (r 4 k0.toNatClampNeg).toNatClampNeg : Nat) : Int)) ∧ (what.toInt = 4 → nv.toInt = (((r 4 k0.toNatClampNeg).toNatClampNeg + (r 3 k0.toNatClampNeg).toNatClampNeg : Nat) : Int)) ∧ sr = setQ (q 33) (60 * d.toNatClampNeg) (keG what p0 (r 4 k0.toNatClampNeg).toNatClampNeg (fun x9 => r 5 (44 * k0.toNatClampNeg + x9))) nv.toNatClampNeg ∧ nv.toNatClampNeg ≤ 60) ∨ (¬ okKeep (f 1) (fun j9 => (r 3 j9).toNatClampNeg) (fun j9 => (r 4 j9).toNatClampNeg) d what k0 p0 ∧ sh = r 29 ∧ sz = r 30 ∧ sr = q 33)) ∧ MI (upd f 0 (0 : Int32)) (va_up (va_up (va_up (va_up r 29 sh) 30 sz) 31 sw) 32 sf))) (mB D cy mo a) (AM mo a)) #[Value.ref mo, Value.int d, Value.int what, Value.int k0, Value.long p0] s 0 0 (AM mo a)) (F0 m 177 ls []) := by
                      intro n
                      induction n with
                      | zero => intro i s3 j177_0 j177_1 hn; exact absurd hn (Nat.not_lt_zero _)
                      | succ n ih_177 =>
                        intro i s3 j177_0 j177_1 hn_177 H locs hP hS ls hl
                        have ii : (nI i).toInt = (i : Int) := nI_toInt (by omega)
                        refine lv_iload hx hb dX10_keep_177 (lv_at hl 0 rfl) ?_
                        refine lv_aload_n hx hb dX10_keep_179 rfl (lv_at hl 2 rfl) ?_
                        refine m_get (v := .ref (a 30)) hx hb hts hin hown hK hP 30 (by decide) rfl (hts (.fieldLink RX10 64 "ShadowBenchModel" "shelfSize" "[I") (by decide +kernel)) rfl dX10_keep_180 ?_
                        refine lv_iload_n hx hb dX10_keep_183 rfl (lv_at hl 3 rfl) ?_
                        refine m_iald (w := ((upd (r 30) d.toNatClampNeg (0 : Int32)))) hx hb hK hP 18 rfl (vp_in_iff.mpr ⟨by omega, by omega⟩) dX10_keep_184 ?_
                        refine lv_topi (fun v184 e184 => ?_)
                        have i184 : v184.toInt = (((upd (r 30) d.toNatClampNeg (0 : Int32))) d.toNatClampNeg).toInt := congrArg Int32.toInt e184
                        have z184 := e184
                        simp only [upd, if_true] at z184
                        have y184 := congrArg Int32.toInt z184
                        have y184 : v184 = nv9 := by rw [e184, hnv9]; simp only [upd, if_true]
                        have i184 := congrArg Int32.toInt y184
                        refine lv_icmp_ge (tgt := 272) hx hb dX10_keep_185 (by decide) (fun c185 => ?_) (fun c185 => ?_)
                        · skip
                          have d185 := c185
                          rw [fa_le] at d185
                          refine lv_iconst (v := 0) hx hb dX10_keep_272 (by decide) ?_
                          have hP := wm_eq rfl rfl (ec_r_29_30_31_32__29_30_31_32 r ((upd (r 29) d.toNatClampNeg what)) ((upd (r 30) d.toNatClampNeg (0 : Int32))) ((upd (r 31) d.toNatClampNeg r149)) ((upd (r 32) d.toNatClampNeg (((-15) : Int32))))) rfl hP
                          exact W.iret (v := (0 : Int32)) hx hb hr (fun t ht hW => ⟨⟨_, ((upd f 0 (0 : Int32)), g, (va_up (va_up (va_up (va_up r 29 (((upd (r 29) d.toNatClampNeg what)))) 30 (((upd (r 30) d.toNatClampNeg (0 : Int32))))) 31 (((upd (r 31) d.toNatClampNeg r149)))) 32 (((upd (r 32) d.toNatClampNeg (((-15) : Int32)))))), (va_up q 33 s3)), rfl, ⟨((upd (r 29) d.toNatClampNeg what)), ((upd (r 30) d.toNatClampNeg (0 : Int32))), ((upd (r 31) d.toNatClampNeg r149)), ((upd (r 32) d.toNatClampNeg (((-15) : Int32)))), s3, rfl, ⟨(Or.inl ⟨⟨b9, (by unfold okJob; first | exact Or.inl (by omega) | exact Or.inr (Or.inl ⟨by omega, b31⟩) | (have z9 := goodP_of b64; subst e52; subst e58; exact Or.inr (Or.inr ⟨by omega, b44, z9.2⟩)))⟩, rfl⟩), (Or.inl ⟨⟨b9, (by unfold okJob; first | exact Or.inl (by omega) | exact Or.inr (Or.inl ⟨by omega, b31⟩) | (have z9 := goodP_of b64; subst e52; subst e58; exact Or.inr (Or.inr ⟨by omega, b44, z9.2⟩)))⟩, _, rfl, rfl, (fun z9 => by first | (exfalso; omega) | exact y110), (fun z9 => by first | (exfalso; omega) | exact y131), (by have c9 := m_cl (x := nv9) (by omega); rw [j177_1, ← hnv9, show i = nv9.toNatClampNeg by omega]), (by have c9 := m_cl (x := nv9) (by omega); rw [hnv9] at c9; omega)⟩), by first | exact hI | exact mi_sz (d := d) hI (v := v110) (by omega) rfl rfl rfl rfl rfl rfl rfl rfl | exact mi_sz (d := d) hI (v := v131) (by omega) rfl rfl rfl rfl rfl rfl rfl rfl | exact mi_sz (d := d) hI (v := 0) (by decide) rfl rfl rfl rfl rfl rfl rfl rfl⟩⟩, by unfold mB; rw [ht]; exact hP⟩, hS.F ht⟩) hS.2.2 dX10_keep_273
                        · skip
                          have d185 := c185
                          rw [fa_le] at d185
                          refine lv_aload_n hx hb dX10_keep_188 rfl (lv_at hl 2 rfl) ?_
                          refine m_get (v := .ref (a 33)) hx hb hts hin hown hK hP 33 (by decide) rfl (hts (.fieldLink RX10 73 "ShadowBenchModel" "shelfRow" "[J") (by decide +kernel)) rfl dX10_keep_189 ?_
                          refine lv_bipush (v := 60) hx hb dX10_keep_192 (by decide) ?_
                          refine lv_iload_n hx hb dX10_keep_194 rfl (lv_at hl 3 rfl) ?_
                          refine lv_imul hx hb dX10_keep_195 ?_
                          refine lv_topi (fun v195 e195 => ?_)
                          have i195 : v195.toInt = 60 * d.toInt := by rw [e195]; exact mulcL rfl (by omega) (by omega)
                          refine lv_iload hx hb dX10_keep_196 (lv_at hl 0 rfl) ?_
                          refine lv_iadd hx hb dX10_keep_198 ?_
                          refine lv_topi (fun v198 e198 => ?_)
                          have i198 : v198.toInt = v195.toInt + (nI i).toInt := by rw [e198]; exact fb_addI (by omega) (by omega)
                          have cd9 := m_cl (x := d) (by omega)
                          have cv9 := m_cl (x := v198) (by omega)
                          have f198 : v198.toNatClampNeg = 60 * d.toNatClampNeg + i := by omega
                          refine lv_iload_n hx hb dX10_keep_199 rfl (lv_at hl 4 rfl) ?_
                          refine lv_iconst (v := 3) hx hb dX10_keep_200 (by decide) ?_
                          refine lv_icmp_ne (tgt := 215) hx hb dX10_keep_201 (by decide) (fun c201 => ?_) (fun c201 => ?_)
                          · skip
                            have d201 := c201
                            rw [fa_eq] at d201
                            refine lv_iload hx hb dX10_keep_215 (lv_at hl 0 rfl) ?_
                            refine lv_aload_n hx hb dX10_keep_217 rfl (lv_at hl 2 rfl) ?_
                            refine m_get (v := .ref (a 4)) hx hb hts hin hown hK hP 4 (by decide) rfl (hts (.fieldLink RX10 16 "ShadowBenchModel" "high" "[I") (by decide +kernel)) rfl dX10_keep_218 ?_
                            refine lv_iload_n hx hb dX10_keep_221 rfl (lv_at hl 5 rfl) ?_
                            refine m_iald (w := (r 4)) hx hb hK hP 3 rfl (vp_in_iff.mpr ⟨by omega, by omega⟩) dX10_keep_222 ?_
                            refine lv_topi (fun v222 e222 => ?_)
                            have i222 : v222.toInt = ((r 4) k0.toNatClampNeg).toInt := congrArg Int32.toInt e222
                            have w222 := mi_h hI (x := k0) (by omega) (by omega) e222
                            refine lv_icmp_ge (tgt := 242) hx hb dX10_keep_223 (by decide) (fun c223 => ?_) (fun c223 => ?_)
                            · skip
                              have d223 := c223
                              rw [fa_le] at d223
                              refine lv_aload_n hx hb dX10_keep_242 rfl (lv_at hl 2 rfl) ?_
                              refine m_get (v := .ref (a 5)) hx hb hts hin hown hK hP 5 (by decide) rfl (hts (.fieldLink RX10 19 "ShadowBenchModel" "sums" "[I") (by decide +kernel)) rfl dX10_keep_243 ?_
                              refine lv_bipush (v := 44) hx hb dX10_keep_246 (by decide) ?_
                              refine lv_iload_n hx hb dX10_keep_248 rfl (lv_at hl 5 rfl) ?_
                              refine lv_imul hx hb dX10_keep_249 ?_
                              refine lv_topi (fun v249 e249 => ?_)
                              have i249 : v249.toInt = 44 * k0.toInt := by rw [e249]; exact mulcL rfl (by omega) (by omega)
                              refine lv_bipush (v := 11) hx hb dX10_keep_250 (by decide) ?_
                              refine lv_iadd hx hb dX10_keep_252 ?_
                              refine lv_topi (fun v252 e252 => ?_)
                              have i252 : v252.toInt = v249.toInt + (11 : Int32).toInt := by rw [e252]; exact fb_addI (by omega) (by omega)
                              refine lv_iload hx hb dX10_keep_253 (lv_at hl 0 rfl) ?_
                              refine lv_iadd hx hb dX10_keep_255 ?_
                              refine lv_topi (fun v255 e255 => ?_)
                              have i255 : v255.toInt = v252.toInt + (nI i).toInt := by rw [e255]; exact fb_addI (by omega) (by omega)
                              refine lv_aload_n hx hb dX10_keep_256 rfl (lv_at hl 2 rfl) ?_
                              refine m_get (v := .ref (a 4)) hx hb hts hin hown hK hP 4 (by decide) rfl (hts (.fieldLink RX10 16 "ShadowBenchModel" "high" "[I") (by decide +kernel)) rfl dX10_keep_257 ?_
                              refine lv_iload_n hx hb dX10_keep_260 rfl (lv_at hl 5 rfl) ?_
                              refine m_iald (w := (r 4)) hx hb hK hP 3 rfl (vp_in_iff.mpr ⟨by omega, by omega⟩) dX10_keep_261 ?_
                              refine lv_topi (fun v261 e261 => ?_)
                              have i261 : v261.toInt = ((r 4) k0.toNatClampNeg).toInt := congrArg Int32.toInt e261
                              have w261 := mi_h hI (x := k0) (by omega) (by omega) e261
                              refine lv_isub hx hb dX10_keep_262 ?_
                              refine lv_topi (fun v262 e262 => ?_)
                              have i262 : v262.toInt = v255.toInt - v261.toInt := by rw [e262]; exact fb_subI (by omega) (by omega)
                              have ck9 := m_cl (x := k0) (by omega)
                              have cv8 := m_cl (x := v262) (by omega)
                              have ch9 := m_cl (x := v222) (by omega)
                              have f262 : v262.toNatClampNeg = 44 * k0.toNatClampNeg + (11 + i - v222.toNatClampNeg) := by omega
                              rw [e222] at ch9 f262
                              refine m_iald (w := (r 5)) hx hb hK hP 4 rfl (vp_in_iff.mpr ⟨by omega, by omega⟩) dX10_keep_263 ?_
                              refine lv_topi (fun v263 e263 => ?_)
                              have i263 : v263.toInt = ((r 5) v262.toNatClampNeg).toInt := congrArg Int32.toInt e263
                              refine lv_i2l (v := v263.toInt64) hx hb dX10_keep_264 rfl ?_
                              refine m_last (w := s3) hx hb hK hP hD hS 21 rfl (vp_in_iff.mpr ⟨by omega, by omega⟩) (va_up (va_up q 33 s3) 33 (vp_updL s3 v198.toNatClampNeg v263.toInt64)) (ms_33 cy mo a _ _ _ _ _) dX10_keep_265 (fun H locs hP hS => ?_)
                              have hP := wm_eq rfl rfl rfl (es_q_33__33 q s3 (vp_updL s3 v198.toNatClampNeg v263.toInt64)) hP
                              refine lv_iinc (v := (nI (i + 1))) (lv' := [(7, .int (nI (i + 1))), (6, .int (1 : Int32)), (0, .ref mo), (1, .int d), (2, .int what), (3, .int k0), (4, .long p0)]) hx hb dX10_keep_266 hl (k := 0) rfl (nI_1 _) (by decide) rfl (fun ls hl => ?_)
                              refine lv_goto (tgt := 177) hx hb dX10_keep_269 (by decide) ?_
                              have hP := wm_eq rfl rfl (ec_r_29_30_31_32__29_30_31_32 r ((upd (r 29) d.toNatClampNeg what)) ((upd (r 30) d.toNatClampNeg (0 : Int32))) ((upd (r 31) d.toNatClampNeg r149)) ((upd (r 32) d.toNatClampNeg (((-15) : Int32))))) rfl hP
                              exact ih_177 (i + 1) (vp_updL s3 v198.toNatClampNeg v263.toInt64) (by omega) (by rw [j177_1, f198]; exact setQ_v (by first | (rw [keG_3 (by omega)]; exact one_bI (by omega) q208) | (rw [keG_4 (by omega) (by omega), e237, f236]; done) | (rw [keG_5 (by omega) (by omega), e263, f262]; done) | (exfalso; omega))) (by omega) _ _ hP hS ls (lv_sub hl [0, 1, 2, 3, 4, 5, 6] rfl)
                            · skip
                              have d223 := c223
                              rw [fa_le] at d223
                              refine lv_aload_n hx hb dX10_keep_226 rfl (lv_at hl 2 rfl) ?_
                              refine m_get (v := .ref (a 5)) hx hb hts hin hown hK hP 5 (by decide) rfl (hts (.fieldLink RX10 19 "ShadowBenchModel" "sums" "[I") (by decide +kernel)) rfl dX10_keep_227 ?_
                              refine lv_bipush (v := 44) hx hb dX10_keep_230 (by decide) ?_
                              refine lv_iload_n hx hb dX10_keep_232 rfl (lv_at hl 5 rfl) ?_
                              refine lv_imul hx hb dX10_keep_233 ?_
                              refine lv_topi (fun v233 e233 => ?_)
                              have i233 : v233.toInt = 44 * k0.toInt := by rw [e233]; exact mulcL rfl (by omega) (by omega)
                              refine lv_iload hx hb dX10_keep_234 (lv_at hl 0 rfl) ?_
                              refine lv_iadd hx hb dX10_keep_236 ?_
                              refine lv_topi (fun v236 e236 => ?_)
                              have i236 : v236.toInt = v233.toInt + (nI i).toInt := by rw [e236]; exact fb_addI (by omega) (by omega)
                              have ck9 := m_cl (x := k0) (by omega)
                              have cv8 := m_cl (x := v236) (by omega)
                              have f236 : v236.toNatClampNeg = 44 * k0.toNatClampNeg + i := by omega
                              have ch9 := m_cl (x := v222) (by omega)
                              rw [e222] at ch9
                              refine m_iald (w := (r 5)) hx hb hK hP 4 rfl (vp_in_iff.mpr ⟨by omega, by omega⟩) dX10_keep_237 ?_
                              refine lv_topi (fun v237 e237 => ?_)
                              have i237 : v237.toInt = ((r 5) v236.toNatClampNeg).toInt := congrArg Int32.toInt e237
                              refine lv_i2l (v := v237.toInt64) hx hb dX10_keep_238 rfl ?_
                              refine lv_goto (tgt := 265) hx hb dX10_keep_239 (by decide) ?_
                              refine m_last (w := s3) hx hb hK hP hD hS 21 rfl (vp_in_iff.mpr ⟨by omega, by omega⟩) (va_up (va_up q 33 s3) 33 (vp_updL s3 v198.toNatClampNeg v237.toInt64)) (ms_33 cy mo a _ _ _ _ _) dX10_keep_265 (fun H locs hP hS => ?_)
                              have hP := wm_eq rfl rfl rfl (es_q_33__33 q s3 (vp_updL s3 v198.toNatClampNeg v237.toInt64)) hP
                              refine lv_iinc (v := (nI (i + 1))) (lv' := [(7, .int (nI (i + 1))), (6, .int (1 : Int32)), (0, .ref mo), (1, .int d), (2, .int what), (3, .int k0), (4, .long p0)]) hx hb dX10_keep_266 hl (k := 0) rfl (nI_1 _) (by decide) rfl (fun ls hl => ?_)
                              refine lv_goto (tgt := 177) hx hb dX10_keep_269 (by decide) ?_
                              have hP := wm_eq rfl rfl (ec_r_29_30_31_32__29_30_31_32 r ((upd (r 29) d.toNatClampNeg what)) ((upd (r 30) d.toNatClampNeg (0 : Int32))) ((upd (r 31) d.toNatClampNeg r149)) ((upd (r 32) d.toNatClampNeg (((-15) : Int32))))) rfl hP
                              exact ih_177 (i + 1) (vp_updL s3 v198.toNatClampNeg v237.toInt64) (by omega) (by rw [j177_1, f198]; exact setQ_v (by first | (rw [keG_3 (by omega)]; exact one_bI (by omega) q208) | (rw [keG_4 (by omega) (by omega), e237, f236]; done) | (rw [keG_5 (by omega) (by omega), e263, f262]; done) | (exfalso; omega))) (by omega) _ _ hP hS ls (lv_sub hl [0, 1, 2, 3, 4, 5, 6] rfl)
                          · first | exact absurd c201 c95 | exact absurd c95 c201
                    have hP := wm_eq rfl rfl (ec_r_29_30_31_32__29_30_31_32 r ((upd (r 29) d.toNatClampNeg what)) ((upd (r 30) d.toNatClampNeg (0 : Int32))) ((upd (r 31) d.toNatClampNeg r149)) ((upd (r 32) d.toNatClampNeg (((-15) : Int32))))) (ec_q___33 q ) hP
                    exact loop_177 (60 + 1) 0 (q 33) (by omega) ((setQ_0 _ _ _).symm) (by omega) _ _ hP hS ls (lv_sub hl [0, 1, 2, 3, 4, 5, 6] rfl)
              · skip
                have d116 := c116
                rw [fa_eq] at d116
                refine lv_aload_n hx hb dX10_keep_119 rfl (lv_at hl 1 rfl) ?_
                refine m_get (v := .ref (a 4)) hx hb hts hin hown hK hP 4 (by decide) rfl (hts (.fieldLink RX10 16 "ShadowBenchModel" "high" "[I") (by decide +kernel)) rfl dX10_keep_120 ?_
                refine lv_iload_n hx hb dX10_keep_123 rfl (lv_at hl 4 rfl) ?_
                refine m_iald (w := (r 4)) hx hb hK hP 3 rfl (vp_in_iff.mpr ⟨by omega, by omega⟩) dX10_keep_124 ?_
                refine lv_topi (fun v124 e124 => ?_)
                have i124 : v124.toInt = ((r 4) k0.toNatClampNeg).toInt := congrArg Int32.toInt e124
                have w124 := mi_h hI (x := k0) (by omega) (by omega) e124
                refine lv_aload_n hx hb dX10_keep_125 rfl (lv_at hl 1 rfl) ?_
                refine m_get (v := .ref (a 3)) hx hb hts hin hown hK hP 3 (by decide) rfl (hts (.fieldLink RX10 13 "ShadowBenchModel" "wide" "[I") (by decide +kernel)) rfl dX10_keep_126 ?_
                refine lv_iload_n hx hb dX10_keep_129 rfl (lv_at hl 4 rfl) ?_
                refine m_iald (w := (r 3)) hx hb hK hP 2 rfl (vp_in_iff.mpr ⟨by omega, by omega⟩) dX10_keep_130 ?_
                refine lv_topi (fun v130 e130 => ?_)
                have i130 : v130.toInt = ((r 3) k0.toNatClampNeg).toInt := congrArg Int32.toInt e130
                have w130 := mi_w hI (x := k0) (by omega) (by omega) e130
                refine lv_iadd hx hb dX10_keep_131 ?_
                refine lv_topi (fun v131 e131 => ?_)
                have i131 : v131.toInt = v124.toInt + v130.toInt := by rw [e131]; exact fb_addI (by omega) (by omega)
                have y131 : v131.toInt = (((r 4 k0.toNatClampNeg).toNatClampNeg + (r 3 k0.toNatClampNeg).toNatClampNeg : Nat) : Int) := by
                  have z1 := m_cl (x := r 4 k0.toNatClampNeg) (by omega)
                  have z2 := m_cl (x := r 3 k0.toNatClampNeg) (by omega)
                  omega
                obtain ⟨nv9, hnv9⟩ : ∃ z9, z9 = v131 := ⟨_, rfl⟩
                have n184 := congrArg Int32.toInt hnv9
                refine lv_goto (tgt := 136) hx hb dX10_keep_132 (by decide) ?_
                refine m_iast (w := (r 30)) hx hb hK hP hD hS 18 rfl (vp_in_iff.mpr ⟨by omega, by omega⟩) (va_up (va_up r 29 ((upd (r 29) d.toNatClampNeg what))) 30 (upd (r 30) d.toNatClampNeg v131)) (ms_30 cy mo a _ _ _ _ _) dX10_keep_136 (fun H locs hP hS => ?_)
                refine lv_iload_n hx hb dX10_keep_137 rfl (lv_at hl 3 rfl) ?_
                refine lv_iconst (v := 1) hx hb dX10_keep_138 (by decide) ?_
                refine lv_icmp_ne (tgt := 174) hx hb dX10_keep_139 (by decide) (fun c139 => ?_) (fun c139 => ?_)
                · skip
                  have d139 := c139
                  rw [fa_eq] at d139
                  refine lv_iconst (v := 0) hx hb dX10_keep_174 (by decide) ?_
                  refine lv_istore (lv' := [(7, .int (0 : Int32)), (6, .int (1 : Int32)), (0, .ref mo), (1, .int d), (2, .int what), (3, .int k0), (4, .long p0)]) hx hb dX10_keep_175 hl (by decide) rfl (fun ls hl => ?_)
                  have loop_177 : ∀ (n : Nat) (i : Nat) (s3 : Nat → Int64), (i ≤ 60 ∧ (i : Int) ≤ nv9.toInt) → (s3 = setQ (q 33) (60 * d.toNatClampNeg) (keG what p0 (r 4 k0.toNatClampNeg).toNatClampNeg (fun x9 => r 5 (44 * k0.toNatClampNeg + x9))) i) → 60 - i < n → ∀ (H : Heap) (locs : List Loc), va_P D vwCl (WM cy mo a (upd f 0 (0 : Int32)) g (va_up (va_up r 29 ((upd (r 29) d.toNatClampNeg what))) 30 ((upd (r 30) d.toNatClampNeg v131))) (va_up q 33 s3)) H → va_S (AM mo a) s.heap H locs → ∀ (ls : Array Slot), lv_has ls 8 [(7, .int (nI i)), (6, .int (1 : Int32)), (0, .ref mo), (1, .int d), (2, .int what), (3, .int k0), (4, .long p0)] → W p l e (headSpec wsX10_keep ({ frames := 3, cells := 0, slots := 0, locals := 69 })).room s m #[Value.ref mo, Value.int d, Value.int what, Value.int k0, Value.long p0] below meth c H locs 0 0 (MQ below (va_Qi (fun r0 u => ∃ (sh : Nat → Int32), ∃ (sz : Nat → Int32), ∃ (sw : Nat → Int32), ∃ (sf : Nat → Int32), ∃ (sr : Nat → Int64), u = ((upd f 0 (0 : Int32)), g, (va_up (va_up (va_up (va_up r 29 sh) 30 sz) 31 sw) 32 sf), (va_up q 33 sr)) ∧ (yesNo (okKeep (f 1) (fun j9 => (r 3 j9).toNatClampNeg) (fun j9 => (r 4 j9).toNatClampNeg) d what k0 p0) 0 (-1) r0 ∧ ((okKeep (f 1) (fun j9 => (r 3 j9).toNatClampNeg) (fun j9 => (r 4 j9).toNatClampNeg) d what k0 p0 ∧ ∃ nv, sh = upd (r 29) d.toNatClampNeg what ∧ sz = upd (r 30) d.toNatClampNeg nv ∧ (what.toInt = 3 → nv.toInt = (((r 3 k0.toNatClampNeg).toNatClampNeg * (r 4 k0.toNatClampNeg).toNatClampNeg : Nat) : Int)) ∧ (what.toInt = 4 → nv.toInt = (((r 4 k0.toNatClampNeg).toNatClampNeg + (r 3 k0.toNatClampNeg).toNatClampNeg : Nat) : Int)) ∧ sr = setQ (q 33) (60 * d.toNatClampNeg) (keG what p0 (r 4 k0.toNatClampNeg).toNatClampNeg (fun x9 => r 5 (44 * k0.toNatClampNeg + x9))) nv.toNatClampNeg ∧ nv.toNatClampNeg ≤ 60) ∨ (¬ okKeep (f 1) (fun j9 => (r 3 j9).toNatClampNeg) (fun j9 => (r 4 j9).toNatClampNeg) d what k0 p0 ∧ sh = r 29 ∧ sz = r 30 ∧ sr = q 33)) ∧ MI (upd f 0 (0 : Int32)) (va_up (va_up (va_up (va_up r 29 sh) 30 sz) 31 sw) 32 sf))) (mB D cy mo a) (AM mo a)) #[Value.ref mo, Value.int d, Value.int what, Value.int k0, Value.long p0] s 0 0 (AM mo a)) (F0 m 177 ls []) := by
                    intro n
                    induction n with
                    | zero => intro i s3 j177_0 j177_1 hn; exact absurd hn (Nat.not_lt_zero _)
                    | succ n ih_177 =>
                      intro i s3 j177_0 j177_1 hn_177 H locs hP hS ls hl
                      have ii : (nI i).toInt = (i : Int) := nI_toInt (by omega)
                      refine lv_iload hx hb dX10_keep_177 (lv_at hl 0 rfl) ?_
                      refine lv_aload_n hx hb dX10_keep_179 rfl (lv_at hl 2 rfl) ?_
                      refine m_get (v := .ref (a 30)) hx hb hts hin hown hK hP 30 (by decide) rfl (hts (.fieldLink RX10 64 "ShadowBenchModel" "shelfSize" "[I") (by decide +kernel)) rfl dX10_keep_180 ?_
                      refine lv_iload_n hx hb dX10_keep_183 rfl (lv_at hl 3 rfl) ?_
                      refine m_iald (w := ((upd (r 30) d.toNatClampNeg v131))) hx hb hK hP 18 rfl (vp_in_iff.mpr ⟨by omega, by omega⟩) dX10_keep_184 ?_
                      refine lv_topi (fun v184 e184 => ?_)
                      have i184 : v184.toInt = (((upd (r 30) d.toNatClampNeg v131)) d.toNatClampNeg).toInt := congrArg Int32.toInt e184
                      have z184 := e184
                      simp only [upd, if_true] at z184
                      have y184 := congrArg Int32.toInt z184
                      have y184 : v184 = nv9 := by rw [e184, hnv9]; simp only [upd, if_true]
                      have i184 := congrArg Int32.toInt y184
                      refine lv_icmp_ge (tgt := 272) hx hb dX10_keep_185 (by decide) (fun c185 => ?_) (fun c185 => ?_)
                      · skip
                        have d185 := c185
                        rw [fa_le] at d185
                        refine lv_iconst (v := 0) hx hb dX10_keep_272 (by decide) ?_
                        have hP := wm_eq rfl rfl (ec_r_29_30__29_30_31_32 r ((upd (r 29) d.toNatClampNeg what)) ((upd (r 30) d.toNatClampNeg v131))) rfl hP
                        exact W.iret (v := (0 : Int32)) hx hb hr (fun t ht hW => ⟨⟨_, ((upd f 0 (0 : Int32)), g, (va_up (va_up (va_up (va_up r 29 (((upd (r 29) d.toNatClampNeg what)))) 30 (((upd (r 30) d.toNatClampNeg v131)))) 31 (r 31)) 32 (r 32)), (va_up q 33 s3)), rfl, ⟨((upd (r 29) d.toNatClampNeg what)), ((upd (r 30) d.toNatClampNeg v131)), (r 31), (r 32), s3, rfl, ⟨(Or.inl ⟨⟨b9, (by unfold okJob; first | exact Or.inl (by omega) | exact Or.inr (Or.inl ⟨by omega, b31⟩) | (have z9 := goodP_of b64; subst e52; subst e58; exact Or.inr (Or.inr ⟨by omega, b44, z9.2⟩)))⟩, rfl⟩), (Or.inl ⟨⟨b9, (by unfold okJob; first | exact Or.inl (by omega) | exact Or.inr (Or.inl ⟨by omega, b31⟩) | (have z9 := goodP_of b64; subst e52; subst e58; exact Or.inr (Or.inr ⟨by omega, b44, z9.2⟩)))⟩, _, rfl, rfl, (fun z9 => by first | (exfalso; omega) | exact y110), (fun z9 => by first | (exfalso; omega) | exact y131), (by have c9 := m_cl (x := nv9) (by omega); rw [j177_1, ← hnv9, show i = nv9.toNatClampNeg by omega]), (by have c9 := m_cl (x := nv9) (by omega); rw [hnv9] at c9; omega)⟩), by first | exact hI | exact mi_sz (d := d) hI (v := v110) (by omega) rfl rfl rfl rfl rfl rfl rfl rfl | exact mi_sz (d := d) hI (v := v131) (by omega) rfl rfl rfl rfl rfl rfl rfl rfl | exact mi_sz (d := d) hI (v := 0) (by decide) rfl rfl rfl rfl rfl rfl rfl rfl⟩⟩, by unfold mB; rw [ht]; exact hP⟩, hS.F ht⟩) hS.2.2 dX10_keep_273
                      · skip
                        have d185 := c185
                        rw [fa_le] at d185
                        refine lv_aload_n hx hb dX10_keep_188 rfl (lv_at hl 2 rfl) ?_
                        refine m_get (v := .ref (a 33)) hx hb hts hin hown hK hP 33 (by decide) rfl (hts (.fieldLink RX10 73 "ShadowBenchModel" "shelfRow" "[J") (by decide +kernel)) rfl dX10_keep_189 ?_
                        refine lv_bipush (v := 60) hx hb dX10_keep_192 (by decide) ?_
                        refine lv_iload_n hx hb dX10_keep_194 rfl (lv_at hl 3 rfl) ?_
                        refine lv_imul hx hb dX10_keep_195 ?_
                        refine lv_topi (fun v195 e195 => ?_)
                        have i195 : v195.toInt = 60 * d.toInt := by rw [e195]; exact mulcL rfl (by omega) (by omega)
                        refine lv_iload hx hb dX10_keep_196 (lv_at hl 0 rfl) ?_
                        refine lv_iadd hx hb dX10_keep_198 ?_
                        refine lv_topi (fun v198 e198 => ?_)
                        have i198 : v198.toInt = v195.toInt + (nI i).toInt := by rw [e198]; exact fb_addI (by omega) (by omega)
                        have cd9 := m_cl (x := d) (by omega)
                        have cv9 := m_cl (x := v198) (by omega)
                        have f198 : v198.toNatClampNeg = 60 * d.toNatClampNeg + i := by omega
                        refine lv_iload_n hx hb dX10_keep_199 rfl (lv_at hl 4 rfl) ?_
                        refine lv_iconst (v := 3) hx hb dX10_keep_200 (by decide) ?_
                        refine lv_icmp_ne (tgt := 215) hx hb dX10_keep_201 (by decide) (fun c201 => ?_) (fun c201 => ?_)
                        · skip
                          have d201 := c201
                          rw [fa_eq] at d201
                          refine lv_iload hx hb dX10_keep_215 (lv_at hl 0 rfl) ?_
                          refine lv_aload_n hx hb dX10_keep_217 rfl (lv_at hl 2 rfl) ?_
                          refine m_get (v := .ref (a 4)) hx hb hts hin hown hK hP 4 (by decide) rfl (hts (.fieldLink RX10 16 "ShadowBenchModel" "high" "[I") (by decide +kernel)) rfl dX10_keep_218 ?_
                          refine lv_iload_n hx hb dX10_keep_221 rfl (lv_at hl 5 rfl) ?_
                          refine m_iald (w := (r 4)) hx hb hK hP 3 rfl (vp_in_iff.mpr ⟨by omega, by omega⟩) dX10_keep_222 ?_
                          refine lv_topi (fun v222 e222 => ?_)
                          have i222 : v222.toInt = ((r 4) k0.toNatClampNeg).toInt := congrArg Int32.toInt e222
                          have w222 := mi_h hI (x := k0) (by omega) (by omega) e222
                          refine lv_icmp_ge (tgt := 242) hx hb dX10_keep_223 (by decide) (fun c223 => ?_) (fun c223 => ?_)
                          · skip
                            have d223 := c223
                            rw [fa_le] at d223
                            refine lv_aload_n hx hb dX10_keep_242 rfl (lv_at hl 2 rfl) ?_
                            refine m_get (v := .ref (a 5)) hx hb hts hin hown hK hP 5 (by decide) rfl (hts (.fieldLink RX10 19 "ShadowBenchModel" "sums" "[I") (by decide +kernel)) rfl dX10_keep_243 ?_
                            refine lv_bipush (v := 44) hx hb dX10_keep_246 (by decide) ?_
                            refine lv_iload_n hx hb dX10_keep_248 rfl (lv_at hl 5 rfl) ?_
                            refine lv_imul hx hb dX10_keep_249 ?_
                            refine lv_topi (fun v249 e249 => ?_)
                            have i249 : v249.toInt = 44 * k0.toInt := by rw [e249]; exact mulcL rfl (by omega) (by omega)
                            refine lv_bipush (v := 11) hx hb dX10_keep_250 (by decide) ?_
                            refine lv_iadd hx hb dX10_keep_252 ?_
                            refine lv_topi (fun v252 e252 => ?_)
                            have i252 : v252.toInt = v249.toInt + (11 : Int32).toInt := by rw [e252]; exact fb_addI (by omega) (by omega)
                            refine lv_iload hx hb dX10_keep_253 (lv_at hl 0 rfl) ?_
                            refine lv_iadd hx hb dX10_keep_255 ?_
                            refine lv_topi (fun v255 e255 => ?_)
                            have i255 : v255.toInt = v252.toInt + (nI i).toInt := by rw [e255]; exact fb_addI (by omega) (by omega)
                            refine lv_aload_n hx hb dX10_keep_256 rfl (lv_at hl 2 rfl) ?_
                            refine m_get (v := .ref (a 4)) hx hb hts hin hown hK hP 4 (by decide) rfl (hts (.fieldLink RX10 16 "ShadowBenchModel" "high" "[I") (by decide +kernel)) rfl dX10_keep_257 ?_
                            refine lv_iload_n hx hb dX10_keep_260 rfl (lv_at hl 5 rfl) ?_
                            refine m_iald (w := (r 4)) hx hb hK hP 3 rfl (vp_in_iff.mpr ⟨by omega, by omega⟩) dX10_keep_261 ?_
                            refine lv_topi (fun v261 e261 => ?_)
                            have i261 : v261.toInt = ((r 4) k0.toNatClampNeg).toInt := congrArg Int32.toInt e261
                            have w261 := mi_h hI (x := k0) (by omega) (by omega) e261
                            refine lv_isub hx hb dX10_keep_262 ?_
                            refine lv_topi (fun v262 e262 => ?_)
                            have i262 : v262.toInt = v255.toInt - v261.toInt := by rw [e262]; exact fb_subI (by omega) (by omega)
                            have ck9 := m_cl (x := k0) (by omega)
                            have cv8 := m_cl (x := v262) (by omega)
                            have ch9 := m_cl (x := v222) (by omega)
                            have f262 : v262.toNatClampNeg = 44 * k0.toNatClampNeg + (11 + i - v222.toNatClampNeg) := by omega
                            rw [e222] at ch9 f262
                            refine m_iald (w := (r 5)) hx hb hK hP 4 rfl (vp_in_iff.mpr ⟨by omega, by omega⟩) dX10_keep_263 ?_
                            refine lv_topi (fun v263 e263 => ?_)
                            have i263 : v263.toInt = ((r 5) v262.toNatClampNeg).toInt := congrArg Int32.toInt e263
                            refine lv_i2l (v := v263.toInt64) hx hb dX10_keep_264 rfl ?_
                            refine m_last (w := s3) hx hb hK hP hD hS 21 rfl (vp_in_iff.mpr ⟨by omega, by omega⟩) (va_up (va_up q 33 s3) 33 (vp_updL s3 v198.toNatClampNeg v263.toInt64)) (ms_33 cy mo a _ _ _ _ _) dX10_keep_265 (fun H locs hP hS => ?_)
                            have hP := wm_eq rfl rfl rfl (es_q_33__33 q s3 (vp_updL s3 v198.toNatClampNeg v263.toInt64)) hP
                            refine lv_iinc (v := (nI (i + 1))) (lv' := [(7, .int (nI (i + 1))), (6, .int (1 : Int32)), (0, .ref mo), (1, .int d), (2, .int what), (3, .int k0), (4, .long p0)]) hx hb dX10_keep_266 hl (k := 0) rfl (nI_1 _) (by decide) rfl (fun ls hl => ?_)
                            refine lv_goto (tgt := 177) hx hb dX10_keep_269 (by decide) ?_
                            have hP := wm_eq rfl rfl (ec_r_29_30__29_30 r ((upd (r 29) d.toNatClampNeg what)) ((upd (r 30) d.toNatClampNeg v131))) rfl hP
                            exact ih_177 (i + 1) (vp_updL s3 v198.toNatClampNeg v263.toInt64) (by omega) (by rw [j177_1, f198]; exact setQ_v (by first | (rw [keG_3 (by omega)]; exact one_bI (by omega) q208) | (rw [keG_4 (by omega) (by omega), e237, f236]; done) | (rw [keG_5 (by omega) (by omega), e263, f262]; done) | (exfalso; omega))) (by omega) _ _ hP hS ls (lv_sub hl [0, 1, 2, 3, 4, 5, 6] rfl)
                          · skip
                            have d223 := c223
                            rw [fa_le] at d223
                            refine lv_aload_n hx hb dX10_keep_226 rfl (lv_at hl 2 rfl) ?_
                            refine m_get (v := .ref (a 5)) hx hb hts hin hown hK hP 5 (by decide) rfl (hts (.fieldLink RX10 19 "ShadowBenchModel" "sums" "[I") (by decide +kernel)) rfl dX10_keep_227 ?_
                            refine lv_bipush (v := 44) hx hb dX10_keep_230 (by decide) ?_
                            refine lv_iload_n hx hb dX10_keep_232 rfl (lv_at hl 5 rfl) ?_
                            refine lv_imul hx hb dX10_keep_233 ?_
                            refine lv_topi (fun v233 e233 => ?_)
                            have i233 : v233.toInt = 44 * k0.toInt := by rw [e233]; exact mulcL rfl (by omega) (by omega)
                            refine lv_iload hx hb dX10_keep_234 (lv_at hl 0 rfl) ?_
                            refine lv_iadd hx hb dX10_keep_236 ?_
                            refine lv_topi (fun v236 e236 => ?_)
                            have i236 : v236.toInt = v233.toInt + (nI i).toInt := by rw [e236]; exact fb_addI (by omega) (by omega)
                            have ck9 := m_cl (x := k0) (by omega)
                            have cv8 := m_cl (x := v236) (by omega)
                            have f236 : v236.toNatClampNeg = 44 * k0.toNatClampNeg + i := by omega
                            have ch9 := m_cl (x := v222) (by omega)
                            rw [e222] at ch9
                            refine m_iald (w := (r 5)) hx hb hK hP 4 rfl (vp_in_iff.mpr ⟨by omega, by omega⟩) dX10_keep_237 ?_
                            refine lv_topi (fun v237 e237 => ?_)
                            have i237 : v237.toInt = ((r 5) v236.toNatClampNeg).toInt := congrArg Int32.toInt e237
                            refine lv_i2l (v := v237.toInt64) hx hb dX10_keep_238 rfl ?_
                            refine lv_goto (tgt := 265) hx hb dX10_keep_239 (by decide) ?_
                            refine m_last (w := s3) hx hb hK hP hD hS 21 rfl (vp_in_iff.mpr ⟨by omega, by omega⟩) (va_up (va_up q 33 s3) 33 (vp_updL s3 v198.toNatClampNeg v237.toInt64)) (ms_33 cy mo a _ _ _ _ _) dX10_keep_265 (fun H locs hP hS => ?_)
                            have hP := wm_eq rfl rfl rfl (es_q_33__33 q s3 (vp_updL s3 v198.toNatClampNeg v237.toInt64)) hP
                            refine lv_iinc (v := (nI (i + 1))) (lv' := [(7, .int (nI (i + 1))), (6, .int (1 : Int32)), (0, .ref mo), (1, .int d), (2, .int what), (3, .int k0), (4, .long p0)]) hx hb dX10_keep_266 hl (k := 0) rfl (nI_1 _) (by decide) rfl (fun ls hl => ?_)
                            refine lv_goto (tgt := 177) hx hb dX10_keep_269 (by decide) ?_
                            have hP := wm_eq rfl rfl (ec_r_29_30__29_30 r ((upd (r 29) d.toNatClampNeg what)) ((upd (r 30) d.toNatClampNeg v131))) rfl hP
                            exact ih_177 (i + 1) (vp_updL s3 v198.toNatClampNeg v237.toInt64) (by omega) (by rw [j177_1, f198]; exact setQ_v (by first | (rw [keG_3 (by omega)]; exact one_bI (by omega) q208) | (rw [keG_4 (by omega) (by omega), e237, f236]; done) | (rw [keG_5 (by omega) (by omega), e263, f262]; done) | (exfalso; omega))) (by omega) _ _ hP hS ls (lv_sub hl [0, 1, 2, 3, 4, 5, 6] rfl)
                        · first | exact absurd c201 c95 | exact absurd c95 c201
                  have hP := wm_eq rfl rfl (ec_r_29_30__29_30 r ((upd (r 29) d.toNatClampNeg what)) ((upd (r 30) d.toNatClampNeg v131))) (ec_q___33 q ) hP
                  exact loop_177 (60 + 1) 0 (q 33) (by omega) ((setQ_0 _ _ _).symm) (by omega) _ _ hP hS ls (lv_sub hl [0, 1, 2, 3, 4, 5, 6] rfl)
                · skip
                  have d139 := c139
                  rw [fa_eq] at d139
                  refine lv_aload_n hx hb dX10_keep_142 rfl (lv_at hl 1 rfl) ?_
                  refine m_get (v := .ref (a 31)) hx hb hts hin hown hK hP 31 (by decide) rfl (hts (.fieldLink RX10 67 "ShadowBenchModel" "shelfWeight" "[I") (by decide +kernel)) rfl dX10_keep_143 ?_
                  refine lv_iload_n hx hb dX10_keep_146 rfl (lv_at hl 2 rfl) ?_
                  refine lv_aload_n hx hb dX10_keep_147 rfl (lv_at hl 1 rfl) ?_
                  refine lv_iload_n hx hb dX10_keep_148 rfl (lv_at hl 4 rfl) ?_
                  refine m_calli (As := [.int k0]) (rest := [.int d, .ref (a 31)]) ⟨hx, hb, hml, hown, hts⟩ (c_X10_weightOf l D cy mo a (upd f 0 (0 : Int32)) g (va_up (va_up r 29 ((upd (r 29) d.toNatClampNeg what))) 30 ((upd (r 30) d.toNatClampNeg v131))) q k0 hD (by first | exact hI | exact mi_sz (d := d) hI (v := 0) (by first | omega | decide) rfl rfl rfl rfl rfl rfl rfl rfl | exact mi_sz (d := d) hI (v := v131) (by first | omega | decide) rfl rfl rfl rfl rfl rfl rfl rfl | exact mi_sz (d := d) hI (v := v110) (by first | omega | decide) rfl rfl rfl rfl rfl rfl rfl rfl) (show 0 ≤ k0.toInt ∧ k0.toInt < (f 1).toInt by omega)) (cwV 1 hts gX10_keep_X10_weightOf rfl rfl rfl (by decide +kernel) ⟨Nat.le_of_ble_eq_true rfl, Nat.le_of_ble_eq_true rfl⟩) hK hP rfl hl.1 rfl (Nat.le_of_ble_eq_true rfl) dX10_keep_149 ⟨Nat.le_of_ble_eq_true rfl, Nat.le_of_ble_eq_true rfl⟩ hS (fun r149 u H locs q149 hP hS => ?_)
                  obtain ⟨rfl, q149⟩ := q149
                  have hP : va_P D vwCl (WM cy mo a (upd f 0 (0 : Int32)) g (va_up (va_up r 29 ((upd (r 29) d.toNatClampNeg what))) 30 ((upd (r 30) d.toNatClampNeg v131))) q) H := hP
                  have q149 : True := q149
                  refine m_iast (w := (r 31)) hx hb hK hP hD hS 19 rfl (vp_in_iff.mpr ⟨by omega, by omega⟩) (va_up (va_up (va_up r 29 ((upd (r 29) d.toNatClampNeg what))) 30 ((upd (r 30) d.toNatClampNeg v131))) 31 (upd (r 31) d.toNatClampNeg r149)) (ms_31 cy mo a _ _ _ _ _) dX10_keep_152 (fun H locs hP hS => ?_)
                  refine lv_aload_n hx hb dX10_keep_153 rfl (lv_at hl 1 rfl) ?_
                  refine m_get (v := .ref (a 32)) hx hb hts hin hown hK hP 32 (by decide) rfl (hts (.fieldLink RX10 70 "ShadowBenchModel" "shelfFailure" "[I") (by decide +kernel)) rfl dX10_keep_154 ?_
                  refine lv_iload_n hx hb dX10_keep_157 rfl (lv_at hl 2 rfl) ?_
                  refine lv_aload_n hx hb dX10_keep_158 rfl (lv_at hl 1 rfl) ?_
                  refine m_get (v := .ref (a 2)) hx hb hts hin hown hK hP 2 (by decide) rfl (hts (.fieldLink RX10 7 "ShadowBenchModel" "kind" "[I") (by decide +kernel)) rfl dX10_keep_159 ?_
                  refine lv_iload_n hx hb dX10_keep_162 rfl (lv_at hl 4 rfl) ?_
                  refine m_iald (w := (r 2)) hx hb hK hP 1 rfl (vp_in_iff.mpr ⟨by omega, by omega⟩) dX10_keep_163 ?_
                  refine lv_topi (fun v163 e163 => ?_)
                  have i163 : v163.toInt = ((r 2) k0.toNatClampNeg).toInt := congrArg Int32.toInt e163
                  refine lv_if_ne (tgt := 172) hx hb dX10_keep_164 (by decide) (fun c164 => ?_) (fun c164 => ?_)
                  · skip
                    have d164 := c164
                    rw [fa_eq] at d164
                    refine lv_iload_n hx hb dX10_keep_172 rfl (lv_at hl 4 rfl) ?_
                    refine m_iast (w := (r 32)) hx hb hK hP hD hS 20 rfl (vp_in_iff.mpr ⟨by omega, by omega⟩) (va_up (va_up (va_up (va_up r 29 ((upd (r 29) d.toNatClampNeg what))) 30 ((upd (r 30) d.toNatClampNeg v131))) 31 ((upd (r 31) d.toNatClampNeg r149))) 32 (upd (r 32) d.toNatClampNeg k0)) (ms_32 cy mo a _ _ _ _ _) dX10_keep_173 (fun H locs hP hS => ?_)
                    refine lv_iconst (v := 0) hx hb dX10_keep_174 (by decide) ?_
                    refine lv_istore (lv' := [(7, .int (0 : Int32)), (6, .int (1 : Int32)), (0, .ref mo), (1, .int d), (2, .int what), (3, .int k0), (4, .long p0)]) hx hb dX10_keep_175 hl (by decide) rfl (fun ls hl => ?_)
                    have loop_177 : ∀ (n : Nat) (i : Nat) (s3 : Nat → Int64), (i ≤ 60 ∧ (i : Int) ≤ nv9.toInt) → (s3 = setQ (q 33) (60 * d.toNatClampNeg) (keG what p0 (r 4 k0.toNatClampNeg).toNatClampNeg (fun x9 => r 5 (44 * k0.toNatClampNeg + x9))) i) → 60 - i < n → ∀ (H : Heap) (locs : List Loc), va_P D vwCl (WM cy mo a (upd f 0 (0 : Int32)) g (va_up (va_up (va_up (va_up r 29 ((upd (r 29) d.toNatClampNeg what))) 30 ((upd (r 30) d.toNatClampNeg v131))) 31 ((upd (r 31) d.toNatClampNeg r149))) 32 ((upd (r 32) d.toNatClampNeg k0))) (va_up q 33 s3)) H → va_S (AM mo a) s.heap H locs → ∀ (ls : Array Slot), lv_has ls 8 [(7, .int (nI i)), (6, .int (1 : Int32)), (0, .ref mo), (1, .int d), (2, .int what), (3, .int k0), (4, .long p0)] → W p l e (headSpec wsX10_keep ({ frames := 3, cells := 0, slots := 0, locals := 69 })).room s m #[Value.ref mo, Value.int d, Value.int what, Value.int k0, Value.long p0] below meth c H locs 0 0 (MQ below (va_Qi (fun r0 u => ∃ (sh : Nat → Int32), ∃ (sz : Nat → Int32), ∃ (sw : Nat → Int32), ∃ (sf : Nat → Int32), ∃ (sr : Nat → Int64), u = ((upd f 0 (0 : Int32)), g, (va_up (va_up (va_up (va_up r 29 sh) 30 sz) 31 sw) 32 sf), (va_up q 33 sr)) ∧ (yesNo (okKeep (f 1) (fun j9 => (r 3 j9).toNatClampNeg) (fun j9 => (r 4 j9).toNatClampNeg) d what k0 p0) 0 (-1) r0 ∧ ((okKeep (f 1) (fun j9 => (r 3 j9).toNatClampNeg) (fun j9 => (r 4 j9).toNatClampNeg) d what k0 p0 ∧ ∃ nv, sh = upd (r 29) d.toNatClampNeg what ∧ sz = upd (r 30) d.toNatClampNeg nv ∧ (what.toInt = 3 → nv.toInt = (((r 3 k0.toNatClampNeg).toNatClampNeg * (r 4 k0.toNatClampNeg).toNatClampNeg : Nat) : Int)) ∧ (what.toInt = 4 → nv.toInt = (((r 4 k0.toNatClampNeg).toNatClampNeg + (r 3 k0.toNatClampNeg).toNatClampNeg : Nat) : Int)) ∧ sr = setQ (q 33) (60 * d.toNatClampNeg) (keG what p0 (r 4 k0.toNatClampNeg).toNatClampNeg (fun x9 => r 5 (44 * k0.toNatClampNeg + x9))) nv.toNatClampNeg ∧ nv.toNatClampNeg ≤ 60) ∨ (¬ okKeep (f 1) (fun j9 => (r 3 j9).toNatClampNeg) (fun j9 => (r 4 j9).toNatClampNeg) d what k0 p0 ∧ sh = r 29 ∧ sz = r 30 ∧ sr = q 33)) ∧ MI (upd f 0 (0 : Int32)) (va_up (va_up (va_up (va_up r 29 sh) 30 sz) 31 sw) 32 sf))) (mB D cy mo a) (AM mo a)) #[Value.ref mo, Value.int d, Value.int what, Value.int k0, Value.long p0] s 0 0 (AM mo a)) (F0 m 177 ls []) := by
                      intro n
                      induction n with
                      | zero => intro i s3 j177_0 j177_1 hn; exact absurd hn (Nat.not_lt_zero _)
                      | succ n ih_177 =>
                        intro i s3 j177_0 j177_1 hn_177 H locs hP hS ls hl
                        have ii : (nI i).toInt = (i : Int) := nI_toInt (by omega)
                        refine lv_iload hx hb dX10_keep_177 (lv_at hl 0 rfl) ?_
                        refine lv_aload_n hx hb dX10_keep_179 rfl (lv_at hl 2 rfl) ?_
                        refine m_get (v := .ref (a 30)) hx hb hts hin hown hK hP 30 (by decide) rfl (hts (.fieldLink RX10 64 "ShadowBenchModel" "shelfSize" "[I") (by decide +kernel)) rfl dX10_keep_180 ?_
                        refine lv_iload_n hx hb dX10_keep_183 rfl (lv_at hl 3 rfl) ?_
                        refine m_iald (w := ((upd (r 30) d.toNatClampNeg v131))) hx hb hK hP 18 rfl (vp_in_iff.mpr ⟨by omega, by omega⟩) dX10_keep_184 ?_
                        refine lv_topi (fun v184 e184 => ?_)
                        have i184 : v184.toInt = (((upd (r 30) d.toNatClampNeg v131)) d.toNatClampNeg).toInt := congrArg Int32.toInt e184
                        have z184 := e184
                        simp only [upd, if_true] at z184
                        have y184 := congrArg Int32.toInt z184
                        have y184 : v184 = nv9 := by rw [e184, hnv9]; simp only [upd, if_true]
                        have i184 := congrArg Int32.toInt y184
                        refine lv_icmp_ge (tgt := 272) hx hb dX10_keep_185 (by decide) (fun c185 => ?_) (fun c185 => ?_)
                        · skip
                          have d185 := c185
                          rw [fa_le] at d185
                          refine lv_iconst (v := 0) hx hb dX10_keep_272 (by decide) ?_
                          have hP := wm_eq rfl rfl (ec_r_29_30_31_32__29_30_31_32 r ((upd (r 29) d.toNatClampNeg what)) ((upd (r 30) d.toNatClampNeg v131)) ((upd (r 31) d.toNatClampNeg r149)) ((upd (r 32) d.toNatClampNeg k0))) rfl hP
                          exact W.iret (v := (0 : Int32)) hx hb hr (fun t ht hW => ⟨⟨_, ((upd f 0 (0 : Int32)), g, (va_up (va_up (va_up (va_up r 29 (((upd (r 29) d.toNatClampNeg what)))) 30 (((upd (r 30) d.toNatClampNeg v131)))) 31 (((upd (r 31) d.toNatClampNeg r149)))) 32 (((upd (r 32) d.toNatClampNeg k0)))), (va_up q 33 s3)), rfl, ⟨((upd (r 29) d.toNatClampNeg what)), ((upd (r 30) d.toNatClampNeg v131)), ((upd (r 31) d.toNatClampNeg r149)), ((upd (r 32) d.toNatClampNeg k0)), s3, rfl, ⟨(Or.inl ⟨⟨b9, (by unfold okJob; first | exact Or.inl (by omega) | exact Or.inr (Or.inl ⟨by omega, b31⟩) | (have z9 := goodP_of b64; subst e52; subst e58; exact Or.inr (Or.inr ⟨by omega, b44, z9.2⟩)))⟩, rfl⟩), (Or.inl ⟨⟨b9, (by unfold okJob; first | exact Or.inl (by omega) | exact Or.inr (Or.inl ⟨by omega, b31⟩) | (have z9 := goodP_of b64; subst e52; subst e58; exact Or.inr (Or.inr ⟨by omega, b44, z9.2⟩)))⟩, _, rfl, rfl, (fun z9 => by first | (exfalso; omega) | exact y110), (fun z9 => by first | (exfalso; omega) | exact y131), (by have c9 := m_cl (x := nv9) (by omega); rw [j177_1, ← hnv9, show i = nv9.toNatClampNeg by omega]), (by have c9 := m_cl (x := nv9) (by omega); rw [hnv9] at c9; omega)⟩), by first | exact hI | exact mi_sz (d := d) hI (v := v110) (by omega) rfl rfl rfl rfl rfl rfl rfl rfl | exact mi_sz (d := d) hI (v := v131) (by omega) rfl rfl rfl rfl rfl rfl rfl rfl | exact mi_sz (d := d) hI (v := 0) (by decide) rfl rfl rfl rfl rfl rfl rfl rfl⟩⟩, by unfold mB; rw [ht]; exact hP⟩, hS.F ht⟩) hS.2.2 dX10_keep_273
                        · skip
                          have d185 := c185
                          rw [fa_le] at d185
                          refine lv_aload_n hx hb dX10_keep_188 rfl (lv_at hl 2 rfl) ?_
                          refine m_get (v := .ref (a 33)) hx hb hts hin hown hK hP 33 (by decide) rfl (hts (.fieldLink RX10 73 "ShadowBenchModel" "shelfRow" "[J") (by decide +kernel)) rfl dX10_keep_189 ?_
                          refine lv_bipush (v := 60) hx hb dX10_keep_192 (by decide) ?_
                          refine lv_iload_n hx hb dX10_keep_194 rfl (lv_at hl 3 rfl) ?_
                          refine lv_imul hx hb dX10_keep_195 ?_
                          refine lv_topi (fun v195 e195 => ?_)
                          have i195 : v195.toInt = 60 * d.toInt := by rw [e195]; exact mulcL rfl (by omega) (by omega)
                          refine lv_iload hx hb dX10_keep_196 (lv_at hl 0 rfl) ?_
                          refine lv_iadd hx hb dX10_keep_198 ?_
                          refine lv_topi (fun v198 e198 => ?_)
                          have i198 : v198.toInt = v195.toInt + (nI i).toInt := by rw [e198]; exact fb_addI (by omega) (by omega)
                          have cd9 := m_cl (x := d) (by omega)
                          have cv9 := m_cl (x := v198) (by omega)
                          have f198 : v198.toNatClampNeg = 60 * d.toNatClampNeg + i := by omega
                          refine lv_iload_n hx hb dX10_keep_199 rfl (lv_at hl 4 rfl) ?_
                          refine lv_iconst (v := 3) hx hb dX10_keep_200 (by decide) ?_
                          refine lv_icmp_ne (tgt := 215) hx hb dX10_keep_201 (by decide) (fun c201 => ?_) (fun c201 => ?_)
                          · skip
                            have d201 := c201
                            rw [fa_eq] at d201
                            refine lv_iload hx hb dX10_keep_215 (lv_at hl 0 rfl) ?_
                            refine lv_aload_n hx hb dX10_keep_217 rfl (lv_at hl 2 rfl) ?_
                            refine m_get (v := .ref (a 4)) hx hb hts hin hown hK hP 4 (by decide) rfl (hts (.fieldLink RX10 16 "ShadowBenchModel" "high" "[I") (by decide +kernel)) rfl dX10_keep_218 ?_
                            refine lv_iload_n hx hb dX10_keep_221 rfl (lv_at hl 5 rfl) ?_
                            refine m_iald (w := (r 4)) hx hb hK hP 3 rfl (vp_in_iff.mpr ⟨by omega, by omega⟩) dX10_keep_222 ?_
                            refine lv_topi (fun v222 e222 => ?_)
                            have i222 : v222.toInt = ((r 4) k0.toNatClampNeg).toInt := congrArg Int32.toInt e222
                            have w222 := mi_h hI (x := k0) (by omega) (by omega) e222
                            refine lv_icmp_ge (tgt := 242) hx hb dX10_keep_223 (by decide) (fun c223 => ?_) (fun c223 => ?_)
                            · skip
                              have d223 := c223
                              rw [fa_le] at d223
                              refine lv_aload_n hx hb dX10_keep_242 rfl (lv_at hl 2 rfl) ?_
                              refine m_get (v := .ref (a 5)) hx hb hts hin hown hK hP 5 (by decide) rfl (hts (.fieldLink RX10 19 "ShadowBenchModel" "sums" "[I") (by decide +kernel)) rfl dX10_keep_243 ?_
                              refine lv_bipush (v := 44) hx hb dX10_keep_246 (by decide) ?_
                              refine lv_iload_n hx hb dX10_keep_248 rfl (lv_at hl 5 rfl) ?_
                              refine lv_imul hx hb dX10_keep_249 ?_
                              refine lv_topi (fun v249 e249 => ?_)
                              have i249 : v249.toInt = 44 * k0.toInt := by rw [e249]; exact mulcL rfl (by omega) (by omega)
                              refine lv_bipush (v := 11) hx hb dX10_keep_250 (by decide) ?_
                              refine lv_iadd hx hb dX10_keep_252 ?_
                              refine lv_topi (fun v252 e252 => ?_)
                              have i252 : v252.toInt = v249.toInt + (11 : Int32).toInt := by rw [e252]; exact fb_addI (by omega) (by omega)
                              refine lv_iload hx hb dX10_keep_253 (lv_at hl 0 rfl) ?_
                              refine lv_iadd hx hb dX10_keep_255 ?_
                              refine lv_topi (fun v255 e255 => ?_)
                              have i255 : v255.toInt = v252.toInt + (nI i).toInt := by rw [e255]; exact fb_addI (by omega) (by omega)
                              refine lv_aload_n hx hb dX10_keep_256 rfl (lv_at hl 2 rfl) ?_
                              refine m_get (v := .ref (a 4)) hx hb hts hin hown hK hP 4 (by decide) rfl (hts (.fieldLink RX10 16 "ShadowBenchModel" "high" "[I") (by decide +kernel)) rfl dX10_keep_257 ?_
                              refine lv_iload_n hx hb dX10_keep_260 rfl (lv_at hl 5 rfl) ?_
                              refine m_iald (w := (r 4)) hx hb hK hP 3 rfl (vp_in_iff.mpr ⟨by omega, by omega⟩) dX10_keep_261 ?_
                              refine lv_topi (fun v261 e261 => ?_)
                              have i261 : v261.toInt = ((r 4) k0.toNatClampNeg).toInt := congrArg Int32.toInt e261
                              have w261 := mi_h hI (x := k0) (by omega) (by omega) e261
                              refine lv_isub hx hb dX10_keep_262 ?_
                              refine lv_topi (fun v262 e262 => ?_)
                              have i262 : v262.toInt = v255.toInt - v261.toInt := by rw [e262]; exact fb_subI (by omega) (by omega)
                              have ck9 := m_cl (x := k0) (by omega)
                              have cv8 := m_cl (x := v262) (by omega)
                              have ch9 := m_cl (x := v222) (by omega)
                              have f262 : v262.toNatClampNeg = 44 * k0.toNatClampNeg + (11 + i - v222.toNatClampNeg) := by omega
                              rw [e222] at ch9 f262
                              refine m_iald (w := (r 5)) hx hb hK hP 4 rfl (vp_in_iff.mpr ⟨by omega, by omega⟩) dX10_keep_263 ?_
                              refine lv_topi (fun v263 e263 => ?_)
                              have i263 : v263.toInt = ((r 5) v262.toNatClampNeg).toInt := congrArg Int32.toInt e263
                              refine lv_i2l (v := v263.toInt64) hx hb dX10_keep_264 rfl ?_
                              refine m_last (w := s3) hx hb hK hP hD hS 21 rfl (vp_in_iff.mpr ⟨by omega, by omega⟩) (va_up (va_up q 33 s3) 33 (vp_updL s3 v198.toNatClampNeg v263.toInt64)) (ms_33 cy mo a _ _ _ _ _) dX10_keep_265 (fun H locs hP hS => ?_)
                              have hP := wm_eq rfl rfl rfl (es_q_33__33 q s3 (vp_updL s3 v198.toNatClampNeg v263.toInt64)) hP
                              refine lv_iinc (v := (nI (i + 1))) (lv' := [(7, .int (nI (i + 1))), (6, .int (1 : Int32)), (0, .ref mo), (1, .int d), (2, .int what), (3, .int k0), (4, .long p0)]) hx hb dX10_keep_266 hl (k := 0) rfl (nI_1 _) (by decide) rfl (fun ls hl => ?_)
                              refine lv_goto (tgt := 177) hx hb dX10_keep_269 (by decide) ?_
                              have hP := wm_eq rfl rfl (ec_r_29_30_31_32__29_30_31_32 r ((upd (r 29) d.toNatClampNeg what)) ((upd (r 30) d.toNatClampNeg v131)) ((upd (r 31) d.toNatClampNeg r149)) ((upd (r 32) d.toNatClampNeg k0))) rfl hP
                              exact ih_177 (i + 1) (vp_updL s3 v198.toNatClampNeg v263.toInt64) (by omega) (by rw [j177_1, f198]; exact setQ_v (by first | (rw [keG_3 (by omega)]; exact one_bI (by omega) q208) | (rw [keG_4 (by omega) (by omega), e237, f236]; done) | (rw [keG_5 (by omega) (by omega), e263, f262]; done) | (exfalso; omega))) (by omega) _ _ hP hS ls (lv_sub hl [0, 1, 2, 3, 4, 5, 6] rfl)
                            · skip
                              have d223 := c223
                              rw [fa_le] at d223
                              refine lv_aload_n hx hb dX10_keep_226 rfl (lv_at hl 2 rfl) ?_
                              refine m_get (v := .ref (a 5)) hx hb hts hin hown hK hP 5 (by decide) rfl (hts (.fieldLink RX10 19 "ShadowBenchModel" "sums" "[I") (by decide +kernel)) rfl dX10_keep_227 ?_
                              refine lv_bipush (v := 44) hx hb dX10_keep_230 (by decide) ?_
                              refine lv_iload_n hx hb dX10_keep_232 rfl (lv_at hl 5 rfl) ?_
                              refine lv_imul hx hb dX10_keep_233 ?_
                              refine lv_topi (fun v233 e233 => ?_)
                              have i233 : v233.toInt = 44 * k0.toInt := by rw [e233]; exact mulcL rfl (by omega) (by omega)
                              refine lv_iload hx hb dX10_keep_234 (lv_at hl 0 rfl) ?_
                              refine lv_iadd hx hb dX10_keep_236 ?_
                              refine lv_topi (fun v236 e236 => ?_)
                              have i236 : v236.toInt = v233.toInt + (nI i).toInt := by rw [e236]; exact fb_addI (by omega) (by omega)
                              have ck9 := m_cl (x := k0) (by omega)
                              have cv8 := m_cl (x := v236) (by omega)
                              have f236 : v236.toNatClampNeg = 44 * k0.toNatClampNeg + i := by omega
                              have ch9 := m_cl (x := v222) (by omega)
                              rw [e222] at ch9
                              refine m_iald (w := (r 5)) hx hb hK hP 4 rfl (vp_in_iff.mpr ⟨by omega, by omega⟩) dX10_keep_237 ?_
                              refine lv_topi (fun v237 e237 => ?_)
                              have i237 : v237.toInt = ((r 5) v236.toNatClampNeg).toInt := congrArg Int32.toInt e237
                              refine lv_i2l (v := v237.toInt64) hx hb dX10_keep_238 rfl ?_
                              refine lv_goto (tgt := 265) hx hb dX10_keep_239 (by decide) ?_
                              refine m_last (w := s3) hx hb hK hP hD hS 21 rfl (vp_in_iff.mpr ⟨by omega, by omega⟩) (va_up (va_up q 33 s3) 33 (vp_updL s3 v198.toNatClampNeg v237.toInt64)) (ms_33 cy mo a _ _ _ _ _) dX10_keep_265 (fun H locs hP hS => ?_)
                              have hP := wm_eq rfl rfl rfl (es_q_33__33 q s3 (vp_updL s3 v198.toNatClampNeg v237.toInt64)) hP
                              refine lv_iinc (v := (nI (i + 1))) (lv' := [(7, .int (nI (i + 1))), (6, .int (1 : Int32)), (0, .ref mo), (1, .int d), (2, .int what), (3, .int k0), (4, .long p0)]) hx hb dX10_keep_266 hl (k := 0) rfl (nI_1 _) (by decide) rfl (fun ls hl => ?_)
                              refine lv_goto (tgt := 177) hx hb dX10_keep_269 (by decide) ?_
                              have hP := wm_eq rfl rfl (ec_r_29_30_31_32__29_30_31_32 r ((upd (r 29) d.toNatClampNeg what)) ((upd (r 30) d.toNatClampNeg v131)) ((upd (r 31) d.toNatClampNeg r149)) ((upd (r 32) d.toNatClampNeg k0))) rfl hP
                              exact ih_177 (i + 1) (vp_updL s3 v198.toNatClampNeg v237.toInt64) (by omega) (by rw [j177_1, f198]; exact setQ_v (by first | (rw [keG_3 (by omega)]; exact one_bI (by omega) q208) | (rw [keG_4 (by omega) (by omega), e237, f236]; done) | (rw [keG_5 (by omega) (by omega), e263, f262]; done) | (exfalso; omega))) (by omega) _ _ hP hS ls (lv_sub hl [0, 1, 2, 3, 4, 5, 6] rfl)
                          · first | exact absurd c201 c95 | exact absurd c95 c201
                    have hP := wm_eq rfl rfl (ec_r_29_30_31_32__29_30_31_32 r ((upd (r 29) d.toNatClampNeg what)) ((upd (r 30) d.toNatClampNeg v131)) ((upd (r 31) d.toNatClampNeg r149)) ((upd (r 32) d.toNatClampNeg k0))) (ec_q___33 q ) hP
                    exact loop_177 (60 + 1) 0 (q 33) (by omega) ((setQ_0 _ _ _).symm) (by omega) _ _ hP hS ls (lv_sub hl [0, 1, 2, 3, 4, 5, 6] rfl)
                  · skip
                    have d164 := c164
                    rw [fa_eq] at d164
                    refine lv_bipush (v := (-15)) hx hb dX10_keep_167 (by decide) ?_
                    refine lv_goto (tgt := 173) hx hb dX10_keep_169 (by decide) ?_
                    refine m_iast (w := (r 32)) hx hb hK hP hD hS 20 rfl (vp_in_iff.mpr ⟨by omega, by omega⟩) (va_up (va_up (va_up (va_up r 29 ((upd (r 29) d.toNatClampNeg what))) 30 ((upd (r 30) d.toNatClampNeg v131))) 31 ((upd (r 31) d.toNatClampNeg r149))) 32 (upd (r 32) d.toNatClampNeg (((-15) : Int32)))) (ms_32 cy mo a _ _ _ _ _) dX10_keep_173 (fun H locs hP hS => ?_)
                    refine lv_iconst (v := 0) hx hb dX10_keep_174 (by decide) ?_
                    refine lv_istore (lv' := [(7, .int (0 : Int32)), (6, .int (1 : Int32)), (0, .ref mo), (1, .int d), (2, .int what), (3, .int k0), (4, .long p0)]) hx hb dX10_keep_175 hl (by decide) rfl (fun ls hl => ?_)
                    have loop_177 : ∀ (n : Nat) (i : Nat) (s3 : Nat → Int64), (i ≤ 60 ∧ (i : Int) ≤ nv9.toInt) → (s3 = setQ (q 33) (60 * d.toNatClampNeg) (keG what p0 (r 4 k0.toNatClampNeg).toNatClampNeg (fun x9 => r 5 (44 * k0.toNatClampNeg + x9))) i) → 60 - i < n → ∀ (H : Heap) (locs : List Loc), va_P D vwCl (WM cy mo a (upd f 0 (0 : Int32)) g (va_up (va_up (va_up (va_up r 29 ((upd (r 29) d.toNatClampNeg what))) 30 ((upd (r 30) d.toNatClampNeg v131))) 31 ((upd (r 31) d.toNatClampNeg r149))) 32 ((upd (r 32) d.toNatClampNeg (((-15) : Int32))))) (va_up q 33 s3)) H → va_S (AM mo a) s.heap H locs → ∀ (ls : Array Slot), lv_has ls 8 [(7, .int (nI i)), (6, .int (1 : Int32)), (0, .ref mo), (1, .int d), (2, .int what), (3, .int k0), (4, .long p0)] → W p l e (headSpec wsX10_keep ({ frames := 3, cells := 0, slots := 0, locals := 69 })).room s m #[Value.ref mo, Value.int d, Value.int what, Value.int k0, Value.long p0] below meth c H locs 0 0 (MQ below (va_Qi (fun r0 u => ∃ (sh : Nat → Int32), ∃ (sz : Nat → Int32), ∃ (sw : Nat → Int32), ∃ (sf : Nat → Int32), ∃ (sr : Nat → Int64), u = ((upd f 0 (0 : Int32)), g, (va_up (va_up (va_up (va_up r 29 sh) 30 sz) 31 sw) 32 sf), (va_up q 33 sr)) ∧ (yesNo (okKeep (f 1) (fun j9 => (r 3 j9).toNatClampNeg) (fun j9 => (r 4 j9).toNatClampNeg) d what k0 p0) 0 (-1) r0 ∧ ((okKeep (f 1) (fun j9 => (r 3 j9).toNatClampNeg) (fun j9 => (r 4 j9).toNatClampNeg) d what k0 p0 ∧ ∃ nv, sh = upd (r 29) d.toNatClampNeg what ∧ sz = upd (r 30) d.toNatClampNeg nv ∧ (what.toInt = 3 → nv.toInt = (((r 3 k0.toNatClampNeg).toNatClampNeg * (r 4 k0.toNatClampNeg).toNatClampNeg : Nat) : Int)) ∧ (what.toInt = 4 → nv.toInt = (((r 4 k0.toNatClampNeg).toNatClampNeg + (r 3 k0.toNatClampNeg).toNatClampNeg : Nat) : Int)) ∧ sr = setQ (q 33) (60 * d.toNatClampNeg) (keG what p0 (r 4 k0.toNatClampNeg).toNatClampNeg (fun x9 => r 5 (44 * k0.toNatClampNeg + x9))) nv.toNatClampNeg ∧ nv.toNatClampNeg ≤ 60) ∨ (¬ okKeep (f 1) (fun j9 => (r 3 j9).toNatClampNeg) (fun j9 => (r 4 j9).toNatClampNeg) d what k0 p0 ∧ sh = r 29 ∧ sz = r 30 ∧ sr = q 33)) ∧ MI (upd f 0 (0 : Int32)) (va_up (va_up (va_up (va_up r 29 sh) 30 sz) 31 sw) 32 sf))) (mB D cy mo a) (AM mo a)) #[Value.ref mo, Value.int d, Value.int what, Value.int k0, Value.long p0] s 0 0 (AM mo a)) (F0 m 177 ls []) := by
                      intro n
                      induction n with
                      | zero => intro i s3 j177_0 j177_1 hn; exact absurd hn (Nat.not_lt_zero _)
                      | succ n ih_177 =>
                        intro i s3 j177_0 j177_1 hn_177 H locs hP hS ls hl
                        have ii : (nI i).toInt = (i : Int) := nI_toInt (by omega)
                        refine lv_iload hx hb dX10_keep_177 (lv_at hl 0 rfl) ?_
                        refine lv_aload_n hx hb dX10_keep_179 rfl (lv_at hl 2 rfl) ?_
                        refine m_get (v := .ref (a 30)) hx hb hts hin hown hK hP 30 (by decide) rfl (hts (.fieldLink RX10 64 "ShadowBenchModel" "shelfSize" "[I") (by decide +kernel)) rfl dX10_keep_180 ?_
                        refine lv_iload_n hx hb dX10_keep_183 rfl (lv_at hl 3 rfl) ?_
                        refine m_iald (w := ((upd (r 30) d.toNatClampNeg v131))) hx hb hK hP 18 rfl (vp_in_iff.mpr ⟨by omega, by omega⟩) dX10_keep_184 ?_
                        refine lv_topi (fun v184 e184 => ?_)
                        have i184 : v184.toInt = (((upd (r 30) d.toNatClampNeg v131)) d.toNatClampNeg).toInt := congrArg Int32.toInt e184
                        have z184 := e184
                        simp only [upd, if_true] at z184
                        have y184 := congrArg Int32.toInt z184
                        have y184 : v184 = nv9 := by rw [e184, hnv9]; simp only [upd, if_true]
                        have i184 := congrArg Int32.toInt y184
                        refine lv_icmp_ge (tgt := 272) hx hb dX10_keep_185 (by decide) (fun c185 => ?_) (fun c185 => ?_)
                        · skip
                          have d185 := c185
                          rw [fa_le] at d185
                          refine lv_iconst (v := 0) hx hb dX10_keep_272 (by decide) ?_
                          have hP := wm_eq rfl rfl (ec_r_29_30_31_32__29_30_31_32 r ((upd (r 29) d.toNatClampNeg what)) ((upd (r 30) d.toNatClampNeg v131)) ((upd (r 31) d.toNatClampNeg r149)) ((upd (r 32) d.toNatClampNeg (((-15) : Int32))))) rfl hP
                          exact W.iret (v := (0 : Int32)) hx hb hr (fun t ht hW => ⟨⟨_, ((upd f 0 (0 : Int32)), g, (va_up (va_up (va_up (va_up r 29 (((upd (r 29) d.toNatClampNeg what)))) 30 (((upd (r 30) d.toNatClampNeg v131)))) 31 (((upd (r 31) d.toNatClampNeg r149)))) 32 (((upd (r 32) d.toNatClampNeg (((-15) : Int32)))))), (va_up q 33 s3)), rfl, ⟨((upd (r 29) d.toNatClampNeg what)), ((upd (r 30) d.toNatClampNeg v131)), ((upd (r 31) d.toNatClampNeg r149)), ((upd (r 32) d.toNatClampNeg (((-15) : Int32)))), s3, rfl, ⟨(Or.inl ⟨⟨b9, (by unfold okJob; first | exact Or.inl (by omega) | exact Or.inr (Or.inl ⟨by omega, b31⟩) | (have z9 := goodP_of b64; subst e52; subst e58; exact Or.inr (Or.inr ⟨by omega, b44, z9.2⟩)))⟩, rfl⟩), (Or.inl ⟨⟨b9, (by unfold okJob; first | exact Or.inl (by omega) | exact Or.inr (Or.inl ⟨by omega, b31⟩) | (have z9 := goodP_of b64; subst e52; subst e58; exact Or.inr (Or.inr ⟨by omega, b44, z9.2⟩)))⟩, _, rfl, rfl, (fun z9 => by first | (exfalso; omega) | exact y110), (fun z9 => by first | (exfalso; omega) | exact y131), (by have c9 := m_cl (x := nv9) (by omega); rw [j177_1, ← hnv9, show i = nv9.toNatClampNeg by omega]), (by have c9 := m_cl (x := nv9) (by omega); rw [hnv9] at c9; omega)⟩), by first | exact hI | exact mi_sz (d := d) hI (v := v110) (by omega) rfl rfl rfl rfl rfl rfl rfl rfl | exact mi_sz (d := d) hI (v := v131) (by omega) rfl rfl rfl rfl rfl rfl rfl rfl | exact mi_sz (d := d) hI (v := 0) (by decide) rfl rfl rfl rfl rfl rfl rfl rfl⟩⟩, by unfold mB; rw [ht]; exact hP⟩, hS.F ht⟩) hS.2.2 dX10_keep_273
                        · skip
                          have d185 := c185
                          rw [fa_le] at d185
                          refine lv_aload_n hx hb dX10_keep_188 rfl (lv_at hl 2 rfl) ?_
                          refine m_get (v := .ref (a 33)) hx hb hts hin hown hK hP 33 (by decide) rfl (hts (.fieldLink RX10 73 "ShadowBenchModel" "shelfRow" "[J") (by decide +kernel)) rfl dX10_keep_189 ?_
                          refine lv_bipush (v := 60) hx hb dX10_keep_192 (by decide) ?_
                          refine lv_iload_n hx hb dX10_keep_194 rfl (lv_at hl 3 rfl) ?_
                          refine lv_imul hx hb dX10_keep_195 ?_
                          refine lv_topi (fun v195 e195 => ?_)
                          have i195 : v195.toInt = 60 * d.toInt := by rw [e195]; exact mulcL rfl (by omega) (by omega)
                          refine lv_iload hx hb dX10_keep_196 (lv_at hl 0 rfl) ?_
                          refine lv_iadd hx hb dX10_keep_198 ?_
                          refine lv_topi (fun v198 e198 => ?_)
                          have i198 : v198.toInt = v195.toInt + (nI i).toInt := by rw [e198]; exact fb_addI (by omega) (by omega)
                          have cd9 := m_cl (x := d) (by omega)
                          have cv9 := m_cl (x := v198) (by omega)
                          have f198 : v198.toNatClampNeg = 60 * d.toNatClampNeg + i := by omega
                          refine lv_iload_n hx hb dX10_keep_199 rfl (lv_at hl 4 rfl) ?_
                          refine lv_iconst (v := 3) hx hb dX10_keep_200 (by decide) ?_
                          refine lv_icmp_ne (tgt := 215) hx hb dX10_keep_201 (by decide) (fun c201 => ?_) (fun c201 => ?_)
                          · skip
                            have d201 := c201
                            rw [fa_eq] at d201
                            refine lv_iload hx hb dX10_keep_215 (lv_at hl 0 rfl) ?_
                            refine lv_aload_n hx hb dX10_keep_217 rfl (lv_at hl 2 rfl) ?_
                            refine m_get (v := .ref (a 4)) hx hb hts hin hown hK hP 4 (by decide) rfl (hts (.fieldLink RX10 16 "ShadowBenchModel" "high" "[I") (by decide +kernel)) rfl dX10_keep_218 ?_
                            refine lv_iload_n hx hb dX10_keep_221 rfl (lv_at hl 5 rfl) ?_
                            refine m_iald (w := (r 4)) hx hb hK hP 3 rfl (vp_in_iff.mpr ⟨by omega, by omega⟩) dX10_keep_222 ?_
                            refine lv_topi (fun v222 e222 => ?_)
                            have i222 : v222.toInt = ((r 4) k0.toNatClampNeg).toInt := congrArg Int32.toInt e222
                            have w222 := mi_h hI (x := k0) (by omega) (by omega) e222
                            refine lv_icmp_ge (tgt := 242) hx hb dX10_keep_223 (by decide) (fun c223 => ?_) (fun c223 => ?_)
                            · skip
                              have d223 := c223
                              rw [fa_le] at d223
                              refine lv_aload_n hx hb dX10_keep_242 rfl (lv_at hl 2 rfl) ?_
                              refine m_get (v := .ref (a 5)) hx hb hts hin hown hK hP 5 (by decide) rfl (hts (.fieldLink RX10 19 "ShadowBenchModel" "sums" "[I") (by decide +kernel)) rfl dX10_keep_243 ?_
                              refine lv_bipush (v := 44) hx hb dX10_keep_246 (by decide) ?_
                              refine lv_iload_n hx hb dX10_keep_248 rfl (lv_at hl 5 rfl) ?_
                              refine lv_imul hx hb dX10_keep_249 ?_
                              refine lv_topi (fun v249 e249 => ?_)
                              have i249 : v249.toInt = 44 * k0.toInt := by rw [e249]; exact mulcL rfl (by omega) (by omega)
                              refine lv_bipush (v := 11) hx hb dX10_keep_250 (by decide) ?_
                              refine lv_iadd hx hb dX10_keep_252 ?_
                              refine lv_topi (fun v252 e252 => ?_)
                              have i252 : v252.toInt = v249.toInt + (11 : Int32).toInt := by rw [e252]; exact fb_addI (by omega) (by omega)
                              refine lv_iload hx hb dX10_keep_253 (lv_at hl 0 rfl) ?_
                              refine lv_iadd hx hb dX10_keep_255 ?_
                              refine lv_topi (fun v255 e255 => ?_)
                              have i255 : v255.toInt = v252.toInt + (nI i).toInt := by rw [e255]; exact fb_addI (by omega) (by omega)
                              refine lv_aload_n hx hb dX10_keep_256 rfl (lv_at hl 2 rfl) ?_
                              refine m_get (v := .ref (a 4)) hx hb hts hin hown hK hP 4 (by decide) rfl (hts (.fieldLink RX10 16 "ShadowBenchModel" "high" "[I") (by decide +kernel)) rfl dX10_keep_257 ?_
                              refine lv_iload_n hx hb dX10_keep_260 rfl (lv_at hl 5 rfl) ?_
                              refine m_iald (w := (r 4)) hx hb hK hP 3 rfl (vp_in_iff.mpr ⟨by omega, by omega⟩) dX10_keep_261 ?_
                              refine lv_topi (fun v261 e261 => ?_)
                              have i261 : v261.toInt = ((r 4) k0.toNatClampNeg).toInt := congrArg Int32.toInt e261
                              have w261 := mi_h hI (x := k0) (by omega) (by omega) e261
                              refine lv_isub hx hb dX10_keep_262 ?_
                              refine lv_topi (fun v262 e262 => ?_)
                              have i262 : v262.toInt = v255.toInt - v261.toInt := by rw [e262]; exact fb_subI (by omega) (by omega)
                              have ck9 := m_cl (x := k0) (by omega)
                              have cv8 := m_cl (x := v262) (by omega)
                              have ch9 := m_cl (x := v222) (by omega)
                              have f262 : v262.toNatClampNeg = 44 * k0.toNatClampNeg + (11 + i - v222.toNatClampNeg) := by omega
                              rw [e222] at ch9 f262
                              refine m_iald (w := (r 5)) hx hb hK hP 4 rfl (vp_in_iff.mpr ⟨by omega, by omega⟩) dX10_keep_263 ?_
                              refine lv_topi (fun v263 e263 => ?_)
                              have i263 : v263.toInt = ((r 5) v262.toNatClampNeg).toInt := congrArg Int32.toInt e263
                              refine lv_i2l (v := v263.toInt64) hx hb dX10_keep_264 rfl ?_
                              refine m_last (w := s3) hx hb hK hP hD hS 21 rfl (vp_in_iff.mpr ⟨by omega, by omega⟩) (va_up (va_up q 33 s3) 33 (vp_updL s3 v198.toNatClampNeg v263.toInt64)) (ms_33 cy mo a _ _ _ _ _) dX10_keep_265 (fun H locs hP hS => ?_)
                              have hP := wm_eq rfl rfl rfl (es_q_33__33 q s3 (vp_updL s3 v198.toNatClampNeg v263.toInt64)) hP
                              refine lv_iinc (v := (nI (i + 1))) (lv' := [(7, .int (nI (i + 1))), (6, .int (1 : Int32)), (0, .ref mo), (1, .int d), (2, .int what), (3, .int k0), (4, .long p0)]) hx hb dX10_keep_266 hl (k := 0) rfl (nI_1 _) (by decide) rfl (fun ls hl => ?_)
                              refine lv_goto (tgt := 177) hx hb dX10_keep_269 (by decide) ?_
                              have hP := wm_eq rfl rfl (ec_r_29_30_31_32__29_30_31_32 r ((upd (r 29) d.toNatClampNeg what)) ((upd (r 30) d.toNatClampNeg v131)) ((upd (r 31) d.toNatClampNeg r149)) ((upd (r 32) d.toNatClampNeg (((-15) : Int32))))) rfl hP
                              exact ih_177 (i + 1) (vp_updL s3 v198.toNatClampNeg v263.toInt64) (by omega) (by rw [j177_1, f198]; exact setQ_v (by first | (rw [keG_3 (by omega)]; exact one_bI (by omega) q208) | (rw [keG_4 (by omega) (by omega), e237, f236]; done) | (rw [keG_5 (by omega) (by omega), e263, f262]; done) | (exfalso; omega))) (by omega) _ _ hP hS ls (lv_sub hl [0, 1, 2, 3, 4, 5, 6] rfl)
                            · skip
                              have d223 := c223
                              rw [fa_le] at d223
                              refine lv_aload_n hx hb dX10_keep_226 rfl (lv_at hl 2 rfl) ?_
                              refine m_get (v := .ref (a 5)) hx hb hts hin hown hK hP 5 (by decide) rfl (hts (.fieldLink RX10 19 "ShadowBenchModel" "sums" "[I") (by decide +kernel)) rfl dX10_keep_227 ?_
                              refine lv_bipush (v := 44) hx hb dX10_keep_230 (by decide) ?_
                              refine lv_iload_n hx hb dX10_keep_232 rfl (lv_at hl 5 rfl) ?_
                              refine lv_imul hx hb dX10_keep_233 ?_
                              refine lv_topi (fun v233 e233 => ?_)
                              have i233 : v233.toInt = 44 * k0.toInt := by rw [e233]; exact mulcL rfl (by omega) (by omega)
                              refine lv_iload hx hb dX10_keep_234 (lv_at hl 0 rfl) ?_
                              refine lv_iadd hx hb dX10_keep_236 ?_
                              refine lv_topi (fun v236 e236 => ?_)
                              have i236 : v236.toInt = v233.toInt + (nI i).toInt := by rw [e236]; exact fb_addI (by omega) (by omega)
                              have ck9 := m_cl (x := k0) (by omega)
                              have cv8 := m_cl (x := v236) (by omega)
                              have f236 : v236.toNatClampNeg = 44 * k0.toNatClampNeg + i := by omega
                              have ch9 := m_cl (x := v222) (by omega)
                              rw [e222] at ch9
                              refine m_iald (w := (r 5)) hx hb hK hP 4 rfl (vp_in_iff.mpr ⟨by omega, by omega⟩) dX10_keep_237 ?_
                              refine lv_topi (fun v237 e237 => ?_)
                              have i237 : v237.toInt = ((r 5) v236.toNatClampNeg).toInt := congrArg Int32.toInt e237
                              refine lv_i2l (v := v237.toInt64) hx hb dX10_keep_238 rfl ?_
                              refine lv_goto (tgt := 265) hx hb dX10_keep_239 (by decide) ?_
                              refine m_last (w := s3) hx hb hK hP hD hS 21 rfl (vp_in_iff.mpr ⟨by omega, by omega⟩) (va_up (va_up q 33 s3) 33 (vp_updL s3 v198.toNatClampNeg v237.toInt64)) (ms_33 cy mo a _ _ _ _ _) dX10_keep_265 (fun H locs hP hS => ?_)
                              have hP := wm_eq rfl rfl rfl (es_q_33__33 q s3 (vp_updL s3 v198.toNatClampNeg v237.toInt64)) hP
                              refine lv_iinc (v := (nI (i + 1))) (lv' := [(7, .int (nI (i + 1))), (6, .int (1 : Int32)), (0, .ref mo), (1, .int d), (2, .int what), (3, .int k0), (4, .long p0)]) hx hb dX10_keep_266 hl (k := 0) rfl (nI_1 _) (by decide) rfl (fun ls hl => ?_)
                              refine lv_goto (tgt := 177) hx hb dX10_keep_269 (by decide) ?_
                              have hP := wm_eq rfl rfl (ec_r_29_30_31_32__29_30_31_32 r ((upd (r 29) d.toNatClampNeg what)) ((upd (r 30) d.toNatClampNeg v131)) ((upd (r 31) d.toNatClampNeg r149)) ((upd (r 32) d.toNatClampNeg (((-15) : Int32))))) rfl hP
                              exact ih_177 (i + 1) (vp_updL s3 v198.toNatClampNeg v237.toInt64) (by omega) (by rw [j177_1, f198]; exact setQ_v (by first | (rw [keG_3 (by omega)]; exact one_bI (by omega) q208) | (rw [keG_4 (by omega) (by omega), e237, f236]; done) | (rw [keG_5 (by omega) (by omega), e263, f262]; done) | (exfalso; omega))) (by omega) _ _ hP hS ls (lv_sub hl [0, 1, 2, 3, 4, 5, 6] rfl)
                          · first | exact absurd c201 c95 | exact absurd c95 c201
                    have hP := wm_eq rfl rfl (ec_r_29_30_31_32__29_30_31_32 r ((upd (r 29) d.toNatClampNeg what)) ((upd (r 30) d.toNatClampNeg v131)) ((upd (r 31) d.toNatClampNeg r149)) ((upd (r 32) d.toNatClampNeg (((-15) : Int32))))) (ec_q___33 q ) hP
                    exact loop_177 (60 + 1) 0 (q 33) (by omega) ((setQ_0 _ _ _).symm) (by omega) _ _ hP hS ls (lv_sub hl [0, 1, 2, 3, 4, 5, 6] rfl)
            · skip
              have d95 := c95
              rw [fa_eq] at d95
              refine lv_aload_n hx hb dX10_keep_98 rfl (lv_at hl 1 rfl) ?_
              refine m_get (v := .ref (a 3)) hx hb hts hin hown hK hP 3 (by decide) rfl (hts (.fieldLink RX10 13 "ShadowBenchModel" "wide" "[I") (by decide +kernel)) rfl dX10_keep_99 ?_
              refine lv_iload_n hx hb dX10_keep_102 rfl (lv_at hl 4 rfl) ?_
              refine m_iald (w := (r 3)) hx hb hK hP 2 rfl (vp_in_iff.mpr ⟨by omega, by omega⟩) dX10_keep_103 ?_
              refine lv_topi (fun v103 e103 => ?_)
              have i103 : v103.toInt = ((r 3) k0.toNatClampNeg).toInt := congrArg Int32.toInt e103
              have w103 := mi_w hI (x := k0) (by omega) (by omega) e103
              refine lv_aload_n hx hb dX10_keep_104 rfl (lv_at hl 1 rfl) ?_
              refine m_get (v := .ref (a 4)) hx hb hts hin hown hK hP 4 (by decide) rfl (hts (.fieldLink RX10 16 "ShadowBenchModel" "high" "[I") (by decide +kernel)) rfl dX10_keep_105 ?_
              refine lv_iload_n hx hb dX10_keep_108 rfl (lv_at hl 4 rfl) ?_
              refine m_iald (w := (r 4)) hx hb hK hP 3 rfl (vp_in_iff.mpr ⟨by omega, by omega⟩) dX10_keep_109 ?_
              refine lv_topi (fun v109 e109 => ?_)
              have i109 : v109.toInt = ((r 4) k0.toNatClampNeg).toInt := congrArg Int32.toInt e109
              have w109 := mi_h hI (x := k0) (by omega) (by omega) e109
              have m110 := mul66 w103 w109
              refine lv_imul hx hb dX10_keep_110 ?_
              refine lv_topi (fun v110 e110 => ?_)
              have i110 : v110.toInt = v103.toInt * v109.toInt := by rw [e110]; exact fb_mulI (by omega) (by omega)
              have y110 : v110.toInt = (((r 3 k0.toNatClampNeg).toNatClampNeg * (r 4 k0.toNatClampNeg).toNatClampNeg : Nat) : Int) := by rw [sq_eq hI (j := k0) (by omega) (by omega), i110, e103, e109]
              obtain ⟨nv9, hnv9⟩ : ∃ z9, z9 = v110 := ⟨_, rfl⟩
              have n184 := congrArg Int32.toInt hnv9
              refine lv_goto (tgt := 136) hx hb dX10_keep_111 (by decide) ?_
              refine m_iast (w := (r 30)) hx hb hK hP hD hS 18 rfl (vp_in_iff.mpr ⟨by omega, by omega⟩) (va_up (va_up r 29 ((upd (r 29) d.toNatClampNeg what))) 30 (upd (r 30) d.toNatClampNeg v110)) (ms_30 cy mo a _ _ _ _ _) dX10_keep_136 (fun H locs hP hS => ?_)
              refine lv_iload_n hx hb dX10_keep_137 rfl (lv_at hl 3 rfl) ?_
              refine lv_iconst (v := 1) hx hb dX10_keep_138 (by decide) ?_
              refine lv_icmp_ne (tgt := 174) hx hb dX10_keep_139 (by decide) (fun c139 => ?_) (fun c139 => ?_)
              · skip
                have d139 := c139
                rw [fa_eq] at d139
                refine lv_iconst (v := 0) hx hb dX10_keep_174 (by decide) ?_
                refine lv_istore (lv' := [(7, .int (0 : Int32)), (6, .int (1 : Int32)), (0, .ref mo), (1, .int d), (2, .int what), (3, .int k0), (4, .long p0)]) hx hb dX10_keep_175 hl (by decide) rfl (fun ls hl => ?_)
                have loop_177 : ∀ (n : Nat) (i : Nat) (s3 : Nat → Int64), (i ≤ 60 ∧ (i : Int) ≤ nv9.toInt) → (s3 = setQ (q 33) (60 * d.toNatClampNeg) (keG what p0 (r 4 k0.toNatClampNeg).toNatClampNeg (fun x9 => r 5 (44 * k0.toNatClampNeg + x9))) i) → 60 - i < n → ∀ (H : Heap) (locs : List Loc), va_P D vwCl (WM cy mo a (upd f 0 (0 : Int32)) g (va_up (va_up r 29 ((upd (r 29) d.toNatClampNeg what))) 30 ((upd (r 30) d.toNatClampNeg v110))) (va_up q 33 s3)) H → va_S (AM mo a) s.heap H locs → ∀ (ls : Array Slot), lv_has ls 8 [(7, .int (nI i)), (6, .int (1 : Int32)), (0, .ref mo), (1, .int d), (2, .int what), (3, .int k0), (4, .long p0)] → W p l e (headSpec wsX10_keep ({ frames := 3, cells := 0, slots := 0, locals := 69 })).room s m #[Value.ref mo, Value.int d, Value.int what, Value.int k0, Value.long p0] below meth c H locs 0 0 (MQ below (va_Qi (fun r0 u => ∃ (sh : Nat → Int32), ∃ (sz : Nat → Int32), ∃ (sw : Nat → Int32), ∃ (sf : Nat → Int32), ∃ (sr : Nat → Int64), u = ((upd f 0 (0 : Int32)), g, (va_up (va_up (va_up (va_up r 29 sh) 30 sz) 31 sw) 32 sf), (va_up q 33 sr)) ∧ (yesNo (okKeep (f 1) (fun j9 => (r 3 j9).toNatClampNeg) (fun j9 => (r 4 j9).toNatClampNeg) d what k0 p0) 0 (-1) r0 ∧ ((okKeep (f 1) (fun j9 => (r 3 j9).toNatClampNeg) (fun j9 => (r 4 j9).toNatClampNeg) d what k0 p0 ∧ ∃ nv, sh = upd (r 29) d.toNatClampNeg what ∧ sz = upd (r 30) d.toNatClampNeg nv ∧ (what.toInt = 3 → nv.toInt = (((r 3 k0.toNatClampNeg).toNatClampNeg * (r 4 k0.toNatClampNeg).toNatClampNeg : Nat) : Int)) ∧ (what.toInt = 4 → nv.toInt = (((r 4 k0.toNatClampNeg).toNatClampNeg + (r 3 k0.toNatClampNeg).toNatClampNeg : Nat) : Int)) ∧ sr = setQ (q 33) (60 * d.toNatClampNeg) (keG what p0 (r 4 k0.toNatClampNeg).toNatClampNeg (fun x9 => r 5 (44 * k0.toNatClampNeg + x9))) nv.toNatClampNeg ∧ nv.toNatClampNeg ≤ 60) ∨ (¬ okKeep (f 1) (fun j9 => (r 3 j9).toNatClampNeg) (fun j9 => (r 4 j9).toNatClampNeg) d what k0 p0 ∧ sh = r 29 ∧ sz = r 30 ∧ sr = q 33)) ∧ MI (upd f 0 (0 : Int32)) (va_up (va_up (va_up (va_up r 29 sh) 30 sz) 31 sw) 32 sf))) (mB D cy mo a) (AM mo a)) #[Value.ref mo, Value.int d, Value.int what, Value.int k0, Value.long p0] s 0 0 (AM mo a)) (F0 m 177 ls []) := by
                  intro n
                  induction n with
                  | zero => intro i s3 j177_0 j177_1 hn; exact absurd hn (Nat.not_lt_zero _)
                  | succ n ih_177 =>
                    intro i s3 j177_0 j177_1 hn_177 H locs hP hS ls hl
                    have ii : (nI i).toInt = (i : Int) := nI_toInt (by omega)
                    refine lv_iload hx hb dX10_keep_177 (lv_at hl 0 rfl) ?_
                    refine lv_aload_n hx hb dX10_keep_179 rfl (lv_at hl 2 rfl) ?_
                    refine m_get (v := .ref (a 30)) hx hb hts hin hown hK hP 30 (by decide) rfl (hts (.fieldLink RX10 64 "ShadowBenchModel" "shelfSize" "[I") (by decide +kernel)) rfl dX10_keep_180 ?_
                    refine lv_iload_n hx hb dX10_keep_183 rfl (lv_at hl 3 rfl) ?_
                    refine m_iald (w := ((upd (r 30) d.toNatClampNeg v110))) hx hb hK hP 18 rfl (vp_in_iff.mpr ⟨by omega, by omega⟩) dX10_keep_184 ?_
                    refine lv_topi (fun v184 e184 => ?_)
                    have i184 : v184.toInt = (((upd (r 30) d.toNatClampNeg v110)) d.toNatClampNeg).toInt := congrArg Int32.toInt e184
                    have z184 := e184
                    simp only [upd, if_true] at z184
                    have y184 := congrArg Int32.toInt z184
                    have y184 : v184 = nv9 := by rw [e184, hnv9]; simp only [upd, if_true]
                    have i184 := congrArg Int32.toInt y184
                    refine lv_icmp_ge (tgt := 272) hx hb dX10_keep_185 (by decide) (fun c185 => ?_) (fun c185 => ?_)
                    · skip
                      have d185 := c185
                      rw [fa_le] at d185
                      refine lv_iconst (v := 0) hx hb dX10_keep_272 (by decide) ?_
                      have hP := wm_eq rfl rfl (ec_r_29_30__29_30_31_32 r ((upd (r 29) d.toNatClampNeg what)) ((upd (r 30) d.toNatClampNeg v110))) rfl hP
                      exact W.iret (v := (0 : Int32)) hx hb hr (fun t ht hW => ⟨⟨_, ((upd f 0 (0 : Int32)), g, (va_up (va_up (va_up (va_up r 29 (((upd (r 29) d.toNatClampNeg what)))) 30 (((upd (r 30) d.toNatClampNeg v110)))) 31 (r 31)) 32 (r 32)), (va_up q 33 s3)), rfl, ⟨((upd (r 29) d.toNatClampNeg what)), ((upd (r 30) d.toNatClampNeg v110)), (r 31), (r 32), s3, rfl, ⟨(Or.inl ⟨⟨b9, (by unfold okJob; first | exact Or.inl (by omega) | exact Or.inr (Or.inl ⟨by omega, b31⟩) | (have z9 := goodP_of b64; subst e52; subst e58; exact Or.inr (Or.inr ⟨by omega, b44, z9.2⟩)))⟩, rfl⟩), (Or.inl ⟨⟨b9, (by unfold okJob; first | exact Or.inl (by omega) | exact Or.inr (Or.inl ⟨by omega, b31⟩) | (have z9 := goodP_of b64; subst e52; subst e58; exact Or.inr (Or.inr ⟨by omega, b44, z9.2⟩)))⟩, _, rfl, rfl, (fun z9 => by first | (exfalso; omega) | exact y110), (fun z9 => by first | (exfalso; omega) | exact y131), (by have c9 := m_cl (x := nv9) (by omega); rw [j177_1, ← hnv9, show i = nv9.toNatClampNeg by omega]), (by have c9 := m_cl (x := nv9) (by omega); rw [hnv9] at c9; omega)⟩), by first | exact hI | exact mi_sz (d := d) hI (v := v110) (by omega) rfl rfl rfl rfl rfl rfl rfl rfl | exact mi_sz (d := d) hI (v := v131) (by omega) rfl rfl rfl rfl rfl rfl rfl rfl | exact mi_sz (d := d) hI (v := 0) (by decide) rfl rfl rfl rfl rfl rfl rfl rfl⟩⟩, by unfold mB; rw [ht]; exact hP⟩, hS.F ht⟩) hS.2.2 dX10_keep_273
                    · skip
                      have d185 := c185
                      rw [fa_le] at d185
                      refine lv_aload_n hx hb dX10_keep_188 rfl (lv_at hl 2 rfl) ?_
                      refine m_get (v := .ref (a 33)) hx hb hts hin hown hK hP 33 (by decide) rfl (hts (.fieldLink RX10 73 "ShadowBenchModel" "shelfRow" "[J") (by decide +kernel)) rfl dX10_keep_189 ?_
                      refine lv_bipush (v := 60) hx hb dX10_keep_192 (by decide) ?_
                      refine lv_iload_n hx hb dX10_keep_194 rfl (lv_at hl 3 rfl) ?_
                      refine lv_imul hx hb dX10_keep_195 ?_
                      refine lv_topi (fun v195 e195 => ?_)
                      have i195 : v195.toInt = 60 * d.toInt := by rw [e195]; exact mulcL rfl (by omega) (by omega)
                      refine lv_iload hx hb dX10_keep_196 (lv_at hl 0 rfl) ?_
                      refine lv_iadd hx hb dX10_keep_198 ?_
                      refine lv_topi (fun v198 e198 => ?_)
                      have i198 : v198.toInt = v195.toInt + (nI i).toInt := by rw [e198]; exact fb_addI (by omega) (by omega)
                      have cd9 := m_cl (x := d) (by omega)
                      have cv9 := m_cl (x := v198) (by omega)
                      have f198 : v198.toNatClampNeg = 60 * d.toNatClampNeg + i := by omega
                      refine lv_iload_n hx hb dX10_keep_199 rfl (lv_at hl 4 rfl) ?_
                      refine lv_iconst (v := 3) hx hb dX10_keep_200 (by decide) ?_
                      refine lv_icmp_ne (tgt := 215) hx hb dX10_keep_201 (by decide) (fun c201 => ?_) (fun c201 => ?_)
                      · first | exact absurd c201 c95 | exact absurd c95 c201
                      · skip
                        have d201 := c201
                        rw [fa_eq] at d201
                        refine lv_lload hx hb dX10_keep_204 (lv_at hl 6 rfl) ?_
                        refine lv_iload hx hb dX10_keep_206 (lv_at hl 0 rfl) ?_
                        refine m_pu (As := [.long p0, .int (nI i)]) (rest := [.int v198, .ref (a 33)]) ⟨hx, hb, hml, hown, hts⟩ (c_X10_one l p0 (nI i) ) (va_cwS 2 hts gX10_keep_X10_one rfl rfl rfl (by decide +kernel) ⟨Nat.le_of_ble_eq_true rfl, Nat.le_of_ble_eq_true rfl⟩) hP rfl hl.1 rfl (Nat.le_of_ble_eq_true rfl) dX10_keep_208 ⟨Nat.le_of_ble_eq_true rfl, Nat.le_of_ble_eq_true rfl⟩ hS (fun r208 H locs q208 hP hS => ?_)
                        have i208 : r208.toInt = (r_one p0 (nI i)).toInt := congrArg Int32.toInt q208
                        refine lv_i2l (v := r208.toInt64) hx hb dX10_keep_211 rfl ?_
                        refine lv_goto (tgt := 265) hx hb dX10_keep_212 (by decide) ?_
                        refine m_last (w := s3) hx hb hK hP hD hS 21 rfl (vp_in_iff.mpr ⟨by omega, by omega⟩) (va_up (va_up q 33 s3) 33 (vp_updL s3 v198.toNatClampNeg r208.toInt64)) (ms_33 cy mo a _ _ _ _ _) dX10_keep_265 (fun H locs hP hS => ?_)
                        have hP := wm_eq rfl rfl rfl (es_q_33__33 q s3 (vp_updL s3 v198.toNatClampNeg r208.toInt64)) hP
                        refine lv_iinc (v := (nI (i + 1))) (lv' := [(7, .int (nI (i + 1))), (6, .int (1 : Int32)), (0, .ref mo), (1, .int d), (2, .int what), (3, .int k0), (4, .long p0)]) hx hb dX10_keep_266 hl (k := 0) rfl (nI_1 _) (by decide) rfl (fun ls hl => ?_)
                        refine lv_goto (tgt := 177) hx hb dX10_keep_269 (by decide) ?_
                        have hP := wm_eq rfl rfl (ec_r_29_30__29_30 r ((upd (r 29) d.toNatClampNeg what)) ((upd (r 30) d.toNatClampNeg v110))) rfl hP
                        exact ih_177 (i + 1) (vp_updL s3 v198.toNatClampNeg r208.toInt64) (by omega) (by rw [j177_1, f198]; exact setQ_v (by first | (rw [keG_3 (by omega)]; exact one_bI (by omega) q208) | (rw [keG_4 (by omega) (by omega), e237, f236]; done) | (rw [keG_5 (by omega) (by omega), e263, f262]; done) | (exfalso; omega))) (by omega) _ _ hP hS ls (lv_sub hl [0, 1, 2, 3, 4, 5, 6] rfl)
                have hP := wm_eq rfl rfl (ec_r_29_30__29_30 r ((upd (r 29) d.toNatClampNeg what)) ((upd (r 30) d.toNatClampNeg v110))) (ec_q___33 q ) hP
                exact loop_177 (60 + 1) 0 (q 33) (by omega) ((setQ_0 _ _ _).symm) (by omega) _ _ hP hS ls (lv_sub hl [0, 1, 2, 3, 4, 5, 6] rfl)
              · skip
                have d139 := c139
                rw [fa_eq] at d139
                refine lv_aload_n hx hb dX10_keep_142 rfl (lv_at hl 1 rfl) ?_
                refine m_get (v := .ref (a 31)) hx hb hts hin hown hK hP 31 (by decide) rfl (hts (.fieldLink RX10 67 "ShadowBenchModel" "shelfWeight" "[I") (by decide +kernel)) rfl dX10_keep_143 ?_
                refine lv_iload_n hx hb dX10_keep_146 rfl (lv_at hl 2 rfl) ?_
                refine lv_aload_n hx hb dX10_keep_147 rfl (lv_at hl 1 rfl) ?_
                refine lv_iload_n hx hb dX10_keep_148 rfl (lv_at hl 4 rfl) ?_
                refine m_calli (As := [.int k0]) (rest := [.int d, .ref (a 31)]) ⟨hx, hb, hml, hown, hts⟩ (c_X10_weightOf l D cy mo a (upd f 0 (0 : Int32)) g (va_up (va_up r 29 ((upd (r 29) d.toNatClampNeg what))) 30 ((upd (r 30) d.toNatClampNeg v110))) q k0 hD (by first | exact hI | exact mi_sz (d := d) hI (v := 0) (by first | omega | decide) rfl rfl rfl rfl rfl rfl rfl rfl | exact mi_sz (d := d) hI (v := v131) (by first | omega | decide) rfl rfl rfl rfl rfl rfl rfl rfl | exact mi_sz (d := d) hI (v := v110) (by first | omega | decide) rfl rfl rfl rfl rfl rfl rfl rfl) (show 0 ≤ k0.toInt ∧ k0.toInt < (f 1).toInt by omega)) (cwV 1 hts gX10_keep_X10_weightOf rfl rfl rfl (by decide +kernel) ⟨Nat.le_of_ble_eq_true rfl, Nat.le_of_ble_eq_true rfl⟩) hK hP rfl hl.1 rfl (Nat.le_of_ble_eq_true rfl) dX10_keep_149 ⟨Nat.le_of_ble_eq_true rfl, Nat.le_of_ble_eq_true rfl⟩ hS (fun r149 u H locs q149 hP hS => ?_)
                obtain ⟨rfl, q149⟩ := q149
                have hP : va_P D vwCl (WM cy mo a (upd f 0 (0 : Int32)) g (va_up (va_up r 29 ((upd (r 29) d.toNatClampNeg what))) 30 ((upd (r 30) d.toNatClampNeg v110))) q) H := hP
                have q149 : True := q149
                refine m_iast (w := (r 31)) hx hb hK hP hD hS 19 rfl (vp_in_iff.mpr ⟨by omega, by omega⟩) (va_up (va_up (va_up r 29 ((upd (r 29) d.toNatClampNeg what))) 30 ((upd (r 30) d.toNatClampNeg v110))) 31 (upd (r 31) d.toNatClampNeg r149)) (ms_31 cy mo a _ _ _ _ _) dX10_keep_152 (fun H locs hP hS => ?_)
                refine lv_aload_n hx hb dX10_keep_153 rfl (lv_at hl 1 rfl) ?_
                refine m_get (v := .ref (a 32)) hx hb hts hin hown hK hP 32 (by decide) rfl (hts (.fieldLink RX10 70 "ShadowBenchModel" "shelfFailure" "[I") (by decide +kernel)) rfl dX10_keep_154 ?_
                refine lv_iload_n hx hb dX10_keep_157 rfl (lv_at hl 2 rfl) ?_
                refine lv_aload_n hx hb dX10_keep_158 rfl (lv_at hl 1 rfl) ?_
                refine m_get (v := .ref (a 2)) hx hb hts hin hown hK hP 2 (by decide) rfl (hts (.fieldLink RX10 7 "ShadowBenchModel" "kind" "[I") (by decide +kernel)) rfl dX10_keep_159 ?_
                refine lv_iload_n hx hb dX10_keep_162 rfl (lv_at hl 4 rfl) ?_
                refine m_iald (w := (r 2)) hx hb hK hP 1 rfl (vp_in_iff.mpr ⟨by omega, by omega⟩) dX10_keep_163 ?_
                refine lv_topi (fun v163 e163 => ?_)
                have i163 : v163.toInt = ((r 2) k0.toNatClampNeg).toInt := congrArg Int32.toInt e163
                refine lv_if_ne (tgt := 172) hx hb dX10_keep_164 (by decide) (fun c164 => ?_) (fun c164 => ?_)
                · skip
                  have d164 := c164
                  rw [fa_eq] at d164
                  refine lv_iload_n hx hb dX10_keep_172 rfl (lv_at hl 4 rfl) ?_
                  refine m_iast (w := (r 32)) hx hb hK hP hD hS 20 rfl (vp_in_iff.mpr ⟨by omega, by omega⟩) (va_up (va_up (va_up (va_up r 29 ((upd (r 29) d.toNatClampNeg what))) 30 ((upd (r 30) d.toNatClampNeg v110))) 31 ((upd (r 31) d.toNatClampNeg r149))) 32 (upd (r 32) d.toNatClampNeg k0)) (ms_32 cy mo a _ _ _ _ _) dX10_keep_173 (fun H locs hP hS => ?_)
                  refine lv_iconst (v := 0) hx hb dX10_keep_174 (by decide) ?_
                  refine lv_istore (lv' := [(7, .int (0 : Int32)), (6, .int (1 : Int32)), (0, .ref mo), (1, .int d), (2, .int what), (3, .int k0), (4, .long p0)]) hx hb dX10_keep_175 hl (by decide) rfl (fun ls hl => ?_)
                  have loop_177 : ∀ (n : Nat) (i : Nat) (s3 : Nat → Int64), (i ≤ 60 ∧ (i : Int) ≤ nv9.toInt) → (s3 = setQ (q 33) (60 * d.toNatClampNeg) (keG what p0 (r 4 k0.toNatClampNeg).toNatClampNeg (fun x9 => r 5 (44 * k0.toNatClampNeg + x9))) i) → 60 - i < n → ∀ (H : Heap) (locs : List Loc), va_P D vwCl (WM cy mo a (upd f 0 (0 : Int32)) g (va_up (va_up (va_up (va_up r 29 ((upd (r 29) d.toNatClampNeg what))) 30 ((upd (r 30) d.toNatClampNeg v110))) 31 ((upd (r 31) d.toNatClampNeg r149))) 32 ((upd (r 32) d.toNatClampNeg k0))) (va_up q 33 s3)) H → va_S (AM mo a) s.heap H locs → ∀ (ls : Array Slot), lv_has ls 8 [(7, .int (nI i)), (6, .int (1 : Int32)), (0, .ref mo), (1, .int d), (2, .int what), (3, .int k0), (4, .long p0)] → W p l e (headSpec wsX10_keep ({ frames := 3, cells := 0, slots := 0, locals := 69 })).room s m #[Value.ref mo, Value.int d, Value.int what, Value.int k0, Value.long p0] below meth c H locs 0 0 (MQ below (va_Qi (fun r0 u => ∃ (sh : Nat → Int32), ∃ (sz : Nat → Int32), ∃ (sw : Nat → Int32), ∃ (sf : Nat → Int32), ∃ (sr : Nat → Int64), u = ((upd f 0 (0 : Int32)), g, (va_up (va_up (va_up (va_up r 29 sh) 30 sz) 31 sw) 32 sf), (va_up q 33 sr)) ∧ (yesNo (okKeep (f 1) (fun j9 => (r 3 j9).toNatClampNeg) (fun j9 => (r 4 j9).toNatClampNeg) d what k0 p0) 0 (-1) r0 ∧ ((okKeep (f 1) (fun j9 => (r 3 j9).toNatClampNeg) (fun j9 => (r 4 j9).toNatClampNeg) d what k0 p0 ∧ ∃ nv, sh = upd (r 29) d.toNatClampNeg what ∧ sz = upd (r 30) d.toNatClampNeg nv ∧ (what.toInt = 3 → nv.toInt = (((r 3 k0.toNatClampNeg).toNatClampNeg * (r 4 k0.toNatClampNeg).toNatClampNeg : Nat) : Int)) ∧ (what.toInt = 4 → nv.toInt = (((r 4 k0.toNatClampNeg).toNatClampNeg + (r 3 k0.toNatClampNeg).toNatClampNeg : Nat) : Int)) ∧ sr = setQ (q 33) (60 * d.toNatClampNeg) (keG what p0 (r 4 k0.toNatClampNeg).toNatClampNeg (fun x9 => r 5 (44 * k0.toNatClampNeg + x9))) nv.toNatClampNeg ∧ nv.toNatClampNeg ≤ 60) ∨ (¬ okKeep (f 1) (fun j9 => (r 3 j9).toNatClampNeg) (fun j9 => (r 4 j9).toNatClampNeg) d what k0 p0 ∧ sh = r 29 ∧ sz = r 30 ∧ sr = q 33)) ∧ MI (upd f 0 (0 : Int32)) (va_up (va_up (va_up (va_up r 29 sh) 30 sz) 31 sw) 32 sf))) (mB D cy mo a) (AM mo a)) #[Value.ref mo, Value.int d, Value.int what, Value.int k0, Value.long p0] s 0 0 (AM mo a)) (F0 m 177 ls []) := by
                    intro n
                    induction n with
                    | zero => intro i s3 j177_0 j177_1 hn; exact absurd hn (Nat.not_lt_zero _)
                    | succ n ih_177 =>
                      intro i s3 j177_0 j177_1 hn_177 H locs hP hS ls hl
                      have ii : (nI i).toInt = (i : Int) := nI_toInt (by omega)
                      refine lv_iload hx hb dX10_keep_177 (lv_at hl 0 rfl) ?_
                      refine lv_aload_n hx hb dX10_keep_179 rfl (lv_at hl 2 rfl) ?_
                      refine m_get (v := .ref (a 30)) hx hb hts hin hown hK hP 30 (by decide) rfl (hts (.fieldLink RX10 64 "ShadowBenchModel" "shelfSize" "[I") (by decide +kernel)) rfl dX10_keep_180 ?_
                      refine lv_iload_n hx hb dX10_keep_183 rfl (lv_at hl 3 rfl) ?_
                      refine m_iald (w := ((upd (r 30) d.toNatClampNeg v110))) hx hb hK hP 18 rfl (vp_in_iff.mpr ⟨by omega, by omega⟩) dX10_keep_184 ?_
                      refine lv_topi (fun v184 e184 => ?_)
                      have i184 : v184.toInt = (((upd (r 30) d.toNatClampNeg v110)) d.toNatClampNeg).toInt := congrArg Int32.toInt e184
                      have z184 := e184
                      simp only [upd, if_true] at z184
                      have y184 := congrArg Int32.toInt z184
                      have y184 : v184 = nv9 := by rw [e184, hnv9]; simp only [upd, if_true]
                      have i184 := congrArg Int32.toInt y184
                      refine lv_icmp_ge (tgt := 272) hx hb dX10_keep_185 (by decide) (fun c185 => ?_) (fun c185 => ?_)
                      · skip
                        have d185 := c185
                        rw [fa_le] at d185
                        refine lv_iconst (v := 0) hx hb dX10_keep_272 (by decide) ?_
                        have hP := wm_eq rfl rfl (ec_r_29_30_31_32__29_30_31_32 r ((upd (r 29) d.toNatClampNeg what)) ((upd (r 30) d.toNatClampNeg v110)) ((upd (r 31) d.toNatClampNeg r149)) ((upd (r 32) d.toNatClampNeg k0))) rfl hP
                        exact W.iret (v := (0 : Int32)) hx hb hr (fun t ht hW => ⟨⟨_, ((upd f 0 (0 : Int32)), g, (va_up (va_up (va_up (va_up r 29 (((upd (r 29) d.toNatClampNeg what)))) 30 (((upd (r 30) d.toNatClampNeg v110)))) 31 (((upd (r 31) d.toNatClampNeg r149)))) 32 (((upd (r 32) d.toNatClampNeg k0)))), (va_up q 33 s3)), rfl, ⟨((upd (r 29) d.toNatClampNeg what)), ((upd (r 30) d.toNatClampNeg v110)), ((upd (r 31) d.toNatClampNeg r149)), ((upd (r 32) d.toNatClampNeg k0)), s3, rfl, ⟨(Or.inl ⟨⟨b9, (by unfold okJob; first | exact Or.inl (by omega) | exact Or.inr (Or.inl ⟨by omega, b31⟩) | (have z9 := goodP_of b64; subst e52; subst e58; exact Or.inr (Or.inr ⟨by omega, b44, z9.2⟩)))⟩, rfl⟩), (Or.inl ⟨⟨b9, (by unfold okJob; first | exact Or.inl (by omega) | exact Or.inr (Or.inl ⟨by omega, b31⟩) | (have z9 := goodP_of b64; subst e52; subst e58; exact Or.inr (Or.inr ⟨by omega, b44, z9.2⟩)))⟩, _, rfl, rfl, (fun z9 => by first | (exfalso; omega) | exact y110), (fun z9 => by first | (exfalso; omega) | exact y131), (by have c9 := m_cl (x := nv9) (by omega); rw [j177_1, ← hnv9, show i = nv9.toNatClampNeg by omega]), (by have c9 := m_cl (x := nv9) (by omega); rw [hnv9] at c9; omega)⟩), by first | exact hI | exact mi_sz (d := d) hI (v := v110) (by omega) rfl rfl rfl rfl rfl rfl rfl rfl | exact mi_sz (d := d) hI (v := v131) (by omega) rfl rfl rfl rfl rfl rfl rfl rfl | exact mi_sz (d := d) hI (v := 0) (by decide) rfl rfl rfl rfl rfl rfl rfl rfl⟩⟩, by unfold mB; rw [ht]; exact hP⟩, hS.F ht⟩) hS.2.2 dX10_keep_273
                      · skip
                        have d185 := c185
                        rw [fa_le] at d185
                        refine lv_aload_n hx hb dX10_keep_188 rfl (lv_at hl 2 rfl) ?_
                        refine m_get (v := .ref (a 33)) hx hb hts hin hown hK hP 33 (by decide) rfl (hts (.fieldLink RX10 73 "ShadowBenchModel" "shelfRow" "[J") (by decide +kernel)) rfl dX10_keep_189 ?_
                        refine lv_bipush (v := 60) hx hb dX10_keep_192 (by decide) ?_
                        refine lv_iload_n hx hb dX10_keep_194 rfl (lv_at hl 3 rfl) ?_
                        refine lv_imul hx hb dX10_keep_195 ?_
                        refine lv_topi (fun v195 e195 => ?_)
                        have i195 : v195.toInt = 60 * d.toInt := by rw [e195]; exact mulcL rfl (by omega) (by omega)
                        refine lv_iload hx hb dX10_keep_196 (lv_at hl 0 rfl) ?_
                        refine lv_iadd hx hb dX10_keep_198 ?_
                        refine lv_topi (fun v198 e198 => ?_)
                        have i198 : v198.toInt = v195.toInt + (nI i).toInt := by rw [e198]; exact fb_addI (by omega) (by omega)
                        have cd9 := m_cl (x := d) (by omega)
                        have cv9 := m_cl (x := v198) (by omega)
                        have f198 : v198.toNatClampNeg = 60 * d.toNatClampNeg + i := by omega
                        refine lv_iload_n hx hb dX10_keep_199 rfl (lv_at hl 4 rfl) ?_
                        refine lv_iconst (v := 3) hx hb dX10_keep_200 (by decide) ?_
                        refine lv_icmp_ne (tgt := 215) hx hb dX10_keep_201 (by decide) (fun c201 => ?_) (fun c201 => ?_)
                        · first | exact absurd c201 c95 | exact absurd c95 c201
                        · skip
                          have d201 := c201
                          rw [fa_eq] at d201
                          refine lv_lload hx hb dX10_keep_204 (lv_at hl 6 rfl) ?_
                          refine lv_iload hx hb dX10_keep_206 (lv_at hl 0 rfl) ?_
                          refine m_pu (As := [.long p0, .int (nI i)]) (rest := [.int v198, .ref (a 33)]) ⟨hx, hb, hml, hown, hts⟩ (c_X10_one l p0 (nI i) ) (va_cwS 2 hts gX10_keep_X10_one rfl rfl rfl (by decide +kernel) ⟨Nat.le_of_ble_eq_true rfl, Nat.le_of_ble_eq_true rfl⟩) hP rfl hl.1 rfl (Nat.le_of_ble_eq_true rfl) dX10_keep_208 ⟨Nat.le_of_ble_eq_true rfl, Nat.le_of_ble_eq_true rfl⟩ hS (fun r208 H locs q208 hP hS => ?_)
                          have i208 : r208.toInt = (r_one p0 (nI i)).toInt := congrArg Int32.toInt q208
                          refine lv_i2l (v := r208.toInt64) hx hb dX10_keep_211 rfl ?_
                          refine lv_goto (tgt := 265) hx hb dX10_keep_212 (by decide) ?_
                          refine m_last (w := s3) hx hb hK hP hD hS 21 rfl (vp_in_iff.mpr ⟨by omega, by omega⟩) (va_up (va_up q 33 s3) 33 (vp_updL s3 v198.toNatClampNeg r208.toInt64)) (ms_33 cy mo a _ _ _ _ _) dX10_keep_265 (fun H locs hP hS => ?_)
                          have hP := wm_eq rfl rfl rfl (es_q_33__33 q s3 (vp_updL s3 v198.toNatClampNeg r208.toInt64)) hP
                          refine lv_iinc (v := (nI (i + 1))) (lv' := [(7, .int (nI (i + 1))), (6, .int (1 : Int32)), (0, .ref mo), (1, .int d), (2, .int what), (3, .int k0), (4, .long p0)]) hx hb dX10_keep_266 hl (k := 0) rfl (nI_1 _) (by decide) rfl (fun ls hl => ?_)
                          refine lv_goto (tgt := 177) hx hb dX10_keep_269 (by decide) ?_
                          have hP := wm_eq rfl rfl (ec_r_29_30_31_32__29_30_31_32 r ((upd (r 29) d.toNatClampNeg what)) ((upd (r 30) d.toNatClampNeg v110)) ((upd (r 31) d.toNatClampNeg r149)) ((upd (r 32) d.toNatClampNeg k0))) rfl hP
                          exact ih_177 (i + 1) (vp_updL s3 v198.toNatClampNeg r208.toInt64) (by omega) (by rw [j177_1, f198]; exact setQ_v (by first | (rw [keG_3 (by omega)]; exact one_bI (by omega) q208) | (rw [keG_4 (by omega) (by omega), e237, f236]; done) | (rw [keG_5 (by omega) (by omega), e263, f262]; done) | (exfalso; omega))) (by omega) _ _ hP hS ls (lv_sub hl [0, 1, 2, 3, 4, 5, 6] rfl)
                  have hP := wm_eq rfl rfl (ec_r_29_30_31_32__29_30_31_32 r ((upd (r 29) d.toNatClampNeg what)) ((upd (r 30) d.toNatClampNeg v110)) ((upd (r 31) d.toNatClampNeg r149)) ((upd (r 32) d.toNatClampNeg k0))) (ec_q___33 q ) hP
                  exact loop_177 (60 + 1) 0 (q 33) (by omega) ((setQ_0 _ _ _).symm) (by omega) _ _ hP hS ls (lv_sub hl [0, 1, 2, 3, 4, 5, 6] rfl)
                · skip
                  have d164 := c164
                  rw [fa_eq] at d164
                  refine lv_bipush (v := (-15)) hx hb dX10_keep_167 (by decide) ?_
                  refine lv_goto (tgt := 173) hx hb dX10_keep_169 (by decide) ?_
                  refine m_iast (w := (r 32)) hx hb hK hP hD hS 20 rfl (vp_in_iff.mpr ⟨by omega, by omega⟩) (va_up (va_up (va_up (va_up r 29 ((upd (r 29) d.toNatClampNeg what))) 30 ((upd (r 30) d.toNatClampNeg v110))) 31 ((upd (r 31) d.toNatClampNeg r149))) 32 (upd (r 32) d.toNatClampNeg (((-15) : Int32)))) (ms_32 cy mo a _ _ _ _ _) dX10_keep_173 (fun H locs hP hS => ?_)
                  refine lv_iconst (v := 0) hx hb dX10_keep_174 (by decide) ?_
                  refine lv_istore (lv' := [(7, .int (0 : Int32)), (6, .int (1 : Int32)), (0, .ref mo), (1, .int d), (2, .int what), (3, .int k0), (4, .long p0)]) hx hb dX10_keep_175 hl (by decide) rfl (fun ls hl => ?_)
                  have loop_177 : ∀ (n : Nat) (i : Nat) (s3 : Nat → Int64), (i ≤ 60 ∧ (i : Int) ≤ nv9.toInt) → (s3 = setQ (q 33) (60 * d.toNatClampNeg) (keG what p0 (r 4 k0.toNatClampNeg).toNatClampNeg (fun x9 => r 5 (44 * k0.toNatClampNeg + x9))) i) → 60 - i < n → ∀ (H : Heap) (locs : List Loc), va_P D vwCl (WM cy mo a (upd f 0 (0 : Int32)) g (va_up (va_up (va_up (va_up r 29 ((upd (r 29) d.toNatClampNeg what))) 30 ((upd (r 30) d.toNatClampNeg v110))) 31 ((upd (r 31) d.toNatClampNeg r149))) 32 ((upd (r 32) d.toNatClampNeg (((-15) : Int32))))) (va_up q 33 s3)) H → va_S (AM mo a) s.heap H locs → ∀ (ls : Array Slot), lv_has ls 8 [(7, .int (nI i)), (6, .int (1 : Int32)), (0, .ref mo), (1, .int d), (2, .int what), (3, .int k0), (4, .long p0)] → W p l e (headSpec wsX10_keep ({ frames := 3, cells := 0, slots := 0, locals := 69 })).room s m #[Value.ref mo, Value.int d, Value.int what, Value.int k0, Value.long p0] below meth c H locs 0 0 (MQ below (va_Qi (fun r0 u => ∃ (sh : Nat → Int32), ∃ (sz : Nat → Int32), ∃ (sw : Nat → Int32), ∃ (sf : Nat → Int32), ∃ (sr : Nat → Int64), u = ((upd f 0 (0 : Int32)), g, (va_up (va_up (va_up (va_up r 29 sh) 30 sz) 31 sw) 32 sf), (va_up q 33 sr)) ∧ (yesNo (okKeep (f 1) (fun j9 => (r 3 j9).toNatClampNeg) (fun j9 => (r 4 j9).toNatClampNeg) d what k0 p0) 0 (-1) r0 ∧ ((okKeep (f 1) (fun j9 => (r 3 j9).toNatClampNeg) (fun j9 => (r 4 j9).toNatClampNeg) d what k0 p0 ∧ ∃ nv, sh = upd (r 29) d.toNatClampNeg what ∧ sz = upd (r 30) d.toNatClampNeg nv ∧ (what.toInt = 3 → nv.toInt = (((r 3 k0.toNatClampNeg).toNatClampNeg * (r 4 k0.toNatClampNeg).toNatClampNeg : Nat) : Int)) ∧ (what.toInt = 4 → nv.toInt = (((r 4 k0.toNatClampNeg).toNatClampNeg + (r 3 k0.toNatClampNeg).toNatClampNeg : Nat) : Int)) ∧ sr = setQ (q 33) (60 * d.toNatClampNeg) (keG what p0 (r 4 k0.toNatClampNeg).toNatClampNeg (fun x9 => r 5 (44 * k0.toNatClampNeg + x9))) nv.toNatClampNeg ∧ nv.toNatClampNeg ≤ 60) ∨ (¬ okKeep (f 1) (fun j9 => (r 3 j9).toNatClampNeg) (fun j9 => (r 4 j9).toNatClampNeg) d what k0 p0 ∧ sh = r 29 ∧ sz = r 30 ∧ sr = q 33)) ∧ MI (upd f 0 (0 : Int32)) (va_up (va_up (va_up (va_up r 29 sh) 30 sz) 31 sw) 32 sf))) (mB D cy mo a) (AM mo a)) #[Value.ref mo, Value.int d, Value.int what, Value.int k0, Value.long p0] s 0 0 (AM mo a)) (F0 m 177 ls []) := by
                    intro n
                    induction n with
                    | zero => intro i s3 j177_0 j177_1 hn; exact absurd hn (Nat.not_lt_zero _)
                    | succ n ih_177 =>
                      intro i s3 j177_0 j177_1 hn_177 H locs hP hS ls hl
                      have ii : (nI i).toInt = (i : Int) := nI_toInt (by omega)
                      refine lv_iload hx hb dX10_keep_177 (lv_at hl 0 rfl) ?_
                      refine lv_aload_n hx hb dX10_keep_179 rfl (lv_at hl 2 rfl) ?_
                      refine m_get (v := .ref (a 30)) hx hb hts hin hown hK hP 30 (by decide) rfl (hts (.fieldLink RX10 64 "ShadowBenchModel" "shelfSize" "[I") (by decide +kernel)) rfl dX10_keep_180 ?_
                      refine lv_iload_n hx hb dX10_keep_183 rfl (lv_at hl 3 rfl) ?_
                      refine m_iald (w := ((upd (r 30) d.toNatClampNeg v110))) hx hb hK hP 18 rfl (vp_in_iff.mpr ⟨by omega, by omega⟩) dX10_keep_184 ?_
                      refine lv_topi (fun v184 e184 => ?_)
                      have i184 : v184.toInt = (((upd (r 30) d.toNatClampNeg v110)) d.toNatClampNeg).toInt := congrArg Int32.toInt e184
                      have z184 := e184
                      simp only [upd, if_true] at z184
                      have y184 := congrArg Int32.toInt z184
                      have y184 : v184 = nv9 := by rw [e184, hnv9]; simp only [upd, if_true]
                      have i184 := congrArg Int32.toInt y184
                      refine lv_icmp_ge (tgt := 272) hx hb dX10_keep_185 (by decide) (fun c185 => ?_) (fun c185 => ?_)
                      · skip
                        have d185 := c185
                        rw [fa_le] at d185
                        refine lv_iconst (v := 0) hx hb dX10_keep_272 (by decide) ?_
                        have hP := wm_eq rfl rfl (ec_r_29_30_31_32__29_30_31_32 r ((upd (r 29) d.toNatClampNeg what)) ((upd (r 30) d.toNatClampNeg v110)) ((upd (r 31) d.toNatClampNeg r149)) ((upd (r 32) d.toNatClampNeg (((-15) : Int32))))) rfl hP
                        exact W.iret (v := (0 : Int32)) hx hb hr (fun t ht hW => ⟨⟨_, ((upd f 0 (0 : Int32)), g, (va_up (va_up (va_up (va_up r 29 (((upd (r 29) d.toNatClampNeg what)))) 30 (((upd (r 30) d.toNatClampNeg v110)))) 31 (((upd (r 31) d.toNatClampNeg r149)))) 32 (((upd (r 32) d.toNatClampNeg (((-15) : Int32)))))), (va_up q 33 s3)), rfl, ⟨((upd (r 29) d.toNatClampNeg what)), ((upd (r 30) d.toNatClampNeg v110)), ((upd (r 31) d.toNatClampNeg r149)), ((upd (r 32) d.toNatClampNeg (((-15) : Int32)))), s3, rfl, ⟨(Or.inl ⟨⟨b9, (by unfold okJob; first | exact Or.inl (by omega) | exact Or.inr (Or.inl ⟨by omega, b31⟩) | (have z9 := goodP_of b64; subst e52; subst e58; exact Or.inr (Or.inr ⟨by omega, b44, z9.2⟩)))⟩, rfl⟩), (Or.inl ⟨⟨b9, (by unfold okJob; first | exact Or.inl (by omega) | exact Or.inr (Or.inl ⟨by omega, b31⟩) | (have z9 := goodP_of b64; subst e52; subst e58; exact Or.inr (Or.inr ⟨by omega, b44, z9.2⟩)))⟩, _, rfl, rfl, (fun z9 => by first | (exfalso; omega) | exact y110), (fun z9 => by first | (exfalso; omega) | exact y131), (by have c9 := m_cl (x := nv9) (by omega); rw [j177_1, ← hnv9, show i = nv9.toNatClampNeg by omega]), (by have c9 := m_cl (x := nv9) (by omega); rw [hnv9] at c9; omega)⟩), by first | exact hI | exact mi_sz (d := d) hI (v := v110) (by omega) rfl rfl rfl rfl rfl rfl rfl rfl | exact mi_sz (d := d) hI (v := v131) (by omega) rfl rfl rfl rfl rfl rfl rfl rfl | exact mi_sz (d := d) hI (v := 0) (by decide) rfl rfl rfl rfl rfl rfl rfl rfl⟩⟩, by unfold mB; rw [ht]; exact hP⟩, hS.F ht⟩) hS.2.2 dX10_keep_273
                      · skip
                        have d185 := c185
                        rw [fa_le] at d185
                        refine lv_aload_n hx hb dX10_keep_188 rfl (lv_at hl 2 rfl) ?_
                        refine m_get (v := .ref (a 33)) hx hb hts hin hown hK hP 33 (by decide) rfl (hts (.fieldLink RX10 73 "ShadowBenchModel" "shelfRow" "[J") (by decide +kernel)) rfl dX10_keep_189 ?_
                        refine lv_bipush (v := 60) hx hb dX10_keep_192 (by decide) ?_
                        refine lv_iload_n hx hb dX10_keep_194 rfl (lv_at hl 3 rfl) ?_
                        refine lv_imul hx hb dX10_keep_195 ?_
                        refine lv_topi (fun v195 e195 => ?_)
                        have i195 : v195.toInt = 60 * d.toInt := by rw [e195]; exact mulcL rfl (by omega) (by omega)
                        refine lv_iload hx hb dX10_keep_196 (lv_at hl 0 rfl) ?_
                        refine lv_iadd hx hb dX10_keep_198 ?_
                        refine lv_topi (fun v198 e198 => ?_)
                        have i198 : v198.toInt = v195.toInt + (nI i).toInt := by rw [e198]; exact fb_addI (by omega) (by omega)
                        have cd9 := m_cl (x := d) (by omega)
                        have cv9 := m_cl (x := v198) (by omega)
                        have f198 : v198.toNatClampNeg = 60 * d.toNatClampNeg + i := by omega
                        refine lv_iload_n hx hb dX10_keep_199 rfl (lv_at hl 4 rfl) ?_
                        refine lv_iconst (v := 3) hx hb dX10_keep_200 (by decide) ?_
                        refine lv_icmp_ne (tgt := 215) hx hb dX10_keep_201 (by decide) (fun c201 => ?_) (fun c201 => ?_)
                        · first | exact absurd c201 c95 | exact absurd c95 c201
                        · skip
                          have d201 := c201
                          rw [fa_eq] at d201
                          refine lv_lload hx hb dX10_keep_204 (lv_at hl 6 rfl) ?_
                          refine lv_iload hx hb dX10_keep_206 (lv_at hl 0 rfl) ?_
                          refine m_pu (As := [.long p0, .int (nI i)]) (rest := [.int v198, .ref (a 33)]) ⟨hx, hb, hml, hown, hts⟩ (c_X10_one l p0 (nI i) ) (va_cwS 2 hts gX10_keep_X10_one rfl rfl rfl (by decide +kernel) ⟨Nat.le_of_ble_eq_true rfl, Nat.le_of_ble_eq_true rfl⟩) hP rfl hl.1 rfl (Nat.le_of_ble_eq_true rfl) dX10_keep_208 ⟨Nat.le_of_ble_eq_true rfl, Nat.le_of_ble_eq_true rfl⟩ hS (fun r208 H locs q208 hP hS => ?_)
                          have i208 : r208.toInt = (r_one p0 (nI i)).toInt := congrArg Int32.toInt q208
                          refine lv_i2l (v := r208.toInt64) hx hb dX10_keep_211 rfl ?_
                          refine lv_goto (tgt := 265) hx hb dX10_keep_212 (by decide) ?_
                          refine m_last (w := s3) hx hb hK hP hD hS 21 rfl (vp_in_iff.mpr ⟨by omega, by omega⟩) (va_up (va_up q 33 s3) 33 (vp_updL s3 v198.toNatClampNeg r208.toInt64)) (ms_33 cy mo a _ _ _ _ _) dX10_keep_265 (fun H locs hP hS => ?_)
                          have hP := wm_eq rfl rfl rfl (es_q_33__33 q s3 (vp_updL s3 v198.toNatClampNeg r208.toInt64)) hP
                          refine lv_iinc (v := (nI (i + 1))) (lv' := [(7, .int (nI (i + 1))), (6, .int (1 : Int32)), (0, .ref mo), (1, .int d), (2, .int what), (3, .int k0), (4, .long p0)]) hx hb dX10_keep_266 hl (k := 0) rfl (nI_1 _) (by decide) rfl (fun ls hl => ?_)
                          refine lv_goto (tgt := 177) hx hb dX10_keep_269 (by decide) ?_
                          have hP := wm_eq rfl rfl (ec_r_29_30_31_32__29_30_31_32 r ((upd (r 29) d.toNatClampNeg what)) ((upd (r 30) d.toNatClampNeg v110)) ((upd (r 31) d.toNatClampNeg r149)) ((upd (r 32) d.toNatClampNeg (((-15) : Int32))))) rfl hP
                          exact ih_177 (i + 1) (vp_updL s3 v198.toNatClampNeg r208.toInt64) (by omega) (by rw [j177_1, f198]; exact setQ_v (by first | (rw [keG_3 (by omega)]; exact one_bI (by omega) q208) | (rw [keG_4 (by omega) (by omega), e237, f236]; done) | (rw [keG_5 (by omega) (by omega), e263, f262]; done) | (exfalso; omega))) (by omega) _ _ hP hS ls (lv_sub hl [0, 1, 2, 3, 4, 5, 6] rfl)
                  have hP := wm_eq rfl rfl (ec_r_29_30_31_32__29_30_31_32 r ((upd (r 29) d.toNatClampNeg what)) ((upd (r 30) d.toNatClampNeg v110)) ((upd (r 31) d.toNatClampNeg r149)) ((upd (r 32) d.toNatClampNeg (((-15) : Int32))))) (ec_q___33 q ) hP
                  exact loop_177 (60 + 1) 0 (q 33) (by omega) ((setQ_0 _ _ _).symm) (by omega) _ _ hP hS ls (lv_sub hl [0, 1, 2, 3, 4, 5, 6] rfl)
          · first | exact absurd c76 (by decide) | exact absurd (by decide) c76
        · skip
          have b31 := bo_f q28 c31
          refine lv_iload_n hx hb dX10_keep_34 rfl (lv_at hl 2 rfl) ?_
          refine lv_iconst (v := 3) hx hb dX10_keep_35 (by decide) ?_
          refine lv_icmp_ne (tgt := 71) hx hb dX10_keep_36 (by decide) (fun c36 => ?_) (fun c36 => ?_)
          · skip
            have d36 := c36
            rw [fa_eq] at d36
            refine lv_iconst (v := 0) hx hb dX10_keep_71 (by decide) ?_
            refine lv_istore (lv' := [(6, .int (0 : Int32)), (0, .ref mo), (1, .int d), (2, .int what), (3, .int k0), (4, .long p0)]) hx hb dX10_keep_72 hl (by decide) rfl (fun ls hl => ?_)
            refine lv_iload hx hb dX10_keep_74 (lv_at hl 0 rfl) ?_
            refine lv_if_ne (tgt := 81) hx hb dX10_keep_76 (by decide) (fun c76 => ?_) (fun c76 => ?_)
            · first | exact absurd c76 (by decide) | exact absurd (by decide) c76
            · skip
              have d76 := c76
              rw [fa_eq] at d76
              refine lv_iconst (v := (-1)) hx hb dX10_keep_79 (by decide) ?_
              have hP := wm_eq rfl rfl (ec_r___29_30_31_32 r ) (ec_q___33 q ) hP
              exact W.iret (v := ((-1) : Int32)) hx hb hr (fun t ht hW => ⟨⟨_, ((upd f 0 (0 : Int32)), g, (va_up (va_up (va_up (va_up r 29 (r 29)) 30 (r 30)) 31 (r 31)) 32 (r 32)), (va_up q 33 (q 33))), rfl, ⟨(r 29), (r 30), (r 31), (r 32), (q 33), rfl, ⟨(Or.inr ⟨(fun z9 => by unfold okKeep okJob at z9; rcases z9.2 with z8 | ⟨z8, z7⟩ | ⟨z8, z7, z6⟩; (first | exact b9 z9.1 | omega); (first | exact b9 z9.1 | exact b31 z7 | omega); (first | exact b9 z9.1 | exact b44 z7 | (have szw := mi_w hI (x := k0) (by omega) (by omega) rfl; have szh := mi_h hI (x := k0) (by omega) (by omega) rfl; subst e52; subst e58; exact goodP_no b64 ⟨⟨szw, szh⟩, z6⟩) | omega)), rfl⟩), (Or.inr ⟨(fun z9 => by unfold okKeep okJob at z9; rcases z9.2 with z8 | ⟨z8, z7⟩ | ⟨z8, z7, z6⟩; (first | exact b9 z9.1 | omega); (first | exact b9 z9.1 | exact b31 z7 | omega); (first | exact b9 z9.1 | exact b44 z7 | (have szw := mi_w hI (x := k0) (by omega) (by omega) rfl; have szh := mi_h hI (x := k0) (by omega) (by omega) rfl; subst e52; subst e58; exact goodP_no b64 ⟨⟨szw, szh⟩, z6⟩) | omega)), rfl, rfl, rfl⟩), by first | exact hI | exact mi_sz (d := d) hI (v := v110) (by omega) rfl rfl rfl rfl rfl rfl rfl rfl | exact mi_sz (d := d) hI (v := v131) (by omega) rfl rfl rfl rfl rfl rfl rfl rfl | exact mi_sz (d := d) hI (v := 0) (by decide) rfl rfl rfl rfl rfl rfl rfl rfl⟩⟩, by unfold mB; rw [ht]; exact hP⟩, hS.F ht⟩) hS.2.2 dX10_keep_80
          · skip
            have d36 := c36
            rw [fa_eq] at d36
            refine lv_aload_n hx hb dX10_keep_39 rfl (lv_at hl 0 rfl) ?_
            refine lv_iload_n hx hb dX10_keep_40 rfl (lv_at hl 3 rfl) ?_
            refine m_calli (As := [.int k0]) (rest := []) ⟨hx, hb, hml, hown, hts⟩ (c_X10_isJob l D cy mo a (upd f 0 (0 : Int32)) g r q k0 hD) (cwV 1 hts gX10_keep_X10_isJob rfl rfl rfl (by decide +kernel) ⟨Nat.le_of_ble_eq_true rfl, Nat.le_of_ble_eq_true rfl⟩) hK hP rfl hl.1 rfl (Nat.le_of_ble_eq_true rfl) dX10_keep_41 ⟨Nat.le_of_ble_eq_true rfl, Nat.le_of_ble_eq_true rfl⟩ hS (fun r41 u H locs q41 hP hS => ?_)
            obtain ⟨rfl, q41⟩ := q41
            have hP : va_P D vwCl (WM cy mo a (upd f 0 (0 : Int32)) g r q) H := hP
            have q41 : Bo r41 (0 ≤ k0.toInt ∧ k0.toInt < ((f 1)).toInt) := q41
            refine lv_if_eq (tgt := 71) hx hb dX10_keep_44 (by decide) (fun c44 => ?_) (fun c44 => ?_)
            · skip
              have b44 := bo_f q41 c44
              refine lv_iconst (v := 0) hx hb dX10_keep_71 (by decide) ?_
              refine lv_istore (lv' := [(6, .int (0 : Int32)), (0, .ref mo), (1, .int d), (2, .int what), (3, .int k0), (4, .long p0)]) hx hb dX10_keep_72 hl (by decide) rfl (fun ls hl => ?_)
              refine lv_iload hx hb dX10_keep_74 (lv_at hl 0 rfl) ?_
              refine lv_if_ne (tgt := 81) hx hb dX10_keep_76 (by decide) (fun c76 => ?_) (fun c76 => ?_)
              · first | exact absurd c76 (by decide) | exact absurd (by decide) c76
              · skip
                have d76 := c76
                rw [fa_eq] at d76
                refine lv_iconst (v := (-1)) hx hb dX10_keep_79 (by decide) ?_
                have hP := wm_eq rfl rfl (ec_r___29_30_31_32 r ) (ec_q___33 q ) hP
                exact W.iret (v := ((-1) : Int32)) hx hb hr (fun t ht hW => ⟨⟨_, ((upd f 0 (0 : Int32)), g, (va_up (va_up (va_up (va_up r 29 (r 29)) 30 (r 30)) 31 (r 31)) 32 (r 32)), (va_up q 33 (q 33))), rfl, ⟨(r 29), (r 30), (r 31), (r 32), (q 33), rfl, ⟨(Or.inr ⟨(fun z9 => by unfold okKeep okJob at z9; rcases z9.2 with z8 | ⟨z8, z7⟩ | ⟨z8, z7, z6⟩; (first | exact b9 z9.1 | omega); (first | exact b9 z9.1 | exact b31 z7 | omega); (first | exact b9 z9.1 | exact b44 z7 | (have szw := mi_w hI (x := k0) (by omega) (by omega) rfl; have szh := mi_h hI (x := k0) (by omega) (by omega) rfl; subst e52; subst e58; exact goodP_no b64 ⟨⟨szw, szh⟩, z6⟩) | omega)), rfl⟩), (Or.inr ⟨(fun z9 => by unfold okKeep okJob at z9; rcases z9.2 with z8 | ⟨z8, z7⟩ | ⟨z8, z7, z6⟩; (first | exact b9 z9.1 | omega); (first | exact b9 z9.1 | exact b31 z7 | omega); (first | exact b9 z9.1 | exact b44 z7 | (have szw := mi_w hI (x := k0) (by omega) (by omega) rfl; have szh := mi_h hI (x := k0) (by omega) (by omega) rfl; subst e52; subst e58; exact goodP_no b64 ⟨⟨szw, szh⟩, z6⟩) | omega)), rfl, rfl, rfl⟩), by first | exact hI | exact mi_sz (d := d) hI (v := v110) (by omega) rfl rfl rfl rfl rfl rfl rfl rfl | exact mi_sz (d := d) hI (v := v131) (by omega) rfl rfl rfl rfl rfl rfl rfl rfl | exact mi_sz (d := d) hI (v := 0) (by decide) rfl rfl rfl rfl rfl rfl rfl rfl⟩⟩, by unfold mB; rw [ht]; exact hP⟩, hS.F ht⟩) hS.2.2 dX10_keep_80
            · skip
              have b44 := bo_t q41 c44
              refine lv_aload_n hx hb dX10_keep_47 rfl (lv_at hl 0 rfl) ?_
              refine m_get (v := .ref (a 3)) hx hb hts hin hown hK hP 3 (by decide) rfl (hts (.fieldLink RX10 13 "ShadowBenchModel" "wide" "[I") (by decide +kernel)) rfl dX10_keep_48 ?_
              refine lv_iload_n hx hb dX10_keep_51 rfl (lv_at hl 3 rfl) ?_
              refine m_iald (w := (r 3)) hx hb hK hP 2 rfl (vp_in_iff.mpr ⟨by omega, by omega⟩) dX10_keep_52 ?_
              refine lv_topi (fun v52 e52 => ?_)
              have i52 : v52.toInt = ((r 3) k0.toNatClampNeg).toInt := congrArg Int32.toInt e52
              have w52 := mi_w hI (x := k0) (by omega) (by omega) e52
              refine lv_aload_n hx hb dX10_keep_53 rfl (lv_at hl 0 rfl) ?_
              refine m_get (v := .ref (a 4)) hx hb hts hin hown hK hP 4 (by decide) rfl (hts (.fieldLink RX10 16 "ShadowBenchModel" "high" "[I") (by decide +kernel)) rfl dX10_keep_54 ?_
              refine lv_iload_n hx hb dX10_keep_57 rfl (lv_at hl 3 rfl) ?_
              refine m_iald (w := (r 4)) hx hb hK hP 3 rfl (vp_in_iff.mpr ⟨by omega, by omega⟩) dX10_keep_58 ?_
              refine lv_topi (fun v58 e58 => ?_)
              have i58 : v58.toInt = ((r 4) k0.toNatClampNeg).toInt := congrArg Int32.toInt e58
              have w58 := mi_h hI (x := k0) (by omega) (by omega) e58
              refine lv_lload hx hb dX10_keep_59 (lv_at hl 4 rfl) ?_
              refine m_pu (As := [.int v52, .int v58, .long p0]) (rest := []) ⟨hx, hb, hml, hown, hts⟩ (c_X10_isPicture l v52 v58 p0 ) (va_cwS 3 hts gX10_keep_X10_isPicture rfl rfl rfl (by decide +kernel) ⟨Nat.le_of_ble_eq_true rfl, Nat.le_of_ble_eq_true rfl⟩) hP rfl hl.1 rfl (Nat.le_of_ble_eq_true rfl) dX10_keep_61 ⟨Nat.le_of_ble_eq_true rfl, Nat.le_of_ble_eq_true rfl⟩ hS (fun r61 H locs q61 hP hS => ?_)
              refine lv_if_eq (tgt := 71) hx hb dX10_keep_64 (by decide) (fun c64 => ?_) (fun c64 => ?_)
              · skip
                have b64 := bo_f q61 c64
                refine lv_iconst (v := 0) hx hb dX10_keep_71 (by decide) ?_
                refine lv_istore (lv' := [(6, .int (0 : Int32)), (0, .ref mo), (1, .int d), (2, .int what), (3, .int k0), (4, .long p0)]) hx hb dX10_keep_72 hl (by decide) rfl (fun ls hl => ?_)
                refine lv_iload hx hb dX10_keep_74 (lv_at hl 0 rfl) ?_
                refine lv_if_ne (tgt := 81) hx hb dX10_keep_76 (by decide) (fun c76 => ?_) (fun c76 => ?_)
                · first | exact absurd c76 (by decide) | exact absurd (by decide) c76
                · skip
                  have d76 := c76
                  rw [fa_eq] at d76
                  refine lv_iconst (v := (-1)) hx hb dX10_keep_79 (by decide) ?_
                  have hP := wm_eq rfl rfl (ec_r___29_30_31_32 r ) (ec_q___33 q ) hP
                  exact W.iret (v := ((-1) : Int32)) hx hb hr (fun t ht hW => ⟨⟨_, ((upd f 0 (0 : Int32)), g, (va_up (va_up (va_up (va_up r 29 (r 29)) 30 (r 30)) 31 (r 31)) 32 (r 32)), (va_up q 33 (q 33))), rfl, ⟨(r 29), (r 30), (r 31), (r 32), (q 33), rfl, ⟨(Or.inr ⟨(fun z9 => by unfold okKeep okJob at z9; rcases z9.2 with z8 | ⟨z8, z7⟩ | ⟨z8, z7, z6⟩; (first | exact b9 z9.1 | omega); (first | exact b9 z9.1 | exact b31 z7 | omega); (first | exact b9 z9.1 | exact b44 z7 | (have szw := mi_w hI (x := k0) (by omega) (by omega) rfl; have szh := mi_h hI (x := k0) (by omega) (by omega) rfl; subst e52; subst e58; exact goodP_no b64 ⟨⟨szw, szh⟩, z6⟩) | omega)), rfl⟩), (Or.inr ⟨(fun z9 => by unfold okKeep okJob at z9; rcases z9.2 with z8 | ⟨z8, z7⟩ | ⟨z8, z7, z6⟩; (first | exact b9 z9.1 | omega); (first | exact b9 z9.1 | exact b31 z7 | omega); (first | exact b9 z9.1 | exact b44 z7 | (have szw := mi_w hI (x := k0) (by omega) (by omega) rfl; have szh := mi_h hI (x := k0) (by omega) (by omega) rfl; subst e52; subst e58; exact goodP_no b64 ⟨⟨szw, szh⟩, z6⟩) | omega)), rfl, rfl, rfl⟩), by first | exact hI | exact mi_sz (d := d) hI (v := v110) (by omega) rfl rfl rfl rfl rfl rfl rfl rfl | exact mi_sz (d := d) hI (v := v131) (by omega) rfl rfl rfl rfl rfl rfl rfl rfl | exact mi_sz (d := d) hI (v := 0) (by decide) rfl rfl rfl rfl rfl rfl rfl rfl⟩⟩, by unfold mB; rw [ht]; exact hP⟩, hS.F ht⟩) hS.2.2 dX10_keep_80
              · skip
                have b64 := bo_t q61 c64
                refine lv_iconst (v := 1) hx hb dX10_keep_67 (by decide) ?_
                refine lv_goto (tgt := 72) hx hb dX10_keep_68 (by decide) ?_
                refine lv_istore (lv' := [(6, .int (1 : Int32)), (0, .ref mo), (1, .int d), (2, .int what), (3, .int k0), (4, .long p0)]) hx hb dX10_keep_72 hl (by decide) rfl (fun ls hl => ?_)
                refine lv_iload hx hb dX10_keep_74 (lv_at hl 0 rfl) ?_
                refine lv_if_ne (tgt := 81) hx hb dX10_keep_76 (by decide) (fun c76 => ?_) (fun c76 => ?_)
                · skip
                  have d76 := c76
                  rw [fa_eq] at d76
                  refine lv_aload_n hx hb dX10_keep_81 rfl (lv_at hl 1 rfl) ?_
                  refine m_get (v := .ref (a 29)) hx hb hts hin hown hK hP 29 (by decide) rfl (hts (.fieldLink RX10 61 "ShadowBenchModel" "shelf" "[I") (by decide +kernel)) rfl dX10_keep_82 ?_
                  refine lv_iload_n hx hb dX10_keep_85 rfl (lv_at hl 2 rfl) ?_
                  refine lv_iload_n hx hb dX10_keep_86 rfl (lv_at hl 3 rfl) ?_
                  refine m_iast (w := (r 29)) hx hb hK hP hD hS 17 rfl (vp_in_iff.mpr ⟨by omega, by omega⟩) (va_up r 29 (upd (r 29) d.toNatClampNeg what)) (ms_29 cy mo a _ _ _ _ _) dX10_keep_87 (fun H locs hP hS => ?_)
                  refine lv_aload_n hx hb dX10_keep_88 rfl (lv_at hl 1 rfl) ?_
                  refine m_get (v := .ref (a 30)) hx hb hts hin hown hK hP 30 (by decide) rfl (hts (.fieldLink RX10 64 "ShadowBenchModel" "shelfSize" "[I") (by decide +kernel)) rfl dX10_keep_89 ?_
                  refine lv_iload_n hx hb dX10_keep_92 rfl (lv_at hl 2 rfl) ?_
                  refine lv_iload_n hx hb dX10_keep_93 rfl (lv_at hl 3 rfl) ?_
                  refine lv_iconst (v := 3) hx hb dX10_keep_94 (by decide) ?_
                  refine lv_icmp_ne (tgt := 114) hx hb dX10_keep_95 (by decide) (fun c95 => ?_) (fun c95 => ?_)
                  · first | exact absurd c95 c36 | exact absurd c36 c95
                  · skip
                    have d95 := c95
                    rw [fa_eq] at d95
                    refine lv_aload_n hx hb dX10_keep_98 rfl (lv_at hl 1 rfl) ?_
                    refine m_get (v := .ref (a 3)) hx hb hts hin hown hK hP 3 (by decide) rfl (hts (.fieldLink RX10 13 "ShadowBenchModel" "wide" "[I") (by decide +kernel)) rfl dX10_keep_99 ?_
                    refine lv_iload_n hx hb dX10_keep_102 rfl (lv_at hl 4 rfl) ?_
                    refine m_iald (w := (r 3)) hx hb hK hP 2 rfl (vp_in_iff.mpr ⟨by omega, by omega⟩) dX10_keep_103 ?_
                    refine lv_topi (fun v103 e103 => ?_)
                    have i103 : v103.toInt = ((r 3) k0.toNatClampNeg).toInt := congrArg Int32.toInt e103
                    have w103 := mi_w hI (x := k0) (by omega) (by omega) e103
                    refine lv_aload_n hx hb dX10_keep_104 rfl (lv_at hl 1 rfl) ?_
                    refine m_get (v := .ref (a 4)) hx hb hts hin hown hK hP 4 (by decide) rfl (hts (.fieldLink RX10 16 "ShadowBenchModel" "high" "[I") (by decide +kernel)) rfl dX10_keep_105 ?_
                    refine lv_iload_n hx hb dX10_keep_108 rfl (lv_at hl 4 rfl) ?_
                    refine m_iald (w := (r 4)) hx hb hK hP 3 rfl (vp_in_iff.mpr ⟨by omega, by omega⟩) dX10_keep_109 ?_
                    refine lv_topi (fun v109 e109 => ?_)
                    have i109 : v109.toInt = ((r 4) k0.toNatClampNeg).toInt := congrArg Int32.toInt e109
                    have w109 := mi_h hI (x := k0) (by omega) (by omega) e109
                    have m110 := mul66 w103 w109
                    refine lv_imul hx hb dX10_keep_110 ?_
                    refine lv_topi (fun v110 e110 => ?_)
                    have i110 : v110.toInt = v103.toInt * v109.toInt := by rw [e110]; exact fb_mulI (by omega) (by omega)
                    have y110 : v110.toInt = (((r 3 k0.toNatClampNeg).toNatClampNeg * (r 4 k0.toNatClampNeg).toNatClampNeg : Nat) : Int) := by rw [sq_eq hI (j := k0) (by omega) (by omega), i110, e103, e109]
                    obtain ⟨nv9, hnv9⟩ : ∃ z9, z9 = v110 := ⟨_, rfl⟩
                    have n184 := congrArg Int32.toInt hnv9
                    refine lv_goto (tgt := 136) hx hb dX10_keep_111 (by decide) ?_
                    refine m_iast (w := (r 30)) hx hb hK hP hD hS 18 rfl (vp_in_iff.mpr ⟨by omega, by omega⟩) (va_up (va_up r 29 ((upd (r 29) d.toNatClampNeg what))) 30 (upd (r 30) d.toNatClampNeg v110)) (ms_30 cy mo a _ _ _ _ _) dX10_keep_136 (fun H locs hP hS => ?_)
                    refine lv_iload_n hx hb dX10_keep_137 rfl (lv_at hl 3 rfl) ?_
                    refine lv_iconst (v := 1) hx hb dX10_keep_138 (by decide) ?_
                    refine lv_icmp_ne (tgt := 174) hx hb dX10_keep_139 (by decide) (fun c139 => ?_) (fun c139 => ?_)
                    · skip
                      have d139 := c139
                      rw [fa_eq] at d139
                      refine lv_iconst (v := 0) hx hb dX10_keep_174 (by decide) ?_
                      refine lv_istore (lv' := [(7, .int (0 : Int32)), (6, .int (1 : Int32)), (0, .ref mo), (1, .int d), (2, .int what), (3, .int k0), (4, .long p0)]) hx hb dX10_keep_175 hl (by decide) rfl (fun ls hl => ?_)
                      have loop_177 : ∀ (n : Nat) (i : Nat) (s3 : Nat → Int64), (i ≤ 60 ∧ (i : Int) ≤ nv9.toInt) → (s3 = setQ (q 33) (60 * d.toNatClampNeg) (keG what p0 (r 4 k0.toNatClampNeg).toNatClampNeg (fun x9 => r 5 (44 * k0.toNatClampNeg + x9))) i) → 60 - i < n → ∀ (H : Heap) (locs : List Loc), va_P D vwCl (WM cy mo a (upd f 0 (0 : Int32)) g (va_up (va_up r 29 ((upd (r 29) d.toNatClampNeg what))) 30 ((upd (r 30) d.toNatClampNeg v110))) (va_up q 33 s3)) H → va_S (AM mo a) s.heap H locs → ∀ (ls : Array Slot), lv_has ls 8 [(7, .int (nI i)), (6, .int (1 : Int32)), (0, .ref mo), (1, .int d), (2, .int what), (3, .int k0), (4, .long p0)] → W p l e (headSpec wsX10_keep ({ frames := 3, cells := 0, slots := 0, locals := 69 })).room s m #[Value.ref mo, Value.int d, Value.int what, Value.int k0, Value.long p0] below meth c H locs 0 0 (MQ below (va_Qi (fun r0 u => ∃ (sh : Nat → Int32), ∃ (sz : Nat → Int32), ∃ (sw : Nat → Int32), ∃ (sf : Nat → Int32), ∃ (sr : Nat → Int64), u = ((upd f 0 (0 : Int32)), g, (va_up (va_up (va_up (va_up r 29 sh) 30 sz) 31 sw) 32 sf), (va_up q 33 sr)) ∧ (yesNo (okKeep (f 1) (fun j9 => (r 3 j9).toNatClampNeg) (fun j9 => (r 4 j9).toNatClampNeg) d what k0 p0) 0 (-1) r0 ∧ ((okKeep (f 1) (fun j9 => (r 3 j9).toNatClampNeg) (fun j9 => (r 4 j9).toNatClampNeg) d what k0 p0 ∧ ∃ nv, sh = upd (r 29) d.toNatClampNeg what ∧ sz = upd (r 30) d.toNatClampNeg nv ∧ (what.toInt = 3 → nv.toInt = (((r 3 k0.toNatClampNeg).toNatClampNeg * (r 4 k0.toNatClampNeg).toNatClampNeg : Nat) : Int)) ∧ (what.toInt = 4 → nv.toInt = (((r 4 k0.toNatClampNeg).toNatClampNeg + (r 3 k0.toNatClampNeg).toNatClampNeg : Nat) : Int)) ∧ sr = setQ (q 33) (60 * d.toNatClampNeg) (keG what p0 (r 4 k0.toNatClampNeg).toNatClampNeg (fun x9 => r 5 (44 * k0.toNatClampNeg + x9))) nv.toNatClampNeg ∧ nv.toNatClampNeg ≤ 60) ∨ (¬ okKeep (f 1) (fun j9 => (r 3 j9).toNatClampNeg) (fun j9 => (r 4 j9).toNatClampNeg) d what k0 p0 ∧ sh = r 29 ∧ sz = r 30 ∧ sr = q 33)) ∧ MI (upd f 0 (0 : Int32)) (va_up (va_up (va_up (va_up r 29 sh) 30 sz) 31 sw) 32 sf))) (mB D cy mo a) (AM mo a)) #[Value.ref mo, Value.int d, Value.int what, Value.int k0, Value.long p0] s 0 0 (AM mo a)) (F0 m 177 ls []) := by
                        intro n
                        induction n with
                        | zero => intro i s3 j177_0 j177_1 hn; exact absurd hn (Nat.not_lt_zero _)
                        | succ n ih_177 =>
                          intro i s3 j177_0 j177_1 hn_177 H locs hP hS ls hl
                          have ii : (nI i).toInt = (i : Int) := nI_toInt (by omega)
                          refine lv_iload hx hb dX10_keep_177 (lv_at hl 0 rfl) ?_
                          refine lv_aload_n hx hb dX10_keep_179 rfl (lv_at hl 2 rfl) ?_
                          refine m_get (v := .ref (a 30)) hx hb hts hin hown hK hP 30 (by decide) rfl (hts (.fieldLink RX10 64 "ShadowBenchModel" "shelfSize" "[I") (by decide +kernel)) rfl dX10_keep_180 ?_
                          refine lv_iload_n hx hb dX10_keep_183 rfl (lv_at hl 3 rfl) ?_
                          refine m_iald (w := ((upd (r 30) d.toNatClampNeg v110))) hx hb hK hP 18 rfl (vp_in_iff.mpr ⟨by omega, by omega⟩) dX10_keep_184 ?_
                          refine lv_topi (fun v184 e184 => ?_)
                          have i184 : v184.toInt = (((upd (r 30) d.toNatClampNeg v110)) d.toNatClampNeg).toInt := congrArg Int32.toInt e184
                          have z184 := e184
                          simp only [upd, if_true] at z184
                          have y184 := congrArg Int32.toInt z184
                          have y184 : v184 = nv9 := by rw [e184, hnv9]; simp only [upd, if_true]
                          have i184 := congrArg Int32.toInt y184
                          refine lv_icmp_ge (tgt := 272) hx hb dX10_keep_185 (by decide) (fun c185 => ?_) (fun c185 => ?_)
                          · skip
                            have d185 := c185
                            rw [fa_le] at d185
                            refine lv_iconst (v := 0) hx hb dX10_keep_272 (by decide) ?_
                            have hP := wm_eq rfl rfl (ec_r_29_30__29_30_31_32 r ((upd (r 29) d.toNatClampNeg what)) ((upd (r 30) d.toNatClampNeg v110))) rfl hP
                            exact W.iret (v := (0 : Int32)) hx hb hr (fun t ht hW => ⟨⟨_, ((upd f 0 (0 : Int32)), g, (va_up (va_up (va_up (va_up r 29 (((upd (r 29) d.toNatClampNeg what)))) 30 (((upd (r 30) d.toNatClampNeg v110)))) 31 (r 31)) 32 (r 32)), (va_up q 33 s3)), rfl, ⟨((upd (r 29) d.toNatClampNeg what)), ((upd (r 30) d.toNatClampNeg v110)), (r 31), (r 32), s3, rfl, ⟨(Or.inl ⟨⟨b9, (by unfold okJob; first | exact Or.inl (by omega) | exact Or.inr (Or.inl ⟨by omega, b31⟩) | (have z9 := goodP_of b64; subst e52; subst e58; exact Or.inr (Or.inr ⟨by omega, b44, z9.2⟩)))⟩, rfl⟩), (Or.inl ⟨⟨b9, (by unfold okJob; first | exact Or.inl (by omega) | exact Or.inr (Or.inl ⟨by omega, b31⟩) | (have z9 := goodP_of b64; subst e52; subst e58; exact Or.inr (Or.inr ⟨by omega, b44, z9.2⟩)))⟩, _, rfl, rfl, (fun z9 => by first | (exfalso; omega) | exact y110), (fun z9 => by first | (exfalso; omega) | exact y131), (by have c9 := m_cl (x := nv9) (by omega); rw [j177_1, ← hnv9, show i = nv9.toNatClampNeg by omega]), (by have c9 := m_cl (x := nv9) (by omega); rw [hnv9] at c9; omega)⟩), by first | exact hI | exact mi_sz (d := d) hI (v := v110) (by omega) rfl rfl rfl rfl rfl rfl rfl rfl | exact mi_sz (d := d) hI (v := v131) (by omega) rfl rfl rfl rfl rfl rfl rfl rfl | exact mi_sz (d := d) hI (v := 0) (by decide) rfl rfl rfl rfl rfl rfl rfl rfl⟩⟩, by unfold mB; rw [ht]; exact hP⟩, hS.F ht⟩) hS.2.2 dX10_keep_273
                          · skip
                            have d185 := c185
                            rw [fa_le] at d185
                            refine lv_aload_n hx hb dX10_keep_188 rfl (lv_at hl 2 rfl) ?_
                            refine m_get (v := .ref (a 33)) hx hb hts hin hown hK hP 33 (by decide) rfl (hts (.fieldLink RX10 73 "ShadowBenchModel" "shelfRow" "[J") (by decide +kernel)) rfl dX10_keep_189 ?_
                            refine lv_bipush (v := 60) hx hb dX10_keep_192 (by decide) ?_
                            refine lv_iload_n hx hb dX10_keep_194 rfl (lv_at hl 3 rfl) ?_
                            refine lv_imul hx hb dX10_keep_195 ?_
                            refine lv_topi (fun v195 e195 => ?_)
                            have i195 : v195.toInt = 60 * d.toInt := by rw [e195]; exact mulcL rfl (by omega) (by omega)
                            refine lv_iload hx hb dX10_keep_196 (lv_at hl 0 rfl) ?_
                            refine lv_iadd hx hb dX10_keep_198 ?_
                            refine lv_topi (fun v198 e198 => ?_)
                            have i198 : v198.toInt = v195.toInt + (nI i).toInt := by rw [e198]; exact fb_addI (by omega) (by omega)
                            have cd9 := m_cl (x := d) (by omega)
                            have cv9 := m_cl (x := v198) (by omega)
                            have f198 : v198.toNatClampNeg = 60 * d.toNatClampNeg + i := by omega
                            refine lv_iload_n hx hb dX10_keep_199 rfl (lv_at hl 4 rfl) ?_
                            refine lv_iconst (v := 3) hx hb dX10_keep_200 (by decide) ?_
                            refine lv_icmp_ne (tgt := 215) hx hb dX10_keep_201 (by decide) (fun c201 => ?_) (fun c201 => ?_)
                            · first | exact absurd c201 c95 | exact absurd c95 c201
                            · skip
                              have d201 := c201
                              rw [fa_eq] at d201
                              refine lv_lload hx hb dX10_keep_204 (lv_at hl 6 rfl) ?_
                              refine lv_iload hx hb dX10_keep_206 (lv_at hl 0 rfl) ?_
                              refine m_pu (As := [.long p0, .int (nI i)]) (rest := [.int v198, .ref (a 33)]) ⟨hx, hb, hml, hown, hts⟩ (c_X10_one l p0 (nI i) ) (va_cwS 2 hts gX10_keep_X10_one rfl rfl rfl (by decide +kernel) ⟨Nat.le_of_ble_eq_true rfl, Nat.le_of_ble_eq_true rfl⟩) hP rfl hl.1 rfl (Nat.le_of_ble_eq_true rfl) dX10_keep_208 ⟨Nat.le_of_ble_eq_true rfl, Nat.le_of_ble_eq_true rfl⟩ hS (fun r208 H locs q208 hP hS => ?_)
                              have i208 : r208.toInt = (r_one p0 (nI i)).toInt := congrArg Int32.toInt q208
                              refine lv_i2l (v := r208.toInt64) hx hb dX10_keep_211 rfl ?_
                              refine lv_goto (tgt := 265) hx hb dX10_keep_212 (by decide) ?_
                              refine m_last (w := s3) hx hb hK hP hD hS 21 rfl (vp_in_iff.mpr ⟨by omega, by omega⟩) (va_up (va_up q 33 s3) 33 (vp_updL s3 v198.toNatClampNeg r208.toInt64)) (ms_33 cy mo a _ _ _ _ _) dX10_keep_265 (fun H locs hP hS => ?_)
                              have hP := wm_eq rfl rfl rfl (es_q_33__33 q s3 (vp_updL s3 v198.toNatClampNeg r208.toInt64)) hP
                              refine lv_iinc (v := (nI (i + 1))) (lv' := [(7, .int (nI (i + 1))), (6, .int (1 : Int32)), (0, .ref mo), (1, .int d), (2, .int what), (3, .int k0), (4, .long p0)]) hx hb dX10_keep_266 hl (k := 0) rfl (nI_1 _) (by decide) rfl (fun ls hl => ?_)
                              refine lv_goto (tgt := 177) hx hb dX10_keep_269 (by decide) ?_
                              have hP := wm_eq rfl rfl (ec_r_29_30__29_30 r ((upd (r 29) d.toNatClampNeg what)) ((upd (r 30) d.toNatClampNeg v110))) rfl hP
                              exact ih_177 (i + 1) (vp_updL s3 v198.toNatClampNeg r208.toInt64) (by omega) (by rw [j177_1, f198]; exact setQ_v (by first | (rw [keG_3 (by omega)]; exact one_bI (by omega) q208) | (rw [keG_4 (by omega) (by omega), e237, f236]; done) | (rw [keG_5 (by omega) (by omega), e263, f262]; done) | (exfalso; omega))) (by omega) _ _ hP hS ls (lv_sub hl [0, 1, 2, 3, 4, 5, 6] rfl)
                      have hP := wm_eq rfl rfl (ec_r_29_30__29_30 r ((upd (r 29) d.toNatClampNeg what)) ((upd (r 30) d.toNatClampNeg v110))) (ec_q___33 q ) hP
                      exact loop_177 (60 + 1) 0 (q 33) (by omega) ((setQ_0 _ _ _).symm) (by omega) _ _ hP hS ls (lv_sub hl [0, 1, 2, 3, 4, 5, 6] rfl)
                    · skip
                      have d139 := c139
                      rw [fa_eq] at d139
                      refine lv_aload_n hx hb dX10_keep_142 rfl (lv_at hl 1 rfl) ?_
                      refine m_get (v := .ref (a 31)) hx hb hts hin hown hK hP 31 (by decide) rfl (hts (.fieldLink RX10 67 "ShadowBenchModel" "shelfWeight" "[I") (by decide +kernel)) rfl dX10_keep_143 ?_
                      refine lv_iload_n hx hb dX10_keep_146 rfl (lv_at hl 2 rfl) ?_
                      refine lv_aload_n hx hb dX10_keep_147 rfl (lv_at hl 1 rfl) ?_
                      refine lv_iload_n hx hb dX10_keep_148 rfl (lv_at hl 4 rfl) ?_
                      refine m_calli (As := [.int k0]) (rest := [.int d, .ref (a 31)]) ⟨hx, hb, hml, hown, hts⟩ (c_X10_weightOf l D cy mo a (upd f 0 (0 : Int32)) g (va_up (va_up r 29 ((upd (r 29) d.toNatClampNeg what))) 30 ((upd (r 30) d.toNatClampNeg v110))) q k0 hD (by first | exact hI | exact mi_sz (d := d) hI (v := 0) (by first | omega | decide) rfl rfl rfl rfl rfl rfl rfl rfl | exact mi_sz (d := d) hI (v := v131) (by first | omega | decide) rfl rfl rfl rfl rfl rfl rfl rfl | exact mi_sz (d := d) hI (v := v110) (by first | omega | decide) rfl rfl rfl rfl rfl rfl rfl rfl) (show 0 ≤ k0.toInt ∧ k0.toInt < (f 1).toInt by omega)) (cwV 1 hts gX10_keep_X10_weightOf rfl rfl rfl (by decide +kernel) ⟨Nat.le_of_ble_eq_true rfl, Nat.le_of_ble_eq_true rfl⟩) hK hP rfl hl.1 rfl (Nat.le_of_ble_eq_true rfl) dX10_keep_149 ⟨Nat.le_of_ble_eq_true rfl, Nat.le_of_ble_eq_true rfl⟩ hS (fun r149 u H locs q149 hP hS => ?_)
                      obtain ⟨rfl, q149⟩ := q149
                      have hP : va_P D vwCl (WM cy mo a (upd f 0 (0 : Int32)) g (va_up (va_up r 29 ((upd (r 29) d.toNatClampNeg what))) 30 ((upd (r 30) d.toNatClampNeg v110))) q) H := hP
                      have q149 : True := q149
                      refine m_iast (w := (r 31)) hx hb hK hP hD hS 19 rfl (vp_in_iff.mpr ⟨by omega, by omega⟩) (va_up (va_up (va_up r 29 ((upd (r 29) d.toNatClampNeg what))) 30 ((upd (r 30) d.toNatClampNeg v110))) 31 (upd (r 31) d.toNatClampNeg r149)) (ms_31 cy mo a _ _ _ _ _) dX10_keep_152 (fun H locs hP hS => ?_)
                      refine lv_aload_n hx hb dX10_keep_153 rfl (lv_at hl 1 rfl) ?_
                      refine m_get (v := .ref (a 32)) hx hb hts hin hown hK hP 32 (by decide) rfl (hts (.fieldLink RX10 70 "ShadowBenchModel" "shelfFailure" "[I") (by decide +kernel)) rfl dX10_keep_154 ?_
                      refine lv_iload_n hx hb dX10_keep_157 rfl (lv_at hl 2 rfl) ?_
                      refine lv_aload_n hx hb dX10_keep_158 rfl (lv_at hl 1 rfl) ?_
                      refine m_get (v := .ref (a 2)) hx hb hts hin hown hK hP 2 (by decide) rfl (hts (.fieldLink RX10 7 "ShadowBenchModel" "kind" "[I") (by decide +kernel)) rfl dX10_keep_159 ?_
                      refine lv_iload_n hx hb dX10_keep_162 rfl (lv_at hl 4 rfl) ?_
                      refine m_iald (w := (r 2)) hx hb hK hP 1 rfl (vp_in_iff.mpr ⟨by omega, by omega⟩) dX10_keep_163 ?_
                      refine lv_topi (fun v163 e163 => ?_)
                      have i163 : v163.toInt = ((r 2) k0.toNatClampNeg).toInt := congrArg Int32.toInt e163
                      refine lv_if_ne (tgt := 172) hx hb dX10_keep_164 (by decide) (fun c164 => ?_) (fun c164 => ?_)
                      · skip
                        have d164 := c164
                        rw [fa_eq] at d164
                        refine lv_iload_n hx hb dX10_keep_172 rfl (lv_at hl 4 rfl) ?_
                        refine m_iast (w := (r 32)) hx hb hK hP hD hS 20 rfl (vp_in_iff.mpr ⟨by omega, by omega⟩) (va_up (va_up (va_up (va_up r 29 ((upd (r 29) d.toNatClampNeg what))) 30 ((upd (r 30) d.toNatClampNeg v110))) 31 ((upd (r 31) d.toNatClampNeg r149))) 32 (upd (r 32) d.toNatClampNeg k0)) (ms_32 cy mo a _ _ _ _ _) dX10_keep_173 (fun H locs hP hS => ?_)
                        refine lv_iconst (v := 0) hx hb dX10_keep_174 (by decide) ?_
                        refine lv_istore (lv' := [(7, .int (0 : Int32)), (6, .int (1 : Int32)), (0, .ref mo), (1, .int d), (2, .int what), (3, .int k0), (4, .long p0)]) hx hb dX10_keep_175 hl (by decide) rfl (fun ls hl => ?_)
                        have loop_177 : ∀ (n : Nat) (i : Nat) (s3 : Nat → Int64), (i ≤ 60 ∧ (i : Int) ≤ nv9.toInt) → (s3 = setQ (q 33) (60 * d.toNatClampNeg) (keG what p0 (r 4 k0.toNatClampNeg).toNatClampNeg (fun x9 => r 5 (44 * k0.toNatClampNeg + x9))) i) → 60 - i < n → ∀ (H : Heap) (locs : List Loc), va_P D vwCl (WM cy mo a (upd f 0 (0 : Int32)) g (va_up (va_up (va_up (va_up r 29 ((upd (r 29) d.toNatClampNeg what))) 30 ((upd (r 30) d.toNatClampNeg v110))) 31 ((upd (r 31) d.toNatClampNeg r149))) 32 ((upd (r 32) d.toNatClampNeg k0))) (va_up q 33 s3)) H → va_S (AM mo a) s.heap H locs → ∀ (ls : Array Slot), lv_has ls 8 [(7, .int (nI i)), (6, .int (1 : Int32)), (0, .ref mo), (1, .int d), (2, .int what), (3, .int k0), (4, .long p0)] → W p l e (headSpec wsX10_keep ({ frames := 3, cells := 0, slots := 0, locals := 69 })).room s m #[Value.ref mo, Value.int d, Value.int what, Value.int k0, Value.long p0] below meth c H locs 0 0 (MQ below (va_Qi (fun r0 u => ∃ (sh : Nat → Int32), ∃ (sz : Nat → Int32), ∃ (sw : Nat → Int32), ∃ (sf : Nat → Int32), ∃ (sr : Nat → Int64), u = ((upd f 0 (0 : Int32)), g, (va_up (va_up (va_up (va_up r 29 sh) 30 sz) 31 sw) 32 sf), (va_up q 33 sr)) ∧ (yesNo (okKeep (f 1) (fun j9 => (r 3 j9).toNatClampNeg) (fun j9 => (r 4 j9).toNatClampNeg) d what k0 p0) 0 (-1) r0 ∧ ((okKeep (f 1) (fun j9 => (r 3 j9).toNatClampNeg) (fun j9 => (r 4 j9).toNatClampNeg) d what k0 p0 ∧ ∃ nv, sh = upd (r 29) d.toNatClampNeg what ∧ sz = upd (r 30) d.toNatClampNeg nv ∧ (what.toInt = 3 → nv.toInt = (((r 3 k0.toNatClampNeg).toNatClampNeg * (r 4 k0.toNatClampNeg).toNatClampNeg : Nat) : Int)) ∧ (what.toInt = 4 → nv.toInt = (((r 4 k0.toNatClampNeg).toNatClampNeg + (r 3 k0.toNatClampNeg).toNatClampNeg : Nat) : Int)) ∧ sr = setQ (q 33) (60 * d.toNatClampNeg) (keG what p0 (r 4 k0.toNatClampNeg).toNatClampNeg (fun x9 => r 5 (44 * k0.toNatClampNeg + x9))) nv.toNatClampNeg ∧ nv.toNatClampNeg ≤ 60) ∨ (¬ okKeep (f 1) (fun j9 => (r 3 j9).toNatClampNeg) (fun j9 => (r 4 j9).toNatClampNeg) d what k0 p0 ∧ sh = r 29 ∧ sz = r 30 ∧ sr = q 33)) ∧ MI (upd f 0 (0 : Int32)) (va_up (va_up (va_up (va_up r 29 sh) 30 sz) 31 sw) 32 sf))) (mB D cy mo a) (AM mo a)) #[Value.ref mo, Value.int d, Value.int what, Value.int k0, Value.long p0] s 0 0 (AM mo a)) (F0 m 177 ls []) := by
                          intro n
                          induction n with
                          | zero => intro i s3 j177_0 j177_1 hn; exact absurd hn (Nat.not_lt_zero _)
                          | succ n ih_177 =>
                            intro i s3 j177_0 j177_1 hn_177 H locs hP hS ls hl
                            have ii : (nI i).toInt = (i : Int) := nI_toInt (by omega)
                            refine lv_iload hx hb dX10_keep_177 (lv_at hl 0 rfl) ?_
                            refine lv_aload_n hx hb dX10_keep_179 rfl (lv_at hl 2 rfl) ?_
                            refine m_get (v := .ref (a 30)) hx hb hts hin hown hK hP 30 (by decide) rfl (hts (.fieldLink RX10 64 "ShadowBenchModel" "shelfSize" "[I") (by decide +kernel)) rfl dX10_keep_180 ?_
                            refine lv_iload_n hx hb dX10_keep_183 rfl (lv_at hl 3 rfl) ?_
                            refine m_iald (w := ((upd (r 30) d.toNatClampNeg v110))) hx hb hK hP 18 rfl (vp_in_iff.mpr ⟨by omega, by omega⟩) dX10_keep_184 ?_
                            refine lv_topi (fun v184 e184 => ?_)
                            have i184 : v184.toInt = (((upd (r 30) d.toNatClampNeg v110)) d.toNatClampNeg).toInt := congrArg Int32.toInt e184
                            have z184 := e184
                            simp only [upd, if_true] at z184
                            have y184 := congrArg Int32.toInt z184
                            have y184 : v184 = nv9 := by rw [e184, hnv9]; simp only [upd, if_true]
                            have i184 := congrArg Int32.toInt y184
                            refine lv_icmp_ge (tgt := 272) hx hb dX10_keep_185 (by decide) (fun c185 => ?_) (fun c185 => ?_)
                            · skip
                              have d185 := c185
                              rw [fa_le] at d185
                              refine lv_iconst (v := 0) hx hb dX10_keep_272 (by decide) ?_
                              have hP := wm_eq rfl rfl (ec_r_29_30_31_32__29_30_31_32 r ((upd (r 29) d.toNatClampNeg what)) ((upd (r 30) d.toNatClampNeg v110)) ((upd (r 31) d.toNatClampNeg r149)) ((upd (r 32) d.toNatClampNeg k0))) rfl hP
                              exact W.iret (v := (0 : Int32)) hx hb hr (fun t ht hW => ⟨⟨_, ((upd f 0 (0 : Int32)), g, (va_up (va_up (va_up (va_up r 29 (((upd (r 29) d.toNatClampNeg what)))) 30 (((upd (r 30) d.toNatClampNeg v110)))) 31 (((upd (r 31) d.toNatClampNeg r149)))) 32 (((upd (r 32) d.toNatClampNeg k0)))), (va_up q 33 s3)), rfl, ⟨((upd (r 29) d.toNatClampNeg what)), ((upd (r 30) d.toNatClampNeg v110)), ((upd (r 31) d.toNatClampNeg r149)), ((upd (r 32) d.toNatClampNeg k0)), s3, rfl, ⟨(Or.inl ⟨⟨b9, (by unfold okJob; first | exact Or.inl (by omega) | exact Or.inr (Or.inl ⟨by omega, b31⟩) | (have z9 := goodP_of b64; subst e52; subst e58; exact Or.inr (Or.inr ⟨by omega, b44, z9.2⟩)))⟩, rfl⟩), (Or.inl ⟨⟨b9, (by unfold okJob; first | exact Or.inl (by omega) | exact Or.inr (Or.inl ⟨by omega, b31⟩) | (have z9 := goodP_of b64; subst e52; subst e58; exact Or.inr (Or.inr ⟨by omega, b44, z9.2⟩)))⟩, _, rfl, rfl, (fun z9 => by first | (exfalso; omega) | exact y110), (fun z9 => by first | (exfalso; omega) | exact y131), (by have c9 := m_cl (x := nv9) (by omega); rw [j177_1, ← hnv9, show i = nv9.toNatClampNeg by omega]), (by have c9 := m_cl (x := nv9) (by omega); rw [hnv9] at c9; omega)⟩), by first | exact hI | exact mi_sz (d := d) hI (v := v110) (by omega) rfl rfl rfl rfl rfl rfl rfl rfl | exact mi_sz (d := d) hI (v := v131) (by omega) rfl rfl rfl rfl rfl rfl rfl rfl | exact mi_sz (d := d) hI (v := 0) (by decide) rfl rfl rfl rfl rfl rfl rfl rfl⟩⟩, by unfold mB; rw [ht]; exact hP⟩, hS.F ht⟩) hS.2.2 dX10_keep_273
                            · skip
                              have d185 := c185
                              rw [fa_le] at d185
                              refine lv_aload_n hx hb dX10_keep_188 rfl (lv_at hl 2 rfl) ?_
                              refine m_get (v := .ref (a 33)) hx hb hts hin hown hK hP 33 (by decide) rfl (hts (.fieldLink RX10 73 "ShadowBenchModel" "shelfRow" "[J") (by decide +kernel)) rfl dX10_keep_189 ?_
                              refine lv_bipush (v := 60) hx hb dX10_keep_192 (by decide) ?_
                              refine lv_iload_n hx hb dX10_keep_194 rfl (lv_at hl 3 rfl) ?_
                              refine lv_imul hx hb dX10_keep_195 ?_
                              refine lv_topi (fun v195 e195 => ?_)
                              have i195 : v195.toInt = 60 * d.toInt := by rw [e195]; exact mulcL rfl (by omega) (by omega)
                              refine lv_iload hx hb dX10_keep_196 (lv_at hl 0 rfl) ?_
                              refine lv_iadd hx hb dX10_keep_198 ?_
                              refine lv_topi (fun v198 e198 => ?_)
                              have i198 : v198.toInt = v195.toInt + (nI i).toInt := by rw [e198]; exact fb_addI (by omega) (by omega)
                              have cd9 := m_cl (x := d) (by omega)
                              have cv9 := m_cl (x := v198) (by omega)
                              have f198 : v198.toNatClampNeg = 60 * d.toNatClampNeg + i := by omega
                              refine lv_iload_n hx hb dX10_keep_199 rfl (lv_at hl 4 rfl) ?_
                              refine lv_iconst (v := 3) hx hb dX10_keep_200 (by decide) ?_
                              refine lv_icmp_ne (tgt := 215) hx hb dX10_keep_201 (by decide) (fun c201 => ?_) (fun c201 => ?_)
                              · first | exact absurd c201 c95 | exact absurd c95 c201
                              · skip
                                have d201 := c201
                                rw [fa_eq] at d201
                                refine lv_lload hx hb dX10_keep_204 (lv_at hl 6 rfl) ?_
                                refine lv_iload hx hb dX10_keep_206 (lv_at hl 0 rfl) ?_
                                refine m_pu (As := [.long p0, .int (nI i)]) (rest := [.int v198, .ref (a 33)]) ⟨hx, hb, hml, hown, hts⟩ (c_X10_one l p0 (nI i) ) (va_cwS 2 hts gX10_keep_X10_one rfl rfl rfl (by decide +kernel) ⟨Nat.le_of_ble_eq_true rfl, Nat.le_of_ble_eq_true rfl⟩) hP rfl hl.1 rfl (Nat.le_of_ble_eq_true rfl) dX10_keep_208 ⟨Nat.le_of_ble_eq_true rfl, Nat.le_of_ble_eq_true rfl⟩ hS (fun r208 H locs q208 hP hS => ?_)
                                have i208 : r208.toInt = (r_one p0 (nI i)).toInt := congrArg Int32.toInt q208
                                refine lv_i2l (v := r208.toInt64) hx hb dX10_keep_211 rfl ?_
                                refine lv_goto (tgt := 265) hx hb dX10_keep_212 (by decide) ?_
                                refine m_last (w := s3) hx hb hK hP hD hS 21 rfl (vp_in_iff.mpr ⟨by omega, by omega⟩) (va_up (va_up q 33 s3) 33 (vp_updL s3 v198.toNatClampNeg r208.toInt64)) (ms_33 cy mo a _ _ _ _ _) dX10_keep_265 (fun H locs hP hS => ?_)
                                have hP := wm_eq rfl rfl rfl (es_q_33__33 q s3 (vp_updL s3 v198.toNatClampNeg r208.toInt64)) hP
                                refine lv_iinc (v := (nI (i + 1))) (lv' := [(7, .int (nI (i + 1))), (6, .int (1 : Int32)), (0, .ref mo), (1, .int d), (2, .int what), (3, .int k0), (4, .long p0)]) hx hb dX10_keep_266 hl (k := 0) rfl (nI_1 _) (by decide) rfl (fun ls hl => ?_)
                                refine lv_goto (tgt := 177) hx hb dX10_keep_269 (by decide) ?_
                                have hP := wm_eq rfl rfl (ec_r_29_30_31_32__29_30_31_32 r ((upd (r 29) d.toNatClampNeg what)) ((upd (r 30) d.toNatClampNeg v110)) ((upd (r 31) d.toNatClampNeg r149)) ((upd (r 32) d.toNatClampNeg k0))) rfl hP
                                exact ih_177 (i + 1) (vp_updL s3 v198.toNatClampNeg r208.toInt64) (by omega) (by rw [j177_1, f198]; exact setQ_v (by first | (rw [keG_3 (by omega)]; exact one_bI (by omega) q208) | (rw [keG_4 (by omega) (by omega), e237, f236]; done) | (rw [keG_5 (by omega) (by omega), e263, f262]; done) | (exfalso; omega))) (by omega) _ _ hP hS ls (lv_sub hl [0, 1, 2, 3, 4, 5, 6] rfl)
                        have hP := wm_eq rfl rfl (ec_r_29_30_31_32__29_30_31_32 r ((upd (r 29) d.toNatClampNeg what)) ((upd (r 30) d.toNatClampNeg v110)) ((upd (r 31) d.toNatClampNeg r149)) ((upd (r 32) d.toNatClampNeg k0))) (ec_q___33 q ) hP
                        exact loop_177 (60 + 1) 0 (q 33) (by omega) ((setQ_0 _ _ _).symm) (by omega) _ _ hP hS ls (lv_sub hl [0, 1, 2, 3, 4, 5, 6] rfl)
                      · skip
                        have d164 := c164
                        rw [fa_eq] at d164
                        refine lv_bipush (v := (-15)) hx hb dX10_keep_167 (by decide) ?_
                        refine lv_goto (tgt := 173) hx hb dX10_keep_169 (by decide) ?_
                        refine m_iast (w := (r 32)) hx hb hK hP hD hS 20 rfl (vp_in_iff.mpr ⟨by omega, by omega⟩) (va_up (va_up (va_up (va_up r 29 ((upd (r 29) d.toNatClampNeg what))) 30 ((upd (r 30) d.toNatClampNeg v110))) 31 ((upd (r 31) d.toNatClampNeg r149))) 32 (upd (r 32) d.toNatClampNeg (((-15) : Int32)))) (ms_32 cy mo a _ _ _ _ _) dX10_keep_173 (fun H locs hP hS => ?_)
                        refine lv_iconst (v := 0) hx hb dX10_keep_174 (by decide) ?_
                        refine lv_istore (lv' := [(7, .int (0 : Int32)), (6, .int (1 : Int32)), (0, .ref mo), (1, .int d), (2, .int what), (3, .int k0), (4, .long p0)]) hx hb dX10_keep_175 hl (by decide) rfl (fun ls hl => ?_)
                        have loop_177 : ∀ (n : Nat) (i : Nat) (s3 : Nat → Int64), (i ≤ 60 ∧ (i : Int) ≤ nv9.toInt) → (s3 = setQ (q 33) (60 * d.toNatClampNeg) (keG what p0 (r 4 k0.toNatClampNeg).toNatClampNeg (fun x9 => r 5 (44 * k0.toNatClampNeg + x9))) i) → 60 - i < n → ∀ (H : Heap) (locs : List Loc), va_P D vwCl (WM cy mo a (upd f 0 (0 : Int32)) g (va_up (va_up (va_up (va_up r 29 ((upd (r 29) d.toNatClampNeg what))) 30 ((upd (r 30) d.toNatClampNeg v110))) 31 ((upd (r 31) d.toNatClampNeg r149))) 32 ((upd (r 32) d.toNatClampNeg (((-15) : Int32))))) (va_up q 33 s3)) H → va_S (AM mo a) s.heap H locs → ∀ (ls : Array Slot), lv_has ls 8 [(7, .int (nI i)), (6, .int (1 : Int32)), (0, .ref mo), (1, .int d), (2, .int what), (3, .int k0), (4, .long p0)] → W p l e (headSpec wsX10_keep ({ frames := 3, cells := 0, slots := 0, locals := 69 })).room s m #[Value.ref mo, Value.int d, Value.int what, Value.int k0, Value.long p0] below meth c H locs 0 0 (MQ below (va_Qi (fun r0 u => ∃ (sh : Nat → Int32), ∃ (sz : Nat → Int32), ∃ (sw : Nat → Int32), ∃ (sf : Nat → Int32), ∃ (sr : Nat → Int64), u = ((upd f 0 (0 : Int32)), g, (va_up (va_up (va_up (va_up r 29 sh) 30 sz) 31 sw) 32 sf), (va_up q 33 sr)) ∧ (yesNo (okKeep (f 1) (fun j9 => (r 3 j9).toNatClampNeg) (fun j9 => (r 4 j9).toNatClampNeg) d what k0 p0) 0 (-1) r0 ∧ ((okKeep (f 1) (fun j9 => (r 3 j9).toNatClampNeg) (fun j9 => (r 4 j9).toNatClampNeg) d what k0 p0 ∧ ∃ nv, sh = upd (r 29) d.toNatClampNeg what ∧ sz = upd (r 30) d.toNatClampNeg nv ∧ (what.toInt = 3 → nv.toInt = (((r 3 k0.toNatClampNeg).toNatClampNeg * (r 4 k0.toNatClampNeg).toNatClampNeg : Nat) : Int)) ∧ (what.toInt = 4 → nv.toInt = (((r 4 k0.toNatClampNeg).toNatClampNeg + (r 3 k0.toNatClampNeg).toNatClampNeg : Nat) : Int)) ∧ sr = setQ (q 33) (60 * d.toNatClampNeg) (keG what p0 (r 4 k0.toNatClampNeg).toNatClampNeg (fun x9 => r 5 (44 * k0.toNatClampNeg + x9))) nv.toNatClampNeg ∧ nv.toNatClampNeg ≤ 60) ∨ (¬ okKeep (f 1) (fun j9 => (r 3 j9).toNatClampNeg) (fun j9 => (r 4 j9).toNatClampNeg) d what k0 p0 ∧ sh = r 29 ∧ sz = r 30 ∧ sr = q 33)) ∧ MI (upd f 0 (0 : Int32)) (va_up (va_up (va_up (va_up r 29 sh) 30 sz) 31 sw) 32 sf))) (mB D cy mo a) (AM mo a)) #[Value.ref mo, Value.int d, Value.int what, Value.int k0, Value.long p0] s 0 0 (AM mo a)) (F0 m 177 ls []) := by
                          intro n
                          induction n with
                          | zero => intro i s3 j177_0 j177_1 hn; exact absurd hn (Nat.not_lt_zero _)
                          | succ n ih_177 =>
                            intro i s3 j177_0 j177_1 hn_177 H locs hP hS ls hl
                            have ii : (nI i).toInt = (i : Int) := nI_toInt (by omega)
                            refine lv_iload hx hb dX10_keep_177 (lv_at hl 0 rfl) ?_
                            refine lv_aload_n hx hb dX10_keep_179 rfl (lv_at hl 2 rfl) ?_
                            refine m_get (v := .ref (a 30)) hx hb hts hin hown hK hP 30 (by decide) rfl (hts (.fieldLink RX10 64 "ShadowBenchModel" "shelfSize" "[I") (by decide +kernel)) rfl dX10_keep_180 ?_
                            refine lv_iload_n hx hb dX10_keep_183 rfl (lv_at hl 3 rfl) ?_
                            refine m_iald (w := ((upd (r 30) d.toNatClampNeg v110))) hx hb hK hP 18 rfl (vp_in_iff.mpr ⟨by omega, by omega⟩) dX10_keep_184 ?_
                            refine lv_topi (fun v184 e184 => ?_)
                            have i184 : v184.toInt = (((upd (r 30) d.toNatClampNeg v110)) d.toNatClampNeg).toInt := congrArg Int32.toInt e184
                            have z184 := e184
                            simp only [upd, if_true] at z184
                            have y184 := congrArg Int32.toInt z184
                            have y184 : v184 = nv9 := by rw [e184, hnv9]; simp only [upd, if_true]
                            have i184 := congrArg Int32.toInt y184
                            refine lv_icmp_ge (tgt := 272) hx hb dX10_keep_185 (by decide) (fun c185 => ?_) (fun c185 => ?_)
                            · skip
                              have d185 := c185
                              rw [fa_le] at d185
                              refine lv_iconst (v := 0) hx hb dX10_keep_272 (by decide) ?_
                              have hP := wm_eq rfl rfl (ec_r_29_30_31_32__29_30_31_32 r ((upd (r 29) d.toNatClampNeg what)) ((upd (r 30) d.toNatClampNeg v110)) ((upd (r 31) d.toNatClampNeg r149)) ((upd (r 32) d.toNatClampNeg (((-15) : Int32))))) rfl hP
                              exact W.iret (v := (0 : Int32)) hx hb hr (fun t ht hW => ⟨⟨_, ((upd f 0 (0 : Int32)), g, (va_up (va_up (va_up (va_up r 29 (((upd (r 29) d.toNatClampNeg what)))) 30 (((upd (r 30) d.toNatClampNeg v110)))) 31 (((upd (r 31) d.toNatClampNeg r149)))) 32 (((upd (r 32) d.toNatClampNeg (((-15) : Int32)))))), (va_up q 33 s3)), rfl, ⟨((upd (r 29) d.toNatClampNeg what)), ((upd (r 30) d.toNatClampNeg v110)), ((upd (r 31) d.toNatClampNeg r149)), ((upd (r 32) d.toNatClampNeg (((-15) : Int32)))), s3, rfl, ⟨(Or.inl ⟨⟨b9, (by unfold okJob; first | exact Or.inl (by omega) | exact Or.inr (Or.inl ⟨by omega, b31⟩) | (have z9 := goodP_of b64; subst e52; subst e58; exact Or.inr (Or.inr ⟨by omega, b44, z9.2⟩)))⟩, rfl⟩), (Or.inl ⟨⟨b9, (by unfold okJob; first | exact Or.inl (by omega) | exact Or.inr (Or.inl ⟨by omega, b31⟩) | (have z9 := goodP_of b64; subst e52; subst e58; exact Or.inr (Or.inr ⟨by omega, b44, z9.2⟩)))⟩, _, rfl, rfl, (fun z9 => by first | (exfalso; omega) | exact y110), (fun z9 => by first | (exfalso; omega) | exact y131), (by have c9 := m_cl (x := nv9) (by omega); rw [j177_1, ← hnv9, show i = nv9.toNatClampNeg by omega]), (by have c9 := m_cl (x := nv9) (by omega); rw [hnv9] at c9; omega)⟩), by first | exact hI | exact mi_sz (d := d) hI (v := v110) (by omega) rfl rfl rfl rfl rfl rfl rfl rfl | exact mi_sz (d := d) hI (v := v131) (by omega) rfl rfl rfl rfl rfl rfl rfl rfl | exact mi_sz (d := d) hI (v := 0) (by decide) rfl rfl rfl rfl rfl rfl rfl rfl⟩⟩, by unfold mB; rw [ht]; exact hP⟩, hS.F ht⟩) hS.2.2 dX10_keep_273
                            · skip
                              have d185 := c185
                              rw [fa_le] at d185
                              refine lv_aload_n hx hb dX10_keep_188 rfl (lv_at hl 2 rfl) ?_
                              refine m_get (v := .ref (a 33)) hx hb hts hin hown hK hP 33 (by decide) rfl (hts (.fieldLink RX10 73 "ShadowBenchModel" "shelfRow" "[J") (by decide +kernel)) rfl dX10_keep_189 ?_
                              refine lv_bipush (v := 60) hx hb dX10_keep_192 (by decide) ?_
                              refine lv_iload_n hx hb dX10_keep_194 rfl (lv_at hl 3 rfl) ?_
                              refine lv_imul hx hb dX10_keep_195 ?_
                              refine lv_topi (fun v195 e195 => ?_)
                              have i195 : v195.toInt = 60 * d.toInt := by rw [e195]; exact mulcL rfl (by omega) (by omega)
                              refine lv_iload hx hb dX10_keep_196 (lv_at hl 0 rfl) ?_
                              refine lv_iadd hx hb dX10_keep_198 ?_
                              refine lv_topi (fun v198 e198 => ?_)
                              have i198 : v198.toInt = v195.toInt + (nI i).toInt := by rw [e198]; exact fb_addI (by omega) (by omega)
                              have cd9 := m_cl (x := d) (by omega)
                              have cv9 := m_cl (x := v198) (by omega)
                              have f198 : v198.toNatClampNeg = 60 * d.toNatClampNeg + i := by omega
                              refine lv_iload_n hx hb dX10_keep_199 rfl (lv_at hl 4 rfl) ?_
                              refine lv_iconst (v := 3) hx hb dX10_keep_200 (by decide) ?_
                              refine lv_icmp_ne (tgt := 215) hx hb dX10_keep_201 (by decide) (fun c201 => ?_) (fun c201 => ?_)
                              · first | exact absurd c201 c95 | exact absurd c95 c201
                              · skip
                                have d201 := c201
                                rw [fa_eq] at d201
                                refine lv_lload hx hb dX10_keep_204 (lv_at hl 6 rfl) ?_
                                refine lv_iload hx hb dX10_keep_206 (lv_at hl 0 rfl) ?_
                                refine m_pu (As := [.long p0, .int (nI i)]) (rest := [.int v198, .ref (a 33)]) ⟨hx, hb, hml, hown, hts⟩ (c_X10_one l p0 (nI i) ) (va_cwS 2 hts gX10_keep_X10_one rfl rfl rfl (by decide +kernel) ⟨Nat.le_of_ble_eq_true rfl, Nat.le_of_ble_eq_true rfl⟩) hP rfl hl.1 rfl (Nat.le_of_ble_eq_true rfl) dX10_keep_208 ⟨Nat.le_of_ble_eq_true rfl, Nat.le_of_ble_eq_true rfl⟩ hS (fun r208 H locs q208 hP hS => ?_)
                                have i208 : r208.toInt = (r_one p0 (nI i)).toInt := congrArg Int32.toInt q208
                                refine lv_i2l (v := r208.toInt64) hx hb dX10_keep_211 rfl ?_
                                refine lv_goto (tgt := 265) hx hb dX10_keep_212 (by decide) ?_
                                refine m_last (w := s3) hx hb hK hP hD hS 21 rfl (vp_in_iff.mpr ⟨by omega, by omega⟩) (va_up (va_up q 33 s3) 33 (vp_updL s3 v198.toNatClampNeg r208.toInt64)) (ms_33 cy mo a _ _ _ _ _) dX10_keep_265 (fun H locs hP hS => ?_)
                                have hP := wm_eq rfl rfl rfl (es_q_33__33 q s3 (vp_updL s3 v198.toNatClampNeg r208.toInt64)) hP
                                refine lv_iinc (v := (nI (i + 1))) (lv' := [(7, .int (nI (i + 1))), (6, .int (1 : Int32)), (0, .ref mo), (1, .int d), (2, .int what), (3, .int k0), (4, .long p0)]) hx hb dX10_keep_266 hl (k := 0) rfl (nI_1 _) (by decide) rfl (fun ls hl => ?_)
                                refine lv_goto (tgt := 177) hx hb dX10_keep_269 (by decide) ?_
                                have hP := wm_eq rfl rfl (ec_r_29_30_31_32__29_30_31_32 r ((upd (r 29) d.toNatClampNeg what)) ((upd (r 30) d.toNatClampNeg v110)) ((upd (r 31) d.toNatClampNeg r149)) ((upd (r 32) d.toNatClampNeg (((-15) : Int32))))) rfl hP
                                exact ih_177 (i + 1) (vp_updL s3 v198.toNatClampNeg r208.toInt64) (by omega) (by rw [j177_1, f198]; exact setQ_v (by first | (rw [keG_3 (by omega)]; exact one_bI (by omega) q208) | (rw [keG_4 (by omega) (by omega), e237, f236]; done) | (rw [keG_5 (by omega) (by omega), e263, f262]; done) | (exfalso; omega))) (by omega) _ _ hP hS ls (lv_sub hl [0, 1, 2, 3, 4, 5, 6] rfl)
                        have hP := wm_eq rfl rfl (ec_r_29_30_31_32__29_30_31_32 r ((upd (r 29) d.toNatClampNeg what)) ((upd (r 30) d.toNatClampNeg v110)) ((upd (r 31) d.toNatClampNeg r149)) ((upd (r 32) d.toNatClampNeg (((-15) : Int32))))) (ec_q___33 q ) hP
                        exact loop_177 (60 + 1) 0 (q 33) (by omega) ((setQ_0 _ _ _).symm) (by omega) _ _ hP hS ls (lv_sub hl [0, 1, 2, 3, 4, 5, 6] rfl)
                · first | exact absurd c76 (by decide) | exact absurd (by decide) c76
      · skip
        have d18 := c18
        rw [fa_eq] at d18
        refine lv_iload_n hx hb dX10_keep_21 rfl (lv_at hl 2 rfl) ?_
        refine lv_iconst (v := 4) hx hb dX10_keep_22 (by decide) ?_
        refine lv_icmp_ne (tgt := 34) hx hb dX10_keep_23 (by decide) (fun c23 => ?_) (fun c23 => ?_)
        · skip
          have d23 := c23
          rw [fa_eq] at d23
          refine lv_iload_n hx hb dX10_keep_34 rfl (lv_at hl 2 rfl) ?_
          refine lv_iconst (v := 3) hx hb dX10_keep_35 (by decide) ?_
          refine lv_icmp_ne (tgt := 71) hx hb dX10_keep_36 (by decide) (fun c36 => ?_) (fun c36 => ?_)
          · skip
            have d36 := c36
            rw [fa_eq] at d36
            refine lv_iconst (v := 0) hx hb dX10_keep_71 (by decide) ?_
            refine lv_istore (lv' := [(6, .int (0 : Int32)), (0, .ref mo), (1, .int d), (2, .int what), (3, .int k0), (4, .long p0)]) hx hb dX10_keep_72 hl (by decide) rfl (fun ls hl => ?_)
            refine lv_iload hx hb dX10_keep_74 (lv_at hl 0 rfl) ?_
            refine lv_if_ne (tgt := 81) hx hb dX10_keep_76 (by decide) (fun c76 => ?_) (fun c76 => ?_)
            · first | exact absurd c76 (by decide) | exact absurd (by decide) c76
            · skip
              have d76 := c76
              rw [fa_eq] at d76
              refine lv_iconst (v := (-1)) hx hb dX10_keep_79 (by decide) ?_
              have hP := wm_eq rfl rfl (ec_r___29_30_31_32 r ) (ec_q___33 q ) hP
              exact W.iret (v := ((-1) : Int32)) hx hb hr (fun t ht hW => ⟨⟨_, ((upd f 0 (0 : Int32)), g, (va_up (va_up (va_up (va_up r 29 (r 29)) 30 (r 30)) 31 (r 31)) 32 (r 32)), (va_up q 33 (q 33))), rfl, ⟨(r 29), (r 30), (r 31), (r 32), (q 33), rfl, ⟨(Or.inr ⟨(fun z9 => by unfold okKeep okJob at z9; rcases z9.2 with z8 | ⟨z8, z7⟩ | ⟨z8, z7, z6⟩; (first | exact b9 z9.1 | omega); (first | exact b9 z9.1 | exact b31 z7 | omega); (first | exact b9 z9.1 | exact b44 z7 | (have szw := mi_w hI (x := k0) (by omega) (by omega) rfl; have szh := mi_h hI (x := k0) (by omega) (by omega) rfl; subst e52; subst e58; exact goodP_no b64 ⟨⟨szw, szh⟩, z6⟩) | omega)), rfl⟩), (Or.inr ⟨(fun z9 => by unfold okKeep okJob at z9; rcases z9.2 with z8 | ⟨z8, z7⟩ | ⟨z8, z7, z6⟩; (first | exact b9 z9.1 | omega); (first | exact b9 z9.1 | exact b31 z7 | omega); (first | exact b9 z9.1 | exact b44 z7 | (have szw := mi_w hI (x := k0) (by omega) (by omega) rfl; have szh := mi_h hI (x := k0) (by omega) (by omega) rfl; subst e52; subst e58; exact goodP_no b64 ⟨⟨szw, szh⟩, z6⟩) | omega)), rfl, rfl, rfl⟩), by first | exact hI | exact mi_sz (d := d) hI (v := v110) (by omega) rfl rfl rfl rfl rfl rfl rfl rfl | exact mi_sz (d := d) hI (v := v131) (by omega) rfl rfl rfl rfl rfl rfl rfl rfl | exact mi_sz (d := d) hI (v := 0) (by decide) rfl rfl rfl rfl rfl rfl rfl rfl⟩⟩, by unfold mB; rw [ht]; exact hP⟩, hS.F ht⟩) hS.2.2 dX10_keep_80
          · skip
            have d36 := c36
            rw [fa_eq] at d36
            refine lv_aload_n hx hb dX10_keep_39 rfl (lv_at hl 0 rfl) ?_
            refine lv_iload_n hx hb dX10_keep_40 rfl (lv_at hl 3 rfl) ?_
            refine m_calli (As := [.int k0]) (rest := []) ⟨hx, hb, hml, hown, hts⟩ (c_X10_isJob l D cy mo a (upd f 0 (0 : Int32)) g r q k0 hD) (cwV 1 hts gX10_keep_X10_isJob rfl rfl rfl (by decide +kernel) ⟨Nat.le_of_ble_eq_true rfl, Nat.le_of_ble_eq_true rfl⟩) hK hP rfl hl.1 rfl (Nat.le_of_ble_eq_true rfl) dX10_keep_41 ⟨Nat.le_of_ble_eq_true rfl, Nat.le_of_ble_eq_true rfl⟩ hS (fun r41 u H locs q41 hP hS => ?_)
            obtain ⟨rfl, q41⟩ := q41
            have hP : va_P D vwCl (WM cy mo a (upd f 0 (0 : Int32)) g r q) H := hP
            have q41 : Bo r41 (0 ≤ k0.toInt ∧ k0.toInt < ((f 1)).toInt) := q41
            refine lv_if_eq (tgt := 71) hx hb dX10_keep_44 (by decide) (fun c44 => ?_) (fun c44 => ?_)
            · skip
              have b44 := bo_f q41 c44
              refine lv_iconst (v := 0) hx hb dX10_keep_71 (by decide) ?_
              refine lv_istore (lv' := [(6, .int (0 : Int32)), (0, .ref mo), (1, .int d), (2, .int what), (3, .int k0), (4, .long p0)]) hx hb dX10_keep_72 hl (by decide) rfl (fun ls hl => ?_)
              refine lv_iload hx hb dX10_keep_74 (lv_at hl 0 rfl) ?_
              refine lv_if_ne (tgt := 81) hx hb dX10_keep_76 (by decide) (fun c76 => ?_) (fun c76 => ?_)
              · first | exact absurd c76 (by decide) | exact absurd (by decide) c76
              · skip
                have d76 := c76
                rw [fa_eq] at d76
                refine lv_iconst (v := (-1)) hx hb dX10_keep_79 (by decide) ?_
                have hP := wm_eq rfl rfl (ec_r___29_30_31_32 r ) (ec_q___33 q ) hP
                exact W.iret (v := ((-1) : Int32)) hx hb hr (fun t ht hW => ⟨⟨_, ((upd f 0 (0 : Int32)), g, (va_up (va_up (va_up (va_up r 29 (r 29)) 30 (r 30)) 31 (r 31)) 32 (r 32)), (va_up q 33 (q 33))), rfl, ⟨(r 29), (r 30), (r 31), (r 32), (q 33), rfl, ⟨(Or.inr ⟨(fun z9 => by unfold okKeep okJob at z9; rcases z9.2 with z8 | ⟨z8, z7⟩ | ⟨z8, z7, z6⟩; (first | exact b9 z9.1 | omega); (first | exact b9 z9.1 | exact b31 z7 | omega); (first | exact b9 z9.1 | exact b44 z7 | (have szw := mi_w hI (x := k0) (by omega) (by omega) rfl; have szh := mi_h hI (x := k0) (by omega) (by omega) rfl; subst e52; subst e58; exact goodP_no b64 ⟨⟨szw, szh⟩, z6⟩) | omega)), rfl⟩), (Or.inr ⟨(fun z9 => by unfold okKeep okJob at z9; rcases z9.2 with z8 | ⟨z8, z7⟩ | ⟨z8, z7, z6⟩; (first | exact b9 z9.1 | omega); (first | exact b9 z9.1 | exact b31 z7 | omega); (first | exact b9 z9.1 | exact b44 z7 | (have szw := mi_w hI (x := k0) (by omega) (by omega) rfl; have szh := mi_h hI (x := k0) (by omega) (by omega) rfl; subst e52; subst e58; exact goodP_no b64 ⟨⟨szw, szh⟩, z6⟩) | omega)), rfl, rfl, rfl⟩), by first | exact hI | exact mi_sz (d := d) hI (v := v110) (by omega) rfl rfl rfl rfl rfl rfl rfl rfl | exact mi_sz (d := d) hI (v := v131) (by omega) rfl rfl rfl rfl rfl rfl rfl rfl | exact mi_sz (d := d) hI (v := 0) (by decide) rfl rfl rfl rfl rfl rfl rfl rfl⟩⟩, by unfold mB; rw [ht]; exact hP⟩, hS.F ht⟩) hS.2.2 dX10_keep_80
            · skip
              have b44 := bo_t q41 c44
              refine lv_aload_n hx hb dX10_keep_47 rfl (lv_at hl 0 rfl) ?_
              refine m_get (v := .ref (a 3)) hx hb hts hin hown hK hP 3 (by decide) rfl (hts (.fieldLink RX10 13 "ShadowBenchModel" "wide" "[I") (by decide +kernel)) rfl dX10_keep_48 ?_
              refine lv_iload_n hx hb dX10_keep_51 rfl (lv_at hl 3 rfl) ?_
              refine m_iald (w := (r 3)) hx hb hK hP 2 rfl (vp_in_iff.mpr ⟨by omega, by omega⟩) dX10_keep_52 ?_
              refine lv_topi (fun v52 e52 => ?_)
              have i52 : v52.toInt = ((r 3) k0.toNatClampNeg).toInt := congrArg Int32.toInt e52
              have w52 := mi_w hI (x := k0) (by omega) (by omega) e52
              refine lv_aload_n hx hb dX10_keep_53 rfl (lv_at hl 0 rfl) ?_
              refine m_get (v := .ref (a 4)) hx hb hts hin hown hK hP 4 (by decide) rfl (hts (.fieldLink RX10 16 "ShadowBenchModel" "high" "[I") (by decide +kernel)) rfl dX10_keep_54 ?_
              refine lv_iload_n hx hb dX10_keep_57 rfl (lv_at hl 3 rfl) ?_
              refine m_iald (w := (r 4)) hx hb hK hP 3 rfl (vp_in_iff.mpr ⟨by omega, by omega⟩) dX10_keep_58 ?_
              refine lv_topi (fun v58 e58 => ?_)
              have i58 : v58.toInt = ((r 4) k0.toNatClampNeg).toInt := congrArg Int32.toInt e58
              have w58 := mi_h hI (x := k0) (by omega) (by omega) e58
              refine lv_lload hx hb dX10_keep_59 (lv_at hl 4 rfl) ?_
              refine m_pu (As := [.int v52, .int v58, .long p0]) (rest := []) ⟨hx, hb, hml, hown, hts⟩ (c_X10_isPicture l v52 v58 p0 ) (va_cwS 3 hts gX10_keep_X10_isPicture rfl rfl rfl (by decide +kernel) ⟨Nat.le_of_ble_eq_true rfl, Nat.le_of_ble_eq_true rfl⟩) hP rfl hl.1 rfl (Nat.le_of_ble_eq_true rfl) dX10_keep_61 ⟨Nat.le_of_ble_eq_true rfl, Nat.le_of_ble_eq_true rfl⟩ hS (fun r61 H locs q61 hP hS => ?_)
              refine lv_if_eq (tgt := 71) hx hb dX10_keep_64 (by decide) (fun c64 => ?_) (fun c64 => ?_)
              · skip
                have b64 := bo_f q61 c64
                refine lv_iconst (v := 0) hx hb dX10_keep_71 (by decide) ?_
                refine lv_istore (lv' := [(6, .int (0 : Int32)), (0, .ref mo), (1, .int d), (2, .int what), (3, .int k0), (4, .long p0)]) hx hb dX10_keep_72 hl (by decide) rfl (fun ls hl => ?_)
                refine lv_iload hx hb dX10_keep_74 (lv_at hl 0 rfl) ?_
                refine lv_if_ne (tgt := 81) hx hb dX10_keep_76 (by decide) (fun c76 => ?_) (fun c76 => ?_)
                · first | exact absurd c76 (by decide) | exact absurd (by decide) c76
                · skip
                  have d76 := c76
                  rw [fa_eq] at d76
                  refine lv_iconst (v := (-1)) hx hb dX10_keep_79 (by decide) ?_
                  have hP := wm_eq rfl rfl (ec_r___29_30_31_32 r ) (ec_q___33 q ) hP
                  exact W.iret (v := ((-1) : Int32)) hx hb hr (fun t ht hW => ⟨⟨_, ((upd f 0 (0 : Int32)), g, (va_up (va_up (va_up (va_up r 29 (r 29)) 30 (r 30)) 31 (r 31)) 32 (r 32)), (va_up q 33 (q 33))), rfl, ⟨(r 29), (r 30), (r 31), (r 32), (q 33), rfl, ⟨(Or.inr ⟨(fun z9 => by unfold okKeep okJob at z9; rcases z9.2 with z8 | ⟨z8, z7⟩ | ⟨z8, z7, z6⟩; (first | exact b9 z9.1 | omega); (first | exact b9 z9.1 | exact b31 z7 | omega); (first | exact b9 z9.1 | exact b44 z7 | (have szw := mi_w hI (x := k0) (by omega) (by omega) rfl; have szh := mi_h hI (x := k0) (by omega) (by omega) rfl; subst e52; subst e58; exact goodP_no b64 ⟨⟨szw, szh⟩, z6⟩) | omega)), rfl⟩), (Or.inr ⟨(fun z9 => by unfold okKeep okJob at z9; rcases z9.2 with z8 | ⟨z8, z7⟩ | ⟨z8, z7, z6⟩; (first | exact b9 z9.1 | omega); (first | exact b9 z9.1 | exact b31 z7 | omega); (first | exact b9 z9.1 | exact b44 z7 | (have szw := mi_w hI (x := k0) (by omega) (by omega) rfl; have szh := mi_h hI (x := k0) (by omega) (by omega) rfl; subst e52; subst e58; exact goodP_no b64 ⟨⟨szw, szh⟩, z6⟩) | omega)), rfl, rfl, rfl⟩), by first | exact hI | exact mi_sz (d := d) hI (v := v110) (by omega) rfl rfl rfl rfl rfl rfl rfl rfl | exact mi_sz (d := d) hI (v := v131) (by omega) rfl rfl rfl rfl rfl rfl rfl rfl | exact mi_sz (d := d) hI (v := 0) (by decide) rfl rfl rfl rfl rfl rfl rfl rfl⟩⟩, by unfold mB; rw [ht]; exact hP⟩, hS.F ht⟩) hS.2.2 dX10_keep_80
              · skip
                have b64 := bo_t q61 c64
                refine lv_iconst (v := 1) hx hb dX10_keep_67 (by decide) ?_
                refine lv_goto (tgt := 72) hx hb dX10_keep_68 (by decide) ?_
                refine lv_istore (lv' := [(6, .int (1 : Int32)), (0, .ref mo), (1, .int d), (2, .int what), (3, .int k0), (4, .long p0)]) hx hb dX10_keep_72 hl (by decide) rfl (fun ls hl => ?_)
                refine lv_iload hx hb dX10_keep_74 (lv_at hl 0 rfl) ?_
                refine lv_if_ne (tgt := 81) hx hb dX10_keep_76 (by decide) (fun c76 => ?_) (fun c76 => ?_)
                · skip
                  have d76 := c76
                  rw [fa_eq] at d76
                  refine lv_aload_n hx hb dX10_keep_81 rfl (lv_at hl 1 rfl) ?_
                  refine m_get (v := .ref (a 29)) hx hb hts hin hown hK hP 29 (by decide) rfl (hts (.fieldLink RX10 61 "ShadowBenchModel" "shelf" "[I") (by decide +kernel)) rfl dX10_keep_82 ?_
                  refine lv_iload_n hx hb dX10_keep_85 rfl (lv_at hl 2 rfl) ?_
                  refine lv_iload_n hx hb dX10_keep_86 rfl (lv_at hl 3 rfl) ?_
                  refine m_iast (w := (r 29)) hx hb hK hP hD hS 17 rfl (vp_in_iff.mpr ⟨by omega, by omega⟩) (va_up r 29 (upd (r 29) d.toNatClampNeg what)) (ms_29 cy mo a _ _ _ _ _) dX10_keep_87 (fun H locs hP hS => ?_)
                  refine lv_aload_n hx hb dX10_keep_88 rfl (lv_at hl 1 rfl) ?_
                  refine m_get (v := .ref (a 30)) hx hb hts hin hown hK hP 30 (by decide) rfl (hts (.fieldLink RX10 64 "ShadowBenchModel" "shelfSize" "[I") (by decide +kernel)) rfl dX10_keep_89 ?_
                  refine lv_iload_n hx hb dX10_keep_92 rfl (lv_at hl 2 rfl) ?_
                  refine lv_iload_n hx hb dX10_keep_93 rfl (lv_at hl 3 rfl) ?_
                  refine lv_iconst (v := 3) hx hb dX10_keep_94 (by decide) ?_
                  refine lv_icmp_ne (tgt := 114) hx hb dX10_keep_95 (by decide) (fun c95 => ?_) (fun c95 => ?_)
                  · first | exact absurd c95 c36 | exact absurd c36 c95
                  · skip
                    have d95 := c95
                    rw [fa_eq] at d95
                    refine lv_aload_n hx hb dX10_keep_98 rfl (lv_at hl 1 rfl) ?_
                    refine m_get (v := .ref (a 3)) hx hb hts hin hown hK hP 3 (by decide) rfl (hts (.fieldLink RX10 13 "ShadowBenchModel" "wide" "[I") (by decide +kernel)) rfl dX10_keep_99 ?_
                    refine lv_iload_n hx hb dX10_keep_102 rfl (lv_at hl 4 rfl) ?_
                    refine m_iald (w := (r 3)) hx hb hK hP 2 rfl (vp_in_iff.mpr ⟨by omega, by omega⟩) dX10_keep_103 ?_
                    refine lv_topi (fun v103 e103 => ?_)
                    have i103 : v103.toInt = ((r 3) k0.toNatClampNeg).toInt := congrArg Int32.toInt e103
                    have w103 := mi_w hI (x := k0) (by omega) (by omega) e103
                    refine lv_aload_n hx hb dX10_keep_104 rfl (lv_at hl 1 rfl) ?_
                    refine m_get (v := .ref (a 4)) hx hb hts hin hown hK hP 4 (by decide) rfl (hts (.fieldLink RX10 16 "ShadowBenchModel" "high" "[I") (by decide +kernel)) rfl dX10_keep_105 ?_
                    refine lv_iload_n hx hb dX10_keep_108 rfl (lv_at hl 4 rfl) ?_
                    refine m_iald (w := (r 4)) hx hb hK hP 3 rfl (vp_in_iff.mpr ⟨by omega, by omega⟩) dX10_keep_109 ?_
                    refine lv_topi (fun v109 e109 => ?_)
                    have i109 : v109.toInt = ((r 4) k0.toNatClampNeg).toInt := congrArg Int32.toInt e109
                    have w109 := mi_h hI (x := k0) (by omega) (by omega) e109
                    have m110 := mul66 w103 w109
                    refine lv_imul hx hb dX10_keep_110 ?_
                    refine lv_topi (fun v110 e110 => ?_)
                    have i110 : v110.toInt = v103.toInt * v109.toInt := by rw [e110]; exact fb_mulI (by omega) (by omega)
                    have y110 : v110.toInt = (((r 3 k0.toNatClampNeg).toNatClampNeg * (r 4 k0.toNatClampNeg).toNatClampNeg : Nat) : Int) := by rw [sq_eq hI (j := k0) (by omega) (by omega), i110, e103, e109]
                    obtain ⟨nv9, hnv9⟩ : ∃ z9, z9 = v110 := ⟨_, rfl⟩
                    have n184 := congrArg Int32.toInt hnv9
                    refine lv_goto (tgt := 136) hx hb dX10_keep_111 (by decide) ?_
                    refine m_iast (w := (r 30)) hx hb hK hP hD hS 18 rfl (vp_in_iff.mpr ⟨by omega, by omega⟩) (va_up (va_up r 29 ((upd (r 29) d.toNatClampNeg what))) 30 (upd (r 30) d.toNatClampNeg v110)) (ms_30 cy mo a _ _ _ _ _) dX10_keep_136 (fun H locs hP hS => ?_)
                    refine lv_iload_n hx hb dX10_keep_137 rfl (lv_at hl 3 rfl) ?_
                    refine lv_iconst (v := 1) hx hb dX10_keep_138 (by decide) ?_
                    refine lv_icmp_ne (tgt := 174) hx hb dX10_keep_139 (by decide) (fun c139 => ?_) (fun c139 => ?_)
                    · skip
                      have d139 := c139
                      rw [fa_eq] at d139
                      refine lv_iconst (v := 0) hx hb dX10_keep_174 (by decide) ?_
                      refine lv_istore (lv' := [(7, .int (0 : Int32)), (6, .int (1 : Int32)), (0, .ref mo), (1, .int d), (2, .int what), (3, .int k0), (4, .long p0)]) hx hb dX10_keep_175 hl (by decide) rfl (fun ls hl => ?_)
                      have loop_177 : ∀ (n : Nat) (i : Nat) (s3 : Nat → Int64), (i ≤ 60 ∧ (i : Int) ≤ nv9.toInt) → (s3 = setQ (q 33) (60 * d.toNatClampNeg) (keG what p0 (r 4 k0.toNatClampNeg).toNatClampNeg (fun x9 => r 5 (44 * k0.toNatClampNeg + x9))) i) → 60 - i < n → ∀ (H : Heap) (locs : List Loc), va_P D vwCl (WM cy mo a (upd f 0 (0 : Int32)) g (va_up (va_up r 29 ((upd (r 29) d.toNatClampNeg what))) 30 ((upd (r 30) d.toNatClampNeg v110))) (va_up q 33 s3)) H → va_S (AM mo a) s.heap H locs → ∀ (ls : Array Slot), lv_has ls 8 [(7, .int (nI i)), (6, .int (1 : Int32)), (0, .ref mo), (1, .int d), (2, .int what), (3, .int k0), (4, .long p0)] → W p l e (headSpec wsX10_keep ({ frames := 3, cells := 0, slots := 0, locals := 69 })).room s m #[Value.ref mo, Value.int d, Value.int what, Value.int k0, Value.long p0] below meth c H locs 0 0 (MQ below (va_Qi (fun r0 u => ∃ (sh : Nat → Int32), ∃ (sz : Nat → Int32), ∃ (sw : Nat → Int32), ∃ (sf : Nat → Int32), ∃ (sr : Nat → Int64), u = ((upd f 0 (0 : Int32)), g, (va_up (va_up (va_up (va_up r 29 sh) 30 sz) 31 sw) 32 sf), (va_up q 33 sr)) ∧ (yesNo (okKeep (f 1) (fun j9 => (r 3 j9).toNatClampNeg) (fun j9 => (r 4 j9).toNatClampNeg) d what k0 p0) 0 (-1) r0 ∧ ((okKeep (f 1) (fun j9 => (r 3 j9).toNatClampNeg) (fun j9 => (r 4 j9).toNatClampNeg) d what k0 p0 ∧ ∃ nv, sh = upd (r 29) d.toNatClampNeg what ∧ sz = upd (r 30) d.toNatClampNeg nv ∧ (what.toInt = 3 → nv.toInt = (((r 3 k0.toNatClampNeg).toNatClampNeg * (r 4 k0.toNatClampNeg).toNatClampNeg : Nat) : Int)) ∧ (what.toInt = 4 → nv.toInt = (((r 4 k0.toNatClampNeg).toNatClampNeg + (r 3 k0.toNatClampNeg).toNatClampNeg : Nat) : Int)) ∧ sr = setQ (q 33) (60 * d.toNatClampNeg) (keG what p0 (r 4 k0.toNatClampNeg).toNatClampNeg (fun x9 => r 5 (44 * k0.toNatClampNeg + x9))) nv.toNatClampNeg ∧ nv.toNatClampNeg ≤ 60) ∨ (¬ okKeep (f 1) (fun j9 => (r 3 j9).toNatClampNeg) (fun j9 => (r 4 j9).toNatClampNeg) d what k0 p0 ∧ sh = r 29 ∧ sz = r 30 ∧ sr = q 33)) ∧ MI (upd f 0 (0 : Int32)) (va_up (va_up (va_up (va_up r 29 sh) 30 sz) 31 sw) 32 sf))) (mB D cy mo a) (AM mo a)) #[Value.ref mo, Value.int d, Value.int what, Value.int k0, Value.long p0] s 0 0 (AM mo a)) (F0 m 177 ls []) := by
                        intro n
                        induction n with
                        | zero => intro i s3 j177_0 j177_1 hn; exact absurd hn (Nat.not_lt_zero _)
                        | succ n ih_177 =>
                          intro i s3 j177_0 j177_1 hn_177 H locs hP hS ls hl
                          have ii : (nI i).toInt = (i : Int) := nI_toInt (by omega)
                          refine lv_iload hx hb dX10_keep_177 (lv_at hl 0 rfl) ?_
                          refine lv_aload_n hx hb dX10_keep_179 rfl (lv_at hl 2 rfl) ?_
                          refine m_get (v := .ref (a 30)) hx hb hts hin hown hK hP 30 (by decide) rfl (hts (.fieldLink RX10 64 "ShadowBenchModel" "shelfSize" "[I") (by decide +kernel)) rfl dX10_keep_180 ?_
                          refine lv_iload_n hx hb dX10_keep_183 rfl (lv_at hl 3 rfl) ?_
                          refine m_iald (w := ((upd (r 30) d.toNatClampNeg v110))) hx hb hK hP 18 rfl (vp_in_iff.mpr ⟨by omega, by omega⟩) dX10_keep_184 ?_
                          refine lv_topi (fun v184 e184 => ?_)
                          have i184 : v184.toInt = (((upd (r 30) d.toNatClampNeg v110)) d.toNatClampNeg).toInt := congrArg Int32.toInt e184
                          have z184 := e184
                          simp only [upd, if_true] at z184
                          have y184 := congrArg Int32.toInt z184
                          have y184 : v184 = nv9 := by rw [e184, hnv9]; simp only [upd, if_true]
                          have i184 := congrArg Int32.toInt y184
                          refine lv_icmp_ge (tgt := 272) hx hb dX10_keep_185 (by decide) (fun c185 => ?_) (fun c185 => ?_)
                          · skip
                            have d185 := c185
                            rw [fa_le] at d185
                            refine lv_iconst (v := 0) hx hb dX10_keep_272 (by decide) ?_
                            have hP := wm_eq rfl rfl (ec_r_29_30__29_30_31_32 r ((upd (r 29) d.toNatClampNeg what)) ((upd (r 30) d.toNatClampNeg v110))) rfl hP
                            exact W.iret (v := (0 : Int32)) hx hb hr (fun t ht hW => ⟨⟨_, ((upd f 0 (0 : Int32)), g, (va_up (va_up (va_up (va_up r 29 (((upd (r 29) d.toNatClampNeg what)))) 30 (((upd (r 30) d.toNatClampNeg v110)))) 31 (r 31)) 32 (r 32)), (va_up q 33 s3)), rfl, ⟨((upd (r 29) d.toNatClampNeg what)), ((upd (r 30) d.toNatClampNeg v110)), (r 31), (r 32), s3, rfl, ⟨(Or.inl ⟨⟨b9, (by unfold okJob; first | exact Or.inl (by omega) | exact Or.inr (Or.inl ⟨by omega, b31⟩) | (have z9 := goodP_of b64; subst e52; subst e58; exact Or.inr (Or.inr ⟨by omega, b44, z9.2⟩)))⟩, rfl⟩), (Or.inl ⟨⟨b9, (by unfold okJob; first | exact Or.inl (by omega) | exact Or.inr (Or.inl ⟨by omega, b31⟩) | (have z9 := goodP_of b64; subst e52; subst e58; exact Or.inr (Or.inr ⟨by omega, b44, z9.2⟩)))⟩, _, rfl, rfl, (fun z9 => by first | (exfalso; omega) | exact y110), (fun z9 => by first | (exfalso; omega) | exact y131), (by have c9 := m_cl (x := nv9) (by omega); rw [j177_1, ← hnv9, show i = nv9.toNatClampNeg by omega]), (by have c9 := m_cl (x := nv9) (by omega); rw [hnv9] at c9; omega)⟩), by first | exact hI | exact mi_sz (d := d) hI (v := v110) (by omega) rfl rfl rfl rfl rfl rfl rfl rfl | exact mi_sz (d := d) hI (v := v131) (by omega) rfl rfl rfl rfl rfl rfl rfl rfl | exact mi_sz (d := d) hI (v := 0) (by decide) rfl rfl rfl rfl rfl rfl rfl rfl⟩⟩, by unfold mB; rw [ht]; exact hP⟩, hS.F ht⟩) hS.2.2 dX10_keep_273
                          · skip
                            have d185 := c185
                            rw [fa_le] at d185
                            refine lv_aload_n hx hb dX10_keep_188 rfl (lv_at hl 2 rfl) ?_
                            refine m_get (v := .ref (a 33)) hx hb hts hin hown hK hP 33 (by decide) rfl (hts (.fieldLink RX10 73 "ShadowBenchModel" "shelfRow" "[J") (by decide +kernel)) rfl dX10_keep_189 ?_
                            refine lv_bipush (v := 60) hx hb dX10_keep_192 (by decide) ?_
                            refine lv_iload_n hx hb dX10_keep_194 rfl (lv_at hl 3 rfl) ?_
                            refine lv_imul hx hb dX10_keep_195 ?_
                            refine lv_topi (fun v195 e195 => ?_)
                            have i195 : v195.toInt = 60 * d.toInt := by rw [e195]; exact mulcL rfl (by omega) (by omega)
                            refine lv_iload hx hb dX10_keep_196 (lv_at hl 0 rfl) ?_
                            refine lv_iadd hx hb dX10_keep_198 ?_
                            refine lv_topi (fun v198 e198 => ?_)
                            have i198 : v198.toInt = v195.toInt + (nI i).toInt := by rw [e198]; exact fb_addI (by omega) (by omega)
                            have cd9 := m_cl (x := d) (by omega)
                            have cv9 := m_cl (x := v198) (by omega)
                            have f198 : v198.toNatClampNeg = 60 * d.toNatClampNeg + i := by omega
                            refine lv_iload_n hx hb dX10_keep_199 rfl (lv_at hl 4 rfl) ?_
                            refine lv_iconst (v := 3) hx hb dX10_keep_200 (by decide) ?_
                            refine lv_icmp_ne (tgt := 215) hx hb dX10_keep_201 (by decide) (fun c201 => ?_) (fun c201 => ?_)
                            · first | exact absurd c201 c95 | exact absurd c95 c201
                            · skip
                              have d201 := c201
                              rw [fa_eq] at d201
                              refine lv_lload hx hb dX10_keep_204 (lv_at hl 6 rfl) ?_
                              refine lv_iload hx hb dX10_keep_206 (lv_at hl 0 rfl) ?_
                              refine m_pu (As := [.long p0, .int (nI i)]) (rest := [.int v198, .ref (a 33)]) ⟨hx, hb, hml, hown, hts⟩ (c_X10_one l p0 (nI i) ) (va_cwS 2 hts gX10_keep_X10_one rfl rfl rfl (by decide +kernel) ⟨Nat.le_of_ble_eq_true rfl, Nat.le_of_ble_eq_true rfl⟩) hP rfl hl.1 rfl (Nat.le_of_ble_eq_true rfl) dX10_keep_208 ⟨Nat.le_of_ble_eq_true rfl, Nat.le_of_ble_eq_true rfl⟩ hS (fun r208 H locs q208 hP hS => ?_)
                              have i208 : r208.toInt = (r_one p0 (nI i)).toInt := congrArg Int32.toInt q208
                              refine lv_i2l (v := r208.toInt64) hx hb dX10_keep_211 rfl ?_
                              refine lv_goto (tgt := 265) hx hb dX10_keep_212 (by decide) ?_
                              refine m_last (w := s3) hx hb hK hP hD hS 21 rfl (vp_in_iff.mpr ⟨by omega, by omega⟩) (va_up (va_up q 33 s3) 33 (vp_updL s3 v198.toNatClampNeg r208.toInt64)) (ms_33 cy mo a _ _ _ _ _) dX10_keep_265 (fun H locs hP hS => ?_)
                              have hP := wm_eq rfl rfl rfl (es_q_33__33 q s3 (vp_updL s3 v198.toNatClampNeg r208.toInt64)) hP
                              refine lv_iinc (v := (nI (i + 1))) (lv' := [(7, .int (nI (i + 1))), (6, .int (1 : Int32)), (0, .ref mo), (1, .int d), (2, .int what), (3, .int k0), (4, .long p0)]) hx hb dX10_keep_266 hl (k := 0) rfl (nI_1 _) (by decide) rfl (fun ls hl => ?_)
                              refine lv_goto (tgt := 177) hx hb dX10_keep_269 (by decide) ?_
                              have hP := wm_eq rfl rfl (ec_r_29_30__29_30 r ((upd (r 29) d.toNatClampNeg what)) ((upd (r 30) d.toNatClampNeg v110))) rfl hP
                              exact ih_177 (i + 1) (vp_updL s3 v198.toNatClampNeg r208.toInt64) (by omega) (by rw [j177_1, f198]; exact setQ_v (by first | (rw [keG_3 (by omega)]; exact one_bI (by omega) q208) | (rw [keG_4 (by omega) (by omega), e237, f236]; done) | (rw [keG_5 (by omega) (by omega), e263, f262]; done) | (exfalso; omega))) (by omega) _ _ hP hS ls (lv_sub hl [0, 1, 2, 3, 4, 5, 6] rfl)
                      have hP := wm_eq rfl rfl (ec_r_29_30__29_30 r ((upd (r 29) d.toNatClampNeg what)) ((upd (r 30) d.toNatClampNeg v110))) (ec_q___33 q ) hP
                      exact loop_177 (60 + 1) 0 (q 33) (by omega) ((setQ_0 _ _ _).symm) (by omega) _ _ hP hS ls (lv_sub hl [0, 1, 2, 3, 4, 5, 6] rfl)
                    · skip
                      have d139 := c139
                      rw [fa_eq] at d139
                      refine lv_aload_n hx hb dX10_keep_142 rfl (lv_at hl 1 rfl) ?_
                      refine m_get (v := .ref (a 31)) hx hb hts hin hown hK hP 31 (by decide) rfl (hts (.fieldLink RX10 67 "ShadowBenchModel" "shelfWeight" "[I") (by decide +kernel)) rfl dX10_keep_143 ?_
                      refine lv_iload_n hx hb dX10_keep_146 rfl (lv_at hl 2 rfl) ?_
                      refine lv_aload_n hx hb dX10_keep_147 rfl (lv_at hl 1 rfl) ?_
                      refine lv_iload_n hx hb dX10_keep_148 rfl (lv_at hl 4 rfl) ?_
                      refine m_calli (As := [.int k0]) (rest := [.int d, .ref (a 31)]) ⟨hx, hb, hml, hown, hts⟩ (c_X10_weightOf l D cy mo a (upd f 0 (0 : Int32)) g (va_up (va_up r 29 ((upd (r 29) d.toNatClampNeg what))) 30 ((upd (r 30) d.toNatClampNeg v110))) q k0 hD (by first | exact hI | exact mi_sz (d := d) hI (v := 0) (by first | omega | decide) rfl rfl rfl rfl rfl rfl rfl rfl | exact mi_sz (d := d) hI (v := v131) (by first | omega | decide) rfl rfl rfl rfl rfl rfl rfl rfl | exact mi_sz (d := d) hI (v := v110) (by first | omega | decide) rfl rfl rfl rfl rfl rfl rfl rfl) (show 0 ≤ k0.toInt ∧ k0.toInt < (f 1).toInt by omega)) (cwV 1 hts gX10_keep_X10_weightOf rfl rfl rfl (by decide +kernel) ⟨Nat.le_of_ble_eq_true rfl, Nat.le_of_ble_eq_true rfl⟩) hK hP rfl hl.1 rfl (Nat.le_of_ble_eq_true rfl) dX10_keep_149 ⟨Nat.le_of_ble_eq_true rfl, Nat.le_of_ble_eq_true rfl⟩ hS (fun r149 u H locs q149 hP hS => ?_)
                      obtain ⟨rfl, q149⟩ := q149
                      have hP : va_P D vwCl (WM cy mo a (upd f 0 (0 : Int32)) g (va_up (va_up r 29 ((upd (r 29) d.toNatClampNeg what))) 30 ((upd (r 30) d.toNatClampNeg v110))) q) H := hP
                      have q149 : True := q149
                      refine m_iast (w := (r 31)) hx hb hK hP hD hS 19 rfl (vp_in_iff.mpr ⟨by omega, by omega⟩) (va_up (va_up (va_up r 29 ((upd (r 29) d.toNatClampNeg what))) 30 ((upd (r 30) d.toNatClampNeg v110))) 31 (upd (r 31) d.toNatClampNeg r149)) (ms_31 cy mo a _ _ _ _ _) dX10_keep_152 (fun H locs hP hS => ?_)
                      refine lv_aload_n hx hb dX10_keep_153 rfl (lv_at hl 1 rfl) ?_
                      refine m_get (v := .ref (a 32)) hx hb hts hin hown hK hP 32 (by decide) rfl (hts (.fieldLink RX10 70 "ShadowBenchModel" "shelfFailure" "[I") (by decide +kernel)) rfl dX10_keep_154 ?_
                      refine lv_iload_n hx hb dX10_keep_157 rfl (lv_at hl 2 rfl) ?_
                      refine lv_aload_n hx hb dX10_keep_158 rfl (lv_at hl 1 rfl) ?_
                      refine m_get (v := .ref (a 2)) hx hb hts hin hown hK hP 2 (by decide) rfl (hts (.fieldLink RX10 7 "ShadowBenchModel" "kind" "[I") (by decide +kernel)) rfl dX10_keep_159 ?_
                      refine lv_iload_n hx hb dX10_keep_162 rfl (lv_at hl 4 rfl) ?_
                      refine m_iald (w := (r 2)) hx hb hK hP 1 rfl (vp_in_iff.mpr ⟨by omega, by omega⟩) dX10_keep_163 ?_
                      refine lv_topi (fun v163 e163 => ?_)
                      have i163 : v163.toInt = ((r 2) k0.toNatClampNeg).toInt := congrArg Int32.toInt e163
                      refine lv_if_ne (tgt := 172) hx hb dX10_keep_164 (by decide) (fun c164 => ?_) (fun c164 => ?_)
                      · skip
                        have d164 := c164
                        rw [fa_eq] at d164
                        refine lv_iload_n hx hb dX10_keep_172 rfl (lv_at hl 4 rfl) ?_
                        refine m_iast (w := (r 32)) hx hb hK hP hD hS 20 rfl (vp_in_iff.mpr ⟨by omega, by omega⟩) (va_up (va_up (va_up (va_up r 29 ((upd (r 29) d.toNatClampNeg what))) 30 ((upd (r 30) d.toNatClampNeg v110))) 31 ((upd (r 31) d.toNatClampNeg r149))) 32 (upd (r 32) d.toNatClampNeg k0)) (ms_32 cy mo a _ _ _ _ _) dX10_keep_173 (fun H locs hP hS => ?_)
                        refine lv_iconst (v := 0) hx hb dX10_keep_174 (by decide) ?_
                        refine lv_istore (lv' := [(7, .int (0 : Int32)), (6, .int (1 : Int32)), (0, .ref mo), (1, .int d), (2, .int what), (3, .int k0), (4, .long p0)]) hx hb dX10_keep_175 hl (by decide) rfl (fun ls hl => ?_)
                        have loop_177 : ∀ (n : Nat) (i : Nat) (s3 : Nat → Int64), (i ≤ 60 ∧ (i : Int) ≤ nv9.toInt) → (s3 = setQ (q 33) (60 * d.toNatClampNeg) (keG what p0 (r 4 k0.toNatClampNeg).toNatClampNeg (fun x9 => r 5 (44 * k0.toNatClampNeg + x9))) i) → 60 - i < n → ∀ (H : Heap) (locs : List Loc), va_P D vwCl (WM cy mo a (upd f 0 (0 : Int32)) g (va_up (va_up (va_up (va_up r 29 ((upd (r 29) d.toNatClampNeg what))) 30 ((upd (r 30) d.toNatClampNeg v110))) 31 ((upd (r 31) d.toNatClampNeg r149))) 32 ((upd (r 32) d.toNatClampNeg k0))) (va_up q 33 s3)) H → va_S (AM mo a) s.heap H locs → ∀ (ls : Array Slot), lv_has ls 8 [(7, .int (nI i)), (6, .int (1 : Int32)), (0, .ref mo), (1, .int d), (2, .int what), (3, .int k0), (4, .long p0)] → W p l e (headSpec wsX10_keep ({ frames := 3, cells := 0, slots := 0, locals := 69 })).room s m #[Value.ref mo, Value.int d, Value.int what, Value.int k0, Value.long p0] below meth c H locs 0 0 (MQ below (va_Qi (fun r0 u => ∃ (sh : Nat → Int32), ∃ (sz : Nat → Int32), ∃ (sw : Nat → Int32), ∃ (sf : Nat → Int32), ∃ (sr : Nat → Int64), u = ((upd f 0 (0 : Int32)), g, (va_up (va_up (va_up (va_up r 29 sh) 30 sz) 31 sw) 32 sf), (va_up q 33 sr)) ∧ (yesNo (okKeep (f 1) (fun j9 => (r 3 j9).toNatClampNeg) (fun j9 => (r 4 j9).toNatClampNeg) d what k0 p0) 0 (-1) r0 ∧ ((okKeep (f 1) (fun j9 => (r 3 j9).toNatClampNeg) (fun j9 => (r 4 j9).toNatClampNeg) d what k0 p0 ∧ ∃ nv, sh = upd (r 29) d.toNatClampNeg what ∧ sz = upd (r 30) d.toNatClampNeg nv ∧ (what.toInt = 3 → nv.toInt = (((r 3 k0.toNatClampNeg).toNatClampNeg * (r 4 k0.toNatClampNeg).toNatClampNeg : Nat) : Int)) ∧ (what.toInt = 4 → nv.toInt = (((r 4 k0.toNatClampNeg).toNatClampNeg + (r 3 k0.toNatClampNeg).toNatClampNeg : Nat) : Int)) ∧ sr = setQ (q 33) (60 * d.toNatClampNeg) (keG what p0 (r 4 k0.toNatClampNeg).toNatClampNeg (fun x9 => r 5 (44 * k0.toNatClampNeg + x9))) nv.toNatClampNeg ∧ nv.toNatClampNeg ≤ 60) ∨ (¬ okKeep (f 1) (fun j9 => (r 3 j9).toNatClampNeg) (fun j9 => (r 4 j9).toNatClampNeg) d what k0 p0 ∧ sh = r 29 ∧ sz = r 30 ∧ sr = q 33)) ∧ MI (upd f 0 (0 : Int32)) (va_up (va_up (va_up (va_up r 29 sh) 30 sz) 31 sw) 32 sf))) (mB D cy mo a) (AM mo a)) #[Value.ref mo, Value.int d, Value.int what, Value.int k0, Value.long p0] s 0 0 (AM mo a)) (F0 m 177 ls []) := by
                          intro n
                          induction n with
                          | zero => intro i s3 j177_0 j177_1 hn; exact absurd hn (Nat.not_lt_zero _)
                          | succ n ih_177 =>
                            intro i s3 j177_0 j177_1 hn_177 H locs hP hS ls hl
                            have ii : (nI i).toInt = (i : Int) := nI_toInt (by omega)
                            refine lv_iload hx hb dX10_keep_177 (lv_at hl 0 rfl) ?_
                            refine lv_aload_n hx hb dX10_keep_179 rfl (lv_at hl 2 rfl) ?_
                            refine m_get (v := .ref (a 30)) hx hb hts hin hown hK hP 30 (by decide) rfl (hts (.fieldLink RX10 64 "ShadowBenchModel" "shelfSize" "[I") (by decide +kernel)) rfl dX10_keep_180 ?_
                            refine lv_iload_n hx hb dX10_keep_183 rfl (lv_at hl 3 rfl) ?_
                            refine m_iald (w := ((upd (r 30) d.toNatClampNeg v110))) hx hb hK hP 18 rfl (vp_in_iff.mpr ⟨by omega, by omega⟩) dX10_keep_184 ?_
                            refine lv_topi (fun v184 e184 => ?_)
                            have i184 : v184.toInt = (((upd (r 30) d.toNatClampNeg v110)) d.toNatClampNeg).toInt := congrArg Int32.toInt e184
                            have z184 := e184
                            simp only [upd, if_true] at z184
                            have y184 := congrArg Int32.toInt z184
                            have y184 : v184 = nv9 := by rw [e184, hnv9]; simp only [upd, if_true]
                            have i184 := congrArg Int32.toInt y184
                            refine lv_icmp_ge (tgt := 272) hx hb dX10_keep_185 (by decide) (fun c185 => ?_) (fun c185 => ?_)
                            · skip
                              have d185 := c185
                              rw [fa_le] at d185
                              refine lv_iconst (v := 0) hx hb dX10_keep_272 (by decide) ?_
                              have hP := wm_eq rfl rfl (ec_r_29_30_31_32__29_30_31_32 r ((upd (r 29) d.toNatClampNeg what)) ((upd (r 30) d.toNatClampNeg v110)) ((upd (r 31) d.toNatClampNeg r149)) ((upd (r 32) d.toNatClampNeg k0))) rfl hP
                              exact W.iret (v := (0 : Int32)) hx hb hr (fun t ht hW => ⟨⟨_, ((upd f 0 (0 : Int32)), g, (va_up (va_up (va_up (va_up r 29 (((upd (r 29) d.toNatClampNeg what)))) 30 (((upd (r 30) d.toNatClampNeg v110)))) 31 (((upd (r 31) d.toNatClampNeg r149)))) 32 (((upd (r 32) d.toNatClampNeg k0)))), (va_up q 33 s3)), rfl, ⟨((upd (r 29) d.toNatClampNeg what)), ((upd (r 30) d.toNatClampNeg v110)), ((upd (r 31) d.toNatClampNeg r149)), ((upd (r 32) d.toNatClampNeg k0)), s3, rfl, ⟨(Or.inl ⟨⟨b9, (by unfold okJob; first | exact Or.inl (by omega) | exact Or.inr (Or.inl ⟨by omega, b31⟩) | (have z9 := goodP_of b64; subst e52; subst e58; exact Or.inr (Or.inr ⟨by omega, b44, z9.2⟩)))⟩, rfl⟩), (Or.inl ⟨⟨b9, (by unfold okJob; first | exact Or.inl (by omega) | exact Or.inr (Or.inl ⟨by omega, b31⟩) | (have z9 := goodP_of b64; subst e52; subst e58; exact Or.inr (Or.inr ⟨by omega, b44, z9.2⟩)))⟩, _, rfl, rfl, (fun z9 => by first | (exfalso; omega) | exact y110), (fun z9 => by first | (exfalso; omega) | exact y131), (by have c9 := m_cl (x := nv9) (by omega); rw [j177_1, ← hnv9, show i = nv9.toNatClampNeg by omega]), (by have c9 := m_cl (x := nv9) (by omega); rw [hnv9] at c9; omega)⟩), by first | exact hI | exact mi_sz (d := d) hI (v := v110) (by omega) rfl rfl rfl rfl rfl rfl rfl rfl | exact mi_sz (d := d) hI (v := v131) (by omega) rfl rfl rfl rfl rfl rfl rfl rfl | exact mi_sz (d := d) hI (v := 0) (by decide) rfl rfl rfl rfl rfl rfl rfl rfl⟩⟩, by unfold mB; rw [ht]; exact hP⟩, hS.F ht⟩) hS.2.2 dX10_keep_273
                            · skip
                              have d185 := c185
                              rw [fa_le] at d185
                              refine lv_aload_n hx hb dX10_keep_188 rfl (lv_at hl 2 rfl) ?_
                              refine m_get (v := .ref (a 33)) hx hb hts hin hown hK hP 33 (by decide) rfl (hts (.fieldLink RX10 73 "ShadowBenchModel" "shelfRow" "[J") (by decide +kernel)) rfl dX10_keep_189 ?_
                              refine lv_bipush (v := 60) hx hb dX10_keep_192 (by decide) ?_
                              refine lv_iload_n hx hb dX10_keep_194 rfl (lv_at hl 3 rfl) ?_
                              refine lv_imul hx hb dX10_keep_195 ?_
                              refine lv_topi (fun v195 e195 => ?_)
                              have i195 : v195.toInt = 60 * d.toInt := by rw [e195]; exact mulcL rfl (by omega) (by omega)
                              refine lv_iload hx hb dX10_keep_196 (lv_at hl 0 rfl) ?_
                              refine lv_iadd hx hb dX10_keep_198 ?_
                              refine lv_topi (fun v198 e198 => ?_)
                              have i198 : v198.toInt = v195.toInt + (nI i).toInt := by rw [e198]; exact fb_addI (by omega) (by omega)
                              have cd9 := m_cl (x := d) (by omega)
                              have cv9 := m_cl (x := v198) (by omega)
                              have f198 : v198.toNatClampNeg = 60 * d.toNatClampNeg + i := by omega
                              refine lv_iload_n hx hb dX10_keep_199 rfl (lv_at hl 4 rfl) ?_
                              refine lv_iconst (v := 3) hx hb dX10_keep_200 (by decide) ?_
                              refine lv_icmp_ne (tgt := 215) hx hb dX10_keep_201 (by decide) (fun c201 => ?_) (fun c201 => ?_)
                              · first | exact absurd c201 c95 | exact absurd c95 c201
                              · skip
                                have d201 := c201
                                rw [fa_eq] at d201
                                refine lv_lload hx hb dX10_keep_204 (lv_at hl 6 rfl) ?_
                                refine lv_iload hx hb dX10_keep_206 (lv_at hl 0 rfl) ?_
                                refine m_pu (As := [.long p0, .int (nI i)]) (rest := [.int v198, .ref (a 33)]) ⟨hx, hb, hml, hown, hts⟩ (c_X10_one l p0 (nI i) ) (va_cwS 2 hts gX10_keep_X10_one rfl rfl rfl (by decide +kernel) ⟨Nat.le_of_ble_eq_true rfl, Nat.le_of_ble_eq_true rfl⟩) hP rfl hl.1 rfl (Nat.le_of_ble_eq_true rfl) dX10_keep_208 ⟨Nat.le_of_ble_eq_true rfl, Nat.le_of_ble_eq_true rfl⟩ hS (fun r208 H locs q208 hP hS => ?_)
                                have i208 : r208.toInt = (r_one p0 (nI i)).toInt := congrArg Int32.toInt q208
                                refine lv_i2l (v := r208.toInt64) hx hb dX10_keep_211 rfl ?_
                                refine lv_goto (tgt := 265) hx hb dX10_keep_212 (by decide) ?_
                                refine m_last (w := s3) hx hb hK hP hD hS 21 rfl (vp_in_iff.mpr ⟨by omega, by omega⟩) (va_up (va_up q 33 s3) 33 (vp_updL s3 v198.toNatClampNeg r208.toInt64)) (ms_33 cy mo a _ _ _ _ _) dX10_keep_265 (fun H locs hP hS => ?_)
                                have hP := wm_eq rfl rfl rfl (es_q_33__33 q s3 (vp_updL s3 v198.toNatClampNeg r208.toInt64)) hP
                                refine lv_iinc (v := (nI (i + 1))) (lv' := [(7, .int (nI (i + 1))), (6, .int (1 : Int32)), (0, .ref mo), (1, .int d), (2, .int what), (3, .int k0), (4, .long p0)]) hx hb dX10_keep_266 hl (k := 0) rfl (nI_1 _) (by decide) rfl (fun ls hl => ?_)
                                refine lv_goto (tgt := 177) hx hb dX10_keep_269 (by decide) ?_
                                have hP := wm_eq rfl rfl (ec_r_29_30_31_32__29_30_31_32 r ((upd (r 29) d.toNatClampNeg what)) ((upd (r 30) d.toNatClampNeg v110)) ((upd (r 31) d.toNatClampNeg r149)) ((upd (r 32) d.toNatClampNeg k0))) rfl hP
                                exact ih_177 (i + 1) (vp_updL s3 v198.toNatClampNeg r208.toInt64) (by omega) (by rw [j177_1, f198]; exact setQ_v (by first | (rw [keG_3 (by omega)]; exact one_bI (by omega) q208) | (rw [keG_4 (by omega) (by omega), e237, f236]; done) | (rw [keG_5 (by omega) (by omega), e263, f262]; done) | (exfalso; omega))) (by omega) _ _ hP hS ls (lv_sub hl [0, 1, 2, 3, 4, 5, 6] rfl)
                        have hP := wm_eq rfl rfl (ec_r_29_30_31_32__29_30_31_32 r ((upd (r 29) d.toNatClampNeg what)) ((upd (r 30) d.toNatClampNeg v110)) ((upd (r 31) d.toNatClampNeg r149)) ((upd (r 32) d.toNatClampNeg k0))) (ec_q___33 q ) hP
                        exact loop_177 (60 + 1) 0 (q 33) (by omega) ((setQ_0 _ _ _).symm) (by omega) _ _ hP hS ls (lv_sub hl [0, 1, 2, 3, 4, 5, 6] rfl)
                      · skip
                        have d164 := c164
                        rw [fa_eq] at d164
                        refine lv_bipush (v := (-15)) hx hb dX10_keep_167 (by decide) ?_
                        refine lv_goto (tgt := 173) hx hb dX10_keep_169 (by decide) ?_
                        refine m_iast (w := (r 32)) hx hb hK hP hD hS 20 rfl (vp_in_iff.mpr ⟨by omega, by omega⟩) (va_up (va_up (va_up (va_up r 29 ((upd (r 29) d.toNatClampNeg what))) 30 ((upd (r 30) d.toNatClampNeg v110))) 31 ((upd (r 31) d.toNatClampNeg r149))) 32 (upd (r 32) d.toNatClampNeg (((-15) : Int32)))) (ms_32 cy mo a _ _ _ _ _) dX10_keep_173 (fun H locs hP hS => ?_)
                        refine lv_iconst (v := 0) hx hb dX10_keep_174 (by decide) ?_
                        refine lv_istore (lv' := [(7, .int (0 : Int32)), (6, .int (1 : Int32)), (0, .ref mo), (1, .int d), (2, .int what), (3, .int k0), (4, .long p0)]) hx hb dX10_keep_175 hl (by decide) rfl (fun ls hl => ?_)
                        have loop_177 : ∀ (n : Nat) (i : Nat) (s3 : Nat → Int64), (i ≤ 60 ∧ (i : Int) ≤ nv9.toInt) → (s3 = setQ (q 33) (60 * d.toNatClampNeg) (keG what p0 (r 4 k0.toNatClampNeg).toNatClampNeg (fun x9 => r 5 (44 * k0.toNatClampNeg + x9))) i) → 60 - i < n → ∀ (H : Heap) (locs : List Loc), va_P D vwCl (WM cy mo a (upd f 0 (0 : Int32)) g (va_up (va_up (va_up (va_up r 29 ((upd (r 29) d.toNatClampNeg what))) 30 ((upd (r 30) d.toNatClampNeg v110))) 31 ((upd (r 31) d.toNatClampNeg r149))) 32 ((upd (r 32) d.toNatClampNeg (((-15) : Int32))))) (va_up q 33 s3)) H → va_S (AM mo a) s.heap H locs → ∀ (ls : Array Slot), lv_has ls 8 [(7, .int (nI i)), (6, .int (1 : Int32)), (0, .ref mo), (1, .int d), (2, .int what), (3, .int k0), (4, .long p0)] → W p l e (headSpec wsX10_keep ({ frames := 3, cells := 0, slots := 0, locals := 69 })).room s m #[Value.ref mo, Value.int d, Value.int what, Value.int k0, Value.long p0] below meth c H locs 0 0 (MQ below (va_Qi (fun r0 u => ∃ (sh : Nat → Int32), ∃ (sz : Nat → Int32), ∃ (sw : Nat → Int32), ∃ (sf : Nat → Int32), ∃ (sr : Nat → Int64), u = ((upd f 0 (0 : Int32)), g, (va_up (va_up (va_up (va_up r 29 sh) 30 sz) 31 sw) 32 sf), (va_up q 33 sr)) ∧ (yesNo (okKeep (f 1) (fun j9 => (r 3 j9).toNatClampNeg) (fun j9 => (r 4 j9).toNatClampNeg) d what k0 p0) 0 (-1) r0 ∧ ((okKeep (f 1) (fun j9 => (r 3 j9).toNatClampNeg) (fun j9 => (r 4 j9).toNatClampNeg) d what k0 p0 ∧ ∃ nv, sh = upd (r 29) d.toNatClampNeg what ∧ sz = upd (r 30) d.toNatClampNeg nv ∧ (what.toInt = 3 → nv.toInt = (((r 3 k0.toNatClampNeg).toNatClampNeg * (r 4 k0.toNatClampNeg).toNatClampNeg : Nat) : Int)) ∧ (what.toInt = 4 → nv.toInt = (((r 4 k0.toNatClampNeg).toNatClampNeg + (r 3 k0.toNatClampNeg).toNatClampNeg : Nat) : Int)) ∧ sr = setQ (q 33) (60 * d.toNatClampNeg) (keG what p0 (r 4 k0.toNatClampNeg).toNatClampNeg (fun x9 => r 5 (44 * k0.toNatClampNeg + x9))) nv.toNatClampNeg ∧ nv.toNatClampNeg ≤ 60) ∨ (¬ okKeep (f 1) (fun j9 => (r 3 j9).toNatClampNeg) (fun j9 => (r 4 j9).toNatClampNeg) d what k0 p0 ∧ sh = r 29 ∧ sz = r 30 ∧ sr = q 33)) ∧ MI (upd f 0 (0 : Int32)) (va_up (va_up (va_up (va_up r 29 sh) 30 sz) 31 sw) 32 sf))) (mB D cy mo a) (AM mo a)) #[Value.ref mo, Value.int d, Value.int what, Value.int k0, Value.long p0] s 0 0 (AM mo a)) (F0 m 177 ls []) := by
                          intro n
                          induction n with
                          | zero => intro i s3 j177_0 j177_1 hn; exact absurd hn (Nat.not_lt_zero _)
                          | succ n ih_177 =>
                            intro i s3 j177_0 j177_1 hn_177 H locs hP hS ls hl
                            have ii : (nI i).toInt = (i : Int) := nI_toInt (by omega)
                            refine lv_iload hx hb dX10_keep_177 (lv_at hl 0 rfl) ?_
                            refine lv_aload_n hx hb dX10_keep_179 rfl (lv_at hl 2 rfl) ?_
                            refine m_get (v := .ref (a 30)) hx hb hts hin hown hK hP 30 (by decide) rfl (hts (.fieldLink RX10 64 "ShadowBenchModel" "shelfSize" "[I") (by decide +kernel)) rfl dX10_keep_180 ?_
                            refine lv_iload_n hx hb dX10_keep_183 rfl (lv_at hl 3 rfl) ?_
                            refine m_iald (w := ((upd (r 30) d.toNatClampNeg v110))) hx hb hK hP 18 rfl (vp_in_iff.mpr ⟨by omega, by omega⟩) dX10_keep_184 ?_
                            refine lv_topi (fun v184 e184 => ?_)
                            have i184 : v184.toInt = (((upd (r 30) d.toNatClampNeg v110)) d.toNatClampNeg).toInt := congrArg Int32.toInt e184
                            have z184 := e184
                            simp only [upd, if_true] at z184
                            have y184 := congrArg Int32.toInt z184
                            have y184 : v184 = nv9 := by rw [e184, hnv9]; simp only [upd, if_true]
                            have i184 := congrArg Int32.toInt y184
                            refine lv_icmp_ge (tgt := 272) hx hb dX10_keep_185 (by decide) (fun c185 => ?_) (fun c185 => ?_)
                            · skip
                              have d185 := c185
                              rw [fa_le] at d185
                              refine lv_iconst (v := 0) hx hb dX10_keep_272 (by decide) ?_
                              have hP := wm_eq rfl rfl (ec_r_29_30_31_32__29_30_31_32 r ((upd (r 29) d.toNatClampNeg what)) ((upd (r 30) d.toNatClampNeg v110)) ((upd (r 31) d.toNatClampNeg r149)) ((upd (r 32) d.toNatClampNeg (((-15) : Int32))))) rfl hP
                              exact W.iret (v := (0 : Int32)) hx hb hr (fun t ht hW => ⟨⟨_, ((upd f 0 (0 : Int32)), g, (va_up (va_up (va_up (va_up r 29 (((upd (r 29) d.toNatClampNeg what)))) 30 (((upd (r 30) d.toNatClampNeg v110)))) 31 (((upd (r 31) d.toNatClampNeg r149)))) 32 (((upd (r 32) d.toNatClampNeg (((-15) : Int32)))))), (va_up q 33 s3)), rfl, ⟨((upd (r 29) d.toNatClampNeg what)), ((upd (r 30) d.toNatClampNeg v110)), ((upd (r 31) d.toNatClampNeg r149)), ((upd (r 32) d.toNatClampNeg (((-15) : Int32)))), s3, rfl, ⟨(Or.inl ⟨⟨b9, (by unfold okJob; first | exact Or.inl (by omega) | exact Or.inr (Or.inl ⟨by omega, b31⟩) | (have z9 := goodP_of b64; subst e52; subst e58; exact Or.inr (Or.inr ⟨by omega, b44, z9.2⟩)))⟩, rfl⟩), (Or.inl ⟨⟨b9, (by unfold okJob; first | exact Or.inl (by omega) | exact Or.inr (Or.inl ⟨by omega, b31⟩) | (have z9 := goodP_of b64; subst e52; subst e58; exact Or.inr (Or.inr ⟨by omega, b44, z9.2⟩)))⟩, _, rfl, rfl, (fun z9 => by first | (exfalso; omega) | exact y110), (fun z9 => by first | (exfalso; omega) | exact y131), (by have c9 := m_cl (x := nv9) (by omega); rw [j177_1, ← hnv9, show i = nv9.toNatClampNeg by omega]), (by have c9 := m_cl (x := nv9) (by omega); rw [hnv9] at c9; omega)⟩), by first | exact hI | exact mi_sz (d := d) hI (v := v110) (by omega) rfl rfl rfl rfl rfl rfl rfl rfl | exact mi_sz (d := d) hI (v := v131) (by omega) rfl rfl rfl rfl rfl rfl rfl rfl | exact mi_sz (d := d) hI (v := 0) (by decide) rfl rfl rfl rfl rfl rfl rfl rfl⟩⟩, by unfold mB; rw [ht]; exact hP⟩, hS.F ht⟩) hS.2.2 dX10_keep_273
                            · skip
                              have d185 := c185
                              rw [fa_le] at d185
                              refine lv_aload_n hx hb dX10_keep_188 rfl (lv_at hl 2 rfl) ?_
                              refine m_get (v := .ref (a 33)) hx hb hts hin hown hK hP 33 (by decide) rfl (hts (.fieldLink RX10 73 "ShadowBenchModel" "shelfRow" "[J") (by decide +kernel)) rfl dX10_keep_189 ?_
                              refine lv_bipush (v := 60) hx hb dX10_keep_192 (by decide) ?_
                              refine lv_iload_n hx hb dX10_keep_194 rfl (lv_at hl 3 rfl) ?_
                              refine lv_imul hx hb dX10_keep_195 ?_
                              refine lv_topi (fun v195 e195 => ?_)
                              have i195 : v195.toInt = 60 * d.toInt := by rw [e195]; exact mulcL rfl (by omega) (by omega)
                              refine lv_iload hx hb dX10_keep_196 (lv_at hl 0 rfl) ?_
                              refine lv_iadd hx hb dX10_keep_198 ?_
                              refine lv_topi (fun v198 e198 => ?_)
                              have i198 : v198.toInt = v195.toInt + (nI i).toInt := by rw [e198]; exact fb_addI (by omega) (by omega)
                              have cd9 := m_cl (x := d) (by omega)
                              have cv9 := m_cl (x := v198) (by omega)
                              have f198 : v198.toNatClampNeg = 60 * d.toNatClampNeg + i := by omega
                              refine lv_iload_n hx hb dX10_keep_199 rfl (lv_at hl 4 rfl) ?_
                              refine lv_iconst (v := 3) hx hb dX10_keep_200 (by decide) ?_
                              refine lv_icmp_ne (tgt := 215) hx hb dX10_keep_201 (by decide) (fun c201 => ?_) (fun c201 => ?_)
                              · first | exact absurd c201 c95 | exact absurd c95 c201
                              · skip
                                have d201 := c201
                                rw [fa_eq] at d201
                                refine lv_lload hx hb dX10_keep_204 (lv_at hl 6 rfl) ?_
                                refine lv_iload hx hb dX10_keep_206 (lv_at hl 0 rfl) ?_
                                refine m_pu (As := [.long p0, .int (nI i)]) (rest := [.int v198, .ref (a 33)]) ⟨hx, hb, hml, hown, hts⟩ (c_X10_one l p0 (nI i) ) (va_cwS 2 hts gX10_keep_X10_one rfl rfl rfl (by decide +kernel) ⟨Nat.le_of_ble_eq_true rfl, Nat.le_of_ble_eq_true rfl⟩) hP rfl hl.1 rfl (Nat.le_of_ble_eq_true rfl) dX10_keep_208 ⟨Nat.le_of_ble_eq_true rfl, Nat.le_of_ble_eq_true rfl⟩ hS (fun r208 H locs q208 hP hS => ?_)
                                have i208 : r208.toInt = (r_one p0 (nI i)).toInt := congrArg Int32.toInt q208
                                refine lv_i2l (v := r208.toInt64) hx hb dX10_keep_211 rfl ?_
                                refine lv_goto (tgt := 265) hx hb dX10_keep_212 (by decide) ?_
                                refine m_last (w := s3) hx hb hK hP hD hS 21 rfl (vp_in_iff.mpr ⟨by omega, by omega⟩) (va_up (va_up q 33 s3) 33 (vp_updL s3 v198.toNatClampNeg r208.toInt64)) (ms_33 cy mo a _ _ _ _ _) dX10_keep_265 (fun H locs hP hS => ?_)
                                have hP := wm_eq rfl rfl rfl (es_q_33__33 q s3 (vp_updL s3 v198.toNatClampNeg r208.toInt64)) hP
                                refine lv_iinc (v := (nI (i + 1))) (lv' := [(7, .int (nI (i + 1))), (6, .int (1 : Int32)), (0, .ref mo), (1, .int d), (2, .int what), (3, .int k0), (4, .long p0)]) hx hb dX10_keep_266 hl (k := 0) rfl (nI_1 _) (by decide) rfl (fun ls hl => ?_)
                                refine lv_goto (tgt := 177) hx hb dX10_keep_269 (by decide) ?_
                                have hP := wm_eq rfl rfl (ec_r_29_30_31_32__29_30_31_32 r ((upd (r 29) d.toNatClampNeg what)) ((upd (r 30) d.toNatClampNeg v110)) ((upd (r 31) d.toNatClampNeg r149)) ((upd (r 32) d.toNatClampNeg (((-15) : Int32))))) rfl hP
                                exact ih_177 (i + 1) (vp_updL s3 v198.toNatClampNeg r208.toInt64) (by omega) (by rw [j177_1, f198]; exact setQ_v (by first | (rw [keG_3 (by omega)]; exact one_bI (by omega) q208) | (rw [keG_4 (by omega) (by omega), e237, f236]; done) | (rw [keG_5 (by omega) (by omega), e263, f262]; done) | (exfalso; omega))) (by omega) _ _ hP hS ls (lv_sub hl [0, 1, 2, 3, 4, 5, 6] rfl)
                        have hP := wm_eq rfl rfl (ec_r_29_30_31_32__29_30_31_32 r ((upd (r 29) d.toNatClampNeg what)) ((upd (r 30) d.toNatClampNeg v110)) ((upd (r 31) d.toNatClampNeg r149)) ((upd (r 32) d.toNatClampNeg (((-15) : Int32))))) (ec_q___33 q ) hP
                        exact loop_177 (60 + 1) 0 (q 33) (by omega) ((setQ_0 _ _ _).symm) (by omega) _ _ hP hS ls (lv_sub hl [0, 1, 2, 3, 4, 5, 6] rfl)
                · first | exact absurd c76 (by decide) | exact absurd (by decide) c76
        · skip
          have d23 := c23
          rw [fa_eq] at d23
          refine lv_aload_n hx hb dX10_keep_26 rfl (lv_at hl 0 rfl) ?_
          refine lv_iload_n hx hb dX10_keep_27 rfl (lv_at hl 3 rfl) ?_
          refine m_calli (As := [.int k0]) (rest := []) ⟨hx, hb, hml, hown, hts⟩ (c_X10_isJob l D cy mo a (upd f 0 (0 : Int32)) g r q k0 hD) (cwV 1 hts gX10_keep_X10_isJob rfl rfl rfl (by decide +kernel) ⟨Nat.le_of_ble_eq_true rfl, Nat.le_of_ble_eq_true rfl⟩) hK hP rfl hl.1 rfl (Nat.le_of_ble_eq_true rfl) dX10_keep_28 ⟨Nat.le_of_ble_eq_true rfl, Nat.le_of_ble_eq_true rfl⟩ hS (fun r28 u H locs q28 hP hS => ?_)
          obtain ⟨rfl, q28⟩ := q28
          have hP : va_P D vwCl (WM cy mo a (upd f 0 (0 : Int32)) g r q) H := hP
          have q28 : Bo r28 (0 ≤ k0.toInt ∧ k0.toInt < ((f 1)).toInt) := q28
          refine lv_if_ne (tgt := 67) hx hb dX10_keep_31 (by decide) (fun c31 => ?_) (fun c31 => ?_)
          · skip
            have b31 := bo_t q28 c31
            refine lv_iconst (v := 1) hx hb dX10_keep_67 (by decide) ?_
            refine lv_goto (tgt := 72) hx hb dX10_keep_68 (by decide) ?_
            refine lv_istore (lv' := [(6, .int (1 : Int32)), (0, .ref mo), (1, .int d), (2, .int what), (3, .int k0), (4, .long p0)]) hx hb dX10_keep_72 hl (by decide) rfl (fun ls hl => ?_)
            refine lv_iload hx hb dX10_keep_74 (lv_at hl 0 rfl) ?_
            refine lv_if_ne (tgt := 81) hx hb dX10_keep_76 (by decide) (fun c76 => ?_) (fun c76 => ?_)
            · skip
              have d76 := c76
              rw [fa_eq] at d76
              refine lv_aload_n hx hb dX10_keep_81 rfl (lv_at hl 1 rfl) ?_
              refine m_get (v := .ref (a 29)) hx hb hts hin hown hK hP 29 (by decide) rfl (hts (.fieldLink RX10 61 "ShadowBenchModel" "shelf" "[I") (by decide +kernel)) rfl dX10_keep_82 ?_
              refine lv_iload_n hx hb dX10_keep_85 rfl (lv_at hl 2 rfl) ?_
              refine lv_iload_n hx hb dX10_keep_86 rfl (lv_at hl 3 rfl) ?_
              refine m_iast (w := (r 29)) hx hb hK hP hD hS 17 rfl (vp_in_iff.mpr ⟨by omega, by omega⟩) (va_up r 29 (upd (r 29) d.toNatClampNeg what)) (ms_29 cy mo a _ _ _ _ _) dX10_keep_87 (fun H locs hP hS => ?_)
              refine lv_aload_n hx hb dX10_keep_88 rfl (lv_at hl 1 rfl) ?_
              refine m_get (v := .ref (a 30)) hx hb hts hin hown hK hP 30 (by decide) rfl (hts (.fieldLink RX10 64 "ShadowBenchModel" "shelfSize" "[I") (by decide +kernel)) rfl dX10_keep_89 ?_
              refine lv_iload_n hx hb dX10_keep_92 rfl (lv_at hl 2 rfl) ?_
              refine lv_iload_n hx hb dX10_keep_93 rfl (lv_at hl 3 rfl) ?_
              refine lv_iconst (v := 3) hx hb dX10_keep_94 (by decide) ?_
              refine lv_icmp_ne (tgt := 114) hx hb dX10_keep_95 (by decide) (fun c95 => ?_) (fun c95 => ?_)
              · skip
                have d95 := c95
                rw [fa_eq] at d95
                refine lv_iload_n hx hb dX10_keep_114 rfl (lv_at hl 3 rfl) ?_
                refine lv_iconst (v := 4) hx hb dX10_keep_115 (by decide) ?_
                refine lv_icmp_ne (tgt := 135) hx hb dX10_keep_116 (by decide) (fun c116 => ?_) (fun c116 => ?_)
                · first | exact absurd c116 c23 | exact absurd c23 c116
                · skip
                  have d116 := c116
                  rw [fa_eq] at d116
                  refine lv_aload_n hx hb dX10_keep_119 rfl (lv_at hl 1 rfl) ?_
                  refine m_get (v := .ref (a 4)) hx hb hts hin hown hK hP 4 (by decide) rfl (hts (.fieldLink RX10 16 "ShadowBenchModel" "high" "[I") (by decide +kernel)) rfl dX10_keep_120 ?_
                  refine lv_iload_n hx hb dX10_keep_123 rfl (lv_at hl 4 rfl) ?_
                  refine m_iald (w := (r 4)) hx hb hK hP 3 rfl (vp_in_iff.mpr ⟨by omega, by omega⟩) dX10_keep_124 ?_
                  refine lv_topi (fun v124 e124 => ?_)
                  have i124 : v124.toInt = ((r 4) k0.toNatClampNeg).toInt := congrArg Int32.toInt e124
                  have w124 := mi_h hI (x := k0) (by omega) (by omega) e124
                  refine lv_aload_n hx hb dX10_keep_125 rfl (lv_at hl 1 rfl) ?_
                  refine m_get (v := .ref (a 3)) hx hb hts hin hown hK hP 3 (by decide) rfl (hts (.fieldLink RX10 13 "ShadowBenchModel" "wide" "[I") (by decide +kernel)) rfl dX10_keep_126 ?_
                  refine lv_iload_n hx hb dX10_keep_129 rfl (lv_at hl 4 rfl) ?_
                  refine m_iald (w := (r 3)) hx hb hK hP 2 rfl (vp_in_iff.mpr ⟨by omega, by omega⟩) dX10_keep_130 ?_
                  refine lv_topi (fun v130 e130 => ?_)
                  have i130 : v130.toInt = ((r 3) k0.toNatClampNeg).toInt := congrArg Int32.toInt e130
                  have w130 := mi_w hI (x := k0) (by omega) (by omega) e130
                  refine lv_iadd hx hb dX10_keep_131 ?_
                  refine lv_topi (fun v131 e131 => ?_)
                  have i131 : v131.toInt = v124.toInt + v130.toInt := by rw [e131]; exact fb_addI (by omega) (by omega)
                  have y131 : v131.toInt = (((r 4 k0.toNatClampNeg).toNatClampNeg + (r 3 k0.toNatClampNeg).toNatClampNeg : Nat) : Int) := by
                    have z1 := m_cl (x := r 4 k0.toNatClampNeg) (by omega)
                    have z2 := m_cl (x := r 3 k0.toNatClampNeg) (by omega)
                    omega
                  obtain ⟨nv9, hnv9⟩ : ∃ z9, z9 = v131 := ⟨_, rfl⟩
                  have n184 := congrArg Int32.toInt hnv9
                  refine lv_goto (tgt := 136) hx hb dX10_keep_132 (by decide) ?_
                  refine m_iast (w := (r 30)) hx hb hK hP hD hS 18 rfl (vp_in_iff.mpr ⟨by omega, by omega⟩) (va_up (va_up r 29 ((upd (r 29) d.toNatClampNeg what))) 30 (upd (r 30) d.toNatClampNeg v131)) (ms_30 cy mo a _ _ _ _ _) dX10_keep_136 (fun H locs hP hS => ?_)
                  refine lv_iload_n hx hb dX10_keep_137 rfl (lv_at hl 3 rfl) ?_
                  refine lv_iconst (v := 1) hx hb dX10_keep_138 (by decide) ?_
                  refine lv_icmp_ne (tgt := 174) hx hb dX10_keep_139 (by decide) (fun c139 => ?_) (fun c139 => ?_)
                  · skip
                    have d139 := c139
                    rw [fa_eq] at d139
                    refine lv_iconst (v := 0) hx hb dX10_keep_174 (by decide) ?_
                    refine lv_istore (lv' := [(7, .int (0 : Int32)), (6, .int (1 : Int32)), (0, .ref mo), (1, .int d), (2, .int what), (3, .int k0), (4, .long p0)]) hx hb dX10_keep_175 hl (by decide) rfl (fun ls hl => ?_)
                    have loop_177 : ∀ (n : Nat) (i : Nat) (s3 : Nat → Int64), (i ≤ 60 ∧ (i : Int) ≤ nv9.toInt) → (s3 = setQ (q 33) (60 * d.toNatClampNeg) (keG what p0 (r 4 k0.toNatClampNeg).toNatClampNeg (fun x9 => r 5 (44 * k0.toNatClampNeg + x9))) i) → 60 - i < n → ∀ (H : Heap) (locs : List Loc), va_P D vwCl (WM cy mo a (upd f 0 (0 : Int32)) g (va_up (va_up r 29 ((upd (r 29) d.toNatClampNeg what))) 30 ((upd (r 30) d.toNatClampNeg v131))) (va_up q 33 s3)) H → va_S (AM mo a) s.heap H locs → ∀ (ls : Array Slot), lv_has ls 8 [(7, .int (nI i)), (6, .int (1 : Int32)), (0, .ref mo), (1, .int d), (2, .int what), (3, .int k0), (4, .long p0)] → W p l e (headSpec wsX10_keep ({ frames := 3, cells := 0, slots := 0, locals := 69 })).room s m #[Value.ref mo, Value.int d, Value.int what, Value.int k0, Value.long p0] below meth c H locs 0 0 (MQ below (va_Qi (fun r0 u => ∃ (sh : Nat → Int32), ∃ (sz : Nat → Int32), ∃ (sw : Nat → Int32), ∃ (sf : Nat → Int32), ∃ (sr : Nat → Int64), u = ((upd f 0 (0 : Int32)), g, (va_up (va_up (va_up (va_up r 29 sh) 30 sz) 31 sw) 32 sf), (va_up q 33 sr)) ∧ (yesNo (okKeep (f 1) (fun j9 => (r 3 j9).toNatClampNeg) (fun j9 => (r 4 j9).toNatClampNeg) d what k0 p0) 0 (-1) r0 ∧ ((okKeep (f 1) (fun j9 => (r 3 j9).toNatClampNeg) (fun j9 => (r 4 j9).toNatClampNeg) d what k0 p0 ∧ ∃ nv, sh = upd (r 29) d.toNatClampNeg what ∧ sz = upd (r 30) d.toNatClampNeg nv ∧ (what.toInt = 3 → nv.toInt = (((r 3 k0.toNatClampNeg).toNatClampNeg * (r 4 k0.toNatClampNeg).toNatClampNeg : Nat) : Int)) ∧ (what.toInt = 4 → nv.toInt = (((r 4 k0.toNatClampNeg).toNatClampNeg + (r 3 k0.toNatClampNeg).toNatClampNeg : Nat) : Int)) ∧ sr = setQ (q 33) (60 * d.toNatClampNeg) (keG what p0 (r 4 k0.toNatClampNeg).toNatClampNeg (fun x9 => r 5 (44 * k0.toNatClampNeg + x9))) nv.toNatClampNeg ∧ nv.toNatClampNeg ≤ 60) ∨ (¬ okKeep (f 1) (fun j9 => (r 3 j9).toNatClampNeg) (fun j9 => (r 4 j9).toNatClampNeg) d what k0 p0 ∧ sh = r 29 ∧ sz = r 30 ∧ sr = q 33)) ∧ MI (upd f 0 (0 : Int32)) (va_up (va_up (va_up (va_up r 29 sh) 30 sz) 31 sw) 32 sf))) (mB D cy mo a) (AM mo a)) #[Value.ref mo, Value.int d, Value.int what, Value.int k0, Value.long p0] s 0 0 (AM mo a)) (F0 m 177 ls []) := by
                      intro n
                      induction n with
                      | zero => intro i s3 j177_0 j177_1 hn; exact absurd hn (Nat.not_lt_zero _)
                      | succ n ih_177 =>
                        intro i s3 j177_0 j177_1 hn_177 H locs hP hS ls hl
                        have ii : (nI i).toInt = (i : Int) := nI_toInt (by omega)
                        refine lv_iload hx hb dX10_keep_177 (lv_at hl 0 rfl) ?_
                        refine lv_aload_n hx hb dX10_keep_179 rfl (lv_at hl 2 rfl) ?_
                        refine m_get (v := .ref (a 30)) hx hb hts hin hown hK hP 30 (by decide) rfl (hts (.fieldLink RX10 64 "ShadowBenchModel" "shelfSize" "[I") (by decide +kernel)) rfl dX10_keep_180 ?_
                        refine lv_iload_n hx hb dX10_keep_183 rfl (lv_at hl 3 rfl) ?_
                        refine m_iald (w := ((upd (r 30) d.toNatClampNeg v131))) hx hb hK hP 18 rfl (vp_in_iff.mpr ⟨by omega, by omega⟩) dX10_keep_184 ?_
                        refine lv_topi (fun v184 e184 => ?_)
                        have i184 : v184.toInt = (((upd (r 30) d.toNatClampNeg v131)) d.toNatClampNeg).toInt := congrArg Int32.toInt e184
                        have z184 := e184
                        simp only [upd, if_true] at z184
                        have y184 := congrArg Int32.toInt z184
                        have y184 : v184 = nv9 := by rw [e184, hnv9]; simp only [upd, if_true]
                        have i184 := congrArg Int32.toInt y184
                        refine lv_icmp_ge (tgt := 272) hx hb dX10_keep_185 (by decide) (fun c185 => ?_) (fun c185 => ?_)
                        · skip
                          have d185 := c185
                          rw [fa_le] at d185
                          refine lv_iconst (v := 0) hx hb dX10_keep_272 (by decide) ?_
                          have hP := wm_eq rfl rfl (ec_r_29_30__29_30_31_32 r ((upd (r 29) d.toNatClampNeg what)) ((upd (r 30) d.toNatClampNeg v131))) rfl hP
                          exact W.iret (v := (0 : Int32)) hx hb hr (fun t ht hW => ⟨⟨_, ((upd f 0 (0 : Int32)), g, (va_up (va_up (va_up (va_up r 29 (((upd (r 29) d.toNatClampNeg what)))) 30 (((upd (r 30) d.toNatClampNeg v131)))) 31 (r 31)) 32 (r 32)), (va_up q 33 s3)), rfl, ⟨((upd (r 29) d.toNatClampNeg what)), ((upd (r 30) d.toNatClampNeg v131)), (r 31), (r 32), s3, rfl, ⟨(Or.inl ⟨⟨b9, (by unfold okJob; first | exact Or.inl (by omega) | exact Or.inr (Or.inl ⟨by omega, b31⟩) | (have z9 := goodP_of b64; subst e52; subst e58; exact Or.inr (Or.inr ⟨by omega, b44, z9.2⟩)))⟩, rfl⟩), (Or.inl ⟨⟨b9, (by unfold okJob; first | exact Or.inl (by omega) | exact Or.inr (Or.inl ⟨by omega, b31⟩) | (have z9 := goodP_of b64; subst e52; subst e58; exact Or.inr (Or.inr ⟨by omega, b44, z9.2⟩)))⟩, _, rfl, rfl, (fun z9 => by first | (exfalso; omega) | exact y110), (fun z9 => by first | (exfalso; omega) | exact y131), (by have c9 := m_cl (x := nv9) (by omega); rw [j177_1, ← hnv9, show i = nv9.toNatClampNeg by omega]), (by have c9 := m_cl (x := nv9) (by omega); rw [hnv9] at c9; omega)⟩), by first | exact hI | exact mi_sz (d := d) hI (v := v110) (by omega) rfl rfl rfl rfl rfl rfl rfl rfl | exact mi_sz (d := d) hI (v := v131) (by omega) rfl rfl rfl rfl rfl rfl rfl rfl | exact mi_sz (d := d) hI (v := 0) (by decide) rfl rfl rfl rfl rfl rfl rfl rfl⟩⟩, by unfold mB; rw [ht]; exact hP⟩, hS.F ht⟩) hS.2.2 dX10_keep_273
                        · skip
                          have d185 := c185
                          rw [fa_le] at d185
                          refine lv_aload_n hx hb dX10_keep_188 rfl (lv_at hl 2 rfl) ?_
                          refine m_get (v := .ref (a 33)) hx hb hts hin hown hK hP 33 (by decide) rfl (hts (.fieldLink RX10 73 "ShadowBenchModel" "shelfRow" "[J") (by decide +kernel)) rfl dX10_keep_189 ?_
                          refine lv_bipush (v := 60) hx hb dX10_keep_192 (by decide) ?_
                          refine lv_iload_n hx hb dX10_keep_194 rfl (lv_at hl 3 rfl) ?_
                          refine lv_imul hx hb dX10_keep_195 ?_
                          refine lv_topi (fun v195 e195 => ?_)
                          have i195 : v195.toInt = 60 * d.toInt := by rw [e195]; exact mulcL rfl (by omega) (by omega)
                          refine lv_iload hx hb dX10_keep_196 (lv_at hl 0 rfl) ?_
                          refine lv_iadd hx hb dX10_keep_198 ?_
                          refine lv_topi (fun v198 e198 => ?_)
                          have i198 : v198.toInt = v195.toInt + (nI i).toInt := by rw [e198]; exact fb_addI (by omega) (by omega)
                          have cd9 := m_cl (x := d) (by omega)
                          have cv9 := m_cl (x := v198) (by omega)
                          have f198 : v198.toNatClampNeg = 60 * d.toNatClampNeg + i := by omega
                          refine lv_iload_n hx hb dX10_keep_199 rfl (lv_at hl 4 rfl) ?_
                          refine lv_iconst (v := 3) hx hb dX10_keep_200 (by decide) ?_
                          refine lv_icmp_ne (tgt := 215) hx hb dX10_keep_201 (by decide) (fun c201 => ?_) (fun c201 => ?_)
                          · skip
                            have d201 := c201
                            rw [fa_eq] at d201
                            refine lv_iload hx hb dX10_keep_215 (lv_at hl 0 rfl) ?_
                            refine lv_aload_n hx hb dX10_keep_217 rfl (lv_at hl 2 rfl) ?_
                            refine m_get (v := .ref (a 4)) hx hb hts hin hown hK hP 4 (by decide) rfl (hts (.fieldLink RX10 16 "ShadowBenchModel" "high" "[I") (by decide +kernel)) rfl dX10_keep_218 ?_
                            refine lv_iload_n hx hb dX10_keep_221 rfl (lv_at hl 5 rfl) ?_
                            refine m_iald (w := (r 4)) hx hb hK hP 3 rfl (vp_in_iff.mpr ⟨by omega, by omega⟩) dX10_keep_222 ?_
                            refine lv_topi (fun v222 e222 => ?_)
                            have i222 : v222.toInt = ((r 4) k0.toNatClampNeg).toInt := congrArg Int32.toInt e222
                            have w222 := mi_h hI (x := k0) (by omega) (by omega) e222
                            refine lv_icmp_ge (tgt := 242) hx hb dX10_keep_223 (by decide) (fun c223 => ?_) (fun c223 => ?_)
                            · skip
                              have d223 := c223
                              rw [fa_le] at d223
                              refine lv_aload_n hx hb dX10_keep_242 rfl (lv_at hl 2 rfl) ?_
                              refine m_get (v := .ref (a 5)) hx hb hts hin hown hK hP 5 (by decide) rfl (hts (.fieldLink RX10 19 "ShadowBenchModel" "sums" "[I") (by decide +kernel)) rfl dX10_keep_243 ?_
                              refine lv_bipush (v := 44) hx hb dX10_keep_246 (by decide) ?_
                              refine lv_iload_n hx hb dX10_keep_248 rfl (lv_at hl 5 rfl) ?_
                              refine lv_imul hx hb dX10_keep_249 ?_
                              refine lv_topi (fun v249 e249 => ?_)
                              have i249 : v249.toInt = 44 * k0.toInt := by rw [e249]; exact mulcL rfl (by omega) (by omega)
                              refine lv_bipush (v := 11) hx hb dX10_keep_250 (by decide) ?_
                              refine lv_iadd hx hb dX10_keep_252 ?_
                              refine lv_topi (fun v252 e252 => ?_)
                              have i252 : v252.toInt = v249.toInt + (11 : Int32).toInt := by rw [e252]; exact fb_addI (by omega) (by omega)
                              refine lv_iload hx hb dX10_keep_253 (lv_at hl 0 rfl) ?_
                              refine lv_iadd hx hb dX10_keep_255 ?_
                              refine lv_topi (fun v255 e255 => ?_)
                              have i255 : v255.toInt = v252.toInt + (nI i).toInt := by rw [e255]; exact fb_addI (by omega) (by omega)
                              refine lv_aload_n hx hb dX10_keep_256 rfl (lv_at hl 2 rfl) ?_
                              refine m_get (v := .ref (a 4)) hx hb hts hin hown hK hP 4 (by decide) rfl (hts (.fieldLink RX10 16 "ShadowBenchModel" "high" "[I") (by decide +kernel)) rfl dX10_keep_257 ?_
                              refine lv_iload_n hx hb dX10_keep_260 rfl (lv_at hl 5 rfl) ?_
                              refine m_iald (w := (r 4)) hx hb hK hP 3 rfl (vp_in_iff.mpr ⟨by omega, by omega⟩) dX10_keep_261 ?_
                              refine lv_topi (fun v261 e261 => ?_)
                              have i261 : v261.toInt = ((r 4) k0.toNatClampNeg).toInt := congrArg Int32.toInt e261
                              have w261 := mi_h hI (x := k0) (by omega) (by omega) e261
                              refine lv_isub hx hb dX10_keep_262 ?_
                              refine lv_topi (fun v262 e262 => ?_)
                              have i262 : v262.toInt = v255.toInt - v261.toInt := by rw [e262]; exact fb_subI (by omega) (by omega)
                              have ck9 := m_cl (x := k0) (by omega)
                              have cv8 := m_cl (x := v262) (by omega)
                              have ch9 := m_cl (x := v222) (by omega)
                              have f262 : v262.toNatClampNeg = 44 * k0.toNatClampNeg + (11 + i - v222.toNatClampNeg) := by omega
                              rw [e222] at ch9 f262
                              refine m_iald (w := (r 5)) hx hb hK hP 4 rfl (vp_in_iff.mpr ⟨by omega, by omega⟩) dX10_keep_263 ?_
                              refine lv_topi (fun v263 e263 => ?_)
                              have i263 : v263.toInt = ((r 5) v262.toNatClampNeg).toInt := congrArg Int32.toInt e263
                              refine lv_i2l (v := v263.toInt64) hx hb dX10_keep_264 rfl ?_
                              refine m_last (w := s3) hx hb hK hP hD hS 21 rfl (vp_in_iff.mpr ⟨by omega, by omega⟩) (va_up (va_up q 33 s3) 33 (vp_updL s3 v198.toNatClampNeg v263.toInt64)) (ms_33 cy mo a _ _ _ _ _) dX10_keep_265 (fun H locs hP hS => ?_)
                              have hP := wm_eq rfl rfl rfl (es_q_33__33 q s3 (vp_updL s3 v198.toNatClampNeg v263.toInt64)) hP
                              refine lv_iinc (v := (nI (i + 1))) (lv' := [(7, .int (nI (i + 1))), (6, .int (1 : Int32)), (0, .ref mo), (1, .int d), (2, .int what), (3, .int k0), (4, .long p0)]) hx hb dX10_keep_266 hl (k := 0) rfl (nI_1 _) (by decide) rfl (fun ls hl => ?_)
                              refine lv_goto (tgt := 177) hx hb dX10_keep_269 (by decide) ?_
                              have hP := wm_eq rfl rfl (ec_r_29_30__29_30 r ((upd (r 29) d.toNatClampNeg what)) ((upd (r 30) d.toNatClampNeg v131))) rfl hP
                              exact ih_177 (i + 1) (vp_updL s3 v198.toNatClampNeg v263.toInt64) (by omega) (by rw [j177_1, f198]; exact setQ_v (by first | (rw [keG_3 (by omega)]; exact one_bI (by omega) q208) | (rw [keG_4 (by omega) (by omega), e237, f236]; done) | (rw [keG_5 (by omega) (by omega), e263, f262]; done) | (exfalso; omega))) (by omega) _ _ hP hS ls (lv_sub hl [0, 1, 2, 3, 4, 5, 6] rfl)
                            · skip
                              have d223 := c223
                              rw [fa_le] at d223
                              refine lv_aload_n hx hb dX10_keep_226 rfl (lv_at hl 2 rfl) ?_
                              refine m_get (v := .ref (a 5)) hx hb hts hin hown hK hP 5 (by decide) rfl (hts (.fieldLink RX10 19 "ShadowBenchModel" "sums" "[I") (by decide +kernel)) rfl dX10_keep_227 ?_
                              refine lv_bipush (v := 44) hx hb dX10_keep_230 (by decide) ?_
                              refine lv_iload_n hx hb dX10_keep_232 rfl (lv_at hl 5 rfl) ?_
                              refine lv_imul hx hb dX10_keep_233 ?_
                              refine lv_topi (fun v233 e233 => ?_)
                              have i233 : v233.toInt = 44 * k0.toInt := by rw [e233]; exact mulcL rfl (by omega) (by omega)
                              refine lv_iload hx hb dX10_keep_234 (lv_at hl 0 rfl) ?_
                              refine lv_iadd hx hb dX10_keep_236 ?_
                              refine lv_topi (fun v236 e236 => ?_)
                              have i236 : v236.toInt = v233.toInt + (nI i).toInt := by rw [e236]; exact fb_addI (by omega) (by omega)
                              have ck9 := m_cl (x := k0) (by omega)
                              have cv8 := m_cl (x := v236) (by omega)
                              have f236 : v236.toNatClampNeg = 44 * k0.toNatClampNeg + i := by omega
                              have ch9 := m_cl (x := v222) (by omega)
                              rw [e222] at ch9
                              refine m_iald (w := (r 5)) hx hb hK hP 4 rfl (vp_in_iff.mpr ⟨by omega, by omega⟩) dX10_keep_237 ?_
                              refine lv_topi (fun v237 e237 => ?_)
                              have i237 : v237.toInt = ((r 5) v236.toNatClampNeg).toInt := congrArg Int32.toInt e237
                              refine lv_i2l (v := v237.toInt64) hx hb dX10_keep_238 rfl ?_
                              refine lv_goto (tgt := 265) hx hb dX10_keep_239 (by decide) ?_
                              refine m_last (w := s3) hx hb hK hP hD hS 21 rfl (vp_in_iff.mpr ⟨by omega, by omega⟩) (va_up (va_up q 33 s3) 33 (vp_updL s3 v198.toNatClampNeg v237.toInt64)) (ms_33 cy mo a _ _ _ _ _) dX10_keep_265 (fun H locs hP hS => ?_)
                              have hP := wm_eq rfl rfl rfl (es_q_33__33 q s3 (vp_updL s3 v198.toNatClampNeg v237.toInt64)) hP
                              refine lv_iinc (v := (nI (i + 1))) (lv' := [(7, .int (nI (i + 1))), (6, .int (1 : Int32)), (0, .ref mo), (1, .int d), (2, .int what), (3, .int k0), (4, .long p0)]) hx hb dX10_keep_266 hl (k := 0) rfl (nI_1 _) (by decide) rfl (fun ls hl => ?_)
                              refine lv_goto (tgt := 177) hx hb dX10_keep_269 (by decide) ?_
                              have hP := wm_eq rfl rfl (ec_r_29_30__29_30 r ((upd (r 29) d.toNatClampNeg what)) ((upd (r 30) d.toNatClampNeg v131))) rfl hP
                              exact ih_177 (i + 1) (vp_updL s3 v198.toNatClampNeg v237.toInt64) (by omega) (by rw [j177_1, f198]; exact setQ_v (by first | (rw [keG_3 (by omega)]; exact one_bI (by omega) q208) | (rw [keG_4 (by omega) (by omega), e237, f236]; done) | (rw [keG_5 (by omega) (by omega), e263, f262]; done) | (exfalso; omega))) (by omega) _ _ hP hS ls (lv_sub hl [0, 1, 2, 3, 4, 5, 6] rfl)
                          · first | exact absurd c201 c95 | exact absurd c95 c201
                    have hP := wm_eq rfl rfl (ec_r_29_30__29_30 r ((upd (r 29) d.toNatClampNeg what)) ((upd (r 30) d.toNatClampNeg v131))) (ec_q___33 q ) hP
                    exact loop_177 (60 + 1) 0 (q 33) (by omega) ((setQ_0 _ _ _).symm) (by omega) _ _ hP hS ls (lv_sub hl [0, 1, 2, 3, 4, 5, 6] rfl)
                  · skip
                    have d139 := c139
                    rw [fa_eq] at d139
                    refine lv_aload_n hx hb dX10_keep_142 rfl (lv_at hl 1 rfl) ?_
                    refine m_get (v := .ref (a 31)) hx hb hts hin hown hK hP 31 (by decide) rfl (hts (.fieldLink RX10 67 "ShadowBenchModel" "shelfWeight" "[I") (by decide +kernel)) rfl dX10_keep_143 ?_
                    refine lv_iload_n hx hb dX10_keep_146 rfl (lv_at hl 2 rfl) ?_
                    refine lv_aload_n hx hb dX10_keep_147 rfl (lv_at hl 1 rfl) ?_
                    refine lv_iload_n hx hb dX10_keep_148 rfl (lv_at hl 4 rfl) ?_
                    refine m_calli (As := [.int k0]) (rest := [.int d, .ref (a 31)]) ⟨hx, hb, hml, hown, hts⟩ (c_X10_weightOf l D cy mo a (upd f 0 (0 : Int32)) g (va_up (va_up r 29 ((upd (r 29) d.toNatClampNeg what))) 30 ((upd (r 30) d.toNatClampNeg v131))) q k0 hD (by first | exact hI | exact mi_sz (d := d) hI (v := 0) (by first | omega | decide) rfl rfl rfl rfl rfl rfl rfl rfl | exact mi_sz (d := d) hI (v := v131) (by first | omega | decide) rfl rfl rfl rfl rfl rfl rfl rfl | exact mi_sz (d := d) hI (v := v110) (by first | omega | decide) rfl rfl rfl rfl rfl rfl rfl rfl) (show 0 ≤ k0.toInt ∧ k0.toInt < (f 1).toInt by omega)) (cwV 1 hts gX10_keep_X10_weightOf rfl rfl rfl (by decide +kernel) ⟨Nat.le_of_ble_eq_true rfl, Nat.le_of_ble_eq_true rfl⟩) hK hP rfl hl.1 rfl (Nat.le_of_ble_eq_true rfl) dX10_keep_149 ⟨Nat.le_of_ble_eq_true rfl, Nat.le_of_ble_eq_true rfl⟩ hS (fun r149 u H locs q149 hP hS => ?_)
                    obtain ⟨rfl, q149⟩ := q149
                    have hP : va_P D vwCl (WM cy mo a (upd f 0 (0 : Int32)) g (va_up (va_up r 29 ((upd (r 29) d.toNatClampNeg what))) 30 ((upd (r 30) d.toNatClampNeg v131))) q) H := hP
                    have q149 : True := q149
                    refine m_iast (w := (r 31)) hx hb hK hP hD hS 19 rfl (vp_in_iff.mpr ⟨by omega, by omega⟩) (va_up (va_up (va_up r 29 ((upd (r 29) d.toNatClampNeg what))) 30 ((upd (r 30) d.toNatClampNeg v131))) 31 (upd (r 31) d.toNatClampNeg r149)) (ms_31 cy mo a _ _ _ _ _) dX10_keep_152 (fun H locs hP hS => ?_)
                    refine lv_aload_n hx hb dX10_keep_153 rfl (lv_at hl 1 rfl) ?_
                    refine m_get (v := .ref (a 32)) hx hb hts hin hown hK hP 32 (by decide) rfl (hts (.fieldLink RX10 70 "ShadowBenchModel" "shelfFailure" "[I") (by decide +kernel)) rfl dX10_keep_154 ?_
                    refine lv_iload_n hx hb dX10_keep_157 rfl (lv_at hl 2 rfl) ?_
                    refine lv_aload_n hx hb dX10_keep_158 rfl (lv_at hl 1 rfl) ?_
                    refine m_get (v := .ref (a 2)) hx hb hts hin hown hK hP 2 (by decide) rfl (hts (.fieldLink RX10 7 "ShadowBenchModel" "kind" "[I") (by decide +kernel)) rfl dX10_keep_159 ?_
                    refine lv_iload_n hx hb dX10_keep_162 rfl (lv_at hl 4 rfl) ?_
                    refine m_iald (w := (r 2)) hx hb hK hP 1 rfl (vp_in_iff.mpr ⟨by omega, by omega⟩) dX10_keep_163 ?_
                    refine lv_topi (fun v163 e163 => ?_)
                    have i163 : v163.toInt = ((r 2) k0.toNatClampNeg).toInt := congrArg Int32.toInt e163
                    refine lv_if_ne (tgt := 172) hx hb dX10_keep_164 (by decide) (fun c164 => ?_) (fun c164 => ?_)
                    · skip
                      have d164 := c164
                      rw [fa_eq] at d164
                      refine lv_iload_n hx hb dX10_keep_172 rfl (lv_at hl 4 rfl) ?_
                      refine m_iast (w := (r 32)) hx hb hK hP hD hS 20 rfl (vp_in_iff.mpr ⟨by omega, by omega⟩) (va_up (va_up (va_up (va_up r 29 ((upd (r 29) d.toNatClampNeg what))) 30 ((upd (r 30) d.toNatClampNeg v131))) 31 ((upd (r 31) d.toNatClampNeg r149))) 32 (upd (r 32) d.toNatClampNeg k0)) (ms_32 cy mo a _ _ _ _ _) dX10_keep_173 (fun H locs hP hS => ?_)
                      refine lv_iconst (v := 0) hx hb dX10_keep_174 (by decide) ?_
                      refine lv_istore (lv' := [(7, .int (0 : Int32)), (6, .int (1 : Int32)), (0, .ref mo), (1, .int d), (2, .int what), (3, .int k0), (4, .long p0)]) hx hb dX10_keep_175 hl (by decide) rfl (fun ls hl => ?_)
                      have loop_177 : ∀ (n : Nat) (i : Nat) (s3 : Nat → Int64), (i ≤ 60 ∧ (i : Int) ≤ nv9.toInt) → (s3 = setQ (q 33) (60 * d.toNatClampNeg) (keG what p0 (r 4 k0.toNatClampNeg).toNatClampNeg (fun x9 => r 5 (44 * k0.toNatClampNeg + x9))) i) → 60 - i < n → ∀ (H : Heap) (locs : List Loc), va_P D vwCl (WM cy mo a (upd f 0 (0 : Int32)) g (va_up (va_up (va_up (va_up r 29 ((upd (r 29) d.toNatClampNeg what))) 30 ((upd (r 30) d.toNatClampNeg v131))) 31 ((upd (r 31) d.toNatClampNeg r149))) 32 ((upd (r 32) d.toNatClampNeg k0))) (va_up q 33 s3)) H → va_S (AM mo a) s.heap H locs → ∀ (ls : Array Slot), lv_has ls 8 [(7, .int (nI i)), (6, .int (1 : Int32)), (0, .ref mo), (1, .int d), (2, .int what), (3, .int k0), (4, .long p0)] → W p l e (headSpec wsX10_keep ({ frames := 3, cells := 0, slots := 0, locals := 69 })).room s m #[Value.ref mo, Value.int d, Value.int what, Value.int k0, Value.long p0] below meth c H locs 0 0 (MQ below (va_Qi (fun r0 u => ∃ (sh : Nat → Int32), ∃ (sz : Nat → Int32), ∃ (sw : Nat → Int32), ∃ (sf : Nat → Int32), ∃ (sr : Nat → Int64), u = ((upd f 0 (0 : Int32)), g, (va_up (va_up (va_up (va_up r 29 sh) 30 sz) 31 sw) 32 sf), (va_up q 33 sr)) ∧ (yesNo (okKeep (f 1) (fun j9 => (r 3 j9).toNatClampNeg) (fun j9 => (r 4 j9).toNatClampNeg) d what k0 p0) 0 (-1) r0 ∧ ((okKeep (f 1) (fun j9 => (r 3 j9).toNatClampNeg) (fun j9 => (r 4 j9).toNatClampNeg) d what k0 p0 ∧ ∃ nv, sh = upd (r 29) d.toNatClampNeg what ∧ sz = upd (r 30) d.toNatClampNeg nv ∧ (what.toInt = 3 → nv.toInt = (((r 3 k0.toNatClampNeg).toNatClampNeg * (r 4 k0.toNatClampNeg).toNatClampNeg : Nat) : Int)) ∧ (what.toInt = 4 → nv.toInt = (((r 4 k0.toNatClampNeg).toNatClampNeg + (r 3 k0.toNatClampNeg).toNatClampNeg : Nat) : Int)) ∧ sr = setQ (q 33) (60 * d.toNatClampNeg) (keG what p0 (r 4 k0.toNatClampNeg).toNatClampNeg (fun x9 => r 5 (44 * k0.toNatClampNeg + x9))) nv.toNatClampNeg ∧ nv.toNatClampNeg ≤ 60) ∨ (¬ okKeep (f 1) (fun j9 => (r 3 j9).toNatClampNeg) (fun j9 => (r 4 j9).toNatClampNeg) d what k0 p0 ∧ sh = r 29 ∧ sz = r 30 ∧ sr = q 33)) ∧ MI (upd f 0 (0 : Int32)) (va_up (va_up (va_up (va_up r 29 sh) 30 sz) 31 sw) 32 sf))) (mB D cy mo a) (AM mo a)) #[Value.ref mo, Value.int d, Value.int what, Value.int k0, Value.long p0] s 0 0 (AM mo a)) (F0 m 177 ls []) := by
                        intro n
                        induction n with
                        | zero => intro i s3 j177_0 j177_1 hn; exact absurd hn (Nat.not_lt_zero _)
                        | succ n ih_177 =>
                          intro i s3 j177_0 j177_1 hn_177 H locs hP hS ls hl
                          have ii : (nI i).toInt = (i : Int) := nI_toInt (by omega)
                          refine lv_iload hx hb dX10_keep_177 (lv_at hl 0 rfl) ?_
                          refine lv_aload_n hx hb dX10_keep_179 rfl (lv_at hl 2 rfl) ?_
                          refine m_get (v := .ref (a 30)) hx hb hts hin hown hK hP 30 (by decide) rfl (hts (.fieldLink RX10 64 "ShadowBenchModel" "shelfSize" "[I") (by decide +kernel)) rfl dX10_keep_180 ?_
                          refine lv_iload_n hx hb dX10_keep_183 rfl (lv_at hl 3 rfl) ?_
                          refine m_iald (w := ((upd (r 30) d.toNatClampNeg v131))) hx hb hK hP 18 rfl (vp_in_iff.mpr ⟨by omega, by omega⟩) dX10_keep_184 ?_
                          refine lv_topi (fun v184 e184 => ?_)
                          have i184 : v184.toInt = (((upd (r 30) d.toNatClampNeg v131)) d.toNatClampNeg).toInt := congrArg Int32.toInt e184
                          have z184 := e184
                          simp only [upd, if_true] at z184
                          have y184 := congrArg Int32.toInt z184
                          have y184 : v184 = nv9 := by rw [e184, hnv9]; simp only [upd, if_true]
                          have i184 := congrArg Int32.toInt y184
                          refine lv_icmp_ge (tgt := 272) hx hb dX10_keep_185 (by decide) (fun c185 => ?_) (fun c185 => ?_)
                          · skip
                            have d185 := c185
                            rw [fa_le] at d185
                            refine lv_iconst (v := 0) hx hb dX10_keep_272 (by decide) ?_
                            have hP := wm_eq rfl rfl (ec_r_29_30_31_32__29_30_31_32 r ((upd (r 29) d.toNatClampNeg what)) ((upd (r 30) d.toNatClampNeg v131)) ((upd (r 31) d.toNatClampNeg r149)) ((upd (r 32) d.toNatClampNeg k0))) rfl hP
                            exact W.iret (v := (0 : Int32)) hx hb hr (fun t ht hW => ⟨⟨_, ((upd f 0 (0 : Int32)), g, (va_up (va_up (va_up (va_up r 29 (((upd (r 29) d.toNatClampNeg what)))) 30 (((upd (r 30) d.toNatClampNeg v131)))) 31 (((upd (r 31) d.toNatClampNeg r149)))) 32 (((upd (r 32) d.toNatClampNeg k0)))), (va_up q 33 s3)), rfl, ⟨((upd (r 29) d.toNatClampNeg what)), ((upd (r 30) d.toNatClampNeg v131)), ((upd (r 31) d.toNatClampNeg r149)), ((upd (r 32) d.toNatClampNeg k0)), s3, rfl, ⟨(Or.inl ⟨⟨b9, (by unfold okJob; first | exact Or.inl (by omega) | exact Or.inr (Or.inl ⟨by omega, b31⟩) | (have z9 := goodP_of b64; subst e52; subst e58; exact Or.inr (Or.inr ⟨by omega, b44, z9.2⟩)))⟩, rfl⟩), (Or.inl ⟨⟨b9, (by unfold okJob; first | exact Or.inl (by omega) | exact Or.inr (Or.inl ⟨by omega, b31⟩) | (have z9 := goodP_of b64; subst e52; subst e58; exact Or.inr (Or.inr ⟨by omega, b44, z9.2⟩)))⟩, _, rfl, rfl, (fun z9 => by first | (exfalso; omega) | exact y110), (fun z9 => by first | (exfalso; omega) | exact y131), (by have c9 := m_cl (x := nv9) (by omega); rw [j177_1, ← hnv9, show i = nv9.toNatClampNeg by omega]), (by have c9 := m_cl (x := nv9) (by omega); rw [hnv9] at c9; omega)⟩), by first | exact hI | exact mi_sz (d := d) hI (v := v110) (by omega) rfl rfl rfl rfl rfl rfl rfl rfl | exact mi_sz (d := d) hI (v := v131) (by omega) rfl rfl rfl rfl rfl rfl rfl rfl | exact mi_sz (d := d) hI (v := 0) (by decide) rfl rfl rfl rfl rfl rfl rfl rfl⟩⟩, by unfold mB; rw [ht]; exact hP⟩, hS.F ht⟩) hS.2.2 dX10_keep_273
                          · skip
                            have d185 := c185
                            rw [fa_le] at d185
                            refine lv_aload_n hx hb dX10_keep_188 rfl (lv_at hl 2 rfl) ?_
                            refine m_get (v := .ref (a 33)) hx hb hts hin hown hK hP 33 (by decide) rfl (hts (.fieldLink RX10 73 "ShadowBenchModel" "shelfRow" "[J") (by decide +kernel)) rfl dX10_keep_189 ?_
                            refine lv_bipush (v := 60) hx hb dX10_keep_192 (by decide) ?_
                            refine lv_iload_n hx hb dX10_keep_194 rfl (lv_at hl 3 rfl) ?_
                            refine lv_imul hx hb dX10_keep_195 ?_
                            refine lv_topi (fun v195 e195 => ?_)
                            have i195 : v195.toInt = 60 * d.toInt := by rw [e195]; exact mulcL rfl (by omega) (by omega)
                            refine lv_iload hx hb dX10_keep_196 (lv_at hl 0 rfl) ?_
                            refine lv_iadd hx hb dX10_keep_198 ?_
                            refine lv_topi (fun v198 e198 => ?_)
                            have i198 : v198.toInt = v195.toInt + (nI i).toInt := by rw [e198]; exact fb_addI (by omega) (by omega)
                            have cd9 := m_cl (x := d) (by omega)
                            have cv9 := m_cl (x := v198) (by omega)
                            have f198 : v198.toNatClampNeg = 60 * d.toNatClampNeg + i := by omega
                            refine lv_iload_n hx hb dX10_keep_199 rfl (lv_at hl 4 rfl) ?_
                            refine lv_iconst (v := 3) hx hb dX10_keep_200 (by decide) ?_
                            refine lv_icmp_ne (tgt := 215) hx hb dX10_keep_201 (by decide) (fun c201 => ?_) (fun c201 => ?_)
                            · skip
                              have d201 := c201
                              rw [fa_eq] at d201
                              refine lv_iload hx hb dX10_keep_215 (lv_at hl 0 rfl) ?_
                              refine lv_aload_n hx hb dX10_keep_217 rfl (lv_at hl 2 rfl) ?_
                              refine m_get (v := .ref (a 4)) hx hb hts hin hown hK hP 4 (by decide) rfl (hts (.fieldLink RX10 16 "ShadowBenchModel" "high" "[I") (by decide +kernel)) rfl dX10_keep_218 ?_
                              refine lv_iload_n hx hb dX10_keep_221 rfl (lv_at hl 5 rfl) ?_
                              refine m_iald (w := (r 4)) hx hb hK hP 3 rfl (vp_in_iff.mpr ⟨by omega, by omega⟩) dX10_keep_222 ?_
                              refine lv_topi (fun v222 e222 => ?_)
                              have i222 : v222.toInt = ((r 4) k0.toNatClampNeg).toInt := congrArg Int32.toInt e222
                              have w222 := mi_h hI (x := k0) (by omega) (by omega) e222
                              refine lv_icmp_ge (tgt := 242) hx hb dX10_keep_223 (by decide) (fun c223 => ?_) (fun c223 => ?_)
                              · skip
                                have d223 := c223
                                rw [fa_le] at d223
                                refine lv_aload_n hx hb dX10_keep_242 rfl (lv_at hl 2 rfl) ?_
                                refine m_get (v := .ref (a 5)) hx hb hts hin hown hK hP 5 (by decide) rfl (hts (.fieldLink RX10 19 "ShadowBenchModel" "sums" "[I") (by decide +kernel)) rfl dX10_keep_243 ?_
                                refine lv_bipush (v := 44) hx hb dX10_keep_246 (by decide) ?_
                                refine lv_iload_n hx hb dX10_keep_248 rfl (lv_at hl 5 rfl) ?_
                                refine lv_imul hx hb dX10_keep_249 ?_
                                refine lv_topi (fun v249 e249 => ?_)
                                have i249 : v249.toInt = 44 * k0.toInt := by rw [e249]; exact mulcL rfl (by omega) (by omega)
                                refine lv_bipush (v := 11) hx hb dX10_keep_250 (by decide) ?_
                                refine lv_iadd hx hb dX10_keep_252 ?_
                                refine lv_topi (fun v252 e252 => ?_)
                                have i252 : v252.toInt = v249.toInt + (11 : Int32).toInt := by rw [e252]; exact fb_addI (by omega) (by omega)
                                refine lv_iload hx hb dX10_keep_253 (lv_at hl 0 rfl) ?_
                                refine lv_iadd hx hb dX10_keep_255 ?_
                                refine lv_topi (fun v255 e255 => ?_)
                                have i255 : v255.toInt = v252.toInt + (nI i).toInt := by rw [e255]; exact fb_addI (by omega) (by omega)
                                refine lv_aload_n hx hb dX10_keep_256 rfl (lv_at hl 2 rfl) ?_
                                refine m_get (v := .ref (a 4)) hx hb hts hin hown hK hP 4 (by decide) rfl (hts (.fieldLink RX10 16 "ShadowBenchModel" "high" "[I") (by decide +kernel)) rfl dX10_keep_257 ?_
                                refine lv_iload_n hx hb dX10_keep_260 rfl (lv_at hl 5 rfl) ?_
                                refine m_iald (w := (r 4)) hx hb hK hP 3 rfl (vp_in_iff.mpr ⟨by omega, by omega⟩) dX10_keep_261 ?_
                                refine lv_topi (fun v261 e261 => ?_)
                                have i261 : v261.toInt = ((r 4) k0.toNatClampNeg).toInt := congrArg Int32.toInt e261
                                have w261 := mi_h hI (x := k0) (by omega) (by omega) e261
                                refine lv_isub hx hb dX10_keep_262 ?_
                                refine lv_topi (fun v262 e262 => ?_)
                                have i262 : v262.toInt = v255.toInt - v261.toInt := by rw [e262]; exact fb_subI (by omega) (by omega)
                                have ck9 := m_cl (x := k0) (by omega)
                                have cv8 := m_cl (x := v262) (by omega)
                                have ch9 := m_cl (x := v222) (by omega)
                                have f262 : v262.toNatClampNeg = 44 * k0.toNatClampNeg + (11 + i - v222.toNatClampNeg) := by omega
                                rw [e222] at ch9 f262
                                refine m_iald (w := (r 5)) hx hb hK hP 4 rfl (vp_in_iff.mpr ⟨by omega, by omega⟩) dX10_keep_263 ?_
                                refine lv_topi (fun v263 e263 => ?_)
                                have i263 : v263.toInt = ((r 5) v262.toNatClampNeg).toInt := congrArg Int32.toInt e263
                                refine lv_i2l (v := v263.toInt64) hx hb dX10_keep_264 rfl ?_
                                refine m_last (w := s3) hx hb hK hP hD hS 21 rfl (vp_in_iff.mpr ⟨by omega, by omega⟩) (va_up (va_up q 33 s3) 33 (vp_updL s3 v198.toNatClampNeg v263.toInt64)) (ms_33 cy mo a _ _ _ _ _) dX10_keep_265 (fun H locs hP hS => ?_)
                                have hP := wm_eq rfl rfl rfl (es_q_33__33 q s3 (vp_updL s3 v198.toNatClampNeg v263.toInt64)) hP
                                refine lv_iinc (v := (nI (i + 1))) (lv' := [(7, .int (nI (i + 1))), (6, .int (1 : Int32)), (0, .ref mo), (1, .int d), (2, .int what), (3, .int k0), (4, .long p0)]) hx hb dX10_keep_266 hl (k := 0) rfl (nI_1 _) (by decide) rfl (fun ls hl => ?_)
                                refine lv_goto (tgt := 177) hx hb dX10_keep_269 (by decide) ?_
                                have hP := wm_eq rfl rfl (ec_r_29_30_31_32__29_30_31_32 r ((upd (r 29) d.toNatClampNeg what)) ((upd (r 30) d.toNatClampNeg v131)) ((upd (r 31) d.toNatClampNeg r149)) ((upd (r 32) d.toNatClampNeg k0))) rfl hP
                                exact ih_177 (i + 1) (vp_updL s3 v198.toNatClampNeg v263.toInt64) (by omega) (by rw [j177_1, f198]; exact setQ_v (by first | (rw [keG_3 (by omega)]; exact one_bI (by omega) q208) | (rw [keG_4 (by omega) (by omega), e237, f236]; done) | (rw [keG_5 (by omega) (by omega), e263, f262]; done) | (exfalso; omega))) (by omega) _ _ hP hS ls (lv_sub hl [0, 1, 2, 3, 4, 5, 6] rfl)
                              · skip
                                have d223 := c223
                                rw [fa_le] at d223
                                refine lv_aload_n hx hb dX10_keep_226 rfl (lv_at hl 2 rfl) ?_
                                refine m_get (v := .ref (a 5)) hx hb hts hin hown hK hP 5 (by decide) rfl (hts (.fieldLink RX10 19 "ShadowBenchModel" "sums" "[I") (by decide +kernel)) rfl dX10_keep_227 ?_
                                refine lv_bipush (v := 44) hx hb dX10_keep_230 (by decide) ?_
                                refine lv_iload_n hx hb dX10_keep_232 rfl (lv_at hl 5 rfl) ?_
                                refine lv_imul hx hb dX10_keep_233 ?_
                                refine lv_topi (fun v233 e233 => ?_)
                                have i233 : v233.toInt = 44 * k0.toInt := by rw [e233]; exact mulcL rfl (by omega) (by omega)
                                refine lv_iload hx hb dX10_keep_234 (lv_at hl 0 rfl) ?_
                                refine lv_iadd hx hb dX10_keep_236 ?_
                                refine lv_topi (fun v236 e236 => ?_)
                                have i236 : v236.toInt = v233.toInt + (nI i).toInt := by rw [e236]; exact fb_addI (by omega) (by omega)
                                have ck9 := m_cl (x := k0) (by omega)
                                have cv8 := m_cl (x := v236) (by omega)
                                have f236 : v236.toNatClampNeg = 44 * k0.toNatClampNeg + i := by omega
                                have ch9 := m_cl (x := v222) (by omega)
                                rw [e222] at ch9
                                refine m_iald (w := (r 5)) hx hb hK hP 4 rfl (vp_in_iff.mpr ⟨by omega, by omega⟩) dX10_keep_237 ?_
                                refine lv_topi (fun v237 e237 => ?_)
                                have i237 : v237.toInt = ((r 5) v236.toNatClampNeg).toInt := congrArg Int32.toInt e237
                                refine lv_i2l (v := v237.toInt64) hx hb dX10_keep_238 rfl ?_
                                refine lv_goto (tgt := 265) hx hb dX10_keep_239 (by decide) ?_
                                refine m_last (w := s3) hx hb hK hP hD hS 21 rfl (vp_in_iff.mpr ⟨by omega, by omega⟩) (va_up (va_up q 33 s3) 33 (vp_updL s3 v198.toNatClampNeg v237.toInt64)) (ms_33 cy mo a _ _ _ _ _) dX10_keep_265 (fun H locs hP hS => ?_)
                                have hP := wm_eq rfl rfl rfl (es_q_33__33 q s3 (vp_updL s3 v198.toNatClampNeg v237.toInt64)) hP
                                refine lv_iinc (v := (nI (i + 1))) (lv' := [(7, .int (nI (i + 1))), (6, .int (1 : Int32)), (0, .ref mo), (1, .int d), (2, .int what), (3, .int k0), (4, .long p0)]) hx hb dX10_keep_266 hl (k := 0) rfl (nI_1 _) (by decide) rfl (fun ls hl => ?_)
                                refine lv_goto (tgt := 177) hx hb dX10_keep_269 (by decide) ?_
                                have hP := wm_eq rfl rfl (ec_r_29_30_31_32__29_30_31_32 r ((upd (r 29) d.toNatClampNeg what)) ((upd (r 30) d.toNatClampNeg v131)) ((upd (r 31) d.toNatClampNeg r149)) ((upd (r 32) d.toNatClampNeg k0))) rfl hP
                                exact ih_177 (i + 1) (vp_updL s3 v198.toNatClampNeg v237.toInt64) (by omega) (by rw [j177_1, f198]; exact setQ_v (by first | (rw [keG_3 (by omega)]; exact one_bI (by omega) q208) | (rw [keG_4 (by omega) (by omega), e237, f236]; done) | (rw [keG_5 (by omega) (by omega), e263, f262]; done) | (exfalso; omega))) (by omega) _ _ hP hS ls (lv_sub hl [0, 1, 2, 3, 4, 5, 6] rfl)
                            · first | exact absurd c201 c95 | exact absurd c95 c201
                      have hP := wm_eq rfl rfl (ec_r_29_30_31_32__29_30_31_32 r ((upd (r 29) d.toNatClampNeg what)) ((upd (r 30) d.toNatClampNeg v131)) ((upd (r 31) d.toNatClampNeg r149)) ((upd (r 32) d.toNatClampNeg k0))) (ec_q___33 q ) hP
                      exact loop_177 (60 + 1) 0 (q 33) (by omega) ((setQ_0 _ _ _).symm) (by omega) _ _ hP hS ls (lv_sub hl [0, 1, 2, 3, 4, 5, 6] rfl)
                    · skip
                      have d164 := c164
                      rw [fa_eq] at d164
                      refine lv_bipush (v := (-15)) hx hb dX10_keep_167 (by decide) ?_
                      refine lv_goto (tgt := 173) hx hb dX10_keep_169 (by decide) ?_
                      refine m_iast (w := (r 32)) hx hb hK hP hD hS 20 rfl (vp_in_iff.mpr ⟨by omega, by omega⟩) (va_up (va_up (va_up (va_up r 29 ((upd (r 29) d.toNatClampNeg what))) 30 ((upd (r 30) d.toNatClampNeg v131))) 31 ((upd (r 31) d.toNatClampNeg r149))) 32 (upd (r 32) d.toNatClampNeg (((-15) : Int32)))) (ms_32 cy mo a _ _ _ _ _) dX10_keep_173 (fun H locs hP hS => ?_)
                      refine lv_iconst (v := 0) hx hb dX10_keep_174 (by decide) ?_
                      refine lv_istore (lv' := [(7, .int (0 : Int32)), (6, .int (1 : Int32)), (0, .ref mo), (1, .int d), (2, .int what), (3, .int k0), (4, .long p0)]) hx hb dX10_keep_175 hl (by decide) rfl (fun ls hl => ?_)
                      have loop_177 : ∀ (n : Nat) (i : Nat) (s3 : Nat → Int64), (i ≤ 60 ∧ (i : Int) ≤ nv9.toInt) → (s3 = setQ (q 33) (60 * d.toNatClampNeg) (keG what p0 (r 4 k0.toNatClampNeg).toNatClampNeg (fun x9 => r 5 (44 * k0.toNatClampNeg + x9))) i) → 60 - i < n → ∀ (H : Heap) (locs : List Loc), va_P D vwCl (WM cy mo a (upd f 0 (0 : Int32)) g (va_up (va_up (va_up (va_up r 29 ((upd (r 29) d.toNatClampNeg what))) 30 ((upd (r 30) d.toNatClampNeg v131))) 31 ((upd (r 31) d.toNatClampNeg r149))) 32 ((upd (r 32) d.toNatClampNeg (((-15) : Int32))))) (va_up q 33 s3)) H → va_S (AM mo a) s.heap H locs → ∀ (ls : Array Slot), lv_has ls 8 [(7, .int (nI i)), (6, .int (1 : Int32)), (0, .ref mo), (1, .int d), (2, .int what), (3, .int k0), (4, .long p0)] → W p l e (headSpec wsX10_keep ({ frames := 3, cells := 0, slots := 0, locals := 69 })).room s m #[Value.ref mo, Value.int d, Value.int what, Value.int k0, Value.long p0] below meth c H locs 0 0 (MQ below (va_Qi (fun r0 u => ∃ (sh : Nat → Int32), ∃ (sz : Nat → Int32), ∃ (sw : Nat → Int32), ∃ (sf : Nat → Int32), ∃ (sr : Nat → Int64), u = ((upd f 0 (0 : Int32)), g, (va_up (va_up (va_up (va_up r 29 sh) 30 sz) 31 sw) 32 sf), (va_up q 33 sr)) ∧ (yesNo (okKeep (f 1) (fun j9 => (r 3 j9).toNatClampNeg) (fun j9 => (r 4 j9).toNatClampNeg) d what k0 p0) 0 (-1) r0 ∧ ((okKeep (f 1) (fun j9 => (r 3 j9).toNatClampNeg) (fun j9 => (r 4 j9).toNatClampNeg) d what k0 p0 ∧ ∃ nv, sh = upd (r 29) d.toNatClampNeg what ∧ sz = upd (r 30) d.toNatClampNeg nv ∧ (what.toInt = 3 → nv.toInt = (((r 3 k0.toNatClampNeg).toNatClampNeg * (r 4 k0.toNatClampNeg).toNatClampNeg : Nat) : Int)) ∧ (what.toInt = 4 → nv.toInt = (((r 4 k0.toNatClampNeg).toNatClampNeg + (r 3 k0.toNatClampNeg).toNatClampNeg : Nat) : Int)) ∧ sr = setQ (q 33) (60 * d.toNatClampNeg) (keG what p0 (r 4 k0.toNatClampNeg).toNatClampNeg (fun x9 => r 5 (44 * k0.toNatClampNeg + x9))) nv.toNatClampNeg ∧ nv.toNatClampNeg ≤ 60) ∨ (¬ okKeep (f 1) (fun j9 => (r 3 j9).toNatClampNeg) (fun j9 => (r 4 j9).toNatClampNeg) d what k0 p0 ∧ sh = r 29 ∧ sz = r 30 ∧ sr = q 33)) ∧ MI (upd f 0 (0 : Int32)) (va_up (va_up (va_up (va_up r 29 sh) 30 sz) 31 sw) 32 sf))) (mB D cy mo a) (AM mo a)) #[Value.ref mo, Value.int d, Value.int what, Value.int k0, Value.long p0] s 0 0 (AM mo a)) (F0 m 177 ls []) := by
                        intro n
                        induction n with
                        | zero => intro i s3 j177_0 j177_1 hn; exact absurd hn (Nat.not_lt_zero _)
                        | succ n ih_177 =>
                          intro i s3 j177_0 j177_1 hn_177 H locs hP hS ls hl
                          have ii : (nI i).toInt = (i : Int) := nI_toInt (by omega)
                          refine lv_iload hx hb dX10_keep_177 (lv_at hl 0 rfl) ?_
                          refine lv_aload_n hx hb dX10_keep_179 rfl (lv_at hl 2 rfl) ?_
                          refine m_get (v := .ref (a 30)) hx hb hts hin hown hK hP 30 (by decide) rfl (hts (.fieldLink RX10 64 "ShadowBenchModel" "shelfSize" "[I") (by decide +kernel)) rfl dX10_keep_180 ?_
                          refine lv_iload_n hx hb dX10_keep_183 rfl (lv_at hl 3 rfl) ?_
                          refine m_iald (w := ((upd (r 30) d.toNatClampNeg v131))) hx hb hK hP 18 rfl (vp_in_iff.mpr ⟨by omega, by omega⟩) dX10_keep_184 ?_
                          refine lv_topi (fun v184 e184 => ?_)
                          have i184 : v184.toInt = (((upd (r 30) d.toNatClampNeg v131)) d.toNatClampNeg).toInt := congrArg Int32.toInt e184
                          have z184 := e184
                          simp only [upd, if_true] at z184
                          have y184 := congrArg Int32.toInt z184
                          have y184 : v184 = nv9 := by rw [e184, hnv9]; simp only [upd, if_true]
                          have i184 := congrArg Int32.toInt y184
                          refine lv_icmp_ge (tgt := 272) hx hb dX10_keep_185 (by decide) (fun c185 => ?_) (fun c185 => ?_)
                          · skip
                            have d185 := c185
                            rw [fa_le] at d185
                            refine lv_iconst (v := 0) hx hb dX10_keep_272 (by decide) ?_
                            have hP := wm_eq rfl rfl (ec_r_29_30_31_32__29_30_31_32 r ((upd (r 29) d.toNatClampNeg what)) ((upd (r 30) d.toNatClampNeg v131)) ((upd (r 31) d.toNatClampNeg r149)) ((upd (r 32) d.toNatClampNeg (((-15) : Int32))))) rfl hP
                            exact W.iret (v := (0 : Int32)) hx hb hr (fun t ht hW => ⟨⟨_, ((upd f 0 (0 : Int32)), g, (va_up (va_up (va_up (va_up r 29 (((upd (r 29) d.toNatClampNeg what)))) 30 (((upd (r 30) d.toNatClampNeg v131)))) 31 (((upd (r 31) d.toNatClampNeg r149)))) 32 (((upd (r 32) d.toNatClampNeg (((-15) : Int32)))))), (va_up q 33 s3)), rfl, ⟨((upd (r 29) d.toNatClampNeg what)), ((upd (r 30) d.toNatClampNeg v131)), ((upd (r 31) d.toNatClampNeg r149)), ((upd (r 32) d.toNatClampNeg (((-15) : Int32)))), s3, rfl, ⟨(Or.inl ⟨⟨b9, (by unfold okJob; first | exact Or.inl (by omega) | exact Or.inr (Or.inl ⟨by omega, b31⟩) | (have z9 := goodP_of b64; subst e52; subst e58; exact Or.inr (Or.inr ⟨by omega, b44, z9.2⟩)))⟩, rfl⟩), (Or.inl ⟨⟨b9, (by unfold okJob; first | exact Or.inl (by omega) | exact Or.inr (Or.inl ⟨by omega, b31⟩) | (have z9 := goodP_of b64; subst e52; subst e58; exact Or.inr (Or.inr ⟨by omega, b44, z9.2⟩)))⟩, _, rfl, rfl, (fun z9 => by first | (exfalso; omega) | exact y110), (fun z9 => by first | (exfalso; omega) | exact y131), (by have c9 := m_cl (x := nv9) (by omega); rw [j177_1, ← hnv9, show i = nv9.toNatClampNeg by omega]), (by have c9 := m_cl (x := nv9) (by omega); rw [hnv9] at c9; omega)⟩), by first | exact hI | exact mi_sz (d := d) hI (v := v110) (by omega) rfl rfl rfl rfl rfl rfl rfl rfl | exact mi_sz (d := d) hI (v := v131) (by omega) rfl rfl rfl rfl rfl rfl rfl rfl | exact mi_sz (d := d) hI (v := 0) (by decide) rfl rfl rfl rfl rfl rfl rfl rfl⟩⟩, by unfold mB; rw [ht]; exact hP⟩, hS.F ht⟩) hS.2.2 dX10_keep_273
                          · skip
                            have d185 := c185
                            rw [fa_le] at d185
                            refine lv_aload_n hx hb dX10_keep_188 rfl (lv_at hl 2 rfl) ?_
                            refine m_get (v := .ref (a 33)) hx hb hts hin hown hK hP 33 (by decide) rfl (hts (.fieldLink RX10 73 "ShadowBenchModel" "shelfRow" "[J") (by decide +kernel)) rfl dX10_keep_189 ?_
                            refine lv_bipush (v := 60) hx hb dX10_keep_192 (by decide) ?_
                            refine lv_iload_n hx hb dX10_keep_194 rfl (lv_at hl 3 rfl) ?_
                            refine lv_imul hx hb dX10_keep_195 ?_
                            refine lv_topi (fun v195 e195 => ?_)
                            have i195 : v195.toInt = 60 * d.toInt := by rw [e195]; exact mulcL rfl (by omega) (by omega)
                            refine lv_iload hx hb dX10_keep_196 (lv_at hl 0 rfl) ?_
                            refine lv_iadd hx hb dX10_keep_198 ?_
                            refine lv_topi (fun v198 e198 => ?_)
                            have i198 : v198.toInt = v195.toInt + (nI i).toInt := by rw [e198]; exact fb_addI (by omega) (by omega)
                            have cd9 := m_cl (x := d) (by omega)
                            have cv9 := m_cl (x := v198) (by omega)
                            have f198 : v198.toNatClampNeg = 60 * d.toNatClampNeg + i := by omega
                            refine lv_iload_n hx hb dX10_keep_199 rfl (lv_at hl 4 rfl) ?_
                            refine lv_iconst (v := 3) hx hb dX10_keep_200 (by decide) ?_
                            refine lv_icmp_ne (tgt := 215) hx hb dX10_keep_201 (by decide) (fun c201 => ?_) (fun c201 => ?_)
                            · skip
                              have d201 := c201
                              rw [fa_eq] at d201
                              refine lv_iload hx hb dX10_keep_215 (lv_at hl 0 rfl) ?_
                              refine lv_aload_n hx hb dX10_keep_217 rfl (lv_at hl 2 rfl) ?_
                              refine m_get (v := .ref (a 4)) hx hb hts hin hown hK hP 4 (by decide) rfl (hts (.fieldLink RX10 16 "ShadowBenchModel" "high" "[I") (by decide +kernel)) rfl dX10_keep_218 ?_
                              refine lv_iload_n hx hb dX10_keep_221 rfl (lv_at hl 5 rfl) ?_
                              refine m_iald (w := (r 4)) hx hb hK hP 3 rfl (vp_in_iff.mpr ⟨by omega, by omega⟩) dX10_keep_222 ?_
                              refine lv_topi (fun v222 e222 => ?_)
                              have i222 : v222.toInt = ((r 4) k0.toNatClampNeg).toInt := congrArg Int32.toInt e222
                              have w222 := mi_h hI (x := k0) (by omega) (by omega) e222
                              refine lv_icmp_ge (tgt := 242) hx hb dX10_keep_223 (by decide) (fun c223 => ?_) (fun c223 => ?_)
                              · skip
                                have d223 := c223
                                rw [fa_le] at d223
                                refine lv_aload_n hx hb dX10_keep_242 rfl (lv_at hl 2 rfl) ?_
                                refine m_get (v := .ref (a 5)) hx hb hts hin hown hK hP 5 (by decide) rfl (hts (.fieldLink RX10 19 "ShadowBenchModel" "sums" "[I") (by decide +kernel)) rfl dX10_keep_243 ?_
                                refine lv_bipush (v := 44) hx hb dX10_keep_246 (by decide) ?_
                                refine lv_iload_n hx hb dX10_keep_248 rfl (lv_at hl 5 rfl) ?_
                                refine lv_imul hx hb dX10_keep_249 ?_
                                refine lv_topi (fun v249 e249 => ?_)
                                have i249 : v249.toInt = 44 * k0.toInt := by rw [e249]; exact mulcL rfl (by omega) (by omega)
                                refine lv_bipush (v := 11) hx hb dX10_keep_250 (by decide) ?_
                                refine lv_iadd hx hb dX10_keep_252 ?_
                                refine lv_topi (fun v252 e252 => ?_)
                                have i252 : v252.toInt = v249.toInt + (11 : Int32).toInt := by rw [e252]; exact fb_addI (by omega) (by omega)
                                refine lv_iload hx hb dX10_keep_253 (lv_at hl 0 rfl) ?_
                                refine lv_iadd hx hb dX10_keep_255 ?_
                                refine lv_topi (fun v255 e255 => ?_)
                                have i255 : v255.toInt = v252.toInt + (nI i).toInt := by rw [e255]; exact fb_addI (by omega) (by omega)
                                refine lv_aload_n hx hb dX10_keep_256 rfl (lv_at hl 2 rfl) ?_
                                refine m_get (v := .ref (a 4)) hx hb hts hin hown hK hP 4 (by decide) rfl (hts (.fieldLink RX10 16 "ShadowBenchModel" "high" "[I") (by decide +kernel)) rfl dX10_keep_257 ?_
                                refine lv_iload_n hx hb dX10_keep_260 rfl (lv_at hl 5 rfl) ?_
                                refine m_iald (w := (r 4)) hx hb hK hP 3 rfl (vp_in_iff.mpr ⟨by omega, by omega⟩) dX10_keep_261 ?_
                                refine lv_topi (fun v261 e261 => ?_)
                                have i261 : v261.toInt = ((r 4) k0.toNatClampNeg).toInt := congrArg Int32.toInt e261
                                have w261 := mi_h hI (x := k0) (by omega) (by omega) e261
                                refine lv_isub hx hb dX10_keep_262 ?_
                                refine lv_topi (fun v262 e262 => ?_)
                                have i262 : v262.toInt = v255.toInt - v261.toInt := by rw [e262]; exact fb_subI (by omega) (by omega)
                                have ck9 := m_cl (x := k0) (by omega)
                                have cv8 := m_cl (x := v262) (by omega)
                                have ch9 := m_cl (x := v222) (by omega)
                                have f262 : v262.toNatClampNeg = 44 * k0.toNatClampNeg + (11 + i - v222.toNatClampNeg) := by omega
                                rw [e222] at ch9 f262
                                refine m_iald (w := (r 5)) hx hb hK hP 4 rfl (vp_in_iff.mpr ⟨by omega, by omega⟩) dX10_keep_263 ?_
                                refine lv_topi (fun v263 e263 => ?_)
                                have i263 : v263.toInt = ((r 5) v262.toNatClampNeg).toInt := congrArg Int32.toInt e263
                                refine lv_i2l (v := v263.toInt64) hx hb dX10_keep_264 rfl ?_
                                refine m_last (w := s3) hx hb hK hP hD hS 21 rfl (vp_in_iff.mpr ⟨by omega, by omega⟩) (va_up (va_up q 33 s3) 33 (vp_updL s3 v198.toNatClampNeg v263.toInt64)) (ms_33 cy mo a _ _ _ _ _) dX10_keep_265 (fun H locs hP hS => ?_)
                                have hP := wm_eq rfl rfl rfl (es_q_33__33 q s3 (vp_updL s3 v198.toNatClampNeg v263.toInt64)) hP
                                refine lv_iinc (v := (nI (i + 1))) (lv' := [(7, .int (nI (i + 1))), (6, .int (1 : Int32)), (0, .ref mo), (1, .int d), (2, .int what), (3, .int k0), (4, .long p0)]) hx hb dX10_keep_266 hl (k := 0) rfl (nI_1 _) (by decide) rfl (fun ls hl => ?_)
                                refine lv_goto (tgt := 177) hx hb dX10_keep_269 (by decide) ?_
                                have hP := wm_eq rfl rfl (ec_r_29_30_31_32__29_30_31_32 r ((upd (r 29) d.toNatClampNeg what)) ((upd (r 30) d.toNatClampNeg v131)) ((upd (r 31) d.toNatClampNeg r149)) ((upd (r 32) d.toNatClampNeg (((-15) : Int32))))) rfl hP
                                exact ih_177 (i + 1) (vp_updL s3 v198.toNatClampNeg v263.toInt64) (by omega) (by rw [j177_1, f198]; exact setQ_v (by first | (rw [keG_3 (by omega)]; exact one_bI (by omega) q208) | (rw [keG_4 (by omega) (by omega), e237, f236]; done) | (rw [keG_5 (by omega) (by omega), e263, f262]; done) | (exfalso; omega))) (by omega) _ _ hP hS ls (lv_sub hl [0, 1, 2, 3, 4, 5, 6] rfl)
                              · skip
                                have d223 := c223
                                rw [fa_le] at d223
                                refine lv_aload_n hx hb dX10_keep_226 rfl (lv_at hl 2 rfl) ?_
                                refine m_get (v := .ref (a 5)) hx hb hts hin hown hK hP 5 (by decide) rfl (hts (.fieldLink RX10 19 "ShadowBenchModel" "sums" "[I") (by decide +kernel)) rfl dX10_keep_227 ?_
                                refine lv_bipush (v := 44) hx hb dX10_keep_230 (by decide) ?_
                                refine lv_iload_n hx hb dX10_keep_232 rfl (lv_at hl 5 rfl) ?_
                                refine lv_imul hx hb dX10_keep_233 ?_
                                refine lv_topi (fun v233 e233 => ?_)
                                have i233 : v233.toInt = 44 * k0.toInt := by rw [e233]; exact mulcL rfl (by omega) (by omega)
                                refine lv_iload hx hb dX10_keep_234 (lv_at hl 0 rfl) ?_
                                refine lv_iadd hx hb dX10_keep_236 ?_
                                refine lv_topi (fun v236 e236 => ?_)
                                have i236 : v236.toInt = v233.toInt + (nI i).toInt := by rw [e236]; exact fb_addI (by omega) (by omega)
                                have ck9 := m_cl (x := k0) (by omega)
                                have cv8 := m_cl (x := v236) (by omega)
                                have f236 : v236.toNatClampNeg = 44 * k0.toNatClampNeg + i := by omega
                                have ch9 := m_cl (x := v222) (by omega)
                                rw [e222] at ch9
                                refine m_iald (w := (r 5)) hx hb hK hP 4 rfl (vp_in_iff.mpr ⟨by omega, by omega⟩) dX10_keep_237 ?_
                                refine lv_topi (fun v237 e237 => ?_)
                                have i237 : v237.toInt = ((r 5) v236.toNatClampNeg).toInt := congrArg Int32.toInt e237
                                refine lv_i2l (v := v237.toInt64) hx hb dX10_keep_238 rfl ?_
                                refine lv_goto (tgt := 265) hx hb dX10_keep_239 (by decide) ?_
                                refine m_last (w := s3) hx hb hK hP hD hS 21 rfl (vp_in_iff.mpr ⟨by omega, by omega⟩) (va_up (va_up q 33 s3) 33 (vp_updL s3 v198.toNatClampNeg v237.toInt64)) (ms_33 cy mo a _ _ _ _ _) dX10_keep_265 (fun H locs hP hS => ?_)
                                have hP := wm_eq rfl rfl rfl (es_q_33__33 q s3 (vp_updL s3 v198.toNatClampNeg v237.toInt64)) hP
                                refine lv_iinc (v := (nI (i + 1))) (lv' := [(7, .int (nI (i + 1))), (6, .int (1 : Int32)), (0, .ref mo), (1, .int d), (2, .int what), (3, .int k0), (4, .long p0)]) hx hb dX10_keep_266 hl (k := 0) rfl (nI_1 _) (by decide) rfl (fun ls hl => ?_)
                                refine lv_goto (tgt := 177) hx hb dX10_keep_269 (by decide) ?_
                                have hP := wm_eq rfl rfl (ec_r_29_30_31_32__29_30_31_32 r ((upd (r 29) d.toNatClampNeg what)) ((upd (r 30) d.toNatClampNeg v131)) ((upd (r 31) d.toNatClampNeg r149)) ((upd (r 32) d.toNatClampNeg (((-15) : Int32))))) rfl hP
                                exact ih_177 (i + 1) (vp_updL s3 v198.toNatClampNeg v237.toInt64) (by omega) (by rw [j177_1, f198]; exact setQ_v (by first | (rw [keG_3 (by omega)]; exact one_bI (by omega) q208) | (rw [keG_4 (by omega) (by omega), e237, f236]; done) | (rw [keG_5 (by omega) (by omega), e263, f262]; done) | (exfalso; omega))) (by omega) _ _ hP hS ls (lv_sub hl [0, 1, 2, 3, 4, 5, 6] rfl)
                            · first | exact absurd c201 c95 | exact absurd c95 c201
                      have hP := wm_eq rfl rfl (ec_r_29_30_31_32__29_30_31_32 r ((upd (r 29) d.toNatClampNeg what)) ((upd (r 30) d.toNatClampNeg v131)) ((upd (r 31) d.toNatClampNeg r149)) ((upd (r 32) d.toNatClampNeg (((-15) : Int32))))) (ec_q___33 q ) hP
                      exact loop_177 (60 + 1) 0 (q 33) (by omega) ((setQ_0 _ _ _).symm) (by omega) _ _ hP hS ls (lv_sub hl [0, 1, 2, 3, 4, 5, 6] rfl)
              · skip
                have d95 := c95
                rw [fa_eq] at d95
                refine lv_aload_n hx hb dX10_keep_98 rfl (lv_at hl 1 rfl) ?_
                refine m_get (v := .ref (a 3)) hx hb hts hin hown hK hP 3 (by decide) rfl (hts (.fieldLink RX10 13 "ShadowBenchModel" "wide" "[I") (by decide +kernel)) rfl dX10_keep_99 ?_
                refine lv_iload_n hx hb dX10_keep_102 rfl (lv_at hl 4 rfl) ?_
                refine m_iald (w := (r 3)) hx hb hK hP 2 rfl (vp_in_iff.mpr ⟨by omega, by omega⟩) dX10_keep_103 ?_
                refine lv_topi (fun v103 e103 => ?_)
                have i103 : v103.toInt = ((r 3) k0.toNatClampNeg).toInt := congrArg Int32.toInt e103
                have w103 := mi_w hI (x := k0) (by omega) (by omega) e103
                refine lv_aload_n hx hb dX10_keep_104 rfl (lv_at hl 1 rfl) ?_
                refine m_get (v := .ref (a 4)) hx hb hts hin hown hK hP 4 (by decide) rfl (hts (.fieldLink RX10 16 "ShadowBenchModel" "high" "[I") (by decide +kernel)) rfl dX10_keep_105 ?_
                refine lv_iload_n hx hb dX10_keep_108 rfl (lv_at hl 4 rfl) ?_
                refine m_iald (w := (r 4)) hx hb hK hP 3 rfl (vp_in_iff.mpr ⟨by omega, by omega⟩) dX10_keep_109 ?_
                refine lv_topi (fun v109 e109 => ?_)
                have i109 : v109.toInt = ((r 4) k0.toNatClampNeg).toInt := congrArg Int32.toInt e109
                have w109 := mi_h hI (x := k0) (by omega) (by omega) e109
                have m110 := mul66 w103 w109
                refine lv_imul hx hb dX10_keep_110 ?_
                refine lv_topi (fun v110 e110 => ?_)
                have i110 : v110.toInt = v103.toInt * v109.toInt := by rw [e110]; exact fb_mulI (by omega) (by omega)
                have y110 : v110.toInt = (((r 3 k0.toNatClampNeg).toNatClampNeg * (r 4 k0.toNatClampNeg).toNatClampNeg : Nat) : Int) := by rw [sq_eq hI (j := k0) (by omega) (by omega), i110, e103, e109]
                obtain ⟨nv9, hnv9⟩ : ∃ z9, z9 = v110 := ⟨_, rfl⟩
                have n184 := congrArg Int32.toInt hnv9
                refine lv_goto (tgt := 136) hx hb dX10_keep_111 (by decide) ?_
                refine m_iast (w := (r 30)) hx hb hK hP hD hS 18 rfl (vp_in_iff.mpr ⟨by omega, by omega⟩) (va_up (va_up r 29 ((upd (r 29) d.toNatClampNeg what))) 30 (upd (r 30) d.toNatClampNeg v110)) (ms_30 cy mo a _ _ _ _ _) dX10_keep_136 (fun H locs hP hS => ?_)
                refine lv_iload_n hx hb dX10_keep_137 rfl (lv_at hl 3 rfl) ?_
                refine lv_iconst (v := 1) hx hb dX10_keep_138 (by decide) ?_
                refine lv_icmp_ne (tgt := 174) hx hb dX10_keep_139 (by decide) (fun c139 => ?_) (fun c139 => ?_)
                · skip
                  have d139 := c139
                  rw [fa_eq] at d139
                  refine lv_iconst (v := 0) hx hb dX10_keep_174 (by decide) ?_
                  refine lv_istore (lv' := [(7, .int (0 : Int32)), (6, .int (1 : Int32)), (0, .ref mo), (1, .int d), (2, .int what), (3, .int k0), (4, .long p0)]) hx hb dX10_keep_175 hl (by decide) rfl (fun ls hl => ?_)
                  have loop_177 : ∀ (n : Nat) (i : Nat) (s3 : Nat → Int64), (i ≤ 60 ∧ (i : Int) ≤ nv9.toInt) → (s3 = setQ (q 33) (60 * d.toNatClampNeg) (keG what p0 (r 4 k0.toNatClampNeg).toNatClampNeg (fun x9 => r 5 (44 * k0.toNatClampNeg + x9))) i) → 60 - i < n → ∀ (H : Heap) (locs : List Loc), va_P D vwCl (WM cy mo a (upd f 0 (0 : Int32)) g (va_up (va_up r 29 ((upd (r 29) d.toNatClampNeg what))) 30 ((upd (r 30) d.toNatClampNeg v110))) (va_up q 33 s3)) H → va_S (AM mo a) s.heap H locs → ∀ (ls : Array Slot), lv_has ls 8 [(7, .int (nI i)), (6, .int (1 : Int32)), (0, .ref mo), (1, .int d), (2, .int what), (3, .int k0), (4, .long p0)] → W p l e (headSpec wsX10_keep ({ frames := 3, cells := 0, slots := 0, locals := 69 })).room s m #[Value.ref mo, Value.int d, Value.int what, Value.int k0, Value.long p0] below meth c H locs 0 0 (MQ below (va_Qi (fun r0 u => ∃ (sh : Nat → Int32), ∃ (sz : Nat → Int32), ∃ (sw : Nat → Int32), ∃ (sf : Nat → Int32), ∃ (sr : Nat → Int64), u = ((upd f 0 (0 : Int32)), g, (va_up (va_up (va_up (va_up r 29 sh) 30 sz) 31 sw) 32 sf), (va_up q 33 sr)) ∧ (yesNo (okKeep (f 1) (fun j9 => (r 3 j9).toNatClampNeg) (fun j9 => (r 4 j9).toNatClampNeg) d what k0 p0) 0 (-1) r0 ∧ ((okKeep (f 1) (fun j9 => (r 3 j9).toNatClampNeg) (fun j9 => (r 4 j9).toNatClampNeg) d what k0 p0 ∧ ∃ nv, sh = upd (r 29) d.toNatClampNeg what ∧ sz = upd (r 30) d.toNatClampNeg nv ∧ (what.toInt = 3 → nv.toInt = (((r 3 k0.toNatClampNeg).toNatClampNeg * (r 4 k0.toNatClampNeg).toNatClampNeg : Nat) : Int)) ∧ (what.toInt = 4 → nv.toInt = (((r 4 k0.toNatClampNeg).toNatClampNeg + (r 3 k0.toNatClampNeg).toNatClampNeg : Nat) : Int)) ∧ sr = setQ (q 33) (60 * d.toNatClampNeg) (keG what p0 (r 4 k0.toNatClampNeg).toNatClampNeg (fun x9 => r 5 (44 * k0.toNatClampNeg + x9))) nv.toNatClampNeg ∧ nv.toNatClampNeg ≤ 60) ∨ (¬ okKeep (f 1) (fun j9 => (r 3 j9).toNatClampNeg) (fun j9 => (r 4 j9).toNatClampNeg) d what k0 p0 ∧ sh = r 29 ∧ sz = r 30 ∧ sr = q 33)) ∧ MI (upd f 0 (0 : Int32)) (va_up (va_up (va_up (va_up r 29 sh) 30 sz) 31 sw) 32 sf))) (mB D cy mo a) (AM mo a)) #[Value.ref mo, Value.int d, Value.int what, Value.int k0, Value.long p0] s 0 0 (AM mo a)) (F0 m 177 ls []) := by
                    intro n
                    induction n with
                    | zero => intro i s3 j177_0 j177_1 hn; exact absurd hn (Nat.not_lt_zero _)
                    | succ n ih_177 =>
                      intro i s3 j177_0 j177_1 hn_177 H locs hP hS ls hl
                      have ii : (nI i).toInt = (i : Int) := nI_toInt (by omega)
                      refine lv_iload hx hb dX10_keep_177 (lv_at hl 0 rfl) ?_
                      refine lv_aload_n hx hb dX10_keep_179 rfl (lv_at hl 2 rfl) ?_
                      refine m_get (v := .ref (a 30)) hx hb hts hin hown hK hP 30 (by decide) rfl (hts (.fieldLink RX10 64 "ShadowBenchModel" "shelfSize" "[I") (by decide +kernel)) rfl dX10_keep_180 ?_
                      refine lv_iload_n hx hb dX10_keep_183 rfl (lv_at hl 3 rfl) ?_
                      refine m_iald (w := ((upd (r 30) d.toNatClampNeg v110))) hx hb hK hP 18 rfl (vp_in_iff.mpr ⟨by omega, by omega⟩) dX10_keep_184 ?_
                      refine lv_topi (fun v184 e184 => ?_)
                      have i184 : v184.toInt = (((upd (r 30) d.toNatClampNeg v110)) d.toNatClampNeg).toInt := congrArg Int32.toInt e184
                      have z184 := e184
                      simp only [upd, if_true] at z184
                      have y184 := congrArg Int32.toInt z184
                      have y184 : v184 = nv9 := by rw [e184, hnv9]; simp only [upd, if_true]
                      have i184 := congrArg Int32.toInt y184
                      refine lv_icmp_ge (tgt := 272) hx hb dX10_keep_185 (by decide) (fun c185 => ?_) (fun c185 => ?_)
                      · skip
                        have d185 := c185
                        rw [fa_le] at d185
                        refine lv_iconst (v := 0) hx hb dX10_keep_272 (by decide) ?_
                        have hP := wm_eq rfl rfl (ec_r_29_30__29_30_31_32 r ((upd (r 29) d.toNatClampNeg what)) ((upd (r 30) d.toNatClampNeg v110))) rfl hP
                        exact W.iret (v := (0 : Int32)) hx hb hr (fun t ht hW => ⟨⟨_, ((upd f 0 (0 : Int32)), g, (va_up (va_up (va_up (va_up r 29 (((upd (r 29) d.toNatClampNeg what)))) 30 (((upd (r 30) d.toNatClampNeg v110)))) 31 (r 31)) 32 (r 32)), (va_up q 33 s3)), rfl, ⟨((upd (r 29) d.toNatClampNeg what)), ((upd (r 30) d.toNatClampNeg v110)), (r 31), (r 32), s3, rfl, ⟨(Or.inl ⟨⟨b9, (by unfold okJob; first | exact Or.inl (by omega) | exact Or.inr (Or.inl ⟨by omega, b31⟩) | (have z9 := goodP_of b64; subst e52; subst e58; exact Or.inr (Or.inr ⟨by omega, b44, z9.2⟩)))⟩, rfl⟩), (Or.inl ⟨⟨b9, (by unfold okJob; first | exact Or.inl (by omega) | exact Or.inr (Or.inl ⟨by omega, b31⟩) | (have z9 := goodP_of b64; subst e52; subst e58; exact Or.inr (Or.inr ⟨by omega, b44, z9.2⟩)))⟩, _, rfl, rfl, (fun z9 => by first | (exfalso; omega) | exact y110), (fun z9 => by first | (exfalso; omega) | exact y131), (by have c9 := m_cl (x := nv9) (by omega); rw [j177_1, ← hnv9, show i = nv9.toNatClampNeg by omega]), (by have c9 := m_cl (x := nv9) (by omega); rw [hnv9] at c9; omega)⟩), by first | exact hI | exact mi_sz (d := d) hI (v := v110) (by omega) rfl rfl rfl rfl rfl rfl rfl rfl | exact mi_sz (d := d) hI (v := v131) (by omega) rfl rfl rfl rfl rfl rfl rfl rfl | exact mi_sz (d := d) hI (v := 0) (by decide) rfl rfl rfl rfl rfl rfl rfl rfl⟩⟩, by unfold mB; rw [ht]; exact hP⟩, hS.F ht⟩) hS.2.2 dX10_keep_273
                      · skip
                        have d185 := c185
                        rw [fa_le] at d185
                        refine lv_aload_n hx hb dX10_keep_188 rfl (lv_at hl 2 rfl) ?_
                        refine m_get (v := .ref (a 33)) hx hb hts hin hown hK hP 33 (by decide) rfl (hts (.fieldLink RX10 73 "ShadowBenchModel" "shelfRow" "[J") (by decide +kernel)) rfl dX10_keep_189 ?_
                        refine lv_bipush (v := 60) hx hb dX10_keep_192 (by decide) ?_
                        refine lv_iload_n hx hb dX10_keep_194 rfl (lv_at hl 3 rfl) ?_
                        refine lv_imul hx hb dX10_keep_195 ?_
                        refine lv_topi (fun v195 e195 => ?_)
                        have i195 : v195.toInt = 60 * d.toInt := by rw [e195]; exact mulcL rfl (by omega) (by omega)
                        refine lv_iload hx hb dX10_keep_196 (lv_at hl 0 rfl) ?_
                        refine lv_iadd hx hb dX10_keep_198 ?_
                        refine lv_topi (fun v198 e198 => ?_)
                        have i198 : v198.toInt = v195.toInt + (nI i).toInt := by rw [e198]; exact fb_addI (by omega) (by omega)
                        have cd9 := m_cl (x := d) (by omega)
                        have cv9 := m_cl (x := v198) (by omega)
                        have f198 : v198.toNatClampNeg = 60 * d.toNatClampNeg + i := by omega
                        refine lv_iload_n hx hb dX10_keep_199 rfl (lv_at hl 4 rfl) ?_
                        refine lv_iconst (v := 3) hx hb dX10_keep_200 (by decide) ?_
                        refine lv_icmp_ne (tgt := 215) hx hb dX10_keep_201 (by decide) (fun c201 => ?_) (fun c201 => ?_)
                        · first | exact absurd c201 c95 | exact absurd c95 c201
                        · skip
                          have d201 := c201
                          rw [fa_eq] at d201
                          refine lv_lload hx hb dX10_keep_204 (lv_at hl 6 rfl) ?_
                          refine lv_iload hx hb dX10_keep_206 (lv_at hl 0 rfl) ?_
                          refine m_pu (As := [.long p0, .int (nI i)]) (rest := [.int v198, .ref (a 33)]) ⟨hx, hb, hml, hown, hts⟩ (c_X10_one l p0 (nI i) ) (va_cwS 2 hts gX10_keep_X10_one rfl rfl rfl (by decide +kernel) ⟨Nat.le_of_ble_eq_true rfl, Nat.le_of_ble_eq_true rfl⟩) hP rfl hl.1 rfl (Nat.le_of_ble_eq_true rfl) dX10_keep_208 ⟨Nat.le_of_ble_eq_true rfl, Nat.le_of_ble_eq_true rfl⟩ hS (fun r208 H locs q208 hP hS => ?_)
                          have i208 : r208.toInt = (r_one p0 (nI i)).toInt := congrArg Int32.toInt q208
                          refine lv_i2l (v := r208.toInt64) hx hb dX10_keep_211 rfl ?_
                          refine lv_goto (tgt := 265) hx hb dX10_keep_212 (by decide) ?_
                          refine m_last (w := s3) hx hb hK hP hD hS 21 rfl (vp_in_iff.mpr ⟨by omega, by omega⟩) (va_up (va_up q 33 s3) 33 (vp_updL s3 v198.toNatClampNeg r208.toInt64)) (ms_33 cy mo a _ _ _ _ _) dX10_keep_265 (fun H locs hP hS => ?_)
                          have hP := wm_eq rfl rfl rfl (es_q_33__33 q s3 (vp_updL s3 v198.toNatClampNeg r208.toInt64)) hP
                          refine lv_iinc (v := (nI (i + 1))) (lv' := [(7, .int (nI (i + 1))), (6, .int (1 : Int32)), (0, .ref mo), (1, .int d), (2, .int what), (3, .int k0), (4, .long p0)]) hx hb dX10_keep_266 hl (k := 0) rfl (nI_1 _) (by decide) rfl (fun ls hl => ?_)
                          refine lv_goto (tgt := 177) hx hb dX10_keep_269 (by decide) ?_
                          have hP := wm_eq rfl rfl (ec_r_29_30__29_30 r ((upd (r 29) d.toNatClampNeg what)) ((upd (r 30) d.toNatClampNeg v110))) rfl hP
                          exact ih_177 (i + 1) (vp_updL s3 v198.toNatClampNeg r208.toInt64) (by omega) (by rw [j177_1, f198]; exact setQ_v (by first | (rw [keG_3 (by omega)]; exact one_bI (by omega) q208) | (rw [keG_4 (by omega) (by omega), e237, f236]; done) | (rw [keG_5 (by omega) (by omega), e263, f262]; done) | (exfalso; omega))) (by omega) _ _ hP hS ls (lv_sub hl [0, 1, 2, 3, 4, 5, 6] rfl)
                  have hP := wm_eq rfl rfl (ec_r_29_30__29_30 r ((upd (r 29) d.toNatClampNeg what)) ((upd (r 30) d.toNatClampNeg v110))) (ec_q___33 q ) hP
                  exact loop_177 (60 + 1) 0 (q 33) (by omega) ((setQ_0 _ _ _).symm) (by omega) _ _ hP hS ls (lv_sub hl [0, 1, 2, 3, 4, 5, 6] rfl)
                · skip
                  have d139 := c139
                  rw [fa_eq] at d139
                  refine lv_aload_n hx hb dX10_keep_142 rfl (lv_at hl 1 rfl) ?_
                  refine m_get (v := .ref (a 31)) hx hb hts hin hown hK hP 31 (by decide) rfl (hts (.fieldLink RX10 67 "ShadowBenchModel" "shelfWeight" "[I") (by decide +kernel)) rfl dX10_keep_143 ?_
                  refine lv_iload_n hx hb dX10_keep_146 rfl (lv_at hl 2 rfl) ?_
                  refine lv_aload_n hx hb dX10_keep_147 rfl (lv_at hl 1 rfl) ?_
                  refine lv_iload_n hx hb dX10_keep_148 rfl (lv_at hl 4 rfl) ?_
                  refine m_calli (As := [.int k0]) (rest := [.int d, .ref (a 31)]) ⟨hx, hb, hml, hown, hts⟩ (c_X10_weightOf l D cy mo a (upd f 0 (0 : Int32)) g (va_up (va_up r 29 ((upd (r 29) d.toNatClampNeg what))) 30 ((upd (r 30) d.toNatClampNeg v110))) q k0 hD (by first | exact hI | exact mi_sz (d := d) hI (v := 0) (by first | omega | decide) rfl rfl rfl rfl rfl rfl rfl rfl | exact mi_sz (d := d) hI (v := v131) (by first | omega | decide) rfl rfl rfl rfl rfl rfl rfl rfl | exact mi_sz (d := d) hI (v := v110) (by first | omega | decide) rfl rfl rfl rfl rfl rfl rfl rfl) (show 0 ≤ k0.toInt ∧ k0.toInt < (f 1).toInt by omega)) (cwV 1 hts gX10_keep_X10_weightOf rfl rfl rfl (by decide +kernel) ⟨Nat.le_of_ble_eq_true rfl, Nat.le_of_ble_eq_true rfl⟩) hK hP rfl hl.1 rfl (Nat.le_of_ble_eq_true rfl) dX10_keep_149 ⟨Nat.le_of_ble_eq_true rfl, Nat.le_of_ble_eq_true rfl⟩ hS (fun r149 u H locs q149 hP hS => ?_)
                  obtain ⟨rfl, q149⟩ := q149
                  have hP : va_P D vwCl (WM cy mo a (upd f 0 (0 : Int32)) g (va_up (va_up r 29 ((upd (r 29) d.toNatClampNeg what))) 30 ((upd (r 30) d.toNatClampNeg v110))) q) H := hP
                  have q149 : True := q149
                  refine m_iast (w := (r 31)) hx hb hK hP hD hS 19 rfl (vp_in_iff.mpr ⟨by omega, by omega⟩) (va_up (va_up (va_up r 29 ((upd (r 29) d.toNatClampNeg what))) 30 ((upd (r 30) d.toNatClampNeg v110))) 31 (upd (r 31) d.toNatClampNeg r149)) (ms_31 cy mo a _ _ _ _ _) dX10_keep_152 (fun H locs hP hS => ?_)
                  refine lv_aload_n hx hb dX10_keep_153 rfl (lv_at hl 1 rfl) ?_
                  refine m_get (v := .ref (a 32)) hx hb hts hin hown hK hP 32 (by decide) rfl (hts (.fieldLink RX10 70 "ShadowBenchModel" "shelfFailure" "[I") (by decide +kernel)) rfl dX10_keep_154 ?_
                  refine lv_iload_n hx hb dX10_keep_157 rfl (lv_at hl 2 rfl) ?_
                  refine lv_aload_n hx hb dX10_keep_158 rfl (lv_at hl 1 rfl) ?_
                  refine m_get (v := .ref (a 2)) hx hb hts hin hown hK hP 2 (by decide) rfl (hts (.fieldLink RX10 7 "ShadowBenchModel" "kind" "[I") (by decide +kernel)) rfl dX10_keep_159 ?_
                  refine lv_iload_n hx hb dX10_keep_162 rfl (lv_at hl 4 rfl) ?_
                  refine m_iald (w := (r 2)) hx hb hK hP 1 rfl (vp_in_iff.mpr ⟨by omega, by omega⟩) dX10_keep_163 ?_
                  refine lv_topi (fun v163 e163 => ?_)
                  have i163 : v163.toInt = ((r 2) k0.toNatClampNeg).toInt := congrArg Int32.toInt e163
                  refine lv_if_ne (tgt := 172) hx hb dX10_keep_164 (by decide) (fun c164 => ?_) (fun c164 => ?_)
                  · skip
                    have d164 := c164
                    rw [fa_eq] at d164
                    refine lv_iload_n hx hb dX10_keep_172 rfl (lv_at hl 4 rfl) ?_
                    refine m_iast (w := (r 32)) hx hb hK hP hD hS 20 rfl (vp_in_iff.mpr ⟨by omega, by omega⟩) (va_up (va_up (va_up (va_up r 29 ((upd (r 29) d.toNatClampNeg what))) 30 ((upd (r 30) d.toNatClampNeg v110))) 31 ((upd (r 31) d.toNatClampNeg r149))) 32 (upd (r 32) d.toNatClampNeg k0)) (ms_32 cy mo a _ _ _ _ _) dX10_keep_173 (fun H locs hP hS => ?_)
                    refine lv_iconst (v := 0) hx hb dX10_keep_174 (by decide) ?_
                    refine lv_istore (lv' := [(7, .int (0 : Int32)), (6, .int (1 : Int32)), (0, .ref mo), (1, .int d), (2, .int what), (3, .int k0), (4, .long p0)]) hx hb dX10_keep_175 hl (by decide) rfl (fun ls hl => ?_)
                    have loop_177 : ∀ (n : Nat) (i : Nat) (s3 : Nat → Int64), (i ≤ 60 ∧ (i : Int) ≤ nv9.toInt) → (s3 = setQ (q 33) (60 * d.toNatClampNeg) (keG what p0 (r 4 k0.toNatClampNeg).toNatClampNeg (fun x9 => r 5 (44 * k0.toNatClampNeg + x9))) i) → 60 - i < n → ∀ (H : Heap) (locs : List Loc), va_P D vwCl (WM cy mo a (upd f 0 (0 : Int32)) g (va_up (va_up (va_up (va_up r 29 ((upd (r 29) d.toNatClampNeg what))) 30 ((upd (r 30) d.toNatClampNeg v110))) 31 ((upd (r 31) d.toNatClampNeg r149))) 32 ((upd (r 32) d.toNatClampNeg k0))) (va_up q 33 s3)) H → va_S (AM mo a) s.heap H locs → ∀ (ls : Array Slot), lv_has ls 8 [(7, .int (nI i)), (6, .int (1 : Int32)), (0, .ref mo), (1, .int d), (2, .int what), (3, .int k0), (4, .long p0)] → W p l e (headSpec wsX10_keep ({ frames := 3, cells := 0, slots := 0, locals := 69 })).room s m #[Value.ref mo, Value.int d, Value.int what, Value.int k0, Value.long p0] below meth c H locs 0 0 (MQ below (va_Qi (fun r0 u => ∃ (sh : Nat → Int32), ∃ (sz : Nat → Int32), ∃ (sw : Nat → Int32), ∃ (sf : Nat → Int32), ∃ (sr : Nat → Int64), u = ((upd f 0 (0 : Int32)), g, (va_up (va_up (va_up (va_up r 29 sh) 30 sz) 31 sw) 32 sf), (va_up q 33 sr)) ∧ (yesNo (okKeep (f 1) (fun j9 => (r 3 j9).toNatClampNeg) (fun j9 => (r 4 j9).toNatClampNeg) d what k0 p0) 0 (-1) r0 ∧ ((okKeep (f 1) (fun j9 => (r 3 j9).toNatClampNeg) (fun j9 => (r 4 j9).toNatClampNeg) d what k0 p0 ∧ ∃ nv, sh = upd (r 29) d.toNatClampNeg what ∧ sz = upd (r 30) d.toNatClampNeg nv ∧ (what.toInt = 3 → nv.toInt = (((r 3 k0.toNatClampNeg).toNatClampNeg * (r 4 k0.toNatClampNeg).toNatClampNeg : Nat) : Int)) ∧ (what.toInt = 4 → nv.toInt = (((r 4 k0.toNatClampNeg).toNatClampNeg + (r 3 k0.toNatClampNeg).toNatClampNeg : Nat) : Int)) ∧ sr = setQ (q 33) (60 * d.toNatClampNeg) (keG what p0 (r 4 k0.toNatClampNeg).toNatClampNeg (fun x9 => r 5 (44 * k0.toNatClampNeg + x9))) nv.toNatClampNeg ∧ nv.toNatClampNeg ≤ 60) ∨ (¬ okKeep (f 1) (fun j9 => (r 3 j9).toNatClampNeg) (fun j9 => (r 4 j9).toNatClampNeg) d what k0 p0 ∧ sh = r 29 ∧ sz = r 30 ∧ sr = q 33)) ∧ MI (upd f 0 (0 : Int32)) (va_up (va_up (va_up (va_up r 29 sh) 30 sz) 31 sw) 32 sf))) (mB D cy mo a) (AM mo a)) #[Value.ref mo, Value.int d, Value.int what, Value.int k0, Value.long p0] s 0 0 (AM mo a)) (F0 m 177 ls []) := by
                      intro n
                      induction n with
                      | zero => intro i s3 j177_0 j177_1 hn; exact absurd hn (Nat.not_lt_zero _)
                      | succ n ih_177 =>
                        intro i s3 j177_0 j177_1 hn_177 H locs hP hS ls hl
                        have ii : (nI i).toInt = (i : Int) := nI_toInt (by omega)
                        refine lv_iload hx hb dX10_keep_177 (lv_at hl 0 rfl) ?_
                        refine lv_aload_n hx hb dX10_keep_179 rfl (lv_at hl 2 rfl) ?_
                        refine m_get (v := .ref (a 30)) hx hb hts hin hown hK hP 30 (by decide) rfl (hts (.fieldLink RX10 64 "ShadowBenchModel" "shelfSize" "[I") (by decide +kernel)) rfl dX10_keep_180 ?_
                        refine lv_iload_n hx hb dX10_keep_183 rfl (lv_at hl 3 rfl) ?_
                        refine m_iald (w := ((upd (r 30) d.toNatClampNeg v110))) hx hb hK hP 18 rfl (vp_in_iff.mpr ⟨by omega, by omega⟩) dX10_keep_184 ?_
                        refine lv_topi (fun v184 e184 => ?_)
                        have i184 : v184.toInt = (((upd (r 30) d.toNatClampNeg v110)) d.toNatClampNeg).toInt := congrArg Int32.toInt e184
                        have z184 := e184
                        simp only [upd, if_true] at z184
                        have y184 := congrArg Int32.toInt z184
                        have y184 : v184 = nv9 := by rw [e184, hnv9]; simp only [upd, if_true]
                        have i184 := congrArg Int32.toInt y184
                        refine lv_icmp_ge (tgt := 272) hx hb dX10_keep_185 (by decide) (fun c185 => ?_) (fun c185 => ?_)
                        · skip
                          have d185 := c185
                          rw [fa_le] at d185
                          refine lv_iconst (v := 0) hx hb dX10_keep_272 (by decide) ?_
                          have hP := wm_eq rfl rfl (ec_r_29_30_31_32__29_30_31_32 r ((upd (r 29) d.toNatClampNeg what)) ((upd (r 30) d.toNatClampNeg v110)) ((upd (r 31) d.toNatClampNeg r149)) ((upd (r 32) d.toNatClampNeg k0))) rfl hP
                          exact W.iret (v := (0 : Int32)) hx hb hr (fun t ht hW => ⟨⟨_, ((upd f 0 (0 : Int32)), g, (va_up (va_up (va_up (va_up r 29 (((upd (r 29) d.toNatClampNeg what)))) 30 (((upd (r 30) d.toNatClampNeg v110)))) 31 (((upd (r 31) d.toNatClampNeg r149)))) 32 (((upd (r 32) d.toNatClampNeg k0)))), (va_up q 33 s3)), rfl, ⟨((upd (r 29) d.toNatClampNeg what)), ((upd (r 30) d.toNatClampNeg v110)), ((upd (r 31) d.toNatClampNeg r149)), ((upd (r 32) d.toNatClampNeg k0)), s3, rfl, ⟨(Or.inl ⟨⟨b9, (by unfold okJob; first | exact Or.inl (by omega) | exact Or.inr (Or.inl ⟨by omega, b31⟩) | (have z9 := goodP_of b64; subst e52; subst e58; exact Or.inr (Or.inr ⟨by omega, b44, z9.2⟩)))⟩, rfl⟩), (Or.inl ⟨⟨b9, (by unfold okJob; first | exact Or.inl (by omega) | exact Or.inr (Or.inl ⟨by omega, b31⟩) | (have z9 := goodP_of b64; subst e52; subst e58; exact Or.inr (Or.inr ⟨by omega, b44, z9.2⟩)))⟩, _, rfl, rfl, (fun z9 => by first | (exfalso; omega) | exact y110), (fun z9 => by first | (exfalso; omega) | exact y131), (by have c9 := m_cl (x := nv9) (by omega); rw [j177_1, ← hnv9, show i = nv9.toNatClampNeg by omega]), (by have c9 := m_cl (x := nv9) (by omega); rw [hnv9] at c9; omega)⟩), by first | exact hI | exact mi_sz (d := d) hI (v := v110) (by omega) rfl rfl rfl rfl rfl rfl rfl rfl | exact mi_sz (d := d) hI (v := v131) (by omega) rfl rfl rfl rfl rfl rfl rfl rfl | exact mi_sz (d := d) hI (v := 0) (by decide) rfl rfl rfl rfl rfl rfl rfl rfl⟩⟩, by unfold mB; rw [ht]; exact hP⟩, hS.F ht⟩) hS.2.2 dX10_keep_273
                        · skip
                          have d185 := c185
                          rw [fa_le] at d185
                          refine lv_aload_n hx hb dX10_keep_188 rfl (lv_at hl 2 rfl) ?_
                          refine m_get (v := .ref (a 33)) hx hb hts hin hown hK hP 33 (by decide) rfl (hts (.fieldLink RX10 73 "ShadowBenchModel" "shelfRow" "[J") (by decide +kernel)) rfl dX10_keep_189 ?_
                          refine lv_bipush (v := 60) hx hb dX10_keep_192 (by decide) ?_
                          refine lv_iload_n hx hb dX10_keep_194 rfl (lv_at hl 3 rfl) ?_
                          refine lv_imul hx hb dX10_keep_195 ?_
                          refine lv_topi (fun v195 e195 => ?_)
                          have i195 : v195.toInt = 60 * d.toInt := by rw [e195]; exact mulcL rfl (by omega) (by omega)
                          refine lv_iload hx hb dX10_keep_196 (lv_at hl 0 rfl) ?_
                          refine lv_iadd hx hb dX10_keep_198 ?_
                          refine lv_topi (fun v198 e198 => ?_)
                          have i198 : v198.toInt = v195.toInt + (nI i).toInt := by rw [e198]; exact fb_addI (by omega) (by omega)
                          have cd9 := m_cl (x := d) (by omega)
                          have cv9 := m_cl (x := v198) (by omega)
                          have f198 : v198.toNatClampNeg = 60 * d.toNatClampNeg + i := by omega
                          refine lv_iload_n hx hb dX10_keep_199 rfl (lv_at hl 4 rfl) ?_
                          refine lv_iconst (v := 3) hx hb dX10_keep_200 (by decide) ?_
                          refine lv_icmp_ne (tgt := 215) hx hb dX10_keep_201 (by decide) (fun c201 => ?_) (fun c201 => ?_)
                          · first | exact absurd c201 c95 | exact absurd c95 c201
                          · skip
                            have d201 := c201
                            rw [fa_eq] at d201
                            refine lv_lload hx hb dX10_keep_204 (lv_at hl 6 rfl) ?_
                            refine lv_iload hx hb dX10_keep_206 (lv_at hl 0 rfl) ?_
                            refine m_pu (As := [.long p0, .int (nI i)]) (rest := [.int v198, .ref (a 33)]) ⟨hx, hb, hml, hown, hts⟩ (c_X10_one l p0 (nI i) ) (va_cwS 2 hts gX10_keep_X10_one rfl rfl rfl (by decide +kernel) ⟨Nat.le_of_ble_eq_true rfl, Nat.le_of_ble_eq_true rfl⟩) hP rfl hl.1 rfl (Nat.le_of_ble_eq_true rfl) dX10_keep_208 ⟨Nat.le_of_ble_eq_true rfl, Nat.le_of_ble_eq_true rfl⟩ hS (fun r208 H locs q208 hP hS => ?_)
                            have i208 : r208.toInt = (r_one p0 (nI i)).toInt := congrArg Int32.toInt q208
                            refine lv_i2l (v := r208.toInt64) hx hb dX10_keep_211 rfl ?_
                            refine lv_goto (tgt := 265) hx hb dX10_keep_212 (by decide) ?_
                            refine m_last (w := s3) hx hb hK hP hD hS 21 rfl (vp_in_iff.mpr ⟨by omega, by omega⟩) (va_up (va_up q 33 s3) 33 (vp_updL s3 v198.toNatClampNeg r208.toInt64)) (ms_33 cy mo a _ _ _ _ _) dX10_keep_265 (fun H locs hP hS => ?_)
                            have hP := wm_eq rfl rfl rfl (es_q_33__33 q s3 (vp_updL s3 v198.toNatClampNeg r208.toInt64)) hP
                            refine lv_iinc (v := (nI (i + 1))) (lv' := [(7, .int (nI (i + 1))), (6, .int (1 : Int32)), (0, .ref mo), (1, .int d), (2, .int what), (3, .int k0), (4, .long p0)]) hx hb dX10_keep_266 hl (k := 0) rfl (nI_1 _) (by decide) rfl (fun ls hl => ?_)
                            refine lv_goto (tgt := 177) hx hb dX10_keep_269 (by decide) ?_
                            have hP := wm_eq rfl rfl (ec_r_29_30_31_32__29_30_31_32 r ((upd (r 29) d.toNatClampNeg what)) ((upd (r 30) d.toNatClampNeg v110)) ((upd (r 31) d.toNatClampNeg r149)) ((upd (r 32) d.toNatClampNeg k0))) rfl hP
                            exact ih_177 (i + 1) (vp_updL s3 v198.toNatClampNeg r208.toInt64) (by omega) (by rw [j177_1, f198]; exact setQ_v (by first | (rw [keG_3 (by omega)]; exact one_bI (by omega) q208) | (rw [keG_4 (by omega) (by omega), e237, f236]; done) | (rw [keG_5 (by omega) (by omega), e263, f262]; done) | (exfalso; omega))) (by omega) _ _ hP hS ls (lv_sub hl [0, 1, 2, 3, 4, 5, 6] rfl)
                    have hP := wm_eq rfl rfl (ec_r_29_30_31_32__29_30_31_32 r ((upd (r 29) d.toNatClampNeg what)) ((upd (r 30) d.toNatClampNeg v110)) ((upd (r 31) d.toNatClampNeg r149)) ((upd (r 32) d.toNatClampNeg k0))) (ec_q___33 q ) hP
                    exact loop_177 (60 + 1) 0 (q 33) (by omega) ((setQ_0 _ _ _).symm) (by omega) _ _ hP hS ls (lv_sub hl [0, 1, 2, 3, 4, 5, 6] rfl)
                  · skip
                    have d164 := c164
                    rw [fa_eq] at d164
                    refine lv_bipush (v := (-15)) hx hb dX10_keep_167 (by decide) ?_
                    refine lv_goto (tgt := 173) hx hb dX10_keep_169 (by decide) ?_
                    refine m_iast (w := (r 32)) hx hb hK hP hD hS 20 rfl (vp_in_iff.mpr ⟨by omega, by omega⟩) (va_up (va_up (va_up (va_up r 29 ((upd (r 29) d.toNatClampNeg what))) 30 ((upd (r 30) d.toNatClampNeg v110))) 31 ((upd (r 31) d.toNatClampNeg r149))) 32 (upd (r 32) d.toNatClampNeg (((-15) : Int32)))) (ms_32 cy mo a _ _ _ _ _) dX10_keep_173 (fun H locs hP hS => ?_)
                    refine lv_iconst (v := 0) hx hb dX10_keep_174 (by decide) ?_
                    refine lv_istore (lv' := [(7, .int (0 : Int32)), (6, .int (1 : Int32)), (0, .ref mo), (1, .int d), (2, .int what), (3, .int k0), (4, .long p0)]) hx hb dX10_keep_175 hl (by decide) rfl (fun ls hl => ?_)
                    have loop_177 : ∀ (n : Nat) (i : Nat) (s3 : Nat → Int64), (i ≤ 60 ∧ (i : Int) ≤ nv9.toInt) → (s3 = setQ (q 33) (60 * d.toNatClampNeg) (keG what p0 (r 4 k0.toNatClampNeg).toNatClampNeg (fun x9 => r 5 (44 * k0.toNatClampNeg + x9))) i) → 60 - i < n → ∀ (H : Heap) (locs : List Loc), va_P D vwCl (WM cy mo a (upd f 0 (0 : Int32)) g (va_up (va_up (va_up (va_up r 29 ((upd (r 29) d.toNatClampNeg what))) 30 ((upd (r 30) d.toNatClampNeg v110))) 31 ((upd (r 31) d.toNatClampNeg r149))) 32 ((upd (r 32) d.toNatClampNeg (((-15) : Int32))))) (va_up q 33 s3)) H → va_S (AM mo a) s.heap H locs → ∀ (ls : Array Slot), lv_has ls 8 [(7, .int (nI i)), (6, .int (1 : Int32)), (0, .ref mo), (1, .int d), (2, .int what), (3, .int k0), (4, .long p0)] → W p l e (headSpec wsX10_keep ({ frames := 3, cells := 0, slots := 0, locals := 69 })).room s m #[Value.ref mo, Value.int d, Value.int what, Value.int k0, Value.long p0] below meth c H locs 0 0 (MQ below (va_Qi (fun r0 u => ∃ (sh : Nat → Int32), ∃ (sz : Nat → Int32), ∃ (sw : Nat → Int32), ∃ (sf : Nat → Int32), ∃ (sr : Nat → Int64), u = ((upd f 0 (0 : Int32)), g, (va_up (va_up (va_up (va_up r 29 sh) 30 sz) 31 sw) 32 sf), (va_up q 33 sr)) ∧ (yesNo (okKeep (f 1) (fun j9 => (r 3 j9).toNatClampNeg) (fun j9 => (r 4 j9).toNatClampNeg) d what k0 p0) 0 (-1) r0 ∧ ((okKeep (f 1) (fun j9 => (r 3 j9).toNatClampNeg) (fun j9 => (r 4 j9).toNatClampNeg) d what k0 p0 ∧ ∃ nv, sh = upd (r 29) d.toNatClampNeg what ∧ sz = upd (r 30) d.toNatClampNeg nv ∧ (what.toInt = 3 → nv.toInt = (((r 3 k0.toNatClampNeg).toNatClampNeg * (r 4 k0.toNatClampNeg).toNatClampNeg : Nat) : Int)) ∧ (what.toInt = 4 → nv.toInt = (((r 4 k0.toNatClampNeg).toNatClampNeg + (r 3 k0.toNatClampNeg).toNatClampNeg : Nat) : Int)) ∧ sr = setQ (q 33) (60 * d.toNatClampNeg) (keG what p0 (r 4 k0.toNatClampNeg).toNatClampNeg (fun x9 => r 5 (44 * k0.toNatClampNeg + x9))) nv.toNatClampNeg ∧ nv.toNatClampNeg ≤ 60) ∨ (¬ okKeep (f 1) (fun j9 => (r 3 j9).toNatClampNeg) (fun j9 => (r 4 j9).toNatClampNeg) d what k0 p0 ∧ sh = r 29 ∧ sz = r 30 ∧ sr = q 33)) ∧ MI (upd f 0 (0 : Int32)) (va_up (va_up (va_up (va_up r 29 sh) 30 sz) 31 sw) 32 sf))) (mB D cy mo a) (AM mo a)) #[Value.ref mo, Value.int d, Value.int what, Value.int k0, Value.long p0] s 0 0 (AM mo a)) (F0 m 177 ls []) := by
                      intro n
                      induction n with
                      | zero => intro i s3 j177_0 j177_1 hn; exact absurd hn (Nat.not_lt_zero _)
                      | succ n ih_177 =>
                        intro i s3 j177_0 j177_1 hn_177 H locs hP hS ls hl
                        have ii : (nI i).toInt = (i : Int) := nI_toInt (by omega)
                        refine lv_iload hx hb dX10_keep_177 (lv_at hl 0 rfl) ?_
                        refine lv_aload_n hx hb dX10_keep_179 rfl (lv_at hl 2 rfl) ?_
                        refine m_get (v := .ref (a 30)) hx hb hts hin hown hK hP 30 (by decide) rfl (hts (.fieldLink RX10 64 "ShadowBenchModel" "shelfSize" "[I") (by decide +kernel)) rfl dX10_keep_180 ?_
                        refine lv_iload_n hx hb dX10_keep_183 rfl (lv_at hl 3 rfl) ?_
                        refine m_iald (w := ((upd (r 30) d.toNatClampNeg v110))) hx hb hK hP 18 rfl (vp_in_iff.mpr ⟨by omega, by omega⟩) dX10_keep_184 ?_
                        refine lv_topi (fun v184 e184 => ?_)
                        have i184 : v184.toInt = (((upd (r 30) d.toNatClampNeg v110)) d.toNatClampNeg).toInt := congrArg Int32.toInt e184
                        have z184 := e184
                        simp only [upd, if_true] at z184
                        have y184 := congrArg Int32.toInt z184
                        have y184 : v184 = nv9 := by rw [e184, hnv9]; simp only [upd, if_true]
                        have i184 := congrArg Int32.toInt y184
                        refine lv_icmp_ge (tgt := 272) hx hb dX10_keep_185 (by decide) (fun c185 => ?_) (fun c185 => ?_)
                        · skip
                          have d185 := c185
                          rw [fa_le] at d185
                          refine lv_iconst (v := 0) hx hb dX10_keep_272 (by decide) ?_
                          have hP := wm_eq rfl rfl (ec_r_29_30_31_32__29_30_31_32 r ((upd (r 29) d.toNatClampNeg what)) ((upd (r 30) d.toNatClampNeg v110)) ((upd (r 31) d.toNatClampNeg r149)) ((upd (r 32) d.toNatClampNeg (((-15) : Int32))))) rfl hP
                          exact W.iret (v := (0 : Int32)) hx hb hr (fun t ht hW => ⟨⟨_, ((upd f 0 (0 : Int32)), g, (va_up (va_up (va_up (va_up r 29 (((upd (r 29) d.toNatClampNeg what)))) 30 (((upd (r 30) d.toNatClampNeg v110)))) 31 (((upd (r 31) d.toNatClampNeg r149)))) 32 (((upd (r 32) d.toNatClampNeg (((-15) : Int32)))))), (va_up q 33 s3)), rfl, ⟨((upd (r 29) d.toNatClampNeg what)), ((upd (r 30) d.toNatClampNeg v110)), ((upd (r 31) d.toNatClampNeg r149)), ((upd (r 32) d.toNatClampNeg (((-15) : Int32)))), s3, rfl, ⟨(Or.inl ⟨⟨b9, (by unfold okJob; first | exact Or.inl (by omega) | exact Or.inr (Or.inl ⟨by omega, b31⟩) | (have z9 := goodP_of b64; subst e52; subst e58; exact Or.inr (Or.inr ⟨by omega, b44, z9.2⟩)))⟩, rfl⟩), (Or.inl ⟨⟨b9, (by unfold okJob; first | exact Or.inl (by omega) | exact Or.inr (Or.inl ⟨by omega, b31⟩) | (have z9 := goodP_of b64; subst e52; subst e58; exact Or.inr (Or.inr ⟨by omega, b44, z9.2⟩)))⟩, _, rfl, rfl, (fun z9 => by first | (exfalso; omega) | exact y110), (fun z9 => by first | (exfalso; omega) | exact y131), (by have c9 := m_cl (x := nv9) (by omega); rw [j177_1, ← hnv9, show i = nv9.toNatClampNeg by omega]), (by have c9 := m_cl (x := nv9) (by omega); rw [hnv9] at c9; omega)⟩), by first | exact hI | exact mi_sz (d := d) hI (v := v110) (by omega) rfl rfl rfl rfl rfl rfl rfl rfl | exact mi_sz (d := d) hI (v := v131) (by omega) rfl rfl rfl rfl rfl rfl rfl rfl | exact mi_sz (d := d) hI (v := 0) (by decide) rfl rfl rfl rfl rfl rfl rfl rfl⟩⟩, by unfold mB; rw [ht]; exact hP⟩, hS.F ht⟩) hS.2.2 dX10_keep_273
                        · skip
                          have d185 := c185
                          rw [fa_le] at d185
                          refine lv_aload_n hx hb dX10_keep_188 rfl (lv_at hl 2 rfl) ?_
                          refine m_get (v := .ref (a 33)) hx hb hts hin hown hK hP 33 (by decide) rfl (hts (.fieldLink RX10 73 "ShadowBenchModel" "shelfRow" "[J") (by decide +kernel)) rfl dX10_keep_189 ?_
                          refine lv_bipush (v := 60) hx hb dX10_keep_192 (by decide) ?_
                          refine lv_iload_n hx hb dX10_keep_194 rfl (lv_at hl 3 rfl) ?_
                          refine lv_imul hx hb dX10_keep_195 ?_
                          refine lv_topi (fun v195 e195 => ?_)
                          have i195 : v195.toInt = 60 * d.toInt := by rw [e195]; exact mulcL rfl (by omega) (by omega)
                          refine lv_iload hx hb dX10_keep_196 (lv_at hl 0 rfl) ?_
                          refine lv_iadd hx hb dX10_keep_198 ?_
                          refine lv_topi (fun v198 e198 => ?_)
                          have i198 : v198.toInt = v195.toInt + (nI i).toInt := by rw [e198]; exact fb_addI (by omega) (by omega)
                          have cd9 := m_cl (x := d) (by omega)
                          have cv9 := m_cl (x := v198) (by omega)
                          have f198 : v198.toNatClampNeg = 60 * d.toNatClampNeg + i := by omega
                          refine lv_iload_n hx hb dX10_keep_199 rfl (lv_at hl 4 rfl) ?_
                          refine lv_iconst (v := 3) hx hb dX10_keep_200 (by decide) ?_
                          refine lv_icmp_ne (tgt := 215) hx hb dX10_keep_201 (by decide) (fun c201 => ?_) (fun c201 => ?_)
                          · first | exact absurd c201 c95 | exact absurd c95 c201
                          · skip
                            have d201 := c201
                            rw [fa_eq] at d201
                            refine lv_lload hx hb dX10_keep_204 (lv_at hl 6 rfl) ?_
                            refine lv_iload hx hb dX10_keep_206 (lv_at hl 0 rfl) ?_
                            refine m_pu (As := [.long p0, .int (nI i)]) (rest := [.int v198, .ref (a 33)]) ⟨hx, hb, hml, hown, hts⟩ (c_X10_one l p0 (nI i) ) (va_cwS 2 hts gX10_keep_X10_one rfl rfl rfl (by decide +kernel) ⟨Nat.le_of_ble_eq_true rfl, Nat.le_of_ble_eq_true rfl⟩) hP rfl hl.1 rfl (Nat.le_of_ble_eq_true rfl) dX10_keep_208 ⟨Nat.le_of_ble_eq_true rfl, Nat.le_of_ble_eq_true rfl⟩ hS (fun r208 H locs q208 hP hS => ?_)
                            have i208 : r208.toInt = (r_one p0 (nI i)).toInt := congrArg Int32.toInt q208
                            refine lv_i2l (v := r208.toInt64) hx hb dX10_keep_211 rfl ?_
                            refine lv_goto (tgt := 265) hx hb dX10_keep_212 (by decide) ?_
                            refine m_last (w := s3) hx hb hK hP hD hS 21 rfl (vp_in_iff.mpr ⟨by omega, by omega⟩) (va_up (va_up q 33 s3) 33 (vp_updL s3 v198.toNatClampNeg r208.toInt64)) (ms_33 cy mo a _ _ _ _ _) dX10_keep_265 (fun H locs hP hS => ?_)
                            have hP := wm_eq rfl rfl rfl (es_q_33__33 q s3 (vp_updL s3 v198.toNatClampNeg r208.toInt64)) hP
                            refine lv_iinc (v := (nI (i + 1))) (lv' := [(7, .int (nI (i + 1))), (6, .int (1 : Int32)), (0, .ref mo), (1, .int d), (2, .int what), (3, .int k0), (4, .long p0)]) hx hb dX10_keep_266 hl (k := 0) rfl (nI_1 _) (by decide) rfl (fun ls hl => ?_)
                            refine lv_goto (tgt := 177) hx hb dX10_keep_269 (by decide) ?_
                            have hP := wm_eq rfl rfl (ec_r_29_30_31_32__29_30_31_32 r ((upd (r 29) d.toNatClampNeg what)) ((upd (r 30) d.toNatClampNeg v110)) ((upd (r 31) d.toNatClampNeg r149)) ((upd (r 32) d.toNatClampNeg (((-15) : Int32))))) rfl hP
                            exact ih_177 (i + 1) (vp_updL s3 v198.toNatClampNeg r208.toInt64) (by omega) (by rw [j177_1, f198]; exact setQ_v (by first | (rw [keG_3 (by omega)]; exact one_bI (by omega) q208) | (rw [keG_4 (by omega) (by omega), e237, f236]; done) | (rw [keG_5 (by omega) (by omega), e263, f262]; done) | (exfalso; omega))) (by omega) _ _ hP hS ls (lv_sub hl [0, 1, 2, 3, 4, 5, 6] rfl)
                    have hP := wm_eq rfl rfl (ec_r_29_30_31_32__29_30_31_32 r ((upd (r 29) d.toNatClampNeg what)) ((upd (r 30) d.toNatClampNeg v110)) ((upd (r 31) d.toNatClampNeg r149)) ((upd (r 32) d.toNatClampNeg (((-15) : Int32))))) (ec_q___33 q ) hP
                    exact loop_177 (60 + 1) 0 (q 33) (by omega) ((setQ_0 _ _ _).symm) (by omega) _ _ hP hS ls (lv_sub hl [0, 1, 2, 3, 4, 5, 6] rfl)
            · first | exact absurd c76 (by decide) | exact absurd (by decide) c76
          · skip
            have b31 := bo_f q28 c31
            refine lv_iload_n hx hb dX10_keep_34 rfl (lv_at hl 2 rfl) ?_
            refine lv_iconst (v := 3) hx hb dX10_keep_35 (by decide) ?_
            refine lv_icmp_ne (tgt := 71) hx hb dX10_keep_36 (by decide) (fun c36 => ?_) (fun c36 => ?_)
            · skip
              have d36 := c36
              rw [fa_eq] at d36
              refine lv_iconst (v := 0) hx hb dX10_keep_71 (by decide) ?_
              refine lv_istore (lv' := [(6, .int (0 : Int32)), (0, .ref mo), (1, .int d), (2, .int what), (3, .int k0), (4, .long p0)]) hx hb dX10_keep_72 hl (by decide) rfl (fun ls hl => ?_)
              refine lv_iload hx hb dX10_keep_74 (lv_at hl 0 rfl) ?_
              refine lv_if_ne (tgt := 81) hx hb dX10_keep_76 (by decide) (fun c76 => ?_) (fun c76 => ?_)
              · first | exact absurd c76 (by decide) | exact absurd (by decide) c76
              · skip
                have d76 := c76
                rw [fa_eq] at d76
                refine lv_iconst (v := (-1)) hx hb dX10_keep_79 (by decide) ?_
                have hP := wm_eq rfl rfl (ec_r___29_30_31_32 r ) (ec_q___33 q ) hP
                exact W.iret (v := ((-1) : Int32)) hx hb hr (fun t ht hW => ⟨⟨_, ((upd f 0 (0 : Int32)), g, (va_up (va_up (va_up (va_up r 29 (r 29)) 30 (r 30)) 31 (r 31)) 32 (r 32)), (va_up q 33 (q 33))), rfl, ⟨(r 29), (r 30), (r 31), (r 32), (q 33), rfl, ⟨(Or.inr ⟨(fun z9 => by unfold okKeep okJob at z9; rcases z9.2 with z8 | ⟨z8, z7⟩ | ⟨z8, z7, z6⟩; (first | exact b9 z9.1 | omega); (first | exact b9 z9.1 | exact b31 z7 | omega); (first | exact b9 z9.1 | exact b44 z7 | (have szw := mi_w hI (x := k0) (by omega) (by omega) rfl; have szh := mi_h hI (x := k0) (by omega) (by omega) rfl; subst e52; subst e58; exact goodP_no b64 ⟨⟨szw, szh⟩, z6⟩) | omega)), rfl⟩), (Or.inr ⟨(fun z9 => by unfold okKeep okJob at z9; rcases z9.2 with z8 | ⟨z8, z7⟩ | ⟨z8, z7, z6⟩; (first | exact b9 z9.1 | omega); (first | exact b9 z9.1 | exact b31 z7 | omega); (first | exact b9 z9.1 | exact b44 z7 | (have szw := mi_w hI (x := k0) (by omega) (by omega) rfl; have szh := mi_h hI (x := k0) (by omega) (by omega) rfl; subst e52; subst e58; exact goodP_no b64 ⟨⟨szw, szh⟩, z6⟩) | omega)), rfl, rfl, rfl⟩), by first | exact hI | exact mi_sz (d := d) hI (v := v110) (by omega) rfl rfl rfl rfl rfl rfl rfl rfl | exact mi_sz (d := d) hI (v := v131) (by omega) rfl rfl rfl rfl rfl rfl rfl rfl | exact mi_sz (d := d) hI (v := 0) (by decide) rfl rfl rfl rfl rfl rfl rfl rfl⟩⟩, by unfold mB; rw [ht]; exact hP⟩, hS.F ht⟩) hS.2.2 dX10_keep_80
            · skip
              have d36 := c36
              rw [fa_eq] at d36
              refine lv_aload_n hx hb dX10_keep_39 rfl (lv_at hl 0 rfl) ?_
              refine lv_iload_n hx hb dX10_keep_40 rfl (lv_at hl 3 rfl) ?_
              refine m_calli (As := [.int k0]) (rest := []) ⟨hx, hb, hml, hown, hts⟩ (c_X10_isJob l D cy mo a (upd f 0 (0 : Int32)) g r q k0 hD) (cwV 1 hts gX10_keep_X10_isJob rfl rfl rfl (by decide +kernel) ⟨Nat.le_of_ble_eq_true rfl, Nat.le_of_ble_eq_true rfl⟩) hK hP rfl hl.1 rfl (Nat.le_of_ble_eq_true rfl) dX10_keep_41 ⟨Nat.le_of_ble_eq_true rfl, Nat.le_of_ble_eq_true rfl⟩ hS (fun r41 u H locs q41 hP hS => ?_)
              obtain ⟨rfl, q41⟩ := q41
              have hP : va_P D vwCl (WM cy mo a (upd f 0 (0 : Int32)) g r q) H := hP
              have q41 : Bo r41 (0 ≤ k0.toInt ∧ k0.toInt < ((f 1)).toInt) := q41
              refine lv_if_eq (tgt := 71) hx hb dX10_keep_44 (by decide) (fun c44 => ?_) (fun c44 => ?_)
              · skip
                have b44 := bo_f q41 c44
                refine lv_iconst (v := 0) hx hb dX10_keep_71 (by decide) ?_
                refine lv_istore (lv' := [(6, .int (0 : Int32)), (0, .ref mo), (1, .int d), (2, .int what), (3, .int k0), (4, .long p0)]) hx hb dX10_keep_72 hl (by decide) rfl (fun ls hl => ?_)
                refine lv_iload hx hb dX10_keep_74 (lv_at hl 0 rfl) ?_
                refine lv_if_ne (tgt := 81) hx hb dX10_keep_76 (by decide) (fun c76 => ?_) (fun c76 => ?_)
                · first | exact absurd c76 (by decide) | exact absurd (by decide) c76
                · skip
                  have d76 := c76
                  rw [fa_eq] at d76
                  refine lv_iconst (v := (-1)) hx hb dX10_keep_79 (by decide) ?_
                  have hP := wm_eq rfl rfl (ec_r___29_30_31_32 r ) (ec_q___33 q ) hP
                  exact W.iret (v := ((-1) : Int32)) hx hb hr (fun t ht hW => ⟨⟨_, ((upd f 0 (0 : Int32)), g, (va_up (va_up (va_up (va_up r 29 (r 29)) 30 (r 30)) 31 (r 31)) 32 (r 32)), (va_up q 33 (q 33))), rfl, ⟨(r 29), (r 30), (r 31), (r 32), (q 33), rfl, ⟨(Or.inr ⟨(fun z9 => by unfold okKeep okJob at z9; rcases z9.2 with z8 | ⟨z8, z7⟩ | ⟨z8, z7, z6⟩; (first | exact b9 z9.1 | omega); (first | exact b9 z9.1 | exact b31 z7 | omega); (first | exact b9 z9.1 | exact b44 z7 | (have szw := mi_w hI (x := k0) (by omega) (by omega) rfl; have szh := mi_h hI (x := k0) (by omega) (by omega) rfl; subst e52; subst e58; exact goodP_no b64 ⟨⟨szw, szh⟩, z6⟩) | omega)), rfl⟩), (Or.inr ⟨(fun z9 => by unfold okKeep okJob at z9; rcases z9.2 with z8 | ⟨z8, z7⟩ | ⟨z8, z7, z6⟩; (first | exact b9 z9.1 | omega); (first | exact b9 z9.1 | exact b31 z7 | omega); (first | exact b9 z9.1 | exact b44 z7 | (have szw := mi_w hI (x := k0) (by omega) (by omega) rfl; have szh := mi_h hI (x := k0) (by omega) (by omega) rfl; subst e52; subst e58; exact goodP_no b64 ⟨⟨szw, szh⟩, z6⟩) | omega)), rfl, rfl, rfl⟩), by first | exact hI | exact mi_sz (d := d) hI (v := v110) (by omega) rfl rfl rfl rfl rfl rfl rfl rfl | exact mi_sz (d := d) hI (v := v131) (by omega) rfl rfl rfl rfl rfl rfl rfl rfl | exact mi_sz (d := d) hI (v := 0) (by decide) rfl rfl rfl rfl rfl rfl rfl rfl⟩⟩, by unfold mB; rw [ht]; exact hP⟩, hS.F ht⟩) hS.2.2 dX10_keep_80
              · skip
                have b44 := bo_t q41 c44
                refine lv_aload_n hx hb dX10_keep_47 rfl (lv_at hl 0 rfl) ?_
                refine m_get (v := .ref (a 3)) hx hb hts hin hown hK hP 3 (by decide) rfl (hts (.fieldLink RX10 13 "ShadowBenchModel" "wide" "[I") (by decide +kernel)) rfl dX10_keep_48 ?_
                refine lv_iload_n hx hb dX10_keep_51 rfl (lv_at hl 3 rfl) ?_
                refine m_iald (w := (r 3)) hx hb hK hP 2 rfl (vp_in_iff.mpr ⟨by omega, by omega⟩) dX10_keep_52 ?_
                refine lv_topi (fun v52 e52 => ?_)
                have i52 : v52.toInt = ((r 3) k0.toNatClampNeg).toInt := congrArg Int32.toInt e52
                have w52 := mi_w hI (x := k0) (by omega) (by omega) e52
                refine lv_aload_n hx hb dX10_keep_53 rfl (lv_at hl 0 rfl) ?_
                refine m_get (v := .ref (a 4)) hx hb hts hin hown hK hP 4 (by decide) rfl (hts (.fieldLink RX10 16 "ShadowBenchModel" "high" "[I") (by decide +kernel)) rfl dX10_keep_54 ?_
                refine lv_iload_n hx hb dX10_keep_57 rfl (lv_at hl 3 rfl) ?_
                refine m_iald (w := (r 4)) hx hb hK hP 3 rfl (vp_in_iff.mpr ⟨by omega, by omega⟩) dX10_keep_58 ?_
                refine lv_topi (fun v58 e58 => ?_)
                have i58 : v58.toInt = ((r 4) k0.toNatClampNeg).toInt := congrArg Int32.toInt e58
                have w58 := mi_h hI (x := k0) (by omega) (by omega) e58
                refine lv_lload hx hb dX10_keep_59 (lv_at hl 4 rfl) ?_
                refine m_pu (As := [.int v52, .int v58, .long p0]) (rest := []) ⟨hx, hb, hml, hown, hts⟩ (c_X10_isPicture l v52 v58 p0 ) (va_cwS 3 hts gX10_keep_X10_isPicture rfl rfl rfl (by decide +kernel) ⟨Nat.le_of_ble_eq_true rfl, Nat.le_of_ble_eq_true rfl⟩) hP rfl hl.1 rfl (Nat.le_of_ble_eq_true rfl) dX10_keep_61 ⟨Nat.le_of_ble_eq_true rfl, Nat.le_of_ble_eq_true rfl⟩ hS (fun r61 H locs q61 hP hS => ?_)
                refine lv_if_eq (tgt := 71) hx hb dX10_keep_64 (by decide) (fun c64 => ?_) (fun c64 => ?_)
                · skip
                  have b64 := bo_f q61 c64
                  refine lv_iconst (v := 0) hx hb dX10_keep_71 (by decide) ?_
                  refine lv_istore (lv' := [(6, .int (0 : Int32)), (0, .ref mo), (1, .int d), (2, .int what), (3, .int k0), (4, .long p0)]) hx hb dX10_keep_72 hl (by decide) rfl (fun ls hl => ?_)
                  refine lv_iload hx hb dX10_keep_74 (lv_at hl 0 rfl) ?_
                  refine lv_if_ne (tgt := 81) hx hb dX10_keep_76 (by decide) (fun c76 => ?_) (fun c76 => ?_)
                  · first | exact absurd c76 (by decide) | exact absurd (by decide) c76
                  · skip
                    have d76 := c76
                    rw [fa_eq] at d76
                    refine lv_iconst (v := (-1)) hx hb dX10_keep_79 (by decide) ?_
                    have hP := wm_eq rfl rfl (ec_r___29_30_31_32 r ) (ec_q___33 q ) hP
                    exact W.iret (v := ((-1) : Int32)) hx hb hr (fun t ht hW => ⟨⟨_, ((upd f 0 (0 : Int32)), g, (va_up (va_up (va_up (va_up r 29 (r 29)) 30 (r 30)) 31 (r 31)) 32 (r 32)), (va_up q 33 (q 33))), rfl, ⟨(r 29), (r 30), (r 31), (r 32), (q 33), rfl, ⟨(Or.inr ⟨(fun z9 => by unfold okKeep okJob at z9; rcases z9.2 with z8 | ⟨z8, z7⟩ | ⟨z8, z7, z6⟩; (first | exact b9 z9.1 | omega); (first | exact b9 z9.1 | exact b31 z7 | omega); (first | exact b9 z9.1 | exact b44 z7 | (have szw := mi_w hI (x := k0) (by omega) (by omega) rfl; have szh := mi_h hI (x := k0) (by omega) (by omega) rfl; subst e52; subst e58; exact goodP_no b64 ⟨⟨szw, szh⟩, z6⟩) | omega)), rfl⟩), (Or.inr ⟨(fun z9 => by unfold okKeep okJob at z9; rcases z9.2 with z8 | ⟨z8, z7⟩ | ⟨z8, z7, z6⟩; (first | exact b9 z9.1 | omega); (first | exact b9 z9.1 | exact b31 z7 | omega); (first | exact b9 z9.1 | exact b44 z7 | (have szw := mi_w hI (x := k0) (by omega) (by omega) rfl; have szh := mi_h hI (x := k0) (by omega) (by omega) rfl; subst e52; subst e58; exact goodP_no b64 ⟨⟨szw, szh⟩, z6⟩) | omega)), rfl, rfl, rfl⟩), by first | exact hI | exact mi_sz (d := d) hI (v := v110) (by omega) rfl rfl rfl rfl rfl rfl rfl rfl | exact mi_sz (d := d) hI (v := v131) (by omega) rfl rfl rfl rfl rfl rfl rfl rfl | exact mi_sz (d := d) hI (v := 0) (by decide) rfl rfl rfl rfl rfl rfl rfl rfl⟩⟩, by unfold mB; rw [ht]; exact hP⟩, hS.F ht⟩) hS.2.2 dX10_keep_80
                · skip
                  have b64 := bo_t q61 c64
                  refine lv_iconst (v := 1) hx hb dX10_keep_67 (by decide) ?_
                  refine lv_goto (tgt := 72) hx hb dX10_keep_68 (by decide) ?_
                  refine lv_istore (lv' := [(6, .int (1 : Int32)), (0, .ref mo), (1, .int d), (2, .int what), (3, .int k0), (4, .long p0)]) hx hb dX10_keep_72 hl (by decide) rfl (fun ls hl => ?_)
                  refine lv_iload hx hb dX10_keep_74 (lv_at hl 0 rfl) ?_
                  refine lv_if_ne (tgt := 81) hx hb dX10_keep_76 (by decide) (fun c76 => ?_) (fun c76 => ?_)
                  · skip
                    have d76 := c76
                    rw [fa_eq] at d76
                    refine lv_aload_n hx hb dX10_keep_81 rfl (lv_at hl 1 rfl) ?_
                    refine m_get (v := .ref (a 29)) hx hb hts hin hown hK hP 29 (by decide) rfl (hts (.fieldLink RX10 61 "ShadowBenchModel" "shelf" "[I") (by decide +kernel)) rfl dX10_keep_82 ?_
                    refine lv_iload_n hx hb dX10_keep_85 rfl (lv_at hl 2 rfl) ?_
                    refine lv_iload_n hx hb dX10_keep_86 rfl (lv_at hl 3 rfl) ?_
                    refine m_iast (w := (r 29)) hx hb hK hP hD hS 17 rfl (vp_in_iff.mpr ⟨by omega, by omega⟩) (va_up r 29 (upd (r 29) d.toNatClampNeg what)) (ms_29 cy mo a _ _ _ _ _) dX10_keep_87 (fun H locs hP hS => ?_)
                    refine lv_aload_n hx hb dX10_keep_88 rfl (lv_at hl 1 rfl) ?_
                    refine m_get (v := .ref (a 30)) hx hb hts hin hown hK hP 30 (by decide) rfl (hts (.fieldLink RX10 64 "ShadowBenchModel" "shelfSize" "[I") (by decide +kernel)) rfl dX10_keep_89 ?_
                    refine lv_iload_n hx hb dX10_keep_92 rfl (lv_at hl 2 rfl) ?_
                    refine lv_iload_n hx hb dX10_keep_93 rfl (lv_at hl 3 rfl) ?_
                    refine lv_iconst (v := 3) hx hb dX10_keep_94 (by decide) ?_
                    refine lv_icmp_ne (tgt := 114) hx hb dX10_keep_95 (by decide) (fun c95 => ?_) (fun c95 => ?_)
                    · first | exact absurd c95 c36 | exact absurd c36 c95
                    · skip
                      have d95 := c95
                      rw [fa_eq] at d95
                      refine lv_aload_n hx hb dX10_keep_98 rfl (lv_at hl 1 rfl) ?_
                      refine m_get (v := .ref (a 3)) hx hb hts hin hown hK hP 3 (by decide) rfl (hts (.fieldLink RX10 13 "ShadowBenchModel" "wide" "[I") (by decide +kernel)) rfl dX10_keep_99 ?_
                      refine lv_iload_n hx hb dX10_keep_102 rfl (lv_at hl 4 rfl) ?_
                      refine m_iald (w := (r 3)) hx hb hK hP 2 rfl (vp_in_iff.mpr ⟨by omega, by omega⟩) dX10_keep_103 ?_
                      refine lv_topi (fun v103 e103 => ?_)
                      have i103 : v103.toInt = ((r 3) k0.toNatClampNeg).toInt := congrArg Int32.toInt e103
                      have w103 := mi_w hI (x := k0) (by omega) (by omega) e103
                      refine lv_aload_n hx hb dX10_keep_104 rfl (lv_at hl 1 rfl) ?_
                      refine m_get (v := .ref (a 4)) hx hb hts hin hown hK hP 4 (by decide) rfl (hts (.fieldLink RX10 16 "ShadowBenchModel" "high" "[I") (by decide +kernel)) rfl dX10_keep_105 ?_
                      refine lv_iload_n hx hb dX10_keep_108 rfl (lv_at hl 4 rfl) ?_
                      refine m_iald (w := (r 4)) hx hb hK hP 3 rfl (vp_in_iff.mpr ⟨by omega, by omega⟩) dX10_keep_109 ?_
                      refine lv_topi (fun v109 e109 => ?_)
                      have i109 : v109.toInt = ((r 4) k0.toNatClampNeg).toInt := congrArg Int32.toInt e109
                      have w109 := mi_h hI (x := k0) (by omega) (by omega) e109
                      have m110 := mul66 w103 w109
                      refine lv_imul hx hb dX10_keep_110 ?_
                      refine lv_topi (fun v110 e110 => ?_)
                      have i110 : v110.toInt = v103.toInt * v109.toInt := by rw [e110]; exact fb_mulI (by omega) (by omega)
                      have y110 : v110.toInt = (((r 3 k0.toNatClampNeg).toNatClampNeg * (r 4 k0.toNatClampNeg).toNatClampNeg : Nat) : Int) := by rw [sq_eq hI (j := k0) (by omega) (by omega), i110, e103, e109]
                      obtain ⟨nv9, hnv9⟩ : ∃ z9, z9 = v110 := ⟨_, rfl⟩
                      have n184 := congrArg Int32.toInt hnv9
                      refine lv_goto (tgt := 136) hx hb dX10_keep_111 (by decide) ?_
                      refine m_iast (w := (r 30)) hx hb hK hP hD hS 18 rfl (vp_in_iff.mpr ⟨by omega, by omega⟩) (va_up (va_up r 29 ((upd (r 29) d.toNatClampNeg what))) 30 (upd (r 30) d.toNatClampNeg v110)) (ms_30 cy mo a _ _ _ _ _) dX10_keep_136 (fun H locs hP hS => ?_)
                      refine lv_iload_n hx hb dX10_keep_137 rfl (lv_at hl 3 rfl) ?_
                      refine lv_iconst (v := 1) hx hb dX10_keep_138 (by decide) ?_
                      refine lv_icmp_ne (tgt := 174) hx hb dX10_keep_139 (by decide) (fun c139 => ?_) (fun c139 => ?_)
                      · skip
                        have d139 := c139
                        rw [fa_eq] at d139
                        refine lv_iconst (v := 0) hx hb dX10_keep_174 (by decide) ?_
                        refine lv_istore (lv' := [(7, .int (0 : Int32)), (6, .int (1 : Int32)), (0, .ref mo), (1, .int d), (2, .int what), (3, .int k0), (4, .long p0)]) hx hb dX10_keep_175 hl (by decide) rfl (fun ls hl => ?_)
                        have loop_177 : ∀ (n : Nat) (i : Nat) (s3 : Nat → Int64), (i ≤ 60 ∧ (i : Int) ≤ nv9.toInt) → (s3 = setQ (q 33) (60 * d.toNatClampNeg) (keG what p0 (r 4 k0.toNatClampNeg).toNatClampNeg (fun x9 => r 5 (44 * k0.toNatClampNeg + x9))) i) → 60 - i < n → ∀ (H : Heap) (locs : List Loc), va_P D vwCl (WM cy mo a (upd f 0 (0 : Int32)) g (va_up (va_up r 29 ((upd (r 29) d.toNatClampNeg what))) 30 ((upd (r 30) d.toNatClampNeg v110))) (va_up q 33 s3)) H → va_S (AM mo a) s.heap H locs → ∀ (ls : Array Slot), lv_has ls 8 [(7, .int (nI i)), (6, .int (1 : Int32)), (0, .ref mo), (1, .int d), (2, .int what), (3, .int k0), (4, .long p0)] → W p l e (headSpec wsX10_keep ({ frames := 3, cells := 0, slots := 0, locals := 69 })).room s m #[Value.ref mo, Value.int d, Value.int what, Value.int k0, Value.long p0] below meth c H locs 0 0 (MQ below (va_Qi (fun r0 u => ∃ (sh : Nat → Int32), ∃ (sz : Nat → Int32), ∃ (sw : Nat → Int32), ∃ (sf : Nat → Int32), ∃ (sr : Nat → Int64), u = ((upd f 0 (0 : Int32)), g, (va_up (va_up (va_up (va_up r 29 sh) 30 sz) 31 sw) 32 sf), (va_up q 33 sr)) ∧ (yesNo (okKeep (f 1) (fun j9 => (r 3 j9).toNatClampNeg) (fun j9 => (r 4 j9).toNatClampNeg) d what k0 p0) 0 (-1) r0 ∧ ((okKeep (f 1) (fun j9 => (r 3 j9).toNatClampNeg) (fun j9 => (r 4 j9).toNatClampNeg) d what k0 p0 ∧ ∃ nv, sh = upd (r 29) d.toNatClampNeg what ∧ sz = upd (r 30) d.toNatClampNeg nv ∧ (what.toInt = 3 → nv.toInt = (((r 3 k0.toNatClampNeg).toNatClampNeg * (r 4 k0.toNatClampNeg).toNatClampNeg : Nat) : Int)) ∧ (what.toInt = 4 → nv.toInt = (((r 4 k0.toNatClampNeg).toNatClampNeg + (r 3 k0.toNatClampNeg).toNatClampNeg : Nat) : Int)) ∧ sr = setQ (q 33) (60 * d.toNatClampNeg) (keG what p0 (r 4 k0.toNatClampNeg).toNatClampNeg (fun x9 => r 5 (44 * k0.toNatClampNeg + x9))) nv.toNatClampNeg ∧ nv.toNatClampNeg ≤ 60) ∨ (¬ okKeep (f 1) (fun j9 => (r 3 j9).toNatClampNeg) (fun j9 => (r 4 j9).toNatClampNeg) d what k0 p0 ∧ sh = r 29 ∧ sz = r 30 ∧ sr = q 33)) ∧ MI (upd f 0 (0 : Int32)) (va_up (va_up (va_up (va_up r 29 sh) 30 sz) 31 sw) 32 sf))) (mB D cy mo a) (AM mo a)) #[Value.ref mo, Value.int d, Value.int what, Value.int k0, Value.long p0] s 0 0 (AM mo a)) (F0 m 177 ls []) := by
                          intro n
                          induction n with
                          | zero => intro i s3 j177_0 j177_1 hn; exact absurd hn (Nat.not_lt_zero _)
                          | succ n ih_177 =>
                            intro i s3 j177_0 j177_1 hn_177 H locs hP hS ls hl
                            have ii : (nI i).toInt = (i : Int) := nI_toInt (by omega)
                            refine lv_iload hx hb dX10_keep_177 (lv_at hl 0 rfl) ?_
                            refine lv_aload_n hx hb dX10_keep_179 rfl (lv_at hl 2 rfl) ?_
                            refine m_get (v := .ref (a 30)) hx hb hts hin hown hK hP 30 (by decide) rfl (hts (.fieldLink RX10 64 "ShadowBenchModel" "shelfSize" "[I") (by decide +kernel)) rfl dX10_keep_180 ?_
                            refine lv_iload_n hx hb dX10_keep_183 rfl (lv_at hl 3 rfl) ?_
                            refine m_iald (w := ((upd (r 30) d.toNatClampNeg v110))) hx hb hK hP 18 rfl (vp_in_iff.mpr ⟨by omega, by omega⟩) dX10_keep_184 ?_
                            refine lv_topi (fun v184 e184 => ?_)
                            have i184 : v184.toInt = (((upd (r 30) d.toNatClampNeg v110)) d.toNatClampNeg).toInt := congrArg Int32.toInt e184
                            have z184 := e184
                            simp only [upd, if_true] at z184
                            have y184 := congrArg Int32.toInt z184
                            have y184 : v184 = nv9 := by rw [e184, hnv9]; simp only [upd, if_true]
                            have i184 := congrArg Int32.toInt y184
                            refine lv_icmp_ge (tgt := 272) hx hb dX10_keep_185 (by decide) (fun c185 => ?_) (fun c185 => ?_)
                            · skip
                              have d185 := c185
                              rw [fa_le] at d185
                              refine lv_iconst (v := 0) hx hb dX10_keep_272 (by decide) ?_
                              have hP := wm_eq rfl rfl (ec_r_29_30__29_30_31_32 r ((upd (r 29) d.toNatClampNeg what)) ((upd (r 30) d.toNatClampNeg v110))) rfl hP
                              exact W.iret (v := (0 : Int32)) hx hb hr (fun t ht hW => ⟨⟨_, ((upd f 0 (0 : Int32)), g, (va_up (va_up (va_up (va_up r 29 (((upd (r 29) d.toNatClampNeg what)))) 30 (((upd (r 30) d.toNatClampNeg v110)))) 31 (r 31)) 32 (r 32)), (va_up q 33 s3)), rfl, ⟨((upd (r 29) d.toNatClampNeg what)), ((upd (r 30) d.toNatClampNeg v110)), (r 31), (r 32), s3, rfl, ⟨(Or.inl ⟨⟨b9, (by unfold okJob; first | exact Or.inl (by omega) | exact Or.inr (Or.inl ⟨by omega, b31⟩) | (have z9 := goodP_of b64; subst e52; subst e58; exact Or.inr (Or.inr ⟨by omega, b44, z9.2⟩)))⟩, rfl⟩), (Or.inl ⟨⟨b9, (by unfold okJob; first | exact Or.inl (by omega) | exact Or.inr (Or.inl ⟨by omega, b31⟩) | (have z9 := goodP_of b64; subst e52; subst e58; exact Or.inr (Or.inr ⟨by omega, b44, z9.2⟩)))⟩, _, rfl, rfl, (fun z9 => by first | (exfalso; omega) | exact y110), (fun z9 => by first | (exfalso; omega) | exact y131), (by have c9 := m_cl (x := nv9) (by omega); rw [j177_1, ← hnv9, show i = nv9.toNatClampNeg by omega]), (by have c9 := m_cl (x := nv9) (by omega); rw [hnv9] at c9; omega)⟩), by first | exact hI | exact mi_sz (d := d) hI (v := v110) (by omega) rfl rfl rfl rfl rfl rfl rfl rfl | exact mi_sz (d := d) hI (v := v131) (by omega) rfl rfl rfl rfl rfl rfl rfl rfl | exact mi_sz (d := d) hI (v := 0) (by decide) rfl rfl rfl rfl rfl rfl rfl rfl⟩⟩, by unfold mB; rw [ht]; exact hP⟩, hS.F ht⟩) hS.2.2 dX10_keep_273
                            · skip
                              have d185 := c185
                              rw [fa_le] at d185
                              refine lv_aload_n hx hb dX10_keep_188 rfl (lv_at hl 2 rfl) ?_
                              refine m_get (v := .ref (a 33)) hx hb hts hin hown hK hP 33 (by decide) rfl (hts (.fieldLink RX10 73 "ShadowBenchModel" "shelfRow" "[J") (by decide +kernel)) rfl dX10_keep_189 ?_
                              refine lv_bipush (v := 60) hx hb dX10_keep_192 (by decide) ?_
                              refine lv_iload_n hx hb dX10_keep_194 rfl (lv_at hl 3 rfl) ?_
                              refine lv_imul hx hb dX10_keep_195 ?_
                              refine lv_topi (fun v195 e195 => ?_)
                              have i195 : v195.toInt = 60 * d.toInt := by rw [e195]; exact mulcL rfl (by omega) (by omega)
                              refine lv_iload hx hb dX10_keep_196 (lv_at hl 0 rfl) ?_
                              refine lv_iadd hx hb dX10_keep_198 ?_
                              refine lv_topi (fun v198 e198 => ?_)
                              have i198 : v198.toInt = v195.toInt + (nI i).toInt := by rw [e198]; exact fb_addI (by omega) (by omega)
                              have cd9 := m_cl (x := d) (by omega)
                              have cv9 := m_cl (x := v198) (by omega)
                              have f198 : v198.toNatClampNeg = 60 * d.toNatClampNeg + i := by omega
                              refine lv_iload_n hx hb dX10_keep_199 rfl (lv_at hl 4 rfl) ?_
                              refine lv_iconst (v := 3) hx hb dX10_keep_200 (by decide) ?_
                              refine lv_icmp_ne (tgt := 215) hx hb dX10_keep_201 (by decide) (fun c201 => ?_) (fun c201 => ?_)
                              · first | exact absurd c201 c95 | exact absurd c95 c201
                              · skip
                                have d201 := c201
                                rw [fa_eq] at d201
                                refine lv_lload hx hb dX10_keep_204 (lv_at hl 6 rfl) ?_
                                refine lv_iload hx hb dX10_keep_206 (lv_at hl 0 rfl) ?_
                                refine m_pu (As := [.long p0, .int (nI i)]) (rest := [.int v198, .ref (a 33)]) ⟨hx, hb, hml, hown, hts⟩ (c_X10_one l p0 (nI i) ) (va_cwS 2 hts gX10_keep_X10_one rfl rfl rfl (by decide +kernel) ⟨Nat.le_of_ble_eq_true rfl, Nat.le_of_ble_eq_true rfl⟩) hP rfl hl.1 rfl (Nat.le_of_ble_eq_true rfl) dX10_keep_208 ⟨Nat.le_of_ble_eq_true rfl, Nat.le_of_ble_eq_true rfl⟩ hS (fun r208 H locs q208 hP hS => ?_)
                                have i208 : r208.toInt = (r_one p0 (nI i)).toInt := congrArg Int32.toInt q208
                                refine lv_i2l (v := r208.toInt64) hx hb dX10_keep_211 rfl ?_
                                refine lv_goto (tgt := 265) hx hb dX10_keep_212 (by decide) ?_
                                refine m_last (w := s3) hx hb hK hP hD hS 21 rfl (vp_in_iff.mpr ⟨by omega, by omega⟩) (va_up (va_up q 33 s3) 33 (vp_updL s3 v198.toNatClampNeg r208.toInt64)) (ms_33 cy mo a _ _ _ _ _) dX10_keep_265 (fun H locs hP hS => ?_)
                                have hP := wm_eq rfl rfl rfl (es_q_33__33 q s3 (vp_updL s3 v198.toNatClampNeg r208.toInt64)) hP
                                refine lv_iinc (v := (nI (i + 1))) (lv' := [(7, .int (nI (i + 1))), (6, .int (1 : Int32)), (0, .ref mo), (1, .int d), (2, .int what), (3, .int k0), (4, .long p0)]) hx hb dX10_keep_266 hl (k := 0) rfl (nI_1 _) (by decide) rfl (fun ls hl => ?_)
                                refine lv_goto (tgt := 177) hx hb dX10_keep_269 (by decide) ?_
                                have hP := wm_eq rfl rfl (ec_r_29_30__29_30 r ((upd (r 29) d.toNatClampNeg what)) ((upd (r 30) d.toNatClampNeg v110))) rfl hP
                                exact ih_177 (i + 1) (vp_updL s3 v198.toNatClampNeg r208.toInt64) (by omega) (by rw [j177_1, f198]; exact setQ_v (by first | (rw [keG_3 (by omega)]; exact one_bI (by omega) q208) | (rw [keG_4 (by omega) (by omega), e237, f236]; done) | (rw [keG_5 (by omega) (by omega), e263, f262]; done) | (exfalso; omega))) (by omega) _ _ hP hS ls (lv_sub hl [0, 1, 2, 3, 4, 5, 6] rfl)
                        have hP := wm_eq rfl rfl (ec_r_29_30__29_30 r ((upd (r 29) d.toNatClampNeg what)) ((upd (r 30) d.toNatClampNeg v110))) (ec_q___33 q ) hP
                        exact loop_177 (60 + 1) 0 (q 33) (by omega) ((setQ_0 _ _ _).symm) (by omega) _ _ hP hS ls (lv_sub hl [0, 1, 2, 3, 4, 5, 6] rfl)
                      · skip
                        have d139 := c139
                        rw [fa_eq] at d139
                        refine lv_aload_n hx hb dX10_keep_142 rfl (lv_at hl 1 rfl) ?_
                        refine m_get (v := .ref (a 31)) hx hb hts hin hown hK hP 31 (by decide) rfl (hts (.fieldLink RX10 67 "ShadowBenchModel" "shelfWeight" "[I") (by decide +kernel)) rfl dX10_keep_143 ?_
                        refine lv_iload_n hx hb dX10_keep_146 rfl (lv_at hl 2 rfl) ?_
                        refine lv_aload_n hx hb dX10_keep_147 rfl (lv_at hl 1 rfl) ?_
                        refine lv_iload_n hx hb dX10_keep_148 rfl (lv_at hl 4 rfl) ?_
                        refine m_calli (As := [.int k0]) (rest := [.int d, .ref (a 31)]) ⟨hx, hb, hml, hown, hts⟩ (c_X10_weightOf l D cy mo a (upd f 0 (0 : Int32)) g (va_up (va_up r 29 ((upd (r 29) d.toNatClampNeg what))) 30 ((upd (r 30) d.toNatClampNeg v110))) q k0 hD (by first | exact hI | exact mi_sz (d := d) hI (v := 0) (by first | omega | decide) rfl rfl rfl rfl rfl rfl rfl rfl | exact mi_sz (d := d) hI (v := v131) (by first | omega | decide) rfl rfl rfl rfl rfl rfl rfl rfl | exact mi_sz (d := d) hI (v := v110) (by first | omega | decide) rfl rfl rfl rfl rfl rfl rfl rfl) (show 0 ≤ k0.toInt ∧ k0.toInt < (f 1).toInt by omega)) (cwV 1 hts gX10_keep_X10_weightOf rfl rfl rfl (by decide +kernel) ⟨Nat.le_of_ble_eq_true rfl, Nat.le_of_ble_eq_true rfl⟩) hK hP rfl hl.1 rfl (Nat.le_of_ble_eq_true rfl) dX10_keep_149 ⟨Nat.le_of_ble_eq_true rfl, Nat.le_of_ble_eq_true rfl⟩ hS (fun r149 u H locs q149 hP hS => ?_)
                        obtain ⟨rfl, q149⟩ := q149
                        have hP : va_P D vwCl (WM cy mo a (upd f 0 (0 : Int32)) g (va_up (va_up r 29 ((upd (r 29) d.toNatClampNeg what))) 30 ((upd (r 30) d.toNatClampNeg v110))) q) H := hP
                        have q149 : True := q149
                        refine m_iast (w := (r 31)) hx hb hK hP hD hS 19 rfl (vp_in_iff.mpr ⟨by omega, by omega⟩) (va_up (va_up (va_up r 29 ((upd (r 29) d.toNatClampNeg what))) 30 ((upd (r 30) d.toNatClampNeg v110))) 31 (upd (r 31) d.toNatClampNeg r149)) (ms_31 cy mo a _ _ _ _ _) dX10_keep_152 (fun H locs hP hS => ?_)
                        refine lv_aload_n hx hb dX10_keep_153 rfl (lv_at hl 1 rfl) ?_
                        refine m_get (v := .ref (a 32)) hx hb hts hin hown hK hP 32 (by decide) rfl (hts (.fieldLink RX10 70 "ShadowBenchModel" "shelfFailure" "[I") (by decide +kernel)) rfl dX10_keep_154 ?_
                        refine lv_iload_n hx hb dX10_keep_157 rfl (lv_at hl 2 rfl) ?_
                        refine lv_aload_n hx hb dX10_keep_158 rfl (lv_at hl 1 rfl) ?_
                        refine m_get (v := .ref (a 2)) hx hb hts hin hown hK hP 2 (by decide) rfl (hts (.fieldLink RX10 7 "ShadowBenchModel" "kind" "[I") (by decide +kernel)) rfl dX10_keep_159 ?_
                        refine lv_iload_n hx hb dX10_keep_162 rfl (lv_at hl 4 rfl) ?_
                        refine m_iald (w := (r 2)) hx hb hK hP 1 rfl (vp_in_iff.mpr ⟨by omega, by omega⟩) dX10_keep_163 ?_
                        refine lv_topi (fun v163 e163 => ?_)
                        have i163 : v163.toInt = ((r 2) k0.toNatClampNeg).toInt := congrArg Int32.toInt e163
                        refine lv_if_ne (tgt := 172) hx hb dX10_keep_164 (by decide) (fun c164 => ?_) (fun c164 => ?_)
                        · skip
                          have d164 := c164
                          rw [fa_eq] at d164
                          refine lv_iload_n hx hb dX10_keep_172 rfl (lv_at hl 4 rfl) ?_
                          refine m_iast (w := (r 32)) hx hb hK hP hD hS 20 rfl (vp_in_iff.mpr ⟨by omega, by omega⟩) (va_up (va_up (va_up (va_up r 29 ((upd (r 29) d.toNatClampNeg what))) 30 ((upd (r 30) d.toNatClampNeg v110))) 31 ((upd (r 31) d.toNatClampNeg r149))) 32 (upd (r 32) d.toNatClampNeg k0)) (ms_32 cy mo a _ _ _ _ _) dX10_keep_173 (fun H locs hP hS => ?_)
                          refine lv_iconst (v := 0) hx hb dX10_keep_174 (by decide) ?_
                          refine lv_istore (lv' := [(7, .int (0 : Int32)), (6, .int (1 : Int32)), (0, .ref mo), (1, .int d), (2, .int what), (3, .int k0), (4, .long p0)]) hx hb dX10_keep_175 hl (by decide) rfl (fun ls hl => ?_)
                          have loop_177 : ∀ (n : Nat) (i : Nat) (s3 : Nat → Int64), (i ≤ 60 ∧ (i : Int) ≤ nv9.toInt) → (s3 = setQ (q 33) (60 * d.toNatClampNeg) (keG what p0 (r 4 k0.toNatClampNeg).toNatClampNeg (fun x9 => r 5 (44 * k0.toNatClampNeg + x9))) i) → 60 - i < n → ∀ (H : Heap) (locs : List Loc), va_P D vwCl (WM cy mo a (upd f 0 (0 : Int32)) g (va_up (va_up (va_up (va_up r 29 ((upd (r 29) d.toNatClampNeg what))) 30 ((upd (r 30) d.toNatClampNeg v110))) 31 ((upd (r 31) d.toNatClampNeg r149))) 32 ((upd (r 32) d.toNatClampNeg k0))) (va_up q 33 s3)) H → va_S (AM mo a) s.heap H locs → ∀ (ls : Array Slot), lv_has ls 8 [(7, .int (nI i)), (6, .int (1 : Int32)), (0, .ref mo), (1, .int d), (2, .int what), (3, .int k0), (4, .long p0)] → W p l e (headSpec wsX10_keep ({ frames := 3, cells := 0, slots := 0, locals := 69 })).room s m #[Value.ref mo, Value.int d, Value.int what, Value.int k0, Value.long p0] below meth c H locs 0 0 (MQ below (va_Qi (fun r0 u => ∃ (sh : Nat → Int32), ∃ (sz : Nat → Int32), ∃ (sw : Nat → Int32), ∃ (sf : Nat → Int32), ∃ (sr : Nat → Int64), u = ((upd f 0 (0 : Int32)), g, (va_up (va_up (va_up (va_up r 29 sh) 30 sz) 31 sw) 32 sf), (va_up q 33 sr)) ∧ (yesNo (okKeep (f 1) (fun j9 => (r 3 j9).toNatClampNeg) (fun j9 => (r 4 j9).toNatClampNeg) d what k0 p0) 0 (-1) r0 ∧ ((okKeep (f 1) (fun j9 => (r 3 j9).toNatClampNeg) (fun j9 => (r 4 j9).toNatClampNeg) d what k0 p0 ∧ ∃ nv, sh = upd (r 29) d.toNatClampNeg what ∧ sz = upd (r 30) d.toNatClampNeg nv ∧ (what.toInt = 3 → nv.toInt = (((r 3 k0.toNatClampNeg).toNatClampNeg * (r 4 k0.toNatClampNeg).toNatClampNeg : Nat) : Int)) ∧ (what.toInt = 4 → nv.toInt = (((r 4 k0.toNatClampNeg).toNatClampNeg + (r 3 k0.toNatClampNeg).toNatClampNeg : Nat) : Int)) ∧ sr = setQ (q 33) (60 * d.toNatClampNeg) (keG what p0 (r 4 k0.toNatClampNeg).toNatClampNeg (fun x9 => r 5 (44 * k0.toNatClampNeg + x9))) nv.toNatClampNeg ∧ nv.toNatClampNeg ≤ 60) ∨ (¬ okKeep (f 1) (fun j9 => (r 3 j9).toNatClampNeg) (fun j9 => (r 4 j9).toNatClampNeg) d what k0 p0 ∧ sh = r 29 ∧ sz = r 30 ∧ sr = q 33)) ∧ MI (upd f 0 (0 : Int32)) (va_up (va_up (va_up (va_up r 29 sh) 30 sz) 31 sw) 32 sf))) (mB D cy mo a) (AM mo a)) #[Value.ref mo, Value.int d, Value.int what, Value.int k0, Value.long p0] s 0 0 (AM mo a)) (F0 m 177 ls []) := by
                            intro n
                            induction n with
                            | zero => intro i s3 j177_0 j177_1 hn; exact absurd hn (Nat.not_lt_zero _)
                            | succ n ih_177 =>
                              intro i s3 j177_0 j177_1 hn_177 H locs hP hS ls hl
                              have ii : (nI i).toInt = (i : Int) := nI_toInt (by omega)
                              refine lv_iload hx hb dX10_keep_177 (lv_at hl 0 rfl) ?_
                              refine lv_aload_n hx hb dX10_keep_179 rfl (lv_at hl 2 rfl) ?_
                              refine m_get (v := .ref (a 30)) hx hb hts hin hown hK hP 30 (by decide) rfl (hts (.fieldLink RX10 64 "ShadowBenchModel" "shelfSize" "[I") (by decide +kernel)) rfl dX10_keep_180 ?_
                              refine lv_iload_n hx hb dX10_keep_183 rfl (lv_at hl 3 rfl) ?_
                              refine m_iald (w := ((upd (r 30) d.toNatClampNeg v110))) hx hb hK hP 18 rfl (vp_in_iff.mpr ⟨by omega, by omega⟩) dX10_keep_184 ?_
                              refine lv_topi (fun v184 e184 => ?_)
                              have i184 : v184.toInt = (((upd (r 30) d.toNatClampNeg v110)) d.toNatClampNeg).toInt := congrArg Int32.toInt e184
                              have z184 := e184
                              simp only [upd, if_true] at z184
                              have y184 := congrArg Int32.toInt z184
                              have y184 : v184 = nv9 := by rw [e184, hnv9]; simp only [upd, if_true]
                              have i184 := congrArg Int32.toInt y184
                              refine lv_icmp_ge (tgt := 272) hx hb dX10_keep_185 (by decide) (fun c185 => ?_) (fun c185 => ?_)
                              · skip
                                have d185 := c185
                                rw [fa_le] at d185
                                refine lv_iconst (v := 0) hx hb dX10_keep_272 (by decide) ?_
                                have hP := wm_eq rfl rfl (ec_r_29_30_31_32__29_30_31_32 r ((upd (r 29) d.toNatClampNeg what)) ((upd (r 30) d.toNatClampNeg v110)) ((upd (r 31) d.toNatClampNeg r149)) ((upd (r 32) d.toNatClampNeg k0))) rfl hP
                                exact W.iret (v := (0 : Int32)) hx hb hr (fun t ht hW => ⟨⟨_, ((upd f 0 (0 : Int32)), g, (va_up (va_up (va_up (va_up r 29 (((upd (r 29) d.toNatClampNeg what)))) 30 (((upd (r 30) d.toNatClampNeg v110)))) 31 (((upd (r 31) d.toNatClampNeg r149)))) 32 (((upd (r 32) d.toNatClampNeg k0)))), (va_up q 33 s3)), rfl, ⟨((upd (r 29) d.toNatClampNeg what)), ((upd (r 30) d.toNatClampNeg v110)), ((upd (r 31) d.toNatClampNeg r149)), ((upd (r 32) d.toNatClampNeg k0)), s3, rfl, ⟨(Or.inl ⟨⟨b9, (by unfold okJob; first | exact Or.inl (by omega) | exact Or.inr (Or.inl ⟨by omega, b31⟩) | (have z9 := goodP_of b64; subst e52; subst e58; exact Or.inr (Or.inr ⟨by omega, b44, z9.2⟩)))⟩, rfl⟩), (Or.inl ⟨⟨b9, (by unfold okJob; first | exact Or.inl (by omega) | exact Or.inr (Or.inl ⟨by omega, b31⟩) | (have z9 := goodP_of b64; subst e52; subst e58; exact Or.inr (Or.inr ⟨by omega, b44, z9.2⟩)))⟩, _, rfl, rfl, (fun z9 => by first | (exfalso; omega) | exact y110), (fun z9 => by first | (exfalso; omega) | exact y131), (by have c9 := m_cl (x := nv9) (by omega); rw [j177_1, ← hnv9, show i = nv9.toNatClampNeg by omega]), (by have c9 := m_cl (x := nv9) (by omega); rw [hnv9] at c9; omega)⟩), by first | exact hI | exact mi_sz (d := d) hI (v := v110) (by omega) rfl rfl rfl rfl rfl rfl rfl rfl | exact mi_sz (d := d) hI (v := v131) (by omega) rfl rfl rfl rfl rfl rfl rfl rfl | exact mi_sz (d := d) hI (v := 0) (by decide) rfl rfl rfl rfl rfl rfl rfl rfl⟩⟩, by unfold mB; rw [ht]; exact hP⟩, hS.F ht⟩) hS.2.2 dX10_keep_273
                              · skip
                                have d185 := c185
                                rw [fa_le] at d185
                                refine lv_aload_n hx hb dX10_keep_188 rfl (lv_at hl 2 rfl) ?_
                                refine m_get (v := .ref (a 33)) hx hb hts hin hown hK hP 33 (by decide) rfl (hts (.fieldLink RX10 73 "ShadowBenchModel" "shelfRow" "[J") (by decide +kernel)) rfl dX10_keep_189 ?_
                                refine lv_bipush (v := 60) hx hb dX10_keep_192 (by decide) ?_
                                refine lv_iload_n hx hb dX10_keep_194 rfl (lv_at hl 3 rfl) ?_
                                refine lv_imul hx hb dX10_keep_195 ?_
                                refine lv_topi (fun v195 e195 => ?_)
                                have i195 : v195.toInt = 60 * d.toInt := by rw [e195]; exact mulcL rfl (by omega) (by omega)
                                refine lv_iload hx hb dX10_keep_196 (lv_at hl 0 rfl) ?_
                                refine lv_iadd hx hb dX10_keep_198 ?_
                                refine lv_topi (fun v198 e198 => ?_)
                                have i198 : v198.toInt = v195.toInt + (nI i).toInt := by rw [e198]; exact fb_addI (by omega) (by omega)
                                have cd9 := m_cl (x := d) (by omega)
                                have cv9 := m_cl (x := v198) (by omega)
                                have f198 : v198.toNatClampNeg = 60 * d.toNatClampNeg + i := by omega
                                refine lv_iload_n hx hb dX10_keep_199 rfl (lv_at hl 4 rfl) ?_
                                refine lv_iconst (v := 3) hx hb dX10_keep_200 (by decide) ?_
                                refine lv_icmp_ne (tgt := 215) hx hb dX10_keep_201 (by decide) (fun c201 => ?_) (fun c201 => ?_)
                                · first | exact absurd c201 c95 | exact absurd c95 c201
                                · skip
                                  have d201 := c201
                                  rw [fa_eq] at d201
                                  refine lv_lload hx hb dX10_keep_204 (lv_at hl 6 rfl) ?_
                                  refine lv_iload hx hb dX10_keep_206 (lv_at hl 0 rfl) ?_
                                  refine m_pu (As := [.long p0, .int (nI i)]) (rest := [.int v198, .ref (a 33)]) ⟨hx, hb, hml, hown, hts⟩ (c_X10_one l p0 (nI i) ) (va_cwS 2 hts gX10_keep_X10_one rfl rfl rfl (by decide +kernel) ⟨Nat.le_of_ble_eq_true rfl, Nat.le_of_ble_eq_true rfl⟩) hP rfl hl.1 rfl (Nat.le_of_ble_eq_true rfl) dX10_keep_208 ⟨Nat.le_of_ble_eq_true rfl, Nat.le_of_ble_eq_true rfl⟩ hS (fun r208 H locs q208 hP hS => ?_)
                                  have i208 : r208.toInt = (r_one p0 (nI i)).toInt := congrArg Int32.toInt q208
                                  refine lv_i2l (v := r208.toInt64) hx hb dX10_keep_211 rfl ?_
                                  refine lv_goto (tgt := 265) hx hb dX10_keep_212 (by decide) ?_
                                  refine m_last (w := s3) hx hb hK hP hD hS 21 rfl (vp_in_iff.mpr ⟨by omega, by omega⟩) (va_up (va_up q 33 s3) 33 (vp_updL s3 v198.toNatClampNeg r208.toInt64)) (ms_33 cy mo a _ _ _ _ _) dX10_keep_265 (fun H locs hP hS => ?_)
                                  have hP := wm_eq rfl rfl rfl (es_q_33__33 q s3 (vp_updL s3 v198.toNatClampNeg r208.toInt64)) hP
                                  refine lv_iinc (v := (nI (i + 1))) (lv' := [(7, .int (nI (i + 1))), (6, .int (1 : Int32)), (0, .ref mo), (1, .int d), (2, .int what), (3, .int k0), (4, .long p0)]) hx hb dX10_keep_266 hl (k := 0) rfl (nI_1 _) (by decide) rfl (fun ls hl => ?_)
                                  refine lv_goto (tgt := 177) hx hb dX10_keep_269 (by decide) ?_
                                  have hP := wm_eq rfl rfl (ec_r_29_30_31_32__29_30_31_32 r ((upd (r 29) d.toNatClampNeg what)) ((upd (r 30) d.toNatClampNeg v110)) ((upd (r 31) d.toNatClampNeg r149)) ((upd (r 32) d.toNatClampNeg k0))) rfl hP
                                  exact ih_177 (i + 1) (vp_updL s3 v198.toNatClampNeg r208.toInt64) (by omega) (by rw [j177_1, f198]; exact setQ_v (by first | (rw [keG_3 (by omega)]; exact one_bI (by omega) q208) | (rw [keG_4 (by omega) (by omega), e237, f236]; done) | (rw [keG_5 (by omega) (by omega), e263, f262]; done) | (exfalso; omega))) (by omega) _ _ hP hS ls (lv_sub hl [0, 1, 2, 3, 4, 5, 6] rfl)
                          have hP := wm_eq rfl rfl (ec_r_29_30_31_32__29_30_31_32 r ((upd (r 29) d.toNatClampNeg what)) ((upd (r 30) d.toNatClampNeg v110)) ((upd (r 31) d.toNatClampNeg r149)) ((upd (r 32) d.toNatClampNeg k0))) (ec_q___33 q ) hP
                          exact loop_177 (60 + 1) 0 (q 33) (by omega) ((setQ_0 _ _ _).symm) (by omega) _ _ hP hS ls (lv_sub hl [0, 1, 2, 3, 4, 5, 6] rfl)
                        · skip
                          have d164 := c164
                          rw [fa_eq] at d164
                          refine lv_bipush (v := (-15)) hx hb dX10_keep_167 (by decide) ?_
                          refine lv_goto (tgt := 173) hx hb dX10_keep_169 (by decide) ?_
                          refine m_iast (w := (r 32)) hx hb hK hP hD hS 20 rfl (vp_in_iff.mpr ⟨by omega, by omega⟩) (va_up (va_up (va_up (va_up r 29 ((upd (r 29) d.toNatClampNeg what))) 30 ((upd (r 30) d.toNatClampNeg v110))) 31 ((upd (r 31) d.toNatClampNeg r149))) 32 (upd (r 32) d.toNatClampNeg (((-15) : Int32)))) (ms_32 cy mo a _ _ _ _ _) dX10_keep_173 (fun H locs hP hS => ?_)
                          refine lv_iconst (v := 0) hx hb dX10_keep_174 (by decide) ?_
                          refine lv_istore (lv' := [(7, .int (0 : Int32)), (6, .int (1 : Int32)), (0, .ref mo), (1, .int d), (2, .int what), (3, .int k0), (4, .long p0)]) hx hb dX10_keep_175 hl (by decide) rfl (fun ls hl => ?_)
                          have loop_177 : ∀ (n : Nat) (i : Nat) (s3 : Nat → Int64), (i ≤ 60 ∧ (i : Int) ≤ nv9.toInt) → (s3 = setQ (q 33) (60 * d.toNatClampNeg) (keG what p0 (r 4 k0.toNatClampNeg).toNatClampNeg (fun x9 => r 5 (44 * k0.toNatClampNeg + x9))) i) → 60 - i < n → ∀ (H : Heap) (locs : List Loc), va_P D vwCl (WM cy mo a (upd f 0 (0 : Int32)) g (va_up (va_up (va_up (va_up r 29 ((upd (r 29) d.toNatClampNeg what))) 30 ((upd (r 30) d.toNatClampNeg v110))) 31 ((upd (r 31) d.toNatClampNeg r149))) 32 ((upd (r 32) d.toNatClampNeg (((-15) : Int32))))) (va_up q 33 s3)) H → va_S (AM mo a) s.heap H locs → ∀ (ls : Array Slot), lv_has ls 8 [(7, .int (nI i)), (6, .int (1 : Int32)), (0, .ref mo), (1, .int d), (2, .int what), (3, .int k0), (4, .long p0)] → W p l e (headSpec wsX10_keep ({ frames := 3, cells := 0, slots := 0, locals := 69 })).room s m #[Value.ref mo, Value.int d, Value.int what, Value.int k0, Value.long p0] below meth c H locs 0 0 (MQ below (va_Qi (fun r0 u => ∃ (sh : Nat → Int32), ∃ (sz : Nat → Int32), ∃ (sw : Nat → Int32), ∃ (sf : Nat → Int32), ∃ (sr : Nat → Int64), u = ((upd f 0 (0 : Int32)), g, (va_up (va_up (va_up (va_up r 29 sh) 30 sz) 31 sw) 32 sf), (va_up q 33 sr)) ∧ (yesNo (okKeep (f 1) (fun j9 => (r 3 j9).toNatClampNeg) (fun j9 => (r 4 j9).toNatClampNeg) d what k0 p0) 0 (-1) r0 ∧ ((okKeep (f 1) (fun j9 => (r 3 j9).toNatClampNeg) (fun j9 => (r 4 j9).toNatClampNeg) d what k0 p0 ∧ ∃ nv, sh = upd (r 29) d.toNatClampNeg what ∧ sz = upd (r 30) d.toNatClampNeg nv ∧ (what.toInt = 3 → nv.toInt = (((r 3 k0.toNatClampNeg).toNatClampNeg * (r 4 k0.toNatClampNeg).toNatClampNeg : Nat) : Int)) ∧ (what.toInt = 4 → nv.toInt = (((r 4 k0.toNatClampNeg).toNatClampNeg + (r 3 k0.toNatClampNeg).toNatClampNeg : Nat) : Int)) ∧ sr = setQ (q 33) (60 * d.toNatClampNeg) (keG what p0 (r 4 k0.toNatClampNeg).toNatClampNeg (fun x9 => r 5 (44 * k0.toNatClampNeg + x9))) nv.toNatClampNeg ∧ nv.toNatClampNeg ≤ 60) ∨ (¬ okKeep (f 1) (fun j9 => (r 3 j9).toNatClampNeg) (fun j9 => (r 4 j9).toNatClampNeg) d what k0 p0 ∧ sh = r 29 ∧ sz = r 30 ∧ sr = q 33)) ∧ MI (upd f 0 (0 : Int32)) (va_up (va_up (va_up (va_up r 29 sh) 30 sz) 31 sw) 32 sf))) (mB D cy mo a) (AM mo a)) #[Value.ref mo, Value.int d, Value.int what, Value.int k0, Value.long p0] s 0 0 (AM mo a)) (F0 m 177 ls []) := by
                            intro n
                            induction n with
                            | zero => intro i s3 j177_0 j177_1 hn; exact absurd hn (Nat.not_lt_zero _)
                            | succ n ih_177 =>
                              intro i s3 j177_0 j177_1 hn_177 H locs hP hS ls hl
                              have ii : (nI i).toInt = (i : Int) := nI_toInt (by omega)
                              refine lv_iload hx hb dX10_keep_177 (lv_at hl 0 rfl) ?_
                              refine lv_aload_n hx hb dX10_keep_179 rfl (lv_at hl 2 rfl) ?_
                              refine m_get (v := .ref (a 30)) hx hb hts hin hown hK hP 30 (by decide) rfl (hts (.fieldLink RX10 64 "ShadowBenchModel" "shelfSize" "[I") (by decide +kernel)) rfl dX10_keep_180 ?_
                              refine lv_iload_n hx hb dX10_keep_183 rfl (lv_at hl 3 rfl) ?_
                              refine m_iald (w := ((upd (r 30) d.toNatClampNeg v110))) hx hb hK hP 18 rfl (vp_in_iff.mpr ⟨by omega, by omega⟩) dX10_keep_184 ?_
                              refine lv_topi (fun v184 e184 => ?_)
                              have i184 : v184.toInt = (((upd (r 30) d.toNatClampNeg v110)) d.toNatClampNeg).toInt := congrArg Int32.toInt e184
                              have z184 := e184
                              simp only [upd, if_true] at z184
                              have y184 := congrArg Int32.toInt z184
                              have y184 : v184 = nv9 := by rw [e184, hnv9]; simp only [upd, if_true]
                              have i184 := congrArg Int32.toInt y184
                              refine lv_icmp_ge (tgt := 272) hx hb dX10_keep_185 (by decide) (fun c185 => ?_) (fun c185 => ?_)
                              · skip
                                have d185 := c185
                                rw [fa_le] at d185
                                refine lv_iconst (v := 0) hx hb dX10_keep_272 (by decide) ?_
                                have hP := wm_eq rfl rfl (ec_r_29_30_31_32__29_30_31_32 r ((upd (r 29) d.toNatClampNeg what)) ((upd (r 30) d.toNatClampNeg v110)) ((upd (r 31) d.toNatClampNeg r149)) ((upd (r 32) d.toNatClampNeg (((-15) : Int32))))) rfl hP
                                exact W.iret (v := (0 : Int32)) hx hb hr (fun t ht hW => ⟨⟨_, ((upd f 0 (0 : Int32)), g, (va_up (va_up (va_up (va_up r 29 (((upd (r 29) d.toNatClampNeg what)))) 30 (((upd (r 30) d.toNatClampNeg v110)))) 31 (((upd (r 31) d.toNatClampNeg r149)))) 32 (((upd (r 32) d.toNatClampNeg (((-15) : Int32)))))), (va_up q 33 s3)), rfl, ⟨((upd (r 29) d.toNatClampNeg what)), ((upd (r 30) d.toNatClampNeg v110)), ((upd (r 31) d.toNatClampNeg r149)), ((upd (r 32) d.toNatClampNeg (((-15) : Int32)))), s3, rfl, ⟨(Or.inl ⟨⟨b9, (by unfold okJob; first | exact Or.inl (by omega) | exact Or.inr (Or.inl ⟨by omega, b31⟩) | (have z9 := goodP_of b64; subst e52; subst e58; exact Or.inr (Or.inr ⟨by omega, b44, z9.2⟩)))⟩, rfl⟩), (Or.inl ⟨⟨b9, (by unfold okJob; first | exact Or.inl (by omega) | exact Or.inr (Or.inl ⟨by omega, b31⟩) | (have z9 := goodP_of b64; subst e52; subst e58; exact Or.inr (Or.inr ⟨by omega, b44, z9.2⟩)))⟩, _, rfl, rfl, (fun z9 => by first | (exfalso; omega) | exact y110), (fun z9 => by first | (exfalso; omega) | exact y131), (by have c9 := m_cl (x := nv9) (by omega); rw [j177_1, ← hnv9, show i = nv9.toNatClampNeg by omega]), (by have c9 := m_cl (x := nv9) (by omega); rw [hnv9] at c9; omega)⟩), by first | exact hI | exact mi_sz (d := d) hI (v := v110) (by omega) rfl rfl rfl rfl rfl rfl rfl rfl | exact mi_sz (d := d) hI (v := v131) (by omega) rfl rfl rfl rfl rfl rfl rfl rfl | exact mi_sz (d := d) hI (v := 0) (by decide) rfl rfl rfl rfl rfl rfl rfl rfl⟩⟩, by unfold mB; rw [ht]; exact hP⟩, hS.F ht⟩) hS.2.2 dX10_keep_273
                              · skip
                                have d185 := c185
                                rw [fa_le] at d185
                                refine lv_aload_n hx hb dX10_keep_188 rfl (lv_at hl 2 rfl) ?_
                                refine m_get (v := .ref (a 33)) hx hb hts hin hown hK hP 33 (by decide) rfl (hts (.fieldLink RX10 73 "ShadowBenchModel" "shelfRow" "[J") (by decide +kernel)) rfl dX10_keep_189 ?_
                                refine lv_bipush (v := 60) hx hb dX10_keep_192 (by decide) ?_
                                refine lv_iload_n hx hb dX10_keep_194 rfl (lv_at hl 3 rfl) ?_
                                refine lv_imul hx hb dX10_keep_195 ?_
                                refine lv_topi (fun v195 e195 => ?_)
                                have i195 : v195.toInt = 60 * d.toInt := by rw [e195]; exact mulcL rfl (by omega) (by omega)
                                refine lv_iload hx hb dX10_keep_196 (lv_at hl 0 rfl) ?_
                                refine lv_iadd hx hb dX10_keep_198 ?_
                                refine lv_topi (fun v198 e198 => ?_)
                                have i198 : v198.toInt = v195.toInt + (nI i).toInt := by rw [e198]; exact fb_addI (by omega) (by omega)
                                have cd9 := m_cl (x := d) (by omega)
                                have cv9 := m_cl (x := v198) (by omega)
                                have f198 : v198.toNatClampNeg = 60 * d.toNatClampNeg + i := by omega
                                refine lv_iload_n hx hb dX10_keep_199 rfl (lv_at hl 4 rfl) ?_
                                refine lv_iconst (v := 3) hx hb dX10_keep_200 (by decide) ?_
                                refine lv_icmp_ne (tgt := 215) hx hb dX10_keep_201 (by decide) (fun c201 => ?_) (fun c201 => ?_)
                                · first | exact absurd c201 c95 | exact absurd c95 c201
                                · skip
                                  have d201 := c201
                                  rw [fa_eq] at d201
                                  refine lv_lload hx hb dX10_keep_204 (lv_at hl 6 rfl) ?_
                                  refine lv_iload hx hb dX10_keep_206 (lv_at hl 0 rfl) ?_
                                  refine m_pu (As := [.long p0, .int (nI i)]) (rest := [.int v198, .ref (a 33)]) ⟨hx, hb, hml, hown, hts⟩ (c_X10_one l p0 (nI i) ) (va_cwS 2 hts gX10_keep_X10_one rfl rfl rfl (by decide +kernel) ⟨Nat.le_of_ble_eq_true rfl, Nat.le_of_ble_eq_true rfl⟩) hP rfl hl.1 rfl (Nat.le_of_ble_eq_true rfl) dX10_keep_208 ⟨Nat.le_of_ble_eq_true rfl, Nat.le_of_ble_eq_true rfl⟩ hS (fun r208 H locs q208 hP hS => ?_)
                                  have i208 : r208.toInt = (r_one p0 (nI i)).toInt := congrArg Int32.toInt q208
                                  refine lv_i2l (v := r208.toInt64) hx hb dX10_keep_211 rfl ?_
                                  refine lv_goto (tgt := 265) hx hb dX10_keep_212 (by decide) ?_
                                  refine m_last (w := s3) hx hb hK hP hD hS 21 rfl (vp_in_iff.mpr ⟨by omega, by omega⟩) (va_up (va_up q 33 s3) 33 (vp_updL s3 v198.toNatClampNeg r208.toInt64)) (ms_33 cy mo a _ _ _ _ _) dX10_keep_265 (fun H locs hP hS => ?_)
                                  have hP := wm_eq rfl rfl rfl (es_q_33__33 q s3 (vp_updL s3 v198.toNatClampNeg r208.toInt64)) hP
                                  refine lv_iinc (v := (nI (i + 1))) (lv' := [(7, .int (nI (i + 1))), (6, .int (1 : Int32)), (0, .ref mo), (1, .int d), (2, .int what), (3, .int k0), (4, .long p0)]) hx hb dX10_keep_266 hl (k := 0) rfl (nI_1 _) (by decide) rfl (fun ls hl => ?_)
                                  refine lv_goto (tgt := 177) hx hb dX10_keep_269 (by decide) ?_
                                  have hP := wm_eq rfl rfl (ec_r_29_30_31_32__29_30_31_32 r ((upd (r 29) d.toNatClampNeg what)) ((upd (r 30) d.toNatClampNeg v110)) ((upd (r 31) d.toNatClampNeg r149)) ((upd (r 32) d.toNatClampNeg (((-15) : Int32))))) rfl hP
                                  exact ih_177 (i + 1) (vp_updL s3 v198.toNatClampNeg r208.toInt64) (by omega) (by rw [j177_1, f198]; exact setQ_v (by first | (rw [keG_3 (by omega)]; exact one_bI (by omega) q208) | (rw [keG_4 (by omega) (by omega), e237, f236]; done) | (rw [keG_5 (by omega) (by omega), e263, f262]; done) | (exfalso; omega))) (by omega) _ _ hP hS ls (lv_sub hl [0, 1, 2, 3, 4, 5, 6] rfl)
                          have hP := wm_eq rfl rfl (ec_r_29_30_31_32__29_30_31_32 r ((upd (r 29) d.toNatClampNeg what)) ((upd (r 30) d.toNatClampNeg v110)) ((upd (r 31) d.toNatClampNeg r149)) ((upd (r 32) d.toNatClampNeg (((-15) : Int32))))) (ec_q___33 q ) hP
                          exact loop_177 (60 + 1) 0 (q 33) (by omega) ((setQ_0 _ _ _).symm) (by omega) _ _ hP hS ls (lv_sub hl [0, 1, 2, 3, 4, 5, 6] rfl)
                  · first | exact absurd c76 (by decide) | exact absurd (by decide) c76
