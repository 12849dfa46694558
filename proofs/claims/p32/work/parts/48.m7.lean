
theorem mi_job {f : Nat → Int32} {r : Nat → Nat → Int32} (h : MI f r) {k w hh jb : Int32} (hk : 0 ≤ k.toInt ∧ k.toInt ≤ 3) (hw : 1 ≤ w.toInt ∧ w.toInt ≤ 6) (hh' : 1 ≤ hh.toInt ∧ hh.toInt ≤ 6) (hlt : (f 1).toInt < 8) (hjb : jb.toInt = (f 1).toInt + 1) {f' : Nat → Int32} {r' : Nat → Nat → Int32} (e1 : f' 1 = jb) (e23 : f' 23 = f 23) (e24 : f' 24 = f 24) (e25 : f' 25 = f 25) (e2 : r' 2 = upd (r 2) (f 1).toNatClampNeg k) (e3 : r' 3 = upd (r 3) (f 1).toNatClampNeg w) (e4 : r' 4 = upd (r 4) (f 1).toNatClampNeg hh) (e30 : r' 30 = r 30) : MI f' r' := by
  obtain ⟨h1, h2, h3, h4, h5⟩ := h
  unfold MI
  rw [e1, e23, e24, e25, e2, e3, e4, e30]
  refine ⟨by omega, fun x hx0 hx1 => ?_, h3, h4, h5⟩
  have a1 := m_cl (x := x) hx0
  have a2 := m_cl (x := f 1) h1.1
  by_cases hx : x.toNatClampNeg = (f 1).toNatClampNeg
  · simp only [upd, hx, if_true]
    exact ⟨hw, hh', hk⟩
  · simp only [upd, hx, if_false]
    exact h2 x hx0 (by omega)
theorem mi_sz {f : Nat → Int32} {r : Nat → Nat → Int32} (h : MI f r) {d v : Int32} (hv : 0 ≤ v.toInt ∧ v.toInt ≤ 60) {f' : Nat → Int32} {r' : Nat → Nat → Int32} (e1 : f' 1 = f 1) (e23 : f' 23 = f 23) (e24 : f' 24 = f 24) (e25 : f' 25 = f 25) (e2 : r' 2 = r 2) (e3 : r' 3 = r 3) (e4 : r' 4 = r 4) (e30 : r' 30 = upd (r 30) d.toNatClampNeg v) : MI f' r' := by
  obtain ⟨h1, h2, h3, h4, h5⟩ := h
  unfold MI
  rw [e1, e23, e24, e25, e2, e3, e4, e30]
  refine ⟨h1, h2, h3, h4, fun x hx0 hx1 => ?_⟩
  by_cases hx : x.toNatClampNeg = d.toNatClampNeg
  · simp only [upd, hx, if_true]; exact hv
  · simp only [upd, hx, if_false]; exact h5 x hx0 hx1
theorem mi_li {f : Nat → Int32} {r : Nat → Nat → Int32} (h : MI f r) {f' : Nat → Int32} {r' : Nat → Nat → Int32} (e1 : f' 1 = f 1) (e23 : 0 ≤ (f' 23).toInt ∧ (f' 23).toInt ≤ 12) (e24 : 0 < (f' 23).toInt → (1 ≤ (f' 24).toInt ∧ (f' 24).toInt ≤ 6) ∧ (1 ≤ (f' 25).toInt ∧ (f' 25).toInt ≤ 6)) (e2 : r' 2 = r 2) (e3 : r' 3 = r 3) (e4 : r' 4 = r 4) (e30 : r' 30 = r 30) : MI f' r' := by
  obtain ⟨h1, h2, h3, h4, h5⟩ := h
  unfold MI
  rw [e1, e2, e3, e4, e30]
  exact ⟨h1, h2, e23, e24, h5⟩
theorem mi_s {f : Nat → Int32} {r : Nat → Nat → Int32} (h : MI f r) {x v : Int32} (h0 : 0 ≤ x.toInt) (h1 : x.toInt < 8) (e : v = r 30 x.toNatClampNeg) : 0 ≤ v.toInt ∧ v.toInt ≤ 60 := by rw [e]; exact h.2.2.2.2 x h0 h1
/-- what make answers -/
def mkAns (d what n : Int32) : Int32 := if (0 ≤ d.toInt ∧ d.toInt < 8) ∧ (3 ≤ what.toInt ∧ what.toInt ≤ 4) ∧ n.toInt ≤ 60 then (if n.toInt < 0 then -14 else 0) else -1
theorem bit1 {v x : Int32} (e : v = x &&& 1) : 0 ≤ v.toInt ∧ v.toInt ≤ 1 := by
  have h := pk_andIn x (m := 1) 1 (by decide) (by decide)
  rw [← e] at h
  have := vp_in_iff.mp h
  omega
set_option maxHeartbeats 4000000 in
set_option maxRecDepth 100000 in
theorem c_X10_across (l : Launch) (way : Int32)  : Pu l yX10_across wsX10_across ({ frames := 0, cells := 0, slots := 0, locals := 0 }) [.int way] (fun r => 0 ≤ r.toInt ∧ r.toInt ≤ 1) := by
  refine Met.ofW (cc := cX10_across) (maxL := 1) (ret := (some .int)) (by decide) rfl ?_
  intro p e s m args below meth c s₁ B hml hv
  obtain ⟨rfl, -⟩ := hv
  have hx := B.exec
  have hb := B.bytes
  have hr := B.returns
  have hts := atoms_spec (ws := wsX10_across) B.pre
  have hown : s.vm.findClass RX10 = some m.cls := findClass_of_methodNamed B.named
  have hlocks := B.notSynchronized
  have hS : va_S (fun _ => False) s.heap s.heap [] := va_S.rf
  have hl := lv_entry ([.int way]) (n := 1) (Nat.le_of_ble_eq_true rfl)
  rw [lg_entry_eq]
  generalize (lg_sl ([.int way]) ++ List.replicate (1 - (lg_sl ([.int way])).length) Slot.unset).toArray = ls at hl ⊢
  have hl : lv_has ls 1 [(0, .int way)] := hl
  have hS0 := hS
  have k_0 : (0 : Int32).toInt = 0 := by decide
  have k_1 : (1 : Int32).toInt = 1 := by decide
  refine lv_iload_n hx hb dX10_across_0 rfl (lv_at hl 0 rfl) ?_
  refine lv_iconst (v := 1) hx hb dX10_across_1 (by decide) ?_
  refine lv_icmp_ne (tgt := 9) hx hb dX10_across_2 (by decide) (fun c2 => ?_) (fun c2 => ?_)
  · skip
    have d2 := c2
    rw [fa_eq] at d2
    refine lv_iconst (v := 1) hx hb dX10_across_9 (by decide) ?_
    exact W.iret (v := (1 : Int32)) hx hb hr (fun t ht hW => ⟨⟨_, (), rfl, (by decide), trivial⟩, hS.F ht⟩) hS.2.2 dX10_across_10
  · skip
    have d2 := c2
    rw [fa_eq] at d2
    refine lv_iconst (v := 0) hx hb dX10_across_5 (by decide) ?_
    refine lv_goto (tgt := 10) hx hb dX10_across_6 (by decide) ?_
    exact W.iret (v := (0 : Int32)) hx hb hr (fun t ht hW => ⟨⟨_, (), rfl, (by decide), trivial⟩, hS.F ht⟩) hS.2.2 dX10_across_10
set_option maxHeartbeats 4000000 in
set_option maxRecDepth 100000 in
theorem c_X10_down (l : Launch) (way : Int32)  : Pu l yX10_down wsX10_down ({ frames := 0, cells := 0, slots := 0, locals := 0 }) [.int way] (fun r => -1 ≤ r.toInt ∧ r.toInt ≤ 1) := by
  refine Met.ofW (cc := cX10_down) (maxL := 1) (ret := (some .int)) (by decide) rfl ?_
  intro p e s m args below meth c s₁ B hml hv
  obtain ⟨rfl, -⟩ := hv
  have hx := B.exec
  have hb := B.bytes
  have hr := B.returns
  have hts := atoms_spec (ws := wsX10_down) B.pre
  have hown : s.vm.findClass RX10 = some m.cls := findClass_of_methodNamed B.named
  have hlocks := B.notSynchronized
  have hS : va_S (fun _ => False) s.heap s.heap [] := va_S.rf
  have hl := lv_entry ([.int way]) (n := 1) (Nat.le_of_ble_eq_true rfl)
  rw [lg_entry_eq]
  generalize (lg_sl ([.int way]) ++ List.replicate (1 - (lg_sl ([.int way])).length) Slot.unset).toArray = ls at hl ⊢
  have hl : lv_has ls 1 [(0, .int way)] := hl
  have hS0 := hS
  have k_m1 : (-1 : Int32).toInt = -1 := by decide
  have k_0 : (0 : Int32).toInt = 0 := by decide
  have k_1 : (1 : Int32).toInt = 1 := by decide
  have k_3 : (3 : Int32).toInt = 3 := by decide
  refine lv_iload_n hx hb dX10_down_0 rfl (lv_at hl 0 rfl) ?_
  refine lv_if_ne (tgt := 8) hx hb dX10_down_1 (by decide) (fun c1 => ?_) (fun c1 => ?_)
  · skip
    have d1 := c1
    rw [fa_eq] at d1
    refine lv_iload_n hx hb dX10_down_8 rfl (lv_at hl 0 rfl) ?_
    refine lv_iconst (v := 3) hx hb dX10_down_9 (by decide) ?_
    refine lv_icmp_ne (tgt := 17) hx hb dX10_down_10 (by decide) (fun c10 => ?_) (fun c10 => ?_)
    · skip
      have d10 := c10
      rw [fa_eq] at d10
      refine lv_iconst (v := 1) hx hb dX10_down_17 (by decide) ?_
      exact W.iret (v := (1 : Int32)) hx hb hr (fun t ht hW => ⟨⟨_, (), rfl, (by decide), trivial⟩, hS.F ht⟩) hS.2.2 dX10_down_18
    · skip
      have d10 := c10
      rw [fa_eq] at d10
      refine lv_iconst (v := (-1)) hx hb dX10_down_13 (by decide) ?_
      refine lv_goto (tgt := 18) hx hb dX10_down_14 (by decide) ?_
      exact W.iret (v := ((-1) : Int32)) hx hb hr (fun t ht hW => ⟨⟨_, (), rfl, (by decide), trivial⟩, hS.F ht⟩) hS.2.2 dX10_down_18
  · skip
    have d1 := c1
    rw [fa_eq] at d1
    refine lv_iconst (v := 0) hx hb dX10_down_4 (by decide) ?_
    refine lv_goto (tgt := 18) hx hb dX10_down_5 (by decide) ?_
    exact W.iret (v := (0 : Int32)) hx hb hr (fun t ht hW => ⟨⟨_, (), rfl, (by decide), trivial⟩, hS.F ht⟩) hS.2.2 dX10_down_18
theorem ec_f_0__0_1 (f : Nat → Int32) (v0 : Int32) : (upd f 0 v0) = (upd (upd f 0 v0) 1 (f 1)) := by
  funext j9
  simp only [upd]
  (repeat' split) <;> simp_all
theorem ec_r___2_3_4_6_7 (f : Nat → Nat → Int32)  : f = (va_up (va_up (va_up (va_up (va_up f 2 (f 2)) 3 (f 3)) 4 (f 4)) 6 (f 6)) 7 (f 7)) := by
  funext j9
  simp only [va_up]
  (repeat' split) <;> simp_all
theorem ec_r_2_3_4_6_7__2_3_4_6_7 (f : Nat → Nat → Int32) (v2 : Nat → Int32) (v3 : Nat → Int32) (v4 : Nat → Int32) (v6 : Nat → Int32) (v7 : Nat → Int32) : (va_up (va_up (va_up (va_up (va_up f 2 v2) 3 v3) 4 v4) 6 v6) 7 v7) = (va_up (va_up (va_up (va_up (va_up f 2 v2) 3 v3) 4 v4) 6 v6) 7 v7) := by
  funext j9
  simp only [va_up]
  (repeat' split) <;> simp_all
theorem ec_r_2_3_4_6__2_3_4_6_7 (f : Nat → Nat → Int32) (v2 : Nat → Int32) (v3 : Nat → Int32) (v4 : Nat → Int32) (v6 : Nat → Int32) : (va_up (va_up (va_up (va_up f 2 v2) 3 v3) 4 v4) 6 v6) = (va_up (va_up (va_up (va_up (va_up f 2 v2) 3 v3) 4 v4) 6 v6) 7 (f 7)) := by
  funext j9
  simp only [va_up]
  (repeat' split) <;> simp_all
set_option maxHeartbeats 4000000 in
set_option maxRecDepth 100000 in
theorem c_X10_job (l : Launch) (D : va_G) (cy : Nat → ClassId) (mo : Nat) (a : Nat → Nat) (f : Nat → Int32) (g : Nat → Int64) (r : Nat → Nat → Int32) (q : Nat → Nat → Int64) (k0 : Int32) (w : Int32) (h : Int32) (hD : DM cy mo a) (hI : MI f r) : Mi l D cy mo a yX10_job wsX10_job ({ frames := 2, cells := 0, slots := 0, locals := 46 }) f g r q [.int k0, .int w, .int h] (fun r0 u => ∃ (kd : Nat → Int32), ∃ (wd : Nat → Int32), ∃ (hg : Nat → Int32), ∃ (tl : Nat → Int32), ∃ (hd : Nat → Int32), ∃ (jb : Int32), u = ((upd (upd f 0 (0 : Int32)) 1 jb), g, (va_up (va_up (va_up (va_up (va_up r 2 kd) 3 wd) 4 hg) 6 tl) 7 hd), q) ∧ (MI (upd (upd f 0 (0 : Int32)) 1 jb) (va_up (va_up (va_up (va_up (va_up r 2 kd) 3 wd) 4 hg) 6 tl) 7 hd))) := by
  refine Met.ofW (cc := cX10_job) (maxL := 5) (ret := (some .int)) (by decide) rfl ?_
  intro p e s m args below meth c s₁ B hml hv
  obtain ⟨rfl, hP, hK⟩ := hv
  have hx := B.exec
  have hb := B.bytes
  have hr := B.returns
  have hts := atoms_spec (ws := wsX10_job) B.pre
  have hin : ∀ w ∈ u_ws RX10 TX10 35, w ∈ wsX10_job := by decide +kernel
  have hown : s.vm.findClass RX10 = some m.cls := findClass_of_methodNamed B.named
  have hlocks := B.notSynchronized
  have hS : va_S (AM mo a) s.heap s.heap [] := va_S.rf
  have hl := lv_entry ([.ref mo, .int k0, .int w, .int h]) (n := 5) (Nat.le_of_ble_eq_true rfl)
  rw [lg_entry_eq]
  generalize (lg_sl ([.ref mo, .int k0, .int w, .int h]) ++ List.replicate (5 - (lg_sl ([.ref mo, .int k0, .int w, .int h])).length) Slot.unset).toArray = ls at hl ⊢
  have hl : lv_has ls 5 [(0, .ref mo), (1, .int k0), (2, .int w), (3, .int h)] := hl
  have k_m2 : (-2 : Int32).toInt = -2 := by decide
  have k_m1 : (-1 : Int32).toInt = -1 := by decide
  have k_0 : (0 : Int32).toInt = 0 := by decide
  have k_1 : (1 : Int32).toInt = 1 := by decide
  have k_2 : (2 : Int32).toInt = 2 := by decide
  have k_4 : (4 : Int32).toInt = 4 := by decide
  have k_8 : (8 : Int32).toInt = 8 := by decide
  have k_36 : (36 : Int32).toInt = 36 := by decide
  have k_0L : (0 : Int64).toInt = 0 := by decide
  have k_3L : (3 : Int64).toInt = 3 := by decide
  have hI1 := hI.1
  refine lv_aload_n hx hb dX10_job_0 rfl (lv_at hl 0 rfl) ?_
  refine lv_iconst (v := 0) hx hb dX10_job_1 (by decide) ?_
  refine m_put (v := .int (0 : Int32)) (ty := .int) hx hb hts hin hown hK hP hD hS 0 (by decide) rfl (hts (.fieldLink RX10 79 "ShadowBenchModel" "thrown" "I") (by decide +kernel)) rfl (by decide +kernel) rfl rfl (upd f 0 (0 : Int32)) g rfl dX10_job_2 (fun H locs hP hS => ?_)
  refine lv_iload_n hx hb dX10_job_5 rfl (lv_at hl 1 rfl) ?_
  refine lv_i2l (v := k0.toInt64) hx hb dX10_job_6 rfl ?_
  refine lv_lconst (v := 0) hx hb dX10_job_7 (by decide) ?_
  refine lv_ldc2 hx hb hown (hts (.constantLong RX10 116 (3)) (by decide +kernel)) dX10_job_8 ?_
  refine m_pu (As := [.long (k0.toInt64), .long (0 : Int64), .long (3 : Int64)]) (rest := []) ⟨hx, hb, hml, hown, hts⟩ (c_X10_isIn l k0.toInt64 (0 : Int64) (3 : Int64) ) (va_cwS 3 hts gX10_job_X10_isIn rfl rfl rfl (by decide +kernel) ⟨Nat.le_of_ble_eq_true rfl, Nat.le_of_ble_eq_true rfl⟩) hP rfl hl.1 rfl (Nat.le_of_ble_eq_true rfl) dX10_job_11 ⟨Nat.le_of_ble_eq_true rfl, Nat.le_of_ble_eq_true rfl⟩ hS (fun r11 H locs q11 hP hS => ?_)
  have q11 := q11
  simp only [k64, show (0 : Int64).toInt = 0 from rfl, show (1 : Int64).toInt = 1 from rfl, show (2 : Int64).toInt = 2 from rfl, show (3 : Int64).toInt = 3 from rfl, show (6 : Int64).toInt = 6 from rfl] at q11
  refine lv_if_eq (tgt := 25) hx hb dX10_job_14 (by decide) (fun c14 => ?_) (fun c14 => ?_)
  · skip
    have b14 := bo_f q11 c14
    refine lv_iconst (v := (-1)) hx hb dX10_job_25 (by decide) ?_
    have hP := wm_eq (ec_f_0__0_1 f (0 : Int32)) rfl (ec_r___2_3_4_6_7 r ) rfl hP
    exact W.iret (v := ((-1) : Int32)) hx hb hr (fun t ht hW => ⟨⟨_, ((upd (upd f 0 (0 : Int32)) 1 (f 1)), g, (va_up (va_up (va_up (va_up (va_up r 2 (r 2)) 3 (r 3)) 4 (r 4)) 6 (r 6)) 7 (r 7)), q), rfl, ⟨(r 2), (r 3), (r 4), (r 6), (r 7), (f 1), rfl, by first | exact hI | exact mi_job hI (k := k0) (w := w) (hh := h) (by omega) (by omega) (by omega) (by omega) (by omega) rfl rfl rfl rfl rfl rfl rfl rfl⟩, by unfold mB; rw [ht]; exact hP⟩, hS.F ht⟩) hS.2.2 dX10_job_26
  · skip
    have b14 := bo_t q11 c14
    refine lv_iload_n hx hb dX10_job_17 rfl (lv_at hl 2 rfl) ?_
    refine lv_iload_n hx hb dX10_job_18 rfl (lv_at hl 3 rfl) ?_
    refine m_pu (As := [.int w, .int h]) (rest := []) ⟨hx, hb, hml, hown, hts⟩ (c_X10_isBoard l w h ) (va_cwS 2 hts gX10_job_X10_isBoard rfl rfl rfl (by decide +kernel) ⟨Nat.le_of_ble_eq_true rfl, Nat.le_of_ble_eq_true rfl⟩) hP rfl hl.1 rfl (Nat.le_of_ble_eq_true rfl) dX10_job_19 ⟨Nat.le_of_ble_eq_true rfl, Nat.le_of_ble_eq_true rfl⟩ hS (fun r19 H locs q19 hP hS => ?_)
    refine lv_if_ne (tgt := 27) hx hb dX10_job_22 (by decide) (fun c22 => ?_) (fun c22 => ?_)
    · skip
      have b22 := bo_t q19 c22
      refine lv_aload_n hx hb dX10_job_27 rfl (lv_at hl 0 rfl) ?_
      refine m_get (v := .int (f 1)) hx hb hts hin hown hK hP 1 (by decide) rfl (hts (.fieldLink RX10 93 "ShadowBenchModel" "jobs" "I") (by decide +kernel)) rfl dX10_job_28 ?_
      refine lv_bipush (v := 8) hx hb dX10_job_31 (by decide) ?_
      refine lv_icmp_ne (tgt := 39) hx hb dX10_job_33 (by decide) (fun c33 => ?_) (fun c33 => ?_)
      · skip
        have d33 := c33
        rw [fa_eq] at d33
        refine lv_aload_n hx hb dX10_job_39 rfl (lv_at hl 0 rfl) ?_
        refine m_get (v := .ref (a 2)) hx hb hts hin hown hK hP 2 (by decide) rfl (hts (.fieldLink RX10 7 "ShadowBenchModel" "kind" "[I") (by decide +kernel)) rfl dX10_job_40 ?_
        refine lv_aload_n hx hb dX10_job_43 rfl (lv_at hl 0 rfl) ?_
        refine m_get (v := .int (f 1)) hx hb hts hin hown hK hP 1 (by decide) rfl (hts (.fieldLink RX10 93 "ShadowBenchModel" "jobs" "I") (by decide +kernel)) rfl dX10_job_44 ?_
        refine lv_iload_n hx hb dX10_job_47 rfl (lv_at hl 1 rfl) ?_
        refine m_iast (w := (r 2)) hx hb hK hP hD hS 1 rfl (vp_in_iff.mpr ⟨by omega, by omega⟩) (va_up r 2 ((upd (r 2) (f 1).toNatClampNeg k0))) rfl dX10_job_48 (fun H locs hP hS => ?_)
        refine lv_aload_n hx hb dX10_job_49 rfl (lv_at hl 0 rfl) ?_
        refine m_get (v := .ref (a 3)) hx hb hts hin hown hK hP 3 (by decide) rfl (hts (.fieldLink RX10 13 "ShadowBenchModel" "wide" "[I") (by decide +kernel)) rfl dX10_job_50 ?_
        refine lv_aload_n hx hb dX10_job_53 rfl (lv_at hl 0 rfl) ?_
        refine m_get (v := .int (f 1)) hx hb hts hin hown hK hP 1 (by decide) rfl (hts (.fieldLink RX10 93 "ShadowBenchModel" "jobs" "I") (by decide +kernel)) rfl dX10_job_54 ?_
        refine lv_iload_n hx hb dX10_job_57 rfl (lv_at hl 2 rfl) ?_
        refine m_iast (w := (r 3)) hx hb hK hP hD hS 2 rfl (vp_in_iff.mpr ⟨by omega, by omega⟩) (va_up (va_up r 2 ((upd (r 2) (f 1).toNatClampNeg k0))) 3 ((upd (r 3) (f 1).toNatClampNeg w))) rfl dX10_job_58 (fun H locs hP hS => ?_)
        refine lv_aload_n hx hb dX10_job_59 rfl (lv_at hl 0 rfl) ?_
        refine m_get (v := .ref (a 4)) hx hb hts hin hown hK hP 4 (by decide) rfl (hts (.fieldLink RX10 16 "ShadowBenchModel" "high" "[I") (by decide +kernel)) rfl dX10_job_60 ?_
        refine lv_aload_n hx hb dX10_job_63 rfl (lv_at hl 0 rfl) ?_
        refine m_get (v := .int (f 1)) hx hb hts hin hown hK hP 1 (by decide) rfl (hts (.fieldLink RX10 93 "ShadowBenchModel" "jobs" "I") (by decide +kernel)) rfl dX10_job_64 ?_
        refine lv_iload_n hx hb dX10_job_67 rfl (lv_at hl 3 rfl) ?_
        refine m_iast (w := (r 4)) hx hb hK hP hD hS 3 rfl (vp_in_iff.mpr ⟨by omega, by omega⟩) (va_up (va_up (va_up r 2 ((upd (r 2) (f 1).toNatClampNeg k0))) 3 ((upd (r 3) (f 1).toNatClampNeg w))) 4 ((upd (r 4) (f 1).toNatClampNeg h))) rfl dX10_job_68 (fun H locs hP hS => ?_)
        refine lv_aload_n hx hb dX10_job_69 rfl (lv_at hl 0 rfl) ?_
        refine m_get (v := .ref (a 6)) hx hb hts hin hown hK hP 6 (by decide) rfl (hts (.fieldLink RX10 22 "ShadowBenchModel" "isTold" "[Z") (by decide +kernel)) rfl dX10_job_70 ?_
        refine lv_iconst (v := 4) hx hb dX10_job_73 (by decide) ?_
        refine lv_aload_n hx hb dX10_job_74 rfl (lv_at hl 0 rfl) ?_
        refine m_get (v := .int (f 1)) hx hb hts hin hown hK hP 1 (by decide) rfl (hts (.fieldLink RX10 93 "ShadowBenchModel" "jobs" "I") (by decide +kernel)) rfl dX10_job_75 ?_
        refine lv_imul hx hb dX10_job_78 ?_
        refine lv_topi (fun v78 e78 => ?_)
        have i78 : v78.toInt = 4 * (f 1).toInt := by rw [e78]; exact mulcL rfl (by omega) (by omega)
        refine lv_iconst (v := 1) hx hb dX10_job_79 (by decide) ?_
        refine m_zast (w := (r 6)) hx hb hK hP hD hS 5 rfl (vp_in_iff.mpr ⟨by omega, by omega⟩) (va_up (va_up (va_up (va_up r 2 ((upd (r 2) (f 1).toNatClampNeg k0))) 3 ((upd (r 3) (f 1).toNatClampNeg w))) 4 ((upd (r 4) (f 1).toNatClampNeg h))) 6 ((upd (r 6) v78.toNatClampNeg ((1 : Int32) &&& 1)))) rfl dX10_job_80 (fun H locs hP hS => ?_)
        refine lv_aload_n hx hb dX10_job_81 rfl (lv_at hl 0 rfl) ?_
        refine m_get (v := .ref (a 6)) hx hb hts hin hown hK hP 6 (by decide) rfl (hts (.fieldLink RX10 22 "ShadowBenchModel" "isTold" "[Z") (by decide +kernel)) rfl dX10_job_82 ?_
        refine lv_iconst (v := 4) hx hb dX10_job_85 (by decide) ?_
        refine lv_aload_n hx hb dX10_job_86 rfl (lv_at hl 0 rfl) ?_
        refine m_get (v := .int (f 1)) hx hb hts hin hown hK hP 1 (by decide) rfl (hts (.fieldLink RX10 93 "ShadowBenchModel" "jobs" "I") (by decide +kernel)) rfl dX10_job_87 ?_
        refine lv_imul hx hb dX10_job_90 ?_
        refine lv_topi (fun v90 e90 => ?_)
        have i90 : v90.toInt = 4 * (f 1).toInt := by rw [e90]; exact mulcL rfl (by omega) (by omega)
        refine lv_iconst (v := 1) hx hb dX10_job_91 (by decide) ?_
        refine lv_iadd hx hb dX10_job_92 ?_
        refine lv_topi (fun v92 e92 => ?_)
        have i92 : v92.toInt = v90.toInt + (1 : Int32).toInt := by rw [e92]; exact fb_addI (by omega) (by omega)
        refine lv_iconst (v := 1) hx hb dX10_job_93 (by decide) ?_
        refine m_zast (w := ((upd (r 6) v78.toNatClampNeg ((1 : Int32) &&& 1)))) hx hb hK hP hD hS 5 rfl (vp_in_iff.mpr ⟨by omega, by omega⟩) (va_up (va_up (va_up (va_up r 2 ((upd (r 2) (f 1).toNatClampNeg k0))) 3 ((upd (r 3) (f 1).toNatClampNeg w))) 4 ((upd (r 4) (f 1).toNatClampNeg h))) 6 ((upd ((upd (r 6) v78.toNatClampNeg ((1 : Int32) &&& 1))) v92.toNatClampNeg ((1 : Int32) &&& 1)))) rfl dX10_job_94 (fun H locs hP hS => ?_)
        refine lv_bipush (v := 36) hx hb dX10_job_95 (by decide) ?_
        refine lv_aload_n hx hb dX10_job_97 rfl (lv_at hl 0 rfl) ?_
        refine m_get (v := .int (f 1)) hx hb hts hin hown hK hP 1 (by decide) rfl (hts (.fieldLink RX10 93 "ShadowBenchModel" "jobs" "I") (by decide +kernel)) rfl dX10_job_98 ?_
        refine lv_imul hx hb dX10_job_101 ?_
        refine lv_topi (fun v101 e101 => ?_)
        have i101 : v101.toInt = 36 * (f 1).toInt := by rw [e101]; exact mulcL rfl (by omega) (by omega)
        refine lv_istore (lv' := [(4, .int v101), (0, .ref mo), (1, .int k0), (2, .int w), (3, .int h)]) hx hb dX10_job_102 hl (by decide) rfl (fun ls hl => ?_)
        have loop_104 : ∀ (n : Nat) (x4 : Int32) (hd : Nat → Int32), (36 * (f 1).toInt ≤ x4.toInt ∧ x4.toInt ≤ 36 * (f 1).toInt + 36) → (36 * (f 1).toInt + 36 - x4.toInt).toNat < n → ∀ (H : Heap) (locs : List Loc), va_P D vwCl (WM cy mo a (upd f 0 (0 : Int32)) g (va_up (va_up (va_up (va_up (va_up r 2 ((upd (r 2) (f 1).toNatClampNeg k0))) 3 ((upd (r 3) (f 1).toNatClampNeg w))) 4 ((upd (r 4) (f 1).toNatClampNeg h))) 6 ((upd ((upd (r 6) v78.toNatClampNeg ((1 : Int32) &&& 1))) v92.toNatClampNeg ((1 : Int32) &&& 1)))) 7 hd) q) H → va_S (AM mo a) s.heap H locs → ∀ (ls : Array Slot), lv_has ls 5 [(4, .int x4), (0, .ref mo), (1, .int k0), (2, .int w), (3, .int h)] → W p l e (headSpec wsX10_job ({ frames := 2, cells := 0, slots := 0, locals := 46 })).room s m #[Value.ref mo, Value.int k0, Value.int w, Value.int h] below meth c H locs 0 0 (MQ below (va_Qi (fun r0 u => ∃ (kd : Nat → Int32), ∃ (wd : Nat → Int32), ∃ (hg : Nat → Int32), ∃ (tl : Nat → Int32), ∃ (hd : Nat → Int32), ∃ (jb : Int32), u = ((upd (upd f 0 (0 : Int32)) 1 jb), g, (va_up (va_up (va_up (va_up (va_up r 2 kd) 3 wd) 4 hg) 6 tl) 7 hd), q) ∧ (MI (upd (upd f 0 (0 : Int32)) 1 jb) (va_up (va_up (va_up (va_up (va_up r 2 kd) 3 wd) 4 hg) 6 tl) 7 hd))) (mB D cy mo a) (AM mo a)) #[Value.ref mo, Value.int k0, Value.int w, Value.int h] s 0 0 (AM mo a)) (F0 m 104 ls []) := by
          intro n
          induction n with
          | zero => intro x4 hd j104_0 hn; exact absurd hn (Nat.not_lt_zero _)
          | succ n ih_104 =>
            intro x4 hd j104_0 hn_104 H locs hP hS ls hl
            refine lv_iload hx hb dX10_job_104 (lv_at hl 0 rfl) ?_
            refine lv_bipush (v := 36) hx hb dX10_job_106 (by decide) ?_
            refine lv_aload_n hx hb dX10_job_108 rfl (lv_at hl 1 rfl) ?_
            refine m_get (v := .int (f 1)) hx hb hts hin hown hK hP 1 (by decide) rfl (hts (.fieldLink RX10 93 "ShadowBenchModel" "jobs" "I") (by decide +kernel)) rfl dX10_job_109 ?_
            refine lv_imul hx hb dX10_job_112 ?_
            refine lv_topi (fun v112 e112 => ?_)
            have i112 : v112.toInt = 36 * (f 1).toInt := by rw [e112]; exact mulcL rfl (by omega) (by omega)
            refine lv_bipush (v := 36) hx hb dX10_job_113 (by decide) ?_
            refine lv_iadd hx hb dX10_job_115 ?_
            refine lv_topi (fun v115 e115 => ?_)
            have i115 : v115.toInt = v112.toInt + (36 : Int32).toInt := by rw [e115]; exact fb_addI (by omega) (by omega)
            refine lv_icmp_ge (tgt := 133) hx hb dX10_job_116 (by decide) (fun c116 => ?_) (fun c116 => ?_)
            · skip
              have d116 := c116
              rw [fa_le] at d116
              refine lv_aload_n hx hb dX10_job_133 rfl (lv_at hl 1 rfl) ?_
              refine lv_dup hx hb dX10_job_134 rfl ?_
              refine m_get (v := .int (f 1)) hx hb hts hin hown hK hP 1 (by decide) rfl (hts (.fieldLink RX10 93 "ShadowBenchModel" "jobs" "I") (by decide +kernel)) rfl dX10_job_135 ?_
              refine lv_iconst (v := 1) hx hb dX10_job_138 (by decide) ?_
              refine lv_iadd hx hb dX10_job_139 ?_
              refine lv_topi (fun v139 e139 => ?_)
              have i139 : v139.toInt = (f 1).toInt + (1 : Int32).toInt := by rw [e139]; exact fb_addI (by omega) (by omega)
              refine m_put (v := .int v139) (ty := .int) hx hb hts hin hown hK hP hD hS 1 (by decide) rfl (hts (.fieldLink RX10 93 "ShadowBenchModel" "jobs" "I") (by decide +kernel)) rfl (by decide +kernel) rfl rfl (upd (upd f 0 (0 : Int32)) 1 v139) g rfl dX10_job_140 (fun H locs hP hS => ?_)
              refine lv_aload_n hx hb dX10_job_143 rfl (lv_at hl 1 rfl) ?_
              refine m_get (v := .int v139) hx hb hts hin hown hK hP 1 (by decide) rfl (hts (.fieldLink RX10 93 "ShadowBenchModel" "jobs" "I") (by decide +kernel)) rfl dX10_job_144 ?_
              refine lv_iconst (v := 1) hx hb dX10_job_147 (by decide) ?_
              refine lv_isub hx hb dX10_job_148 ?_
              refine lv_topi (fun v148 e148 => ?_)
              have i148 : v148.toInt = v139.toInt - (1 : Int32).toInt := by rw [e148]; exact fb_subI (by omega) (by omega)
              have hP := wm_eq rfl rfl (ec_r_2_3_4_6_7__2_3_4_6_7 r ((upd (r 2) (f 1).toNatClampNeg k0)) ((upd (r 3) (f 1).toNatClampNeg w)) ((upd (r 4) (f 1).toNatClampNeg h)) ((upd ((upd (r 6) v78.toNatClampNeg ((1 : Int32) &&& 1))) v92.toNatClampNeg ((1 : Int32) &&& 1))) hd) rfl hP
              exact W.iret (v := v148) hx hb hr (fun t ht hW => ⟨⟨_, ((upd (upd f 0 (0 : Int32)) 1 v139), g, (va_up (va_up (va_up (va_up (va_up r 2 (((upd (r 2) (f 1).toNatClampNeg k0)))) 3 (((upd (r 3) (f 1).toNatClampNeg w)))) 4 (((upd (r 4) (f 1).toNatClampNeg h)))) 6 (((upd ((upd (r 6) v78.toNatClampNeg ((1 : Int32) &&& 1))) v92.toNatClampNeg ((1 : Int32) &&& 1))))) 7 hd), q), rfl, ⟨((upd (r 2) (f 1).toNatClampNeg k0)), ((upd (r 3) (f 1).toNatClampNeg w)), ((upd (r 4) (f 1).toNatClampNeg h)), ((upd ((upd (r 6) v78.toNatClampNeg ((1 : Int32) &&& 1))) v92.toNatClampNeg ((1 : Int32) &&& 1))), hd, v139, rfl, by first | exact hI | exact mi_job hI (k := k0) (w := w) (hh := h) (by omega) (by omega) (by omega) (by omega) (by omega) rfl rfl rfl rfl rfl rfl rfl rfl⟩, by unfold mB; rw [ht]; exact hP⟩, hS.F ht⟩) hS.2.2 dX10_job_149
            · skip
              have d116 := c116
              rw [fa_le] at d116
              refine lv_aload_n hx hb dX10_job_119 rfl (lv_at hl 1 rfl) ?_
              refine m_get (v := .ref (a 7)) hx hb hts hin hown hK hP 7 (by decide) rfl (hts (.fieldLink RX10 26 "ShadowBenchModel" "held" "[I") (by decide +kernel)) rfl dX10_job_120 ?_
              refine lv_iload hx hb dX10_job_123 (lv_at hl 0 rfl) ?_
              refine lv_iconst (v := 2) hx hb dX10_job_125 (by decide) ?_
              refine m_iast (w := hd) hx hb hK hP hD hS 6 rfl (vp_in_iff.mpr ⟨by omega, by omega⟩) (va_up (va_up (va_up (va_up (va_up r 2 ((upd (r 2) (f 1).toNatClampNeg k0))) 3 ((upd (r 3) (f 1).toNatClampNeg w))) 4 ((upd (r 4) (f 1).toNatClampNeg h))) 6 ((upd ((upd (r 6) v78.toNatClampNeg ((1 : Int32) &&& 1))) v92.toNatClampNeg ((1 : Int32) &&& 1)))) 7 ((upd hd x4.toNatClampNeg (2 : Int32)))) rfl dX10_job_126 (fun H locs hP hS => ?_)
              obtain ⟨v127, e127⟩ : ∃ y : Int32, y = x4 + 1 := ⟨_, rfl⟩
              have i127 : v127.toInt = x4.toInt + 1 := by rw [e127]; exact fb_addI (by omega) (by omega)
              refine lv_iinc (v := v127) (lv' := [(4, .int v127), (0, .ref mo), (1, .int k0), (2, .int w), (3, .int h)]) hx hb dX10_job_127 hl (k := 0) rfl (by rw [e127]; rfl) (by decide) rfl (fun ls hl => ?_)
              refine lv_goto (tgt := 104) hx hb dX10_job_130 (by decide) ?_
              have hP := wm_eq rfl rfl (ec_r_2_3_4_6_7__2_3_4_6_7 r ((upd (r 2) (f 1).toNatClampNeg k0)) ((upd (r 3) (f 1).toNatClampNeg w)) ((upd (r 4) (f 1).toNatClampNeg h)) ((upd ((upd (r 6) v78.toNatClampNeg ((1 : Int32) &&& 1))) v92.toNatClampNeg ((1 : Int32) &&& 1))) ((upd hd x4.toNatClampNeg (2 : Int32)))) rfl hP
              exact ih_104 v127 (((upd hd x4.toNatClampNeg (2 : Int32)))) (by omega) (by omega) _ _ hP hS ls (lv_sub hl [0, 1, 2, 3, 4] rfl)
        have hP := wm_eq rfl rfl (ec_r_2_3_4_6__2_3_4_6_7 r ((upd (r 2) (f 1).toNatClampNeg k0)) ((upd (r 3) (f 1).toNatClampNeg w)) ((upd (r 4) (f 1).toNatClampNeg h)) ((upd ((upd (r 6) v78.toNatClampNeg ((1 : Int32) &&& 1))) v92.toNatClampNeg ((1 : Int32) &&& 1)))) rfl hP
        exact loop_104 (36 + 1) v101 (r 7) (by omega) (by omega) _ _ hP hS ls (lv_sub hl [0, 1, 2, 3, 4] rfl)
      · skip
        have d33 := c33
        rw [fa_eq] at d33
        refine lv_bipush (v := (-2)) hx hb dX10_job_36 (by decide) ?_
        have hP := wm_eq (ec_f_0__0_1 f (0 : Int32)) rfl (ec_r___2_3_4_6_7 r ) rfl hP
        exact W.iret (v := ((-2) : Int32)) hx hb hr (fun t ht hW => ⟨⟨_, ((upd (upd f 0 (0 : Int32)) 1 (f 1)), g, (va_up (va_up (va_up (va_up (va_up r 2 (r 2)) 3 (r 3)) 4 (r 4)) 6 (r 6)) 7 (r 7)), q), rfl, ⟨(r 2), (r 3), (r 4), (r 6), (r 7), (f 1), rfl, by first | exact hI | exact mi_job hI (k := k0) (w := w) (hh := h) (by omega) (by omega) (by omega) (by omega) (by omega) rfl rfl rfl rfl rfl rfl rfl rfl⟩, by unfold mB; rw [ht]; exact hP⟩, hS.F ht⟩) hS.2.2 dX10_job_38
    · skip
      have b22 := bo_f q19 c22
      refine lv_iconst (v := (-1)) hx hb dX10_job_25 (by decide) ?_
      have hP := wm_eq (ec_f_0__0_1 f (0 : Int32)) rfl (ec_r___2_3_4_6_7 r ) rfl hP
      exact W.iret (v := ((-1) : Int32)) hx hb hr (fun t ht hW => ⟨⟨_, ((upd (upd f 0 (0 : Int32)) 1 (f 1)), g, (va_up (va_up (va_up (va_up (va_up r 2 (r 2)) 3 (r 3)) 4 (r 4)) 6 (r 6)) 7 (r 7)), q), rfl, ⟨(r 2), (r 3), (r 4), (r 6), (r 7), (f 1), rfl, by first | exact hI | exact mi_job hI (k := k0) (w := w) (hh := h) (by omega) (by omega) (by omega) (by omega) (by omega) rfl rfl rfl rfl rfl rfl rfl rfl⟩, by unfold mB; rw [ht]; exact hP⟩, hS.F ht⟩) hS.2.2 dX10_job_26
theorem ec_r_15__15 (f : Nat → Nat → Int32) (v15 : Nat → Int32) : (va_up f 15 v15) = (va_up f 15 v15) := by
  funext j9
  simp only [va_up]
  (repeat' split) <;> simp_all
theorem ec_r___15 (f : Nat → Nat → Int32)  : f = (va_up f 15 (f 15)) := by
  funext j9
  simp only [va_up]
  (repeat' split) <;> simp_all
set_option maxHeartbeats 4000000 in
set_option maxRecDepth 100000 in
theorem c_X10_clash (l : Launch) (D : va_G) (cy : Nat → ClassId) (mo : Nat) (a : Nat → Nat) (f : Nat → Int32) (g : Nat → Int64) (r : Nat → Nat → Int32) (q : Nat → Nat → Int64) (j : Int32) (hD : DM cy mo a) (hI : MI f r) : Mi l D cy mo a yX10_clash wsX10_clash ({ frames := 1, cells := 0, slots := 0, locals := 21 }) f g r q [.int j] (fun r0 u => ∃ (cl : Nat → Int32), u = ((upd f 0 (0 : Int32)), g, (va_up r 15 cl), q) ∧ (True)) := by
  refine Met.ofW (cc := cX10_clash) (maxL := 11) (ret := (some .int)) (by decide) rfl ?_
  intro p e s m args below meth c s₁ B hml hv
  obtain ⟨rfl, hP, hK⟩ := hv
  have hx := B.exec
  have hb := B.bytes
  have hr := B.returns
  have hts := atoms_spec (ws := wsX10_clash) B.pre
  have hin : ∀ w ∈ u_ws RX10 TX10 35, w ∈ wsX10_clash := by decide +kernel
  have hown : s.vm.findClass RX10 = some m.cls := findClass_of_methodNamed B.named
  have hlocks := B.notSynchronized
  have hS : va_S (AM mo a) s.heap s.heap [] := va_S.rf
  have hl := lv_entry ([.ref mo, .int j]) (n := 11) (Nat.le_of_ble_eq_true rfl)
  rw [lg_entry_eq]
  generalize (lg_sl ([.ref mo, .int j]) ++ List.replicate (11 - (lg_sl ([.ref mo, .int j])).length) Slot.unset).toArray = ls at hl ⊢
  have hl : lv_has ls 11 [(0, .ref mo), (1, .int j)] := hl
  have k_m2 : (-2 : Int32).toInt = -2 := by decide
  have k_m1 : (-1 : Int32).toInt = -1 := by decide
  have k_0 : (0 : Int32).toInt = 0 := by decide
  have k_1 : (1 : Int32).toInt = 1 := by decide
  have k_11 : (11 : Int32).toInt = 11 := by decide
  have k_44 : (44 : Int32).toInt = 44 := by decide
  have hI1 := hI.1
  refine lv_aload_n hx hb dX10_clash_0 rfl (lv_at hl 0 rfl) ?_
  refine lv_iconst (v := 0) hx hb dX10_clash_1 (by decide) ?_
  refine m_put (v := .int (0 : Int32)) (ty := .int) hx hb hts hin hown hK hP hD hS 0 (by decide) rfl (hts (.fieldLink RX10 79 "ShadowBenchModel" "thrown" "I") (by decide +kernel)) rfl (by decide +kernel) rfl rfl (upd f 0 (0 : Int32)) g rfl dX10_clash_2 (fun H locs hP hS => ?_)
  refine lv_aload_n hx hb dX10_clash_5 rfl (lv_at hl 0 rfl) ?_
  refine lv_iload_n hx hb dX10_clash_6 rfl (lv_at hl 1 rfl) ?_
  refine m_calli (As := [.int j]) (rest := []) ⟨hx, hb, hml, hown, hts⟩ (c_X10_isJob l D cy mo a (upd f 0 (0 : Int32)) g r q j hD) (cwV 1 hts gX10_clash_X10_isJob rfl rfl rfl (by decide +kernel) ⟨Nat.le_of_ble_eq_true rfl, Nat.le_of_ble_eq_true rfl⟩) hK hP rfl hl.1 rfl (Nat.le_of_ble_eq_true rfl) dX10_clash_7 ⟨Nat.le_of_ble_eq_true rfl, Nat.le_of_ble_eq_true rfl⟩ hS (fun r7 u H locs q7 hP hS => ?_)
  obtain ⟨rfl, q7⟩ := q7
  have hP : va_P D vwCl (WM cy mo a (upd f 0 (0 : Int32)) g r q) H := hP
  have q7 : Bo r7 (0 ≤ j.toInt ∧ j.toInt < ((f 1)).toInt) := q7
  refine lv_if_ne (tgt := 15) hx hb dX10_clash_10 (by decide) (fun c10 => ?_) (fun c10 => ?_)
  · skip
    have b10 := bo_t q7 c10
    refine lv_aload_n hx hb dX10_clash_15 rfl (lv_at hl 0 rfl) ?_
    refine m_get (v := .ref (a 3)) hx hb hts hin hown hK hP 3 (by decide) rfl (hts (.fieldLink RX10 13 "ShadowBenchModel" "wide" "[I") (by decide +kernel)) rfl dX10_clash_16 ?_
    refine lv_iload_n hx hb dX10_clash_19 rfl (lv_at hl 1 rfl) ?_
    refine m_iald (w := (r 3)) hx hb hK hP 2 rfl (vp_in_iff.mpr ⟨by omega, by omega⟩) dX10_clash_20 ?_
    refine lv_topi (fun v20 e20 => ?_)
    have i20 : v20.toInt = ((r 3) j.toNatClampNeg).toInt := congrArg Int32.toInt e20
    have w20 := mi_w hI (x := j) (by omega) (by omega) e20
    refine lv_istore_n (lv' := [(2, .int v20), (0, .ref mo), (1, .int j)]) hx hb dX10_clash_21 rfl hl (by decide) rfl (fun ls hl => ?_)
    refine lv_iconst (v := 0) hx hb dX10_clash_22 (by decide) ?_
    refine lv_istore_n (lv' := [(3, .int (0 : Int32)), (2, .int v20), (0, .ref mo), (1, .int j)]) hx hb dX10_clash_23 rfl hl (by decide) rfl (fun ls hl => ?_)
    refine lv_iconst (v := 0) hx hb dX10_clash_24 (by decide) ?_
    refine lv_istore (lv' := [(4, .int (0 : Int32)), (3, .int (0 : Int32)), (2, .int v20), (0, .ref mo), (1, .int j)]) hx hb dX10_clash_25 hl (by decide) rfl (fun ls hl => ?_)
    refine lv_iconst (v := 0) hx hb dX10_clash_27 (by decide) ?_
    refine lv_istore (lv' := [(5, .int (0 : Int32)), (4, .int (0 : Int32)), (3, .int (0 : Int32)), (2, .int v20), (0, .ref mo), (1, .int j)]) hx hb dX10_clash_28 hl (by decide) rfl (fun ls hl => ?_)
    have loop_30 : ∀ (n : Nat) (k : Nat) (x3 : Int32), (k ≤ 6) → 6 - k < n → ∀ (H : Heap) (locs : List Loc), va_P D vwCl (WM cy mo a (upd f 0 (0 : Int32)) g r q) H → va_S (AM mo a) s.heap H locs → ∀ (ls : Array Slot), lv_has ls 11 [(5, .int (nI k)), (4, .int (0 : Int32)), (3, .int x3), (2, .int v20), (0, .ref mo), (1, .int j)] → W p l e (headSpec wsX10_clash ({ frames := 1, cells := 0, slots := 0, locals := 21 })).room s m #[Value.ref mo, Value.int j] below meth c H locs 0 0 (MQ below (va_Qi (fun r0 u => ∃ (cl : Nat → Int32), u = ((upd f 0 (0 : Int32)), g, (va_up r 15 cl), q) ∧ (True)) (mB D cy mo a) (AM mo a)) #[Value.ref mo, Value.int j] s 0 0 (AM mo a)) (F0 m 30 ls []) := by
      intro n
      induction n with
      | zero => intro k x3  j30_0 hn; exact absurd hn (Nat.not_lt_zero _)
      | succ n ih_30 =>
        intro k x3  j30_0 hn_30 H locs hP hS ls hl
        have ik : (nI k).toInt = (k : Int) := nI_toInt (by omega)
        refine lv_iload hx hb dX10_clash_30 (lv_at hl 0 rfl) ?_
        refine lv_aload_n hx hb dX10_clash_32 rfl (lv_at hl 4 rfl) ?_
        refine m_get (v := .ref (a 4)) hx hb hts hin hown hK hP 4 (by decide) rfl (hts (.fieldLink RX10 16 "ShadowBenchModel" "high" "[I") (by decide +kernel)) rfl dX10_clash_33 ?_
        refine lv_iload_n hx hb dX10_clash_36 rfl (lv_at hl 5 rfl) ?_
        refine m_iald (w := (r 4)) hx hb hK hP 3 rfl (vp_in_iff.mpr ⟨by omega, by omega⟩) dX10_clash_37 ?_
        refine lv_topi (fun v37 e37 => ?_)
        have i37 : v37.toInt = ((r 4) j.toNatClampNeg).toInt := congrArg Int32.toInt e37
        have w37 := mi_h hI (x := j) (by omega) (by omega) e37
        refine lv_icmp_ge (tgt := 62) hx hb dX10_clash_38 (by decide) (fun c38 => ?_) (fun c38 => ?_)
        · skip
          have d38 := c38
          rw [fa_le] at d38
          refine lv_iconst (v := 0) hx hb dX10_clash_62 (by decide) ?_
          refine lv_istore (lv' := [(5, .int (0 : Int32)), (4, .int (0 : Int32)), (3, .int x3), (2, .int v20), (0, .ref mo), (1, .int j)]) hx hb dX10_clash_63 hl (by decide) rfl (fun ls hl => ?_)
          have loop_65 : ∀ (n : Nat) (k2 : Nat) (x4 : Int32) (cl2 : Nat → Int32), (k2 ≤ 6) → 6 - k2 < n → ∀ (H : Heap) (locs : List Loc), va_P D vwCl (WM cy mo a (upd f 0 (0 : Int32)) g (va_up r 15 cl2) q) H → va_S (AM mo a) s.heap H locs → ∀ (ls : Array Slot), lv_has ls 11 [(5, .int (nI k2)), (4, .int x4), (3, .int x3), (2, .int v20), (0, .ref mo), (1, .int j)] → W p l e (headSpec wsX10_clash ({ frames := 1, cells := 0, slots := 0, locals := 21 })).room s m #[Value.ref mo, Value.int j] below meth c H locs 0 0 (MQ below (va_Qi (fun r0 u => ∃ (cl : Nat → Int32), u = ((upd f 0 (0 : Int32)), g, (va_up r 15 cl), q) ∧ (True)) (mB D cy mo a) (AM mo a)) #[Value.ref mo, Value.int j] s 0 0 (AM mo a)) (F0 m 65 ls []) := by
            intro n
            induction n with
            | zero => intro k2 x4 cl2 j65_0 hn; exact absurd hn (Nat.not_lt_zero _)
            | succ n ih_65 =>
              intro k2 x4 cl2 j65_0 hn_65 H locs hP hS ls hl
              have ik2 : (nI k2).toInt = (k2 : Int) := nI_toInt (by omega)
              refine lv_iload hx hb dX10_clash_65 (lv_at hl 0 rfl) ?_
              refine lv_iload_n hx hb dX10_clash_67 rfl (lv_at hl 3 rfl) ?_
              refine lv_icmp_ge (tgt := 111) hx hb dX10_clash_68 (by decide) (fun c68 => ?_) (fun c68 => ?_)
              · skip
                have d68 := c68
                rw [fa_le] at d68
                refine lv_iload_n hx hb dX10_clash_111 rfl (lv_at hl 2 rfl) ?_
                refine lv_iload hx hb dX10_clash_112 (lv_at hl 1 rfl) ?_
                refine lv_icmp_eq (tgt := 119) hx hb dX10_clash_114 (by decide) (fun c114 => ?_) (fun c114 => ?_)
                · skip
                  have d114 := c114
                  rw [fa_eq] at d114
                  refine lv_iconst (v := 0) hx hb dX10_clash_119 (by decide) ?_
                  refine lv_istore (lv' := [(5, .int (0 : Int32)), (4, .int x4), (3, .int x3), (2, .int v20), (0, .ref mo), (1, .int j)]) hx hb dX10_clash_120 hl (by decide) rfl (fun ls hl => ?_)
                  refine lv_iconst (v := 1) hx hb dX10_clash_122 (by decide) ?_
                  refine lv_istore (lv' := [(6, .int (1 : Int32)), (5, .int (0 : Int32)), (4, .int x4), (3, .int x3), (2, .int v20), (0, .ref mo), (1, .int j)]) hx hb dX10_clash_123 hl (by decide) rfl (fun ls hl => ?_)
                  have loop_125 : ∀ (n : Nat) (k3 : Nat) (x5 : Int32) (cl3 : Nat → Int32), (1 ≤ k3 ∧ k3 ≤ 7) → 7 - k3 < n → ∀ (H : Heap) (locs : List Loc), va_P D vwCl (WM cy mo a (upd f 0 (0 : Int32)) g (va_up r 15 cl3) q) H → va_S (AM mo a) s.heap H locs → ∀ (ls : Array Slot), lv_has ls 11 [(6, .int (nI k3)), (5, .int x5), (4, .int x4), (3, .int x3), (2, .int v20), (0, .ref mo), (1, .int j)] → W p l e (headSpec wsX10_clash ({ frames := 1, cells := 0, slots := 0, locals := 21 })).room s m #[Value.ref mo, Value.int j] below meth c H locs 0 0 (MQ below (va_Qi (fun r0 u => ∃ (cl : Nat → Int32), u = ((upd f 0 (0 : Int32)), g, (va_up r 15 cl), q) ∧ (True)) (mB D cy mo a) (AM mo a)) #[Value.ref mo, Value.int j] s 0 0 (AM mo a)) (F0 m 125 ls []) := by
                    intro n
                    induction n with
                    | zero => intro k3 x5 cl3 j125_0 hn; exact absurd hn (Nat.not_lt_zero _)
                    | succ n ih_125 =>
                      intro k3 x5 cl3 j125_0 hn_125 H locs hP hS ls hl
                      have ik3 : (nI k3).toInt = (k3 : Int) := nI_toInt (by omega)
                      refine lv_iload hx hb dX10_clash_125 (lv_at hl 0 rfl) ?_
                      refine lv_iload_n hx hb dX10_clash_127 rfl (lv_at hl 4 rfl) ?_
                      refine lv_icmp_gt (tgt := 267) hx hb dX10_clash_128 (by decide) (fun c128 => ?_) (fun c128 => ?_)
                      · skip
                        have d128 := c128
                        rw [fa_lt] at d128
                        refine lv_bipush (v := (-2)) hx hb dX10_clash_267 (by decide) ?_
                        exact W.iret (v := ((-2) : Int32)) hx hb hr (fun t ht hW => ⟨⟨_, ((upd f 0 (0 : Int32)), g, (va_up r 15 cl3), q), rfl, ⟨cl3, rfl, trivial⟩, by unfold mB; rw [ht]; exact hP⟩, hS.F ht⟩) hS.2.2 dX10_clash_269
                      · skip
                        have d128 := c128
                        rw [fa_lt] at d128
                        refine lv_iconst (v := 0) hx hb dX10_clash_131 (by decide) ?_
                        refine lv_istore (lv' := [(7, .int (0 : Int32)), (6, .int (nI k3)), (5, .int x5), (4, .int x4), (3, .int x3), (2, .int v20), (0, .ref mo), (1, .int j)]) hx hb dX10_clash_132 hl (by decide) rfl (fun ls hl => ?_)
                        refine lv_iconst (v := 0) hx hb dX10_clash_134 (by decide) ?_
                        refine lv_istore (lv' := [(8, .int (0 : Int32)), (7, .int (0 : Int32)), (6, .int (nI k3)), (5, .int x5), (4, .int x4), (3, .int x3), (2, .int v20), (0, .ref mo), (1, .int j)]) hx hb dX10_clash_135 hl (by decide) rfl (fun ls hl => ?_)
                        have loop_137 : ∀ (n : Nat) (i : Nat) (x7 : Int32), (i ≤ 6) → (0 ≤ x7.toInt ∧ x7.toInt < 6) → 6 - i < n → ∀ (H : Heap) (locs : List Loc), va_P D vwCl (WM cy mo a (upd f 0 (0 : Int32)) g (va_up r 15 cl3) q) H → va_S (AM mo a) s.heap H locs → ∀ (ls : Array Slot), lv_has ls 11 [(8, .int (nI i)), (7, .int x7), (6, .int (nI k3)), (5, .int x5), (4, .int x4), (3, .int x3), (2, .int v20), (0, .ref mo), (1, .int j)] → W p l e (headSpec wsX10_clash ({ frames := 1, cells := 0, slots := 0, locals := 21 })).room s m #[Value.ref mo, Value.int j] below meth c H locs 0 0 (MQ below (va_Qi (fun r0 u => ∃ (cl : Nat → Int32), u = ((upd f 0 (0 : Int32)), g, (va_up r 15 cl), q) ∧ (True)) (mB D cy mo a) (AM mo a)) #[Value.ref mo, Value.int j] s 0 0 (AM mo a)) (F0 m 137 ls []) := by
                          intro n
                          induction n with
                          | zero => intro i x7  j137_0 j137_1 hn; exact absurd hn (Nat.not_lt_zero _)
                          | succ n ih_137 =>
                            intro i x7  j137_0 j137_1 hn_137 H locs hP hS ls hl
                            have ii : (nI i).toInt = (i : Int) := nI_toInt (by omega)
                            refine lv_iload hx hb dX10_clash_137 (lv_at hl 0 rfl) ?_
                            refine lv_iload_n hx hb dX10_clash_139 rfl (lv_at hl 6 rfl) ?_
                            refine lv_icmp_ge (tgt := 175) hx hb dX10_clash_140 (by decide) (fun c140 => ?_) (fun c140 => ?_)
                            · skip
                              have d140 := c140
                              rw [fa_le] at d140
                              refine lv_iload hx hb dX10_clash_175 (lv_at hl 3 rfl) ?_
                              refine lv_aload_n hx hb dX10_clash_177 rfl (lv_at hl 7 rfl) ?_
                              refine m_get (v := .ref (a 15)) hx hb hts hin hown hK hP 15 (by decide) rfl (hts (.fieldLink RX10 38 "ShadowBenchModel" "columns" "[I") (by decide +kernel)) rfl dX10_clash_178 ?_
                              refine lv_iload hx hb dX10_clash_181 (lv_at hl 1 rfl) ?_
                              refine m_iald (w := cl3) hx hb hK hP 10 rfl (vp_in_iff.mpr ⟨by omega, by omega⟩) dX10_clash_183 ?_
                              refine lv_topi (fun v183 e183 => ?_)
                              have i183 : v183.toInt = (cl3 x7.toNatClampNeg).toInt := congrArg Int32.toInt e183
                              refine lv_iadd hx hb dX10_clash_184 ?_
                              refine lv_topi (fun v184 e184 => ?_)
                              refine lv_istore (lv' := [(5, .int v184), (8, .int (nI i)), (7, .int x7), (6, .int (nI k3)), (4, .int x4), (3, .int x3), (2, .int v20), (0, .ref mo), (1, .int j)]) hx hb dX10_clash_185 hl (by decide) rfl (fun ls hl => ?_)
                              refine lv_aload_n hx hb dX10_clash_187 rfl (lv_at hl 7 rfl) ?_
                              refine m_get (v := .ref (a 15)) hx hb hts hin hown hK hP 15 (by decide) rfl (hts (.fieldLink RX10 38 "ShadowBenchModel" "columns" "[I") (by decide +kernel)) rfl dX10_clash_188 ?_
                              refine lv_iload hx hb dX10_clash_191 (lv_at hl 2 rfl) ?_
                              refine lv_iconst (v := (-1)) hx hb dX10_clash_193 (by decide) ?_
                              refine m_iast (w := cl3) hx hb hK hP hD hS 10 rfl (vp_in_iff.mpr ⟨by omega, by omega⟩) (va_up r 15 ((upd cl3 x7.toNatClampNeg (((-1) : Int32))))) rfl dX10_clash_194 (fun H locs hP hS => ?_)
                              refine lv_iconst (v := 0) hx hb dX10_clash_195 (by decide) ?_
                              refine lv_istore (lv' := [(8, .int (0 : Int32)), (5, .int v184), (7, .int x7), (6, .int (nI k3)), (4, .int x4), (3, .int x3), (2, .int v20), (0, .ref mo), (1, .int j)]) hx hb dX10_clash_196 hl (by decide) rfl (fun ls hl => ?_)
                              refine lv_iconst (v := 0) hx hb dX10_clash_198 (by decide) ?_
                              refine lv_istore (lv' := [(9, .int (0 : Int32)), (8, .int (0 : Int32)), (5, .int v184), (7, .int x7), (6, .int (nI k3)), (4, .int x4), (3, .int x3), (2, .int v20), (0, .ref mo), (1, .int j)]) hx hb dX10_clash_199 hl (by decide) rfl (fun ls hl => ?_)
                              have loop_201 : ∀ (n : Nat) (y : Nat) (x8 : Int32), (y ≤ 6) → 6 - y < n → ∀ (H : Heap) (locs : List Loc), va_P D vwCl (WM cy mo a (upd f 0 (0 : Int32)) g (va_up r 15 ((upd cl3 x7.toNatClampNeg (((-1) : Int32))))) q) H → va_S (AM mo a) s.heap H locs → ∀ (ls : Array Slot), lv_has ls 11 [(9, .int (nI y)), (8, .int x8), (5, .int v184), (7, .int x7), (6, .int (nI k3)), (4, .int x4), (3, .int x3), (2, .int v20), (0, .ref mo), (1, .int j)] → W p l e (headSpec wsX10_clash ({ frames := 1, cells := 0, slots := 0, locals := 21 })).room s m #[Value.ref mo, Value.int j] below meth c H locs 0 0 (MQ below (va_Qi (fun r0 u => ∃ (cl : Nat → Int32), u = ((upd f 0 (0 : Int32)), g, (va_up r 15 cl), q) ∧ (True)) (mB D cy mo a) (AM mo a)) #[Value.ref mo, Value.int j] s 0 0 (AM mo a)) (F0 m 201 ls []) := by
                                intro n
                                induction n with
                                | zero => intro y x8  j201_0 hn; exact absurd hn (Nat.not_lt_zero _)
                                | succ n ih_201 =>
                                  intro y x8  j201_0 hn_201 H locs hP hS ls hl
                                  have iy : (nI y).toInt = (y : Int) := nI_toInt (by omega)
                                  refine lv_iload hx hb dX10_clash_201 (lv_at hl 0 rfl) ?_
                                  refine lv_aload_n hx hb dX10_clash_203 rfl (lv_at hl 8 rfl) ?_
                                  refine m_get (v := .ref (a 4)) hx hb hts hin hown hK hP 4 (by decide) rfl (hts (.fieldLink RX10 16 "ShadowBenchModel" "high" "[I") (by decide +kernel)) rfl dX10_clash_204 ?_
                                  refine lv_iload_n hx hb dX10_clash_207 rfl (lv_at hl 9 rfl) ?_
                                  refine m_iald (w := (r 4)) hx hb hK hP 3 rfl (vp_in_iff.mpr ⟨by omega, by omega⟩) dX10_clash_208 ?_
                                  refine lv_topi (fun v208 e208 => ?_)
                                  have i208 : v208.toInt = ((r 4) j.toNatClampNeg).toInt := congrArg Int32.toInt e208
                                  have w208 := mi_h hI (x := j) (by omega) (by omega) e208
                                  refine lv_icmp_ge (tgt := 251) hx hb dX10_clash_209 (by decide) (fun c209 => ?_) (fun c209 => ?_)
                                  · skip
                                    have d209 := c209
                                    rw [fa_le] at d209
                                    refine lv_iload hx hb dX10_clash_251 (lv_at hl 2 rfl) ?_
                                    refine lv_iload hx hb dX10_clash_253 (lv_at hl 1 rfl) ?_
                                    refine lv_icmp_le (tgt := 261) hx hb dX10_clash_255 (by decide) (fun c255 => ?_) (fun c255 => ?_)
                                    · skip
                                      have d255 := c255
                                      rw [fa_le] at d255
                                      refine lv_iinc (v := (nI (k3 + 1))) (lv' := [(6, .int (nI (k3 + 1))), (9, .int (nI y)), (8, .int x8), (5, .int v184), (7, .int x7), (4, .int x4), (3, .int x3), (2, .int v20), (0, .ref mo), (1, .int j)]) hx hb dX10_clash_261 hl (k := 4) rfl (nI_1 _) (by decide) rfl (fun ls hl => ?_)
                                      refine lv_goto (tgt := 125) hx hb dX10_clash_264 (by decide) ?_
                                      have hP := wm_eq rfl rfl (ec_r_15__15 r ((upd cl3 x7.toNatClampNeg (((-1) : Int32))))) rfl hP
                                      exact ih_125 (k3 + 1) v184 (((upd cl3 x7.toNatClampNeg (((-1) : Int32))))) (by omega) (by omega) _ _ hP hS ls (lv_sub hl [0, 3, 5, 6, 7, 8, 9] rfl)
                                    · skip
                                      have d255 := c255
                                      rw [fa_le] at d255
                                      refine lv_iload hx hb dX10_clash_258 (lv_at hl 4 rfl) ?_
                                      have hP := wm_eq rfl rfl (ec_r_15__15 r ((upd cl3 x7.toNatClampNeg (((-1) : Int32))))) rfl hP
                                      exact W.iret (v := (nI k3)) hx hb hr (fun t ht hW => ⟨⟨_, ((upd f 0 (0 : Int32)), g, (va_up r 15 (((upd cl3 x7.toNatClampNeg (((-1) : Int32)))))), q), rfl, ⟨((upd cl3 x7.toNatClampNeg (((-1) : Int32)))), rfl, trivial⟩, by unfold mB; rw [ht]; exact hP⟩, hS.F ht⟩) hS.2.2 dX10_clash_260
                                  · skip
                                    have d209 := c209
                                    rw [fa_le] at d209
                                    refine lv_aload_n hx hb dX10_clash_212 rfl (lv_at hl 8 rfl) ?_
                                    refine m_get (v := .ref (a 5)) hx hb hts hin hown hK hP 5 (by decide) rfl (hts (.fieldLink RX10 19 "ShadowBenchModel" "sums" "[I") (by decide +kernel)) rfl dX10_clash_213 ?_
                                    refine lv_bipush (v := 44) hx hb dX10_clash_216 (by decide) ?_
                                    refine lv_iload_n hx hb dX10_clash_218 rfl (lv_at hl 9 rfl) ?_
                                    refine lv_imul hx hb dX10_clash_219 ?_
                                    refine lv_topi (fun v219 e219 => ?_)
                                    have i219 : v219.toInt = 44 * j.toInt := by rw [e219]; exact mulcL rfl (by omega) (by omega)
                                    refine lv_iload hx hb dX10_clash_220 (lv_at hl 0 rfl) ?_
                                    refine lv_iadd hx hb dX10_clash_222 ?_
                                    refine lv_topi (fun v222 e222 => ?_)
                                    have i222 : v222.toInt = v219.toInt + (nI y).toInt := by rw [e222]; exact fb_addI (by omega) (by omega)
                                    refine m_iald (w := (r 5)) hx hb hK hP 4 rfl (vp_in_iff.mpr ⟨by omega, by omega⟩) dX10_clash_223 ?_
                                    refine lv_topi (fun v223 e223 => ?_)
                                    have i223 : v223.toInt = ((r 5) v222.toNatClampNeg).toInt := congrArg Int32.toInt e223
                                    refine lv_istore (lv' := [(10, .int v223), (9, .int (nI y)), (8, .int x8), (5, .int v184), (7, .int x7), (6, .int (nI k3)), (4, .int x4), (3, .int x3), (2, .int v20), (0, .ref mo), (1, .int j)]) hx hb dX10_clash_224 hl (by decide) rfl (fun ls hl => ?_)
                                    refine lv_iload hx hb dX10_clash_226 (lv_at hl 2 rfl) ?_
                                    refine lv_iload hx hb dX10_clash_228 (lv_at hl 0 rfl) ?_
                                    refine lv_iload hx hb dX10_clash_230 (lv_at hl 5 rfl) ?_
                                    refine lv_icmp_ge (tgt := 240) hx hb dX10_clash_232 (by decide) (fun c232 => ?_) (fun c232 => ?_)
                                    · skip
                                      have d232 := c232
                                      rw [fa_le] at d232
                                      refine lv_iload hx hb dX10_clash_240 (lv_at hl 5 rfl) ?_
                                      refine lv_iadd hx hb dX10_clash_242 ?_
                                      refine lv_topi (fun v242 e242 => ?_)
                                      refine lv_istore (lv' := [(8, .int v242), (10, .int v223), (9, .int (nI y)), (5, .int v184), (7, .int x7), (6, .int (nI k3)), (4, .int x4), (3, .int x3), (2, .int v20), (0, .ref mo), (1, .int j)]) hx hb dX10_clash_243 hl (by decide) rfl (fun ls hl => ?_)
                                      refine lv_iinc (v := (nI (y + 1))) (lv' := [(9, .int (nI (y + 1))), (8, .int v242), (10, .int v223), (5, .int v184), (7, .int x7), (6, .int (nI k3)), (4, .int x4), (3, .int x3), (2, .int v20), (0, .ref mo), (1, .int j)]) hx hb dX10_clash_245 hl (k := 2) rfl (nI_1 _) (by decide) rfl (fun ls hl => ?_)
                                      refine lv_goto (tgt := 201) hx hb dX10_clash_248 (by decide) ?_
                                      have hP := wm_eq rfl rfl (ec_r_15__15 r ((upd cl3 x7.toNatClampNeg (((-1) : Int32))))) rfl hP
                                      exact ih_201 (y + 1) v242 (by omega) (by omega) _ _ hP hS ls (lv_sub hl [0, 1, 3, 4, 5, 6, 7, 8, 9, 10] rfl)
                                    · skip
                                      have d232 := c232
                                      rw [fa_le] at d232
                                      refine lv_iload hx hb dX10_clash_235 (lv_at hl 0 rfl) ?_
                                      refine lv_goto (tgt := 242) hx hb dX10_clash_237 (by decide) ?_
                                      refine lv_iadd hx hb dX10_clash_242 ?_
                                      refine lv_topi (fun v242 e242 => ?_)
                                      refine lv_istore (lv' := [(8, .int v242), (10, .int v223), (9, .int (nI y)), (5, .int v184), (7, .int x7), (6, .int (nI k3)), (4, .int x4), (3, .int x3), (2, .int v20), (0, .ref mo), (1, .int j)]) hx hb dX10_clash_243 hl (by decide) rfl (fun ls hl => ?_)
                                      refine lv_iinc (v := (nI (y + 1))) (lv' := [(9, .int (nI (y + 1))), (8, .int v242), (10, .int v223), (5, .int v184), (7, .int x7), (6, .int (nI k3)), (4, .int x4), (3, .int x3), (2, .int v20), (0, .ref mo), (1, .int j)]) hx hb dX10_clash_245 hl (k := 2) rfl (nI_1 _) (by decide) rfl (fun ls hl => ?_)
                                      refine lv_goto (tgt := 201) hx hb dX10_clash_248 (by decide) ?_
                                      have hP := wm_eq rfl rfl (ec_r_15__15 r ((upd cl3 x7.toNatClampNeg (((-1) : Int32))))) rfl hP
                                      exact ih_201 (y + 1) v242 (by omega) (by omega) _ _ hP hS ls (lv_sub hl [0, 1, 3, 4, 5, 6, 7, 8, 9, 10] rfl)
                              have hP := wm_eq rfl rfl (ec_r_15__15 r ((upd cl3 x7.toNatClampNeg (((-1) : Int32))))) rfl hP
                              exact loop_201 (6 + 1) 0 (0 : Int32) (by omega) (by omega) _ _ hP hS ls (lv_sub hl [0, 1, 2, 3, 4, 5, 6, 7, 8, 9] rfl)
                            · skip
                              have d140 := c140
                              rw [fa_le] at d140
                              refine lv_aload_n hx hb dX10_clash_143 rfl (lv_at hl 7 rfl) ?_
                              refine m_get (v := .ref (a 15)) hx hb hts hin hown hK hP 15 (by decide) rfl (hts (.fieldLink RX10 38 "ShadowBenchModel" "columns" "[I") (by decide +kernel)) rfl dX10_clash_144 ?_
                              refine lv_iload hx hb dX10_clash_147 (lv_at hl 0 rfl) ?_
                              refine m_iald (w := cl3) hx hb hK hP 10 rfl (vp_in_iff.mpr ⟨by omega, by omega⟩) dX10_clash_149 ?_
                              refine lv_topi (fun v149 e149 => ?_)
                              have i149 : v149.toInt = (cl3 (nI i).toNatClampNeg).toInt := congrArg Int32.toInt e149
                              refine lv_aload_n hx hb dX10_clash_150 rfl (lv_at hl 7 rfl) ?_
                              refine m_get (v := .ref (a 15)) hx hb hts hin hown hK hP 15 (by decide) rfl (hts (.fieldLink RX10 38 "ShadowBenchModel" "columns" "[I") (by decide +kernel)) rfl dX10_clash_151 ?_
                              refine lv_iload hx hb dX10_clash_154 (lv_at hl 1 rfl) ?_
                              refine m_iald (w := cl3) hx hb hK hP 10 rfl (vp_in_iff.mpr ⟨by omega, by omega⟩) dX10_clash_156 ?_
                              refine lv_topi (fun v156 e156 => ?_)
                              have i156 : v156.toInt = (cl3 x7.toNatClampNeg).toInt := congrArg Int32.toInt e156
                              refine lv_icmp_le (tgt := 165) hx hb dX10_clash_157 (by decide) (fun c157 => ?_) (fun c157 => ?_)
                              · skip
                                have d157 := c157
                                rw [fa_le] at d157
                                refine lv_iload hx hb dX10_clash_165 (lv_at hl 1 rfl) ?_
                                refine lv_istore (lv' := [(7, .int x7), (8, .int (nI i)), (6, .int (nI k3)), (5, .int x5), (4, .int x4), (3, .int x3), (2, .int v20), (0, .ref mo), (1, .int j)]) hx hb dX10_clash_167 hl (by decide) rfl (fun ls hl => ?_)
                                refine lv_iinc (v := (nI (i + 1))) (lv' := [(8, .int (nI (i + 1))), (7, .int x7), (6, .int (nI k3)), (5, .int x5), (4, .int x4), (3, .int x3), (2, .int v20), (0, .ref mo), (1, .int j)]) hx hb dX10_clash_169 hl (k := 1) rfl (nI_1 _) (by decide) rfl (fun ls hl => ?_)
                                refine lv_goto (tgt := 137) hx hb dX10_clash_172 (by decide) ?_
                                exact ih_137 (i + 1) x7 (by omega) (by omega) (by omega) _ _ hP hS ls (lv_sub hl [0, 1, 2, 3, 4, 5, 6, 7, 8] rfl)
                              · skip
                                have d157 := c157
                                rw [fa_le] at d157
                                refine lv_iload hx hb dX10_clash_160 (lv_at hl 0 rfl) ?_
                                refine lv_goto (tgt := 167) hx hb dX10_clash_162 (by decide) ?_
                                refine lv_istore (lv' := [(7, .int (nI i)), (8, .int (nI i)), (6, .int (nI k3)), (5, .int x5), (4, .int x4), (3, .int x3), (2, .int v20), (0, .ref mo), (1, .int j)]) hx hb dX10_clash_167 hl (by decide) rfl (fun ls hl => ?_)
                                refine lv_iinc (v := (nI (i + 1))) (lv' := [(8, .int (nI (i + 1))), (7, .int (nI i)), (6, .int (nI k3)), (5, .int x5), (4, .int x4), (3, .int x3), (2, .int v20), (0, .ref mo), (1, .int j)]) hx hb dX10_clash_169 hl (k := 1) rfl (nI_1 _) (by decide) rfl (fun ls hl => ?_)
                                refine lv_goto (tgt := 137) hx hb dX10_clash_172 (by decide) ?_
                                exact ih_137 (i + 1) (nI i) (by omega) (by omega) (by omega) _ _ hP hS ls (lv_sub hl [0, 1, 2, 3, 4, 5, 6, 7, 8] rfl)
                        exact loop_137 (6 + 1) 0 (0 : Int32) (by omega) (by omega) (by omega) _ _ hP hS ls (lv_sub hl [0, 1, 2, 3, 4, 5, 6, 7, 8] rfl)
                  exact loop_125 (7 + 1) 1 (0 : Int32) cl2 (by omega) (by omega) _ _ hP hS ls (lv_sub hl [0, 1, 2, 3, 4, 5, 6] rfl)
                · skip
                  have d114 := c114
                  rw [fa_eq] at d114
                  refine lv_iconst (v := 0) hx hb dX10_clash_117 (by decide) ?_
                  exact W.iret (v := (0 : Int32)) hx hb hr (fun t ht hW => ⟨⟨_, ((upd f 0 (0 : Int32)), g, (va_up r 15 cl2), q), rfl, ⟨cl2, rfl, trivial⟩, by unfold mB; rw [ht]; exact hP⟩, hS.F ht⟩) hS.2.2 dX10_clash_118
              · skip
                have d68 := c68
                rw [fa_le] at d68
                refine lv_aload_n hx hb dX10_clash_71 rfl (lv_at hl 4 rfl) ?_
                refine m_get (v := .ref (a 15)) hx hb hts hin hown hK hP 15 (by decide) rfl (hts (.fieldLink RX10 38 "ShadowBenchModel" "columns" "[I") (by decide +kernel)) rfl dX10_clash_72 ?_
                refine lv_iload hx hb dX10_clash_75 (lv_at hl 0 rfl) ?_
                refine lv_aload_n hx hb dX10_clash_77 rfl (lv_at hl 4 rfl) ?_
                refine m_get (v := .ref (a 5)) hx hb hts hin hown hK hP 5 (by decide) rfl (hts (.fieldLink RX10 19 "ShadowBenchModel" "sums" "[I") (by decide +kernel)) rfl dX10_clash_78 ?_
                refine lv_bipush (v := 44) hx hb dX10_clash_81 (by decide) ?_
                refine lv_iload_n hx hb dX10_clash_83 rfl (lv_at hl 5 rfl) ?_
                refine lv_imul hx hb dX10_clash_84 ?_
                refine lv_topi (fun v84 e84 => ?_)
                have i84 : v84.toInt = 44 * j.toInt := by rw [e84]; exact mulcL rfl (by omega) (by omega)
                refine lv_bipush (v := 11) hx hb dX10_clash_85 (by decide) ?_
                refine lv_iadd hx hb dX10_clash_87 ?_
                refine lv_topi (fun v87 e87 => ?_)
                have i87 : v87.toInt = v84.toInt + (11 : Int32).toInt := by rw [e87]; exact fb_addI (by omega) (by omega)
                refine lv_iload hx hb dX10_clash_88 (lv_at hl 0 rfl) ?_
                refine lv_iadd hx hb dX10_clash_90 ?_
                refine lv_topi (fun v90 e90 => ?_)
                have i90 : v90.toInt = v87.toInt + (nI k2).toInt := by rw [e90]; exact fb_addI (by omega) (by omega)
                refine m_iald (w := (r 5)) hx hb hK hP 4 rfl (vp_in_iff.mpr ⟨by omega, by omega⟩) dX10_clash_91 ?_
                refine lv_topi (fun v91 e91 => ?_)
                have i91 : v91.toInt = ((r 5) v90.toNatClampNeg).toInt := congrArg Int32.toInt e91
                refine m_iast (w := cl2) hx hb hK hP hD hS 10 rfl (vp_in_iff.mpr ⟨by omega, by omega⟩) (va_up r 15 ((upd cl2 (nI k2).toNatClampNeg v91))) rfl dX10_clash_92 (fun H locs hP hS => ?_)
                refine lv_iload hx hb dX10_clash_93 (lv_at hl 1 rfl) ?_
                refine lv_aload_n hx hb dX10_clash_95 rfl (lv_at hl 4 rfl) ?_
                refine m_get (v := .ref (a 15)) hx hb hts hin hown hK hP 15 (by decide) rfl (hts (.fieldLink RX10 38 "ShadowBenchModel" "columns" "[I") (by decide +kernel)) rfl dX10_clash_96 ?_
                refine lv_iload hx hb dX10_clash_99 (lv_at hl 0 rfl) ?_
                refine m_iald (w := ((upd cl2 (nI k2).toNatClampNeg v91))) hx hb hK hP 10 rfl (vp_in_iff.mpr ⟨by omega, by omega⟩) dX10_clash_101 ?_
                refine lv_topi (fun v101 e101 => ?_)
                have i101 : v101.toInt = (((upd cl2 (nI k2).toNatClampNeg v91)) (nI k2).toNatClampNeg).toInt := congrArg Int32.toInt e101
                refine lv_iadd hx hb dX10_clash_102 ?_
                refine lv_topi (fun v102 e102 => ?_)
                refine lv_istore (lv' := [(4, .int v102), (5, .int (nI k2)), (3, .int x3), (2, .int v20), (0, .ref mo), (1, .int j)]) hx hb dX10_clash_103 hl (by decide) rfl (fun ls hl => ?_)
                refine lv_iinc (v := (nI (k2 + 1))) (lv' := [(5, .int (nI (k2 + 1))), (4, .int v102), (3, .int x3), (2, .int v20), (0, .ref mo), (1, .int j)]) hx hb dX10_clash_105 hl (k := 1) rfl (nI_1 _) (by decide) rfl (fun ls hl => ?_)
                refine lv_goto (tgt := 65) hx hb dX10_clash_108 (by decide) ?_
                have hP := wm_eq rfl rfl (ec_r_15__15 r ((upd cl2 (nI k2).toNatClampNeg v91))) rfl hP
                exact ih_65 (k2 + 1) v102 (((upd cl2 (nI k2).toNatClampNeg v91))) (by omega) (by omega) _ _ hP hS ls (lv_sub hl [0, 1, 2, 3, 4, 5] rfl)
          have hP := wm_eq rfl rfl (ec_r___15 r ) rfl hP
          exact loop_65 (6 + 1) 0 (0 : Int32) (r 15) (by omega) (by omega) _ _ hP hS ls (lv_sub hl [0, 1, 2, 3, 4, 5] rfl)
        · skip
          have d38 := c38
          rw [fa_le] at d38
          refine lv_iload_n hx hb dX10_clash_41 rfl (lv_at hl 2 rfl) ?_
          refine lv_aload_n hx hb dX10_clash_42 rfl (lv_at hl 4 rfl) ?_
          refine m_get (v := .ref (a 5)) hx hb hts hin hown hK hP 5 (by decide) rfl (hts (.fieldLink RX10 19 "ShadowBenchModel" "sums" "[I") (by decide +kernel)) rfl dX10_clash_43 ?_
          refine lv_bipush (v := 44) hx hb dX10_clash_46 (by decide) ?_
          refine lv_iload_n hx hb dX10_clash_48 rfl (lv_at hl 5 rfl) ?_
          refine lv_imul hx hb dX10_clash_49 ?_
          refine lv_topi (fun v49 e49 => ?_)
          have i49 : v49.toInt = 44 * j.toInt := by rw [e49]; exact mulcL rfl (by omega) (by omega)
          refine lv_iload hx hb dX10_clash_50 (lv_at hl 0 rfl) ?_
          refine lv_iadd hx hb dX10_clash_52 ?_
          refine lv_topi (fun v52 e52 => ?_)
          have i52 : v52.toInt = v49.toInt + (nI k).toInt := by rw [e52]; exact fb_addI (by omega) (by omega)
          refine m_iald (w := (r 5)) hx hb hK hP 4 rfl (vp_in_iff.mpr ⟨by omega, by omega⟩) dX10_clash_53 ?_
          refine lv_topi (fun v53 e53 => ?_)
          have i53 : v53.toInt = ((r 5) v52.toNatClampNeg).toInt := congrArg Int32.toInt e53
          refine lv_iadd hx hb dX10_clash_54 ?_
          refine lv_topi (fun v54 e54 => ?_)
          refine lv_istore_n (lv' := [(3, .int v54), (5, .int (nI k)), (4, .int (0 : Int32)), (2, .int v20), (0, .ref mo), (1, .int j)]) hx hb dX10_clash_55 rfl hl (by decide) rfl (fun ls hl => ?_)
          refine lv_iinc (v := (nI (k + 1))) (lv' := [(5, .int (nI (k + 1))), (3, .int v54), (4, .int (0 : Int32)), (2, .int v20), (0, .ref mo), (1, .int j)]) hx hb dX10_clash_56 hl (k := 1) rfl (nI_1 _) (by decide) rfl (fun ls hl => ?_)
          refine lv_goto (tgt := 30) hx hb dX10_clash_59 (by decide) ?_
          exact ih_30 (k + 1) v54 (by omega) (by omega) _ _ hP hS ls (lv_sub hl [0, 2, 1, 3, 4, 5] rfl)
    exact loop_30 (6 + 1) 0 (0 : Int32) (by omega) (by omega) _ _ hP hS ls (lv_sub hl [0, 1, 2, 3, 4, 5] rfl)
  · skip
    have b10 := bo_f q7 c10
    refine lv_iconst (v := (-1)) hx hb dX10_clash_13 (by decide) ?_
    have hP := wm_eq rfl rfl (ec_r___15 r ) rfl hP
    exact W.iret (v := ((-1) : Int32)) hx hb hr (fun t ht hW => ⟨⟨_, ((upd f 0 (0 : Int32)), g, (va_up r 15 (r 15)), q), rfl, ⟨(r 15), rfl, trivial⟩, by unfold mB; rw [ht]; exact hP⟩, hS.F ht⟩) hS.2.2 dX10_clash_14
theorem ec_f___11_12_13_17 (f : Nat → Int32)  : f = (upd (upd (upd (upd f 11 (f 11)) 12 (f 12)) 13 (f 13)) 17 (f 17)) := by
  funext j9
  simp only [upd]
  (repeat' split) <;> simp_all
theorem ec_g___14_16 (f : Nat → Int64)  : f = (vp_updL (vp_updL f 14 (f 14)) 16 (f 16)) := by
  funext j9
  simp only [vp_updL]
  (repeat' split) <;> simp_all
theorem ec_f_17_11_12_13__11_12_13_17 (f : Nat → Int32) (v17 : Int32) (v11 : Int32) (v12 : Int32) (v13 : Int32) : (upd (upd (upd (upd f 17 v17) 11 v11) 12 v12) 13 v13) = (upd (upd (upd (upd f 11 v11) 12 v12) 13 v13) 17 v17) := by
  funext j9
  simp only [upd]
  (repeat' split) <;> simp_all
theorem ec_g_16_14__14_16 (f : Nat → Int64) (v16 : Int64) (v14 : Int64) : (vp_updL (vp_updL f 16 v16) 14 v14) = (vp_updL (vp_updL f 14 v14) 16 v16) := by
  funext j9
  simp only [vp_updL]
  (repeat' split) <;> simp_all
theorem ec_f_11_12_13__11_12_13_17 (f : Nat → Int32) (v11 : Int32) (v12 : Int32) (v13 : Int32) : (upd (upd (upd f 11 v11) 12 v12) 13 v13) = (upd (upd (upd (upd f 11 v11) 12 v12) 13 v13) 17 (f 17)) := by
  funext j9
  simp only [upd]
  (repeat' split) <;> simp_all
theorem ec_r_10__10_9 (f : Nat → Nat → Int32) (v10 : Nat → Int32) : (va_up f 10 v10) = (va_up (va_up f 10 v10) 9 (f 9)) := by
  funext j9
  simp only [va_up]
  (repeat' split) <;> simp_all
set_option maxHeartbeats 4000000 in
set_option maxRecDepth 100000 in
theorem c_X10_seek (l : Launch) (D : va_G) (cy : Nat → ClassId) (mo : Nat) (a : Nat → Nat) (f : Nat → Int32) (g : Nat → Int64) (r : Nat → Nat → Int32) (q : Nat → Nat → Int64) (j : Int32) (hD : DM cy mo a) (hI : MI f r) : Mi l D cy mo a yX10_seek wsX10_seek ({ frames := 5, cells := 0, slots := 0, locals := 126 }) f g r q [.int j] (fun r0 u => ∃ (dp : Int32), ∃ (tr : Int32), ∃ (sp : Int32), ∃ (fd : Int64), ∃ (rw : Nat → Int32), ∃ (mt : Nat → Int32), ∃ (bs : Int32), ∃ (bp : Int64), u = ((upd (upd (upd (upd f 11 dp) 12 tr) 13 sp) 17 bs), (vp_updL (vp_updL g 14 fd) 16 bp), (va_up (va_up r 10 rw) 9 mt), q) ∧ (0 ≤ r0.toInt ∧ r0.toInt ≤ 2)) := by
  refine Met.ofW (cc := cX10_seek) (maxL := 5) (ret := (some .int)) (by decide) rfl ?_
  intro p e s m args below meth c s₁ B hml hv
  obtain ⟨rfl, hP, hK⟩ := hv
  have hx := B.exec
  have hb := B.bytes
  have hr := B.returns
  have hts := atoms_spec (ws := wsX10_seek) B.pre
  have hin : ∀ w ∈ u_ws RX10 TX10 35, w ∈ wsX10_seek := by decide +kernel
  have hown : s.vm.findClass RX10 = some m.cls := findClass_of_methodNamed B.named
  have hlocks := B.notSynchronized
  have hS : va_S (AM mo a) s.heap s.heap [] := va_S.rf
  have hl := lv_entry ([.ref mo, .int j]) (n := 5) (Nat.le_of_ble_eq_true rfl)
  rw [lg_entry_eq]
  generalize (lg_sl ([.ref mo, .int j]) ++ List.replicate (5 - (lg_sl ([.ref mo, .int j])).length) Slot.unset).toArray = ls at hl ⊢
  have hl : lv_has ls 5 [(0, .ref mo), (1, .int j)] := hl
  have k_0 : (0 : Int32).toInt = 0 := by decide
  have k_1 : (1 : Int32).toInt = 1 := by decide
  have k_2 : (2 : Int32).toInt = 2 := by decide
  have k_3 : (3 : Int32).toInt = 3 := by decide
  have k_36 : (36 : Int32).toInt = 36 := by decide
  have hI1 := hI.1
  refine lv_aload_n hx hb dX10_seek_0 rfl (lv_at hl 0 rfl) ?_
  refine lv_iload_n hx hb dX10_seek_1 rfl (lv_at hl 1 rfl) ?_
  refine m_calli (As := [.int j]) (rest := []) ⟨hx, hb, hml, hown, hts⟩ (c_X10_isJob l D cy mo a f g r q j hD) (cwV 1 hts gX10_seek_X10_isJob rfl rfl rfl (by decide +kernel) ⟨Nat.le_of_ble_eq_true rfl, Nat.le_of_ble_eq_true rfl⟩) hK hP rfl hl.1 rfl (Nat.le_of_ble_eq_true rfl) dX10_seek_2 ⟨Nat.le_of_ble_eq_true rfl, Nat.le_of_ble_eq_true rfl⟩ hS (fun r2 u H locs q2 hP hS => ?_)
  obtain ⟨rfl, q2⟩ := q2
  have hP : va_P D vwCl (WM cy mo a f g r q) H := hP
  have q2 : Bo r2 (0 ≤ j.toInt ∧ j.toInt < ((f 1)).toInt) := q2
  refine lv_if_eq (tgt := 18) hx hb dX10_seek_5 (by decide) (fun c5 => ?_) (fun c5 => ?_)
  · skip
    have b5 := bo_f q2 c5
    refine lv_iconst (v := 1) hx hb dX10_seek_18 (by decide) ?_
    have hP := wm_eq (ec_f___11_12_13_17 f ) (ec_g___14_16 g ) (ec_r___10_9 r ) rfl hP
    exact W.iret (v := (1 : Int32)) hx hb hr (fun t ht hW => ⟨⟨_, ((upd (upd (upd (upd f 11 (f 11)) 12 (f 12)) 13 (f 13)) 17 (f 17)), (vp_updL (vp_updL g 14 (g 14)) 16 (g 16)), (va_up (va_up r 10 (r 10)) 9 (r 9)), q), rfl, ⟨(f 11), (f 12), (f 13), (g 14), (r 10), (r 9), (f 17), (g 16), rfl, by decide⟩, by unfold mB; rw [ht]; exact hP⟩, hS.F ht⟩) hS.2.2 dX10_seek_19
  · skip
    have b5 := bo_t q2 c5
    refine lv_aload_n hx hb dX10_seek_8 rfl (lv_at hl 0 rfl) ?_
    refine m_get (v := .ref (a 2)) hx hb hts hin hown hK hP 2 (by decide) rfl (hts (.fieldLink RX10 7 "ShadowBenchModel" "kind" "[I") (by decide +kernel)) rfl dX10_seek_9 ?_
    refine lv_iload_n hx hb dX10_seek_12 rfl (lv_at hl 1 rfl) ?_
    refine m_iald (w := (r 2)) hx hb hK hP 1 rfl (vp_in_iff.mpr ⟨by omega, by omega⟩) dX10_seek_13 ?_
    refine lv_topi (fun v13 e13 => ?_)
    have i13 : v13.toInt = ((r 2) j.toNatClampNeg).toInt := congrArg Int32.toInt e13
    refine lv_iconst (v := 3) hx hb dX10_seek_14 (by decide) ?_
    refine lv_icmp_eq (tgt := 20) hx hb dX10_seek_15 (by decide) (fun c15 => ?_) (fun c15 => ?_)
    · skip
      have d15 := c15
      rw [fa_eq] at d15
      have hh := mi_h hI (x := j) (by omega) (by omega) rfl
      refine lv_aload_n hx hb dX10_seek_20 rfl (lv_at hl 0 rfl) ?_
      refine m_callv (As := []) (rest := []) ⟨hx, hb, hml, hown, hts⟩ (c_X10_begin l D cy mo a f g r q hD) (cwV 0 hts gX10_seek_X10_begin rfl rfl rfl (by decide +kernel) ⟨Nat.le_of_ble_eq_true rfl, Nat.le_of_ble_eq_true rfl⟩) hK hP rfl hl.1 rfl (Nat.le_of_ble_eq_true rfl) dX10_seek_21 ⟨Nat.le_of_ble_eq_true rfl, Nat.le_of_ble_eq_true rfl⟩ hS (fun u H locs q21 hP hS => ?_)
      obtain ⟨rw_21, rfl, q21⟩ := q21
      have hP : va_P D vwCl (WM cy mo a (upd (upd (upd f 11 (0 : Int32)) 12 (0 : Int32)) 13 (0 : Int32)) g (va_up r 10 rw_21) q) H := hP
      have q21 : True := q21
      refine lv_iconst (v := 0) hx hb dX10_seek_24 (by decide) ?_
      refine lv_istore_n (lv' := [(2, .int (0 : Int32)), (0, .ref mo), (1, .int j)]) hx hb dX10_seek_25 rfl hl (by decide) rfl (fun ls hl => ?_)
      have loop_26 : ∀ (n : Nat) (x2 : Int32) (dpa : Int32) (tra : Int32) (spa : Int32) (fda : Int64) (rwa : Nat → Int32) (mta : Nat → Int32) (bsa : Int32) (bpa : Int64), (-1 ≤ dpa.toInt ∧ dpa.toInt < (r 4 j.toNatClampNeg).toInt) → (0 ≤ tra.toInt ∧ tra.toInt ≤ 200000) → (200000 - tra.toInt).toNat < n → ∀ (H : Heap) (locs : List Loc), va_P D vwCl (WM cy mo a (upd (upd (upd (upd f 11 dpa) 12 tra) 13 spa) 17 bsa) (vp_updL (vp_updL g 14 fda) 16 bpa) (va_up (va_up r 10 rwa) 9 mta) q) H → va_S (AM mo a) s.heap H locs → ∀ (ls : Array Slot), lv_has ls 5 [(2, .int x2), (0, .ref mo), (1, .int j)] → W p l e (headSpec wsX10_seek ({ frames := 5, cells := 0, slots := 0, locals := 126 })).room s m #[Value.ref mo, Value.int j] below meth c H locs 0 0 (MQ below (va_Qi (fun r0 u => ∃ (dp : Int32), ∃ (tr : Int32), ∃ (sp : Int32), ∃ (fd : Int64), ∃ (rw : Nat → Int32), ∃ (mt : Nat → Int32), ∃ (bs : Int32), ∃ (bp : Int64), u = ((upd (upd (upd (upd f 11 dp) 12 tr) 13 sp) 17 bs), (vp_updL (vp_updL g 14 fd) 16 bp), (va_up (va_up r 10 rw) 9 mt), q) ∧ (0 ≤ r0.toInt ∧ r0.toInt ≤ 2)) (mB D cy mo a) (AM mo a)) #[Value.ref mo, Value.int j] s 0 0 (AM mo a)) (F0 m 26 ls []) := by
        intro n
        induction n with
        | zero => intro x2 dpa tra spa fda rwa mta bsa bpa j26_0 j26_1 hn; exact absurd hn (Nat.not_lt_zero _)
        | succ n ih_26 =>
          intro x2 dpa tra spa fda rwa mta bsa bpa j26_0 j26_1 hn_26 H locs hP hS ls hl
          refine lv_aload_n hx hb dX10_seek_26 rfl (lv_at hl 1 rfl) ?_
          refine lv_iload_n hx hb dX10_seek_27 rfl (lv_at hl 2 rfl) ?_
          refine m_calli (As := [.int j]) (rest := []) ⟨hx, hb, hml, hown, hts⟩ (c_X10_isNext l D cy mo a (upd (upd (upd (upd f 11 dpa) 12 tra) 13 spa) 17 bsa) (vp_updL (vp_updL g 14 fda) 16 bpa) (va_up (va_up r 10 rwa) 9 mta) q j hD hI (show 0 ≤ j.toInt ∧ j.toInt < ((f 1)).toInt by omega) (show -1 ≤ (dpa).toInt ∧ (dpa).toInt < ((r 4) j.toNatClampNeg).toInt by omega) (show 0 ≤ (tra).toInt ∧ (tra).toInt ≤ 200000 by omega)) (cwV 1 hts gX10_seek_X10_isNext rfl rfl rfl (by decide +kernel) ⟨Nat.le_of_ble_eq_true rfl, Nat.le_of_ble_eq_true rfl⟩) hK hP rfl hl.1 rfl (Nat.le_of_ble_eq_true rfl) dX10_seek_28 ⟨Nat.le_of_ble_eq_true rfl, Nat.le_of_ble_eq_true rfl⟩ hS (fun r28 u H locs q28 hP hS => ?_)
          obtain ⟨dp_28, tr_28, sp_28, fd_28, rw_28, mt_28, rfl, q28⟩ := q28
          have hP : va_P D vwCl (WM cy mo a (upd (upd (upd (upd f 17 bsa) 11 dp_28) 12 tr_28) 13 sp_28) (vp_updL (vp_updL g 16 bpa) 14 fd_28) (va_up (va_up r 10 rw_28) 9 mt_28) q) H := hP
          have q28 : (r28 = 0 ∨ r28 = 1) ∧ (-1 ≤ dp_28.toInt ∧ dp_28.toInt < ((r 4) j.toNatClampNeg).toInt) ∧ ((tra).toInt ≤ tr_28.toInt ∧ tr_28.toInt ≤ 200000) ∧ (r28 = 1 → (tra).toInt < tr_28.toInt) := q28
          have b28 := q28.2.1
          have t28 := q28.2.2.1
          refine lv_if_eq (tgt := 118) hx hb dX10_seek_31 (by decide) (fun c31 => ?_) (fun c31 => ?_)
          · skip
            have d31 := c31
            rw [fa_eq] at d31
            refine lv_aload_n hx hb dX10_seek_118 rfl (lv_at hl 1 rfl) ?_
            refine m_get (v := .int sp_28) hx hb hts hin hown hK hP 13 (by decide) rfl (hts (.fieldLink RX10 163 "ShadowBenchModel" "spent" "Z") (by decide +kernel)) rfl dX10_seek_119 ?_
            refine lv_if_ne (tgt := 129) hx hb dX10_seek_122 (by decide) (fun c122 => ?_) (fun c122 => ?_)
            · skip
              have d122 := c122
              rw [fa_eq] at d122
              refine lv_iconst (v := 2) hx hb dX10_seek_129 (by decide) ?_
              refine lv_goto (tgt := 134) hx hb dX10_seek_130 (by decide) ?_
              have hP := wm_eq (ec_f_17_11_12_13__11_12_13_17 f bsa dp_28 tr_28 sp_28) (ec_g_16_14__14_16 g bpa fd_28) rfl rfl hP
              exact W.iret (v := (2 : Int32)) hx hb hr (fun t ht hW => ⟨⟨_, ((upd (upd (upd (upd f 11 dp_28) 12 tr_28) 13 sp_28) 17 bsa), (vp_updL (vp_updL g 14 fd_28) 16 bpa), (va_up (va_up r 10 rw_28) 9 mt_28), q), rfl, ⟨dp_28, tr_28, sp_28, fd_28, rw_28, mt_28, bsa, bpa, rfl, by decide⟩, by unfold mB; rw [ht]; exact hP⟩, hS.F ht⟩) hS.2.2 dX10_seek_134
            · skip
              have d122 := c122
              rw [fa_eq] at d122
              refine lv_iload_n hx hb dX10_seek_125 rfl (lv_at hl 0 rfl) ?_
              refine lv_if_ne (tgt := 133) hx hb dX10_seek_126 (by decide) (fun c126 => ?_) (fun c126 => ?_)
              · skip
                have d126 := c126
                rw [fa_eq] at d126
                refine lv_iconst (v := 0) hx hb dX10_seek_133 (by decide) ?_
                have hP := wm_eq (ec_f_17_11_12_13__11_12_13_17 f bsa dp_28 tr_28 sp_28) (ec_g_16_14__14_16 g bpa fd_28) rfl rfl hP
                exact W.iret (v := (0 : Int32)) hx hb hr (fun t ht hW => ⟨⟨_, ((upd (upd (upd (upd f 11 dp_28) 12 tr_28) 13 sp_28) 17 bsa), (vp_updL (vp_updL g 14 fd_28) 16 bpa), (va_up (va_up r 10 rw_28) 9 mt_28), q), rfl, ⟨dp_28, tr_28, sp_28, fd_28, rw_28, mt_28, bsa, bpa, rfl, by decide⟩, by unfold mB; rw [ht]; exact hP⟩, hS.F ht⟩) hS.2.2 dX10_seek_134
              · skip
                have d126 := c126
                rw [fa_eq] at d126
                refine lv_iconst (v := 2) hx hb dX10_seek_129 (by decide) ?_
                refine lv_goto (tgt := 134) hx hb dX10_seek_130 (by decide) ?_
                have hP := wm_eq (ec_f_17_11_12_13__11_12_13_17 f bsa dp_28 tr_28 sp_28) (ec_g_16_14__14_16 g bpa fd_28) rfl rfl hP
                exact W.iret (v := (2 : Int32)) hx hb hr (fun t ht hW => ⟨⟨_, ((upd (upd (upd (upd f 11 dp_28) 12 tr_28) 13 sp_28) 17 bsa), (vp_updL (vp_updL g 14 fd_28) 16 bpa), (va_up (va_up r 10 rw_28) 9 mt_28), q), rfl, ⟨dp_28, tr_28, sp_28, fd_28, rw_28, mt_28, bsa, bpa, rfl, by decide⟩, by unfold mB; rw [ht]; exact hP⟩, hS.F ht⟩) hS.2.2 dX10_seek_134
          · skip
            have d31 := c31
            rw [fa_eq] at d31
            have z28 := q28.2.2.2 (q28.1.resolve_left c31)
            refine lv_iconst (v := 0) hx hb dX10_seek_34 (by decide) ?_
            refine lv_istore_n (lv' := [(3, .int (0 : Int32)), (2, .int x2), (0, .ref mo), (1, .int j)]) hx hb dX10_seek_35 rfl hl (by decide) rfl (fun ls hl => ?_)
            refine lv_iconst (v := 0) hx hb dX10_seek_36 (by decide) ?_
            refine lv_istore (lv' := [(4, .int (0 : Int32)), (3, .int (0 : Int32)), (2, .int x2), (0, .ref mo), (1, .int j)]) hx hb dX10_seek_37 hl (by decide) rfl (fun ls hl => ?_)
            have loop_39 : ∀ (n : Nat) (s1 : Nat) (x3 : Int32), (s1 ≤ 36) → 36 - s1 < n → ∀ (H : Heap) (locs : List Loc), va_P D vwCl (WM cy mo a (upd (upd (upd (upd f 17 bsa) 11 dp_28) 12 tr_28) 13 sp_28) (vp_updL (vp_updL g 16 bpa) 14 fd_28) (va_up (va_up r 10 rw_28) 9 mt_28) q) H → va_S (AM mo a) s.heap H locs → ∀ (ls : Array Slot), lv_has ls 5 [(4, .int (nI s1)), (3, .int x3), (2, .int x2), (0, .ref mo), (1, .int j)] → W p l e (headSpec wsX10_seek ({ frames := 5, cells := 0, slots := 0, locals := 126 })).room s m #[Value.ref mo, Value.int j] below meth c H locs 0 0 (MQ below (va_Qi (fun r0 u => ∃ (dp : Int32), ∃ (tr : Int32), ∃ (sp : Int32), ∃ (fd : Int64), ∃ (rw : Nat → Int32), ∃ (mt : Nat → Int32), ∃ (bs : Int32), ∃ (bp : Int64), u = ((upd (upd (upd (upd f 11 dp) 12 tr) 13 sp) 17 bs), (vp_updL (vp_updL g 14 fd) 16 bp), (va_up (va_up r 10 rw) 9 mt), q) ∧ (0 ≤ r0.toInt ∧ r0.toInt ≤ 2)) (mB D cy mo a) (AM mo a)) #[Value.ref mo, Value.int j] s 0 0 (AM mo a)) (F0 m 39 ls []) := by
              intro n
              induction n with
              | zero => intro s1 x3  j39_0 hn; exact absurd hn (Nat.not_lt_zero _)
              | succ n ih_39 =>
                intro s1 x3  j39_0 hn_39 H locs hP hS ls hl
                have is1 : (nI s1).toInt = (s1 : Int) := nI_toInt (by omega)
                refine lv_iload hx hb dX10_seek_39 (lv_at hl 0 rfl) ?_
                refine lv_aload_n hx hb dX10_seek_41 rfl (lv_at hl 3 rfl) ?_
                refine m_get (v := .ref (a 3)) hx hb hts hin hown hK hP 3 (by decide) rfl (hts (.fieldLink RX10 13 "ShadowBenchModel" "wide" "[I") (by decide +kernel)) rfl dX10_seek_42 ?_
                refine lv_iload_n hx hb dX10_seek_45 rfl (lv_at hl 4 rfl) ?_
                refine m_iald (w := (r 3)) hx hb hK hP 2 rfl (vp_in_iff.mpr ⟨by omega, by omega⟩) dX10_seek_46 ?_
                refine lv_topi (fun v46 e46 => ?_)
                have i46 : v46.toInt = ((r 3) j.toNatClampNeg).toInt := congrArg Int32.toInt e46
                have w46 := mi_w hI (x := j) (by omega) (by omega) e46
                refine lv_aload_n hx hb dX10_seek_47 rfl (lv_at hl 3 rfl) ?_
                refine m_get (v := .ref (a 4)) hx hb hts hin hown hK hP 4 (by decide) rfl (hts (.fieldLink RX10 16 "ShadowBenchModel" "high" "[I") (by decide +kernel)) rfl dX10_seek_48 ?_
                refine lv_iload_n hx hb dX10_seek_51 rfl (lv_at hl 4 rfl) ?_
                refine m_iald (w := (r 4)) hx hb hK hP 3 rfl (vp_in_iff.mpr ⟨by omega, by omega⟩) dX10_seek_52 ?_
                refine lv_topi (fun v52 e52 => ?_)
                have i52 : v52.toInt = ((r 4) j.toNatClampNeg).toInt := congrArg Int32.toInt e52
                have w52 := mi_h hI (x := j) (by omega) (by omega) e52
                have m53 := mul66 w46 w52
                refine lv_imul hx hb dX10_seek_53 ?_
                refine lv_topi (fun v53 e53 => ?_)
                have i53 : v53.toInt = v46.toInt * v52.toInt := by rw [e53]; exact fb_mulI (by omega) (by omega)
                refine lv_icmp_ge (tgt := 88) hx hb dX10_seek_54 (by decide) (fun c54 => ?_) (fun c54 => ?_)
                · skip
                  have d54 := c54
                  rw [fa_le] at d54
                  refine lv_iload_n hx hb dX10_seek_88 rfl (lv_at hl 2 rfl) ?_
                  refine lv_if_eq (tgt := 100) hx hb dX10_seek_89 (by decide) (fun c89 => ?_) (fun c89 => ?_)
                  · skip
                    have d89 := c89
                    rw [fa_eq] at d89
                    refine lv_aload_n hx hb dX10_seek_100 rfl (lv_at hl 3 rfl) ?_
                    refine lv_iload_n hx hb dX10_seek_101 rfl (lv_at hl 1 rfl) ?_
                    refine m_put (v := .int x3) (ty := .int) hx hb hts hin hown hK hP hD hS 17 (by decide) rfl (hts (.fieldLink RX10 191 "ShadowBenchModel" "bestSum" "I") (by decide +kernel)) rfl (by decide +kernel) rfl rfl (upd (upd (upd (upd f 11 dp_28) 12 tr_28) 13 sp_28) 17 x3) (vp_updL (vp_updL g 16 bpa) 14 fd_28) rfl dX10_seek_102 (fun H locs hP hS => ?_)
                    refine lv_aload_n hx hb dX10_seek_105 rfl (lv_at hl 3 rfl) ?_
                    refine lv_aload_n hx hb dX10_seek_106 rfl (lv_at hl 3 rfl) ?_
                    refine m_get (v := .long fd_28) hx hb hts hin hown hK hP 14 (by decide) rfl (hts (.fieldLink RX10 175 "ShadowBenchModel" "found" "J") (by decide +kernel)) rfl dX10_seek_107 ?_
                    refine m_put (v := .long fd_28) (ty := .long) hx hb hts hin hown hK hP hD hS 16 (by decide) rfl (hts (.fieldLink RX10 194 "ShadowBenchModel" "bestPicture" "J") (by decide +kernel)) rfl (by decide +kernel) rfl rfl (upd (upd (upd (upd f 11 dp_28) 12 tr_28) 13 sp_28) 17 x3) (vp_updL (vp_updL g 14 fd_28) 16 fd_28) rfl dX10_seek_110 (fun H locs hP hS => ?_)
                    refine lv_iconst (v := 1) hx hb dX10_seek_113 (by decide) ?_
                    refine lv_istore_n (lv' := [(2, .int (1 : Int32)), (4, .int (nI s1)), (3, .int x3), (0, .ref mo), (1, .int j)]) hx hb dX10_seek_114 rfl hl (by decide) rfl (fun ls hl => ?_)
                    refine lv_goto (tgt := 26) hx hb dX10_seek_115 (by decide) ?_
                    exact ih_26 (1 : Int32) dp_28 tr_28 sp_28 fd_28 rw_28 mt_28 x3 fd_28 (by omega) (by omega) (by omega) _ _ hP hS ls (lv_sub hl [0, 3, 4] rfl)
                  · skip
                    have d89 := c89
                    rw [fa_eq] at d89
                    refine lv_iload_n hx hb dX10_seek_92 rfl (lv_at hl 1 rfl) ?_
                    refine lv_aload_n hx hb dX10_seek_93 rfl (lv_at hl 3 rfl) ?_
                    refine m_get (v := .int bsa) hx hb hts hin hown hK hP 17 (by decide) rfl (hts (.fieldLink RX10 191 "ShadowBenchModel" "bestSum" "I") (by decide +kernel)) rfl dX10_seek_94 ?_
                    refine lv_icmp_le (tgt := 113) hx hb dX10_seek_97 (by decide) (fun c97 => ?_) (fun c97 => ?_)
                    · skip
                      have d97 := c97
                      rw [fa_le] at d97
                      refine lv_iconst (v := 1) hx hb dX10_seek_113 (by decide) ?_
                      refine lv_istore_n (lv' := [(2, .int (1 : Int32)), (4, .int (nI s1)), (3, .int x3), (0, .ref mo), (1, .int j)]) hx hb dX10_seek_114 rfl hl (by decide) rfl (fun ls hl => ?_)
                      refine lv_goto (tgt := 26) hx hb dX10_seek_115 (by decide) ?_
                      have hP := wm_eq (ec_f_17_11_12_13__11_12_13_17 f bsa dp_28 tr_28 sp_28) (ec_g_16_14__14_16 g bpa fd_28) rfl rfl hP
                      exact ih_26 (1 : Int32) dp_28 tr_28 sp_28 fd_28 rw_28 mt_28 bsa bpa (by omega) (by omega) (by omega) _ _ hP hS ls (lv_sub hl [0, 3, 4] rfl)
                    · skip
                      have d97 := c97
                      rw [fa_le] at d97
                      refine lv_aload_n hx hb dX10_seek_100 rfl (lv_at hl 3 rfl) ?_
                      refine lv_iload_n hx hb dX10_seek_101 rfl (lv_at hl 1 rfl) ?_
                      refine m_put (v := .int x3) (ty := .int) hx hb hts hin hown hK hP hD hS 17 (by decide) rfl (hts (.fieldLink RX10 191 "ShadowBenchModel" "bestSum" "I") (by decide +kernel)) rfl (by decide +kernel) rfl rfl (upd (upd (upd (upd f 11 dp_28) 12 tr_28) 13 sp_28) 17 x3) (vp_updL (vp_updL g 16 bpa) 14 fd_28) rfl dX10_seek_102 (fun H locs hP hS => ?_)
                      refine lv_aload_n hx hb dX10_seek_105 rfl (lv_at hl 3 rfl) ?_
                      refine lv_aload_n hx hb dX10_seek_106 rfl (lv_at hl 3 rfl) ?_
                      refine m_get (v := .long fd_28) hx hb hts hin hown hK hP 14 (by decide) rfl (hts (.fieldLink RX10 175 "ShadowBenchModel" "found" "J") (by decide +kernel)) rfl dX10_seek_107 ?_
                      refine m_put (v := .long fd_28) (ty := .long) hx hb hts hin hown hK hP hD hS 16 (by decide) rfl (hts (.fieldLink RX10 194 "ShadowBenchModel" "bestPicture" "J") (by decide +kernel)) rfl (by decide +kernel) rfl rfl (upd (upd (upd (upd f 11 dp_28) 12 tr_28) 13 sp_28) 17 x3) (vp_updL (vp_updL g 14 fd_28) 16 fd_28) rfl dX10_seek_110 (fun H locs hP hS => ?_)
                      refine lv_iconst (v := 1) hx hb dX10_seek_113 (by decide) ?_
                      refine lv_istore_n (lv' := [(2, .int (1 : Int32)), (4, .int (nI s1)), (3, .int x3), (0, .ref mo), (1, .int j)]) hx hb dX10_seek_114 rfl hl (by decide) rfl (fun ls hl => ?_)
                      refine lv_goto (tgt := 26) hx hb dX10_seek_115 (by decide) ?_
                      exact ih_26 (1 : Int32) dp_28 tr_28 sp_28 fd_28 rw_28 mt_28 x3 fd_28 (by omega) (by omega) (by omega) _ _ hP hS ls (lv_sub hl [0, 3, 4] rfl)
                · skip
                  have d54 := c54
                  rw [fa_le] at d54
                  refine lv_iload_n hx hb dX10_seek_57 rfl (lv_at hl 1 rfl) ?_
                  refine lv_aload_n hx hb dX10_seek_58 rfl (lv_at hl 3 rfl) ?_
                  refine m_get (v := .long fd_28) hx hb hts hin hown hK hP 14 (by decide) rfl (hts (.fieldLink RX10 175 "ShadowBenchModel" "found" "J") (by decide +kernel)) rfl dX10_seek_59 ?_
                  refine lv_iload hx hb dX10_seek_62 (lv_at hl 0 rfl) ?_
                  refine m_pu (As := [.long fd_28, .int (nI s1)]) (rest := [.int x3]) ⟨hx, hb, hml, hown, hts⟩ (c_X10_one l fd_28 (nI s1) ) (va_cwS 2 hts gX10_seek_X10_one rfl rfl rfl (by decide +kernel) ⟨Nat.le_of_ble_eq_true rfl, Nat.le_of_ble_eq_true rfl⟩) hP rfl hl.1 rfl (Nat.le_of_ble_eq_true rfl) dX10_seek_64 ⟨Nat.le_of_ble_eq_true rfl, Nat.le_of_ble_eq_true rfl⟩ hS (fun r64 H locs q64 hP hS => ?_)
                  have i64 : r64.toInt = (r_one fd_28 (nI s1)).toInt := congrArg Int32.toInt q64
                  refine lv_aload_n hx hb dX10_seek_67 rfl (lv_at hl 3 rfl) ?_
                  refine m_get (v := .ref (a 8)) hx hb hts hin hown hK hP 8 (by decide) rfl (hts (.fieldLink RX10 29 "ShadowBenchModel" "weight" "[I") (by decide +kernel)) rfl dX10_seek_68 ?_
                  refine lv_bipush (v := 36) hx hb dX10_seek_71 (by decide) ?_
                  refine lv_iload_n hx hb dX10_seek_73 rfl (lv_at hl 4 rfl) ?_
                  refine lv_imul hx hb dX10_seek_74 ?_
                  refine lv_topi (fun v74 e74 => ?_)
                  have i74 : v74.toInt = 36 * j.toInt := by rw [e74]; exact mulcL rfl (by omega) (by omega)
                  refine lv_iload hx hb dX10_seek_75 (lv_at hl 0 rfl) ?_
                  refine lv_iadd hx hb dX10_seek_77 ?_
                  refine lv_topi (fun v77 e77 => ?_)
                  have i77 : v77.toInt = v74.toInt + (nI s1).toInt := by rw [e77]; exact fb_addI (by omega) (by omega)
                  refine m_iald (w := (r 8)) hx hb hK hP 7 rfl (vp_in_iff.mpr ⟨by omega, by omega⟩) dX10_seek_78 ?_
                  refine lv_topi (fun v78 e78 => ?_)
                  have i78 : v78.toInt = ((r 8) v77.toNatClampNeg).toInt := congrArg Int32.toInt e78
                  refine lv_imul hx hb dX10_seek_79 ?_
                  refine lv_topi (fun v79 e79 => ?_)
                  refine lv_iadd hx hb dX10_seek_80 ?_
                  refine lv_topi (fun v80 e80 => ?_)
                  refine lv_istore_n (lv' := [(3, .int v80), (4, .int (nI s1)), (2, .int x2), (0, .ref mo), (1, .int j)]) hx hb dX10_seek_81 rfl hl (by decide) rfl (fun ls hl => ?_)
                  refine lv_iinc (v := (nI (s1 + 1))) (lv' := [(4, .int (nI (s1 + 1))), (3, .int v80), (2, .int x2), (0, .ref mo), (1, .int j)]) hx hb dX10_seek_82 hl (k := 1) rfl (nI_1 _) (by decide) rfl (fun ls hl => ?_)
                  refine lv_goto (tgt := 39) hx hb dX10_seek_85 (by decide) ?_
                  exact ih_39 (s1 + 1) v80 (by omega) (by omega) _ _ hP hS ls (lv_sub hl [0, 1, 2, 3, 4] rfl)
            exact loop_39 (36 + 1) 0 (0 : Int32) (by omega) (by omega) _ _ hP hS ls (lv_sub hl [0, 1, 2, 3, 4] rfl)
      have hP := wm_eq (ec_f_11_12_13__11_12_13_17 f (0 : Int32) (0 : Int32) (0 : Int32)) (ec_g___14_16 g ) (ec_r_10__10_9 r rw_21) rfl hP
      exact loop_26 (200000 + 1) (0 : Int32) (0 : Int32) (0 : Int32) (0 : Int32) (g 14) rw_21 (r 9) (f 17) (g 16) (by omega) (by omega) (by omega) _ _ hP hS ls (lv_sub hl [0, 1, 2] rfl)
    · skip
      have d15 := c15
      rw [fa_eq] at d15
      refine lv_iconst (v := 1) hx hb dX10_seek_18 (by decide) ?_
      have hP := wm_eq (ec_f___11_12_13_17 f ) (ec_g___14_16 g ) (ec_r___10_9 r ) rfl hP
      exact W.iret (v := (1 : Int32)) hx hb hr (fun t ht hW => ⟨⟨_, ((upd (upd (upd (upd f 11 (f 11)) 12 (f 12)) 13 (f 13)) 17 (f 17)), (vp_updL (vp_updL g 14 (g 14)) 16 (g 16)), (va_up (va_up r 10 (r 10)) 9 (r 9)), q), rfl, ⟨(f 11), (f 12), (f 13), (g 14), (r 10), (r 9), (f 17), (g 16), rfl, by decide⟩, by unfold mB; rw [ht]; exact hP⟩, hS.F ht⟩) hS.2.2 dX10_seek_19
theorem ec_f_11_12_13_17_0__0_11_12_13_17 (f : Nat → Int32) (v11 : Int32) (v12 : Int32) (v13 : Int32) (v17 : Int32) (v0 : Int32) : (upd (upd (upd (upd (upd f 11 v11) 12 v12) 13 v13) 17 v17) 0 v0) = (upd (upd (upd (upd (upd f 0 v0) 11 v11) 12 v12) 13 v13) 17 v17) := by
  funext j9
  simp only [upd]
  (repeat' split) <;> simp_all
set_option maxHeartbeats 4000000 in
set_option maxRecDepth 100000 in
theorem c_X10_best (l : Launch) (D : va_G) (cy : Nat → ClassId) (mo : Nat) (a : Nat → Nat) (f : Nat → Int32) (g : Nat → Int64) (r : Nat → Nat → Int32) (q : Nat → Nat → Int64) (j : Int32) (hD : DM cy mo a) (hI : MI f r) : Mi l D cy mo a yX10_best wsX10_best ({ frames := 6, cells := 0, slots := 0, locals := 150 }) f g r q [.int j] (fun r0 u => ∃ (th : Int32), ∃ (dp : Int32), ∃ (tr : Int32), ∃ (sp : Int32), ∃ (fd : Int64), ∃ (rw : Nat → Int32), ∃ (mt : Nat → Int32), ∃ (bs : Int32), ∃ (bp : Int64), u = ((upd (upd (upd (upd (upd f 0 th) 11 dp) 12 tr) 13 sp) 17 bs), (vp_updL (vp_updL g 14 fd) 16 bp), (va_up (va_up r 10 rw) 9 mt), q) ∧ (True)) := by
  refine Met.ofW (cc := cX10_best) (maxL := 2) (ret := (some .int)) (by decide) rfl ?_
  intro p e s m args below meth c s₁ B hml hv
  obtain ⟨rfl, hP, hK⟩ := hv
  have hx := B.exec
  have hb := B.bytes
  have hr := B.returns
  have hts := atoms_spec (ws := wsX10_best) B.pre
  have hin : ∀ w ∈ u_ws RX10 TX10 35, w ∈ wsX10_best := by decide +kernel
  have hown : s.vm.findClass RX10 = some m.cls := findClass_of_methodNamed B.named
  have hlocks := B.notSynchronized
  have hS : va_S (AM mo a) s.heap s.heap [] := va_S.rf
  have hl := lv_entry ([.ref mo, .int j]) (n := 2) (Nat.le_of_ble_eq_true rfl)
  rw [lg_entry_eq]
  generalize (lg_sl ([.ref mo, .int j]) ++ List.replicate (2 - (lg_sl ([.ref mo, .int j])).length) Slot.unset).toArray = ls at hl ⊢
  have hl : lv_has ls 2 [(0, .ref mo), (1, .int j)] := hl
  have k_0 : (0 : Int32).toInt = 0 := by decide
  have hI1 := hI.1
  refine lv_aload_n hx hb dX10_best_0 rfl (lv_at hl 0 rfl) ?_
  refine lv_aload_n hx hb dX10_best_1 rfl (lv_at hl 0 rfl) ?_
  refine lv_iload_n hx hb dX10_best_2 rfl (lv_at hl 1 rfl) ?_
  refine m_calli (As := [.int j]) (rest := [.ref mo]) ⟨hx, hb, hml, hown, hts⟩ (c_X10_seek l D cy mo a f g r q j hD hI) (cwV 1 hts gX10_best_X10_seek rfl rfl rfl (by decide +kernel) ⟨Nat.le_of_ble_eq_true rfl, Nat.le_of_ble_eq_true rfl⟩) hK hP rfl hl.1 rfl (Nat.le_of_ble_eq_true rfl) dX10_best_3 ⟨Nat.le_of_ble_eq_true rfl, Nat.le_of_ble_eq_true rfl⟩ hS (fun r3 u H locs q3 hP hS => ?_)
  obtain ⟨dp_3, tr_3, sp_3, fd_3, rw_3, mt_3, bs_3, bp_3, rfl, q3⟩ := q3
  have hP : va_P D vwCl (WM cy mo a (upd (upd (upd (upd f 11 dp_3) 12 tr_3) 13 sp_3) 17 bs_3) (vp_updL (vp_updL g 14 fd_3) 16 bp_3) (va_up (va_up r 10 rw_3) 9 mt_3) q) H := hP
  have q3 : 0 ≤ r3.toInt ∧ r3.toInt ≤ 2 := q3
  refine m_put (v := .int r3) (ty := .int) hx hb hts hin hown hK hP hD hS 0 (by decide) rfl (hts (.fieldLink RX10 79 "ShadowBenchModel" "thrown" "I") (by decide +kernel)) rfl (by decide +kernel) rfl rfl (upd (upd (upd (upd (upd f 11 dp_3) 12 tr_3) 13 sp_3) 17 bs_3) 0 r3) (vp_updL (vp_updL g 14 fd_3) 16 bp_3) rfl dX10_best_6 (fun H locs hP hS => ?_)
  refine lv_aload_n hx hb dX10_best_9 rfl (lv_at hl 0 rfl) ?_
  refine m_get (v := .int r3) hx hb hts hin hown hK hP 0 (by decide) rfl (hts (.fieldLink RX10 79 "ShadowBenchModel" "thrown" "I") (by decide +kernel)) rfl dX10_best_10 ?_
  refine lv_if_le (tgt := 20) hx hb dX10_best_13 (by decide) (fun c13 => ?_) (fun c13 => ?_)
  · skip
    have d13 := c13
    rw [fa_le] at d13
    refine lv_aload_n hx hb dX10_best_20 rfl (lv_at hl 0 rfl) ?_
    refine m_get (v := .int bs_3) hx hb hts hin hown hK hP 17 (by decide) rfl (hts (.fieldLink RX10 191 "ShadowBenchModel" "bestSum" "I") (by decide +kernel)) rfl dX10_best_21 ?_
    have hP := wm_eq (ec_f_11_12_13_17_0__0_11_12_13_17 f dp_3 tr_3 sp_3 bs_3 r3) rfl rfl rfl hP
    exact W.iret (v := bs_3) hx hb hr (fun t ht hW => ⟨⟨_, ((upd (upd (upd (upd (upd f 0 r3) 11 dp_3) 12 tr_3) 13 sp_3) 17 bs_3), (vp_updL (vp_updL g 14 fd_3) 16 bp_3), (va_up (va_up r 10 rw_3) 9 mt_3), q), rfl, ⟨r3, dp_3, tr_3, sp_3, fd_3, rw_3, mt_3, bs_3, bp_3, rfl, trivial⟩, by unfold mB; rw [ht]; exact hP⟩, hS.F ht⟩) hS.2.2 dX10_best_24
  · skip
    have d13 := c13
    rw [fa_le] at d13
    refine lv_iconst (v := 0) hx hb dX10_best_16 (by decide) ?_
    refine lv_goto (tgt := 24) hx hb dX10_best_17 (by decide) ?_
    have hP := wm_eq (ec_f_11_12_13_17_0__0_11_12_13_17 f dp_3 tr_3 sp_3 bs_3 r3) rfl rfl rfl hP
    exact W.iret (v := (0 : Int32)) hx hb hr (fun t ht hW => ⟨⟨_, ((upd (upd (upd (upd (upd f 0 r3) 11 dp_3) 12 tr_3) 13 sp_3) 17 bs_3), (vp_updL (vp_updL g 14 fd_3) 16 bp_3), (va_up (va_up r 10 rw_3) 9 mt_3), q), rfl, ⟨r3, dp_3, tr_3, sp_3, fd_3, rw_3, mt_3, bs_3, bp_3, rfl, trivial⟩, by unfold mB; rw [ht]; exact hP⟩, hS.F ht⟩) hS.2.2 dX10_best_24
set_option maxHeartbeats 4000000 in
set_option maxRecDepth 100000 in
theorem c_X10_bestOne (l : Launch) (D : va_G) (cy : Nat → ClassId) (mo : Nat) (a : Nat → Nat) (f : Nat → Int32) (g : Nat → Int64) (r : Nat → Nat → Int32) (q : Nat → Nat → Int64) (j : Int32) (hD : DM cy mo a) (hI : MI f r) : Ml l D cy mo a yX10_bestOne wsX10_bestOne ({ frames := 6, cells := 0, slots := 0, locals := 150 }) f g r q [.int j] (fun r0 u => ∃ (th : Int32), ∃ (dp : Int32), ∃ (tr : Int32), ∃ (sp : Int32), ∃ (fd : Int64), ∃ (rw : Nat → Int32), ∃ (mt : Nat → Int32), ∃ (bs : Int32), ∃ (bp : Int64), u = ((upd (upd (upd (upd (upd f 0 th) 11 dp) 12 tr) 13 sp) 17 bs), (vp_updL (vp_updL g 14 fd) 16 bp), (va_up (va_up r 10 rw) 9 mt), q) ∧ (True)) := by
  refine Met.ofW (cc := cX10_bestOne) (maxL := 2) (ret := (some .long)) (by decide) rfl ?_
  intro p e s m args below meth c s₁ B hml hv
  obtain ⟨rfl, hP, hK⟩ := hv
  have hx := B.exec
  have hb := B.bytes
  have hr := B.returns
  have hts := atoms_spec (ws := wsX10_bestOne) B.pre
  have hin : ∀ w ∈ u_ws RX10 TX10 35, w ∈ wsX10_bestOne := by decide +kernel
  have hown : s.vm.findClass RX10 = some m.cls := findClass_of_methodNamed B.named
  have hlocks := B.notSynchronized
  have hS : va_S (AM mo a) s.heap s.heap [] := va_S.rf
  have hl := lv_entry ([.ref mo, .int j]) (n := 2) (Nat.le_of_ble_eq_true rfl)
  rw [lg_entry_eq]
  generalize (lg_sl ([.ref mo, .int j]) ++ List.replicate (2 - (lg_sl ([.ref mo, .int j])).length) Slot.unset).toArray = ls at hl ⊢
  have hl : lv_has ls 2 [(0, .ref mo), (1, .int j)] := hl
  have k_0 : (0 : Int32).toInt = 0 := by decide
  have k_0L : (0 : Int64).toInt = 0 := by decide
  have hI1 := hI.1
  refine lv_aload_n hx hb dX10_bestOne_0 rfl (lv_at hl 0 rfl) ?_
  refine lv_aload_n hx hb dX10_bestOne_1 rfl (lv_at hl 0 rfl) ?_
  refine lv_iload_n hx hb dX10_bestOne_2 rfl (lv_at hl 1 rfl) ?_
  refine m_calli (As := [.int j]) (rest := [.ref mo]) ⟨hx, hb, hml, hown, hts⟩ (c_X10_seek l D cy mo a f g r q j hD hI) (cwV 1 hts gX10_bestOne_X10_seek rfl rfl rfl (by decide +kernel) ⟨Nat.le_of_ble_eq_true rfl, Nat.le_of_ble_eq_true rfl⟩) hK hP rfl hl.1 rfl (Nat.le_of_ble_eq_true rfl) dX10_bestOne_3 ⟨Nat.le_of_ble_eq_true rfl, Nat.le_of_ble_eq_true rfl⟩ hS (fun r3 u H locs q3 hP hS => ?_)
  obtain ⟨dp_3, tr_3, sp_3, fd_3, rw_3, mt_3, bs_3, bp_3, rfl, q3⟩ := q3
  have hP : va_P D vwCl (WM cy mo a (upd (upd (upd (upd f 11 dp_3) 12 tr_3) 13 sp_3) 17 bs_3) (vp_updL (vp_updL g 14 fd_3) 16 bp_3) (va_up (va_up r 10 rw_3) 9 mt_3) q) H := hP
  have q3 : 0 ≤ r3.toInt ∧ r3.toInt ≤ 2 := q3
  refine m_put (v := .int r3) (ty := .int) hx hb hts hin hown hK hP hD hS 0 (by decide) rfl (hts (.fieldLink RX10 79 "ShadowBenchModel" "thrown" "I") (by decide +kernel)) rfl (by decide +kernel) rfl rfl (upd (upd (upd (upd (upd f 11 dp_3) 12 tr_3) 13 sp_3) 17 bs_3) 0 r3) (vp_updL (vp_updL g 14 fd_3) 16 bp_3) rfl dX10_bestOne_6 (fun H locs hP hS => ?_)
  refine lv_aload_n hx hb dX10_bestOne_9 rfl (lv_at hl 0 rfl) ?_
  refine m_get (v := .int r3) hx hb hts hin hown hK hP 0 (by decide) rfl (hts (.fieldLink RX10 79 "ShadowBenchModel" "thrown" "I") (by decide +kernel)) rfl dX10_bestOne_10 ?_
  refine lv_if_le (tgt := 20) hx hb dX10_bestOne_13 (by decide) (fun c13 => ?_) (fun c13 => ?_)
  · skip
    have d13 := c13
    rw [fa_le] at d13
    refine lv_aload_n hx hb dX10_bestOne_20 rfl (lv_at hl 0 rfl) ?_
    refine m_get (v := .long bp_3) hx hb hts hin hown hK hP 16 (by decide) rfl (hts (.fieldLink RX10 194 "ShadowBenchModel" "bestPicture" "J") (by decide +kernel)) rfl dX10_bestOne_21 ?_
    have hP := wm_eq (ec_f_11_12_13_17_0__0_11_12_13_17 f dp_3 tr_3 sp_3 bs_3 r3) rfl rfl rfl hP
    exact W.lret (v := bp_3) hx hb hr (fun t ht hW => ⟨⟨_, ((upd (upd (upd (upd (upd f 0 r3) 11 dp_3) 12 tr_3) 13 sp_3) 17 bs_3), (vp_updL (vp_updL g 14 fd_3) 16 bp_3), (va_up (va_up r 10 rw_3) 9 mt_3), q), rfl, ⟨r3, dp_3, tr_3, sp_3, fd_3, rw_3, mt_3, bs_3, bp_3, rfl, trivial⟩, by unfold mB; rw [ht]; exact hP⟩, hS.F ht⟩) hS.2.2 dX10_bestOne_24
  · skip
    have d13 := c13
    rw [fa_le] at d13
    refine lv_lconst (v := 0) hx hb dX10_bestOne_16 (by decide) ?_
    refine lv_goto (tgt := 24) hx hb dX10_bestOne_17 (by decide) ?_
    have hP := wm_eq (ec_f_11_12_13_17_0__0_11_12_13_17 f dp_3 tr_3 sp_3 bs_3 r3) rfl rfl rfl hP
    exact W.lret (v := (0 : Int64)) hx hb hr (fun t ht hW => ⟨⟨_, ((upd (upd (upd (upd (upd f 0 r3) 11 dp_3) 12 tr_3) 13 sp_3) 17 bs_3), (vp_updL (vp_updL g 14 fd_3) 16 bp_3), (va_up (va_up r 10 rw_3) 9 mt_3), q), rfl, ⟨r3, dp_3, tr_3, sp_3, fd_3, rw_3, mt_3, bs_3, bp_3, rfl, trivial⟩, by unfold mB; rw [ht]; exact hP⟩, hS.F ht⟩) hS.2.2 dX10_bestOne_24
theorem ec_g___18 (f : Nat → Int64)  : f = (vp_updL f 18 (f 18)) := by
  funext j9
  simp only [vp_updL]
  (repeat' split) <;> simp_all
set_option maxHeartbeats 4000000 in
set_option maxRecDepth 100000 in
theorem c_X10_goSwitches (l : Launch) (D : va_G) (cy : Nat → ClassId) (mo : Nat) (a : Nat → Nat) (f : Nat → Int32) (g : Nat → Int64) (r : Nat → Nat → Int32) (q : Nat → Nat → Int64) (w : Int32) (h : Int32) (p0 : Int64) (at : Int32) (hD : DM cy mo a) (hw : 1 ≤ w.toInt ∧ w.toInt ≤ 6) (hh : 1 ≤ h.toInt ∧ h.toInt ≤ 6) : Mi l D cy mo a yX10_goSwitches wsX10_goSwitches ({ frames := 1, cells := 0, slots := 0, locals := 22 }) f g r q [.int w, .int h, .long p0, .int at] (fun r0 u => ∃ (bh : Int64), u = (f, (vp_updL g 18 bh), r, q) ∧ (True)) := by
  refine Met.ofW (cc := cX10_goSwitches) (maxL := 15) (ret := (some .int)) (by decide) rfl ?_
  intro p e s m args below meth c s₁ B hml hv
  obtain ⟨rfl, hP, hK⟩ := hv
  have hx := B.exec
  have hb := B.bytes
  have hr := B.returns
  have hts := atoms_spec (ws := wsX10_goSwitches) B.pre
  have hin : ∀ w ∈ u_ws RX10 TX10 35, w ∈ wsX10_goSwitches := by decide +kernel
  have hown : s.vm.findClass RX10 = some m.cls := findClass_of_methodNamed B.named
  have hlocks := B.notSynchronized
  have hS : va_S (AM mo a) s.heap s.heap [] := va_S.rf
  have hl := lv_entry ([.ref mo, .int w, .int h, .long p0, .int at]) (n := 15) (Nat.le_of_ble_eq_true rfl)
  rw [lg_entry_eq]
  generalize (lg_sl ([.ref mo, .int w, .int h, .long p0, .int at]) ++ List.replicate (15 - (lg_sl ([.ref mo, .int w, .int h, .long p0, .int at])).length) Slot.unset).toArray = ls at hl ⊢
  have hl : lv_has ls 15 [(0, .ref mo), (1, .int w), (2, .int h), (3, .long p0), (5, .int at)] := hl
  have k_0 : (0 : Int32).toInt = 0 := by decide
  have k_1 : (1 : Int32).toInt = 1 := by decide
  have k_1L : (1 : Int64).toInt = 1 := by decide
  refine lv_iconst (v := 0) hx hb dX10_goSwitches_0 (by decide) ?_
  refine lv_istore (lv' := [(6, .int (0 : Int32)), (0, .ref mo), (1, .int w), (2, .int h), (3, .long p0), (5, .int at)]) hx hb dX10_goSwitches_1 hl (by decide) rfl (fun ls hl => ?_)
  refine lv_iconst (v := 0) hx hb dX10_goSwitches_3 (by decide) ?_
  refine lv_istore (lv' := [(7, .int (0 : Int32)), (6, .int (0 : Int32)), (0, .ref mo), (1, .int w), (2, .int h), (3, .long p0), (5, .int at)]) hx hb dX10_goSwitches_4 hl (by decide) rfl (fun ls hl => ?_)
  have loop_6 : ∀ (n : Nat) (k : Nat) (x6 : Int32) (bh1 : Int64), (k ≤ 6) → 6 - k < n → ∀ (H : Heap) (locs : List Loc), va_P D vwCl (WM cy mo a f (vp_updL g 18 bh1) r q) H → va_S (AM mo a) s.heap H locs → ∀ (ls : Array Slot), lv_has ls 15 [(7, .int (nI k)), (6, .int x6), (0, .ref mo), (1, .int w), (2, .int h), (3, .long p0), (5, .int at)] → W p l e (headSpec wsX10_goSwitches ({ frames := 1, cells := 0, slots := 0, locals := 22 })).room s m #[Value.ref mo, Value.int w, Value.int h, Value.long p0, Value.int at] below meth c H locs 0 0 (MQ below (va_Qi (fun r0 u => ∃ (bh : Int64), u = (f, (vp_updL g 18 bh), r, q) ∧ (True)) (mB D cy mo a) (AM mo a)) #[Value.ref mo, Value.int w, Value.int h, Value.long p0, Value.int at] s 0 0 (AM mo a)) (F0 m 6 ls []) := by
    intro n
    induction n with
    | zero => intro k x6 bh1 j6_0 hn; exact absurd hn (Nat.not_lt_zero _)
    | succ n ih_6 =>
      intro k x6 bh1 j6_0 hn_6 H locs hP hS ls hl
      have ik : (nI k).toInt = (k : Int) := nI_toInt (by omega)
      refine lv_iload hx hb dX10_goSwitches_6 (lv_at hl 0 rfl) ?_
      refine lv_iload_n hx hb dX10_goSwitches_8 rfl (lv_at hl 4 rfl) ?_
      refine lv_icmp_ge (tgt := 204) hx hb dX10_goSwitches_9 (by decide) (fun c9 => ?_) (fun c9 => ?_)
      · skip
        have d9 := c9
        rw [fa_le] at d9
        refine lv_iload hx hb dX10_goSwitches_204 (lv_at hl 1 rfl) ?_
        exact W.iret (v := x6) hx hb hr (fun t ht hW => ⟨⟨_, (f, (vp_updL g 18 bh1), r, q), rfl, ⟨bh1, rfl, trivial⟩, by unfold mB; rw [ht]; exact hP⟩, hS.F ht⟩) hS.2.2 dX10_goSwitches_206
      · skip
        have d9 := c9
        rw [fa_le] at d9
        refine lv_iload hx hb dX10_goSwitches_12 (lv_at hl 0 rfl) ?_
        refine lv_iconst (v := 1) hx hb dX10_goSwitches_14 (by decide) ?_
        refine lv_iadd hx hb dX10_goSwitches_15 ?_
        refine lv_topi (fun v15 e15 => ?_)
        obtain rfl : v15 = nI (k + 1) := e15.trans (nI_1 _)
        refine lv_istore (lv' := [(8, .int (nI (k + 1))), (7, .int (nI k)), (6, .int x6), (0, .ref mo), (1, .int w), (2, .int h), (3, .long p0), (5, .int at)]) hx hb dX10_goSwitches_16 hl (by decide) rfl (fun ls hl => ?_)
        have loop_18 : ∀ (n : Nat) (k2 : Nat) (y6 : Int32) (bh2 : Int64), (k2 ≤ 6) → 6 - k2 < n → ∀ (H : Heap) (locs : List Loc), va_P D vwCl (WM cy mo a f (vp_updL g 18 bh2) r q) H → va_S (AM mo a) s.heap H locs → ∀ (ls : Array Slot), lv_has ls 15 [(8, .int (nI k2)), (7, .int (nI k)), (6, .int y6), (0, .ref mo), (1, .int w), (2, .int h), (3, .long p0), (5, .int at)] → W p l e (headSpec wsX10_goSwitches ({ frames := 1, cells := 0, slots := 0, locals := 22 })).room s m #[Value.ref mo, Value.int w, Value.int h, Value.long p0, Value.int at] below meth c H locs 0 0 (MQ below (va_Qi (fun r0 u => ∃ (bh : Int64), u = (f, (vp_updL g 18 bh), r, q) ∧ (True)) (mB D cy mo a) (AM mo a)) #[Value.ref mo, Value.int w, Value.int h, Value.long p0, Value.int at] s 0 0 (AM mo a)) (F0 m 18 ls []) := by
          intro n
          induction n with
          | zero => intro k2 y6 bh2 j18_0 hn; exact absurd hn (Nat.not_lt_zero _)
          | succ n ih_18 =>
            intro k2 y6 bh2 j18_0 hn_18 H locs hP hS ls hl
            have ik2 : (nI k2).toInt = (k2 : Int) := nI_toInt (by omega)
            refine lv_iload hx hb dX10_goSwitches_18 (lv_at hl 0 rfl) ?_
            refine lv_iload_n hx hb dX10_goSwitches_20 rfl (lv_at hl 5 rfl) ?_
            refine lv_icmp_ge (tgt := 198) hx hb dX10_goSwitches_21 (by decide) (fun c21 => ?_) (fun c21 => ?_)
            · skip
              have d21 := c21
              rw [fa_le] at d21
              refine lv_iinc (v := (nI (k + 1))) (lv' := [(7, .int (nI (k + 1))), (8, .int (nI k2)), (6, .int y6), (0, .ref mo), (1, .int w), (2, .int h), (3, .long p0), (5, .int at)]) hx hb dX10_goSwitches_198 hl (k := 1) rfl (nI_1 _) (by decide) rfl (fun ls hl => ?_)
              refine lv_goto (tgt := 6) hx hb dX10_goSwitches_201 (by decide) ?_
              exact ih_6 (k + 1) y6 bh2 (by omega) (by omega) _ _ hP hS ls (lv_sub hl [0, 2, 3, 4, 5, 6, 7] rfl)
            · skip
              have d21 := c21
              rw [fa_le] at d21
              refine lv_iconst (v := 0) hx hb dX10_goSwitches_24 (by decide) ?_
              refine lv_istore (lv' := [(9, .int (0 : Int32)), (8, .int (nI k2)), (7, .int (nI k)), (6, .int y6), (0, .ref mo), (1, .int w), (2, .int h), (3, .long p0), (5, .int at)]) hx hb dX10_goSwitches_25 hl (by decide) rfl (fun ls hl => ?_)
              have loop_27 : ∀ (n : Nat) (k3 : Nat) (z6 : Int32) (bh3 : Int64), (k3 ≤ 6) → 6 - k3 < n → ∀ (H : Heap) (locs : List Loc), va_P D vwCl (WM cy mo a f (vp_updL g 18 bh3) r q) H → va_S (AM mo a) s.heap H locs → ∀ (ls : Array Slot), lv_has ls 15 [(9, .int (nI k3)), (8, .int (nI k2)), (7, .int (nI k)), (6, .int z6), (0, .ref mo), (1, .int w), (2, .int h), (3, .long p0), (5, .int at)] → W p l e (headSpec wsX10_goSwitches ({ frames := 1, cells := 0, slots := 0, locals := 22 })).room s m #[Value.ref mo, Value.int w, Value.int h, Value.long p0, Value.int at] below meth c H locs 0 0 (MQ below (va_Qi (fun r0 u => ∃ (bh : Int64), u = (f, (vp_updL g 18 bh), r, q) ∧ (True)) (mB D cy mo a) (AM mo a)) #[Value.ref mo, Value.int w, Value.int h, Value.long p0, Value.int at] s 0 0 (AM mo a)) (F0 m 27 ls []) := by
                intro n
                induction n with
                | zero => intro k3 z6 bh3 j27_0 hn; exact absurd hn (Nat.not_lt_zero _)
                | succ n ih_27 =>
                  intro k3 z6 bh3 j27_0 hn_27 H locs hP hS ls hl
                  have ik3 : (nI k3).toInt = (k3 : Int) := nI_toInt (by omega)
                  refine lv_iload hx hb dX10_goSwitches_27 (lv_at hl 0 rfl) ?_
                  refine lv_iload_n hx hb dX10_goSwitches_29 rfl (lv_at hl 5 rfl) ?_
                  refine lv_icmp_ge (tgt := 192) hx hb dX10_goSwitches_30 (by decide) (fun c30 => ?_) (fun c30 => ?_)
                  · skip
                    have d30 := c30
                    rw [fa_le] at d30
                    refine lv_iinc (v := (nI (k2 + 1))) (lv' := [(8, .int (nI (k2 + 1))), (9, .int (nI k3)), (7, .int (nI k)), (6, .int z6), (0, .ref mo), (1, .int w), (2, .int h), (3, .long p0), (5, .int at)]) hx hb dX10_goSwitches_192 hl (k := 1) rfl (nI_1 _) (by decide) rfl (fun ls hl => ?_)
                    refine lv_goto (tgt := 18) hx hb dX10_goSwitches_195 (by decide) ?_
                    exact ih_18 (k2 + 1) z6 bh3 (by omega) (by omega) _ _ hP hS ls (lv_sub hl [0, 2, 3, 4, 5, 6, 7, 8] rfl)
                  · skip
                    have d30 := c30
                    rw [fa_le] at d30
                    refine lv_iload hx hb dX10_goSwitches_33 (lv_at hl 0 rfl) ?_
                    refine lv_iconst (v := 1) hx hb dX10_goSwitches_35 (by decide) ?_
                    refine lv_iadd hx hb dX10_goSwitches_36 ?_
                    refine lv_topi (fun v36 e36 => ?_)
                    obtain rfl : v36 = nI (k3 + 1) := e36.trans (nI_1 _)
                    refine lv_istore (lv' := [(10, .int (nI (k3 + 1))), (9, .int (nI k3)), (8, .int (nI k2)), (7, .int (nI k)), (6, .int z6), (0, .ref mo), (1, .int w), (2, .int h), (3, .long p0), (5, .int at)]) hx hb dX10_goSwitches_37 hl (by decide) rfl (fun ls hl => ?_)
                    have loop_39 : ∀ (n : Nat) (k4 : Nat) (u6 : Int32) (bh4 : Int64), (k4 ≤ 6) → 6 - k4 < n → ∀ (H : Heap) (locs : List Loc), va_P D vwCl (WM cy mo a f (vp_updL g 18 bh4) r q) H → va_S (AM mo a) s.heap H locs → ∀ (ls : Array Slot), lv_has ls 15 [(10, .int (nI k4)), (9, .int (nI k3)), (8, .int (nI k2)), (7, .int (nI k)), (6, .int u6), (0, .ref mo), (1, .int w), (2, .int h), (3, .long p0), (5, .int at)] → W p l e (headSpec wsX10_goSwitches ({ frames := 1, cells := 0, slots := 0, locals := 22 })).room s m #[Value.ref mo, Value.int w, Value.int h, Value.long p0, Value.int at] below meth c H locs 0 0 (MQ below (va_Qi (fun r0 u => ∃ (bh : Int64), u = (f, (vp_updL g 18 bh), r, q) ∧ (True)) (mB D cy mo a) (AM mo a)) #[Value.ref mo, Value.int w, Value.int h, Value.long p0, Value.int at] s 0 0 (AM mo a)) (F0 m 39 ls []) := by
                      intro n
                      induction n with
                      | zero => intro k4 u6 bh4 j39_0 hn; exact absurd hn (Nat.not_lt_zero _)
                      | succ n ih_39 =>
                        intro k4 u6 bh4 j39_0 hn_39 H locs hP hS ls hl
                        have ik4 : (nI k4).toInt = (k4 : Int) := nI_toInt (by omega)
                        refine lv_iload hx hb dX10_goSwitches_39 (lv_at hl 0 rfl) ?_
                        refine lv_iload_n hx hb dX10_goSwitches_41 rfl (lv_at hl 6 rfl) ?_
                        refine lv_icmp_ge (tgt := 186) hx hb dX10_goSwitches_42 (by decide) (fun c42 => ?_) (fun c42 => ?_)
                        · skip
                          have d42 := c42
                          rw [fa_le] at d42
                          refine lv_iinc (v := (nI (k3 + 1))) (lv' := [(9, .int (nI (k3 + 1))), (10, .int (nI k4)), (8, .int (nI k2)), (7, .int (nI k)), (6, .int u6), (0, .ref mo), (1, .int w), (2, .int h), (3, .long p0), (5, .int at)]) hx hb dX10_goSwitches_186 hl (k := 1) rfl (nI_1 _) (by decide) rfl (fun ls hl => ?_)
                          refine lv_goto (tgt := 27) hx hb dX10_goSwitches_189 (by decide) ?_
                          exact ih_27 (k3 + 1) u6 bh4 (by omega) (by omega) _ _ hP hS ls (lv_sub hl [0, 2, 3, 4, 5, 6, 7, 8, 9] rfl)
                        · skip
                          have d42 := c42
                          rw [fa_le] at d42
                          refine lv_lload_n hx hb dX10_goSwitches_45 rfl (lv_at hl 8 rfl) ?_
                          refine lv_iload hx hb dX10_goSwitches_46 (lv_at hl 3 rfl) ?_
                          refine lv_iload_n hx hb dX10_goSwitches_48 rfl (lv_at hl 6 rfl) ?_
                          refine lv_imul hx hb dX10_goSwitches_49 ?_
                          refine lv_topi (fun v49 e49 => ?_)
                          refine lv_iload hx hb dX10_goSwitches_50 (lv_at hl 1 rfl) ?_
                          refine lv_iadd hx hb dX10_goSwitches_52 ?_
                          refine lv_topi (fun v52 e52 => ?_)
                          refine m_pu (As := [.long p0, .int v52]) (rest := []) ⟨hx, hb, hml, hown, hts⟩ (c_X10_one l p0 v52 ) (va_cwS 2 hts gX10_goSwitches_X10_one rfl rfl rfl (by decide +kernel) ⟨Nat.le_of_ble_eq_true rfl, Nat.le_of_ble_eq_true rfl⟩) hP rfl hl.1 rfl (Nat.le_of_ble_eq_true rfl) dX10_goSwitches_53 ⟨Nat.le_of_ble_eq_true rfl, Nat.le_of_ble_eq_true rfl⟩ hS (fun r53 H locs q53 hP hS => ?_)
                          have i53 : r53.toInt = (r_one p0 v52).toInt := congrArg Int32.toInt q53
                          refine lv_istore (lv' := [(11, .int r53), (10, .int (nI k4)), (9, .int (nI k3)), (8, .int (nI k2)), (7, .int (nI k)), (6, .int u6), (0, .ref mo), (1, .int w), (2, .int h), (3, .long p0), (5, .int at)]) hx hb dX10_goSwitches_56 hl (by decide) rfl (fun ls hl => ?_)
                          refine lv_lload_n hx hb dX10_goSwitches_58 rfl (lv_at hl 9 rfl) ?_
                          refine lv_iload hx hb dX10_goSwitches_59 (lv_at hl 3 rfl) ?_
                          refine lv_iload_n hx hb dX10_goSwitches_61 rfl (lv_at hl 7 rfl) ?_
                          refine lv_imul hx hb dX10_goSwitches_62 ?_
                          refine lv_topi (fun v62 e62 => ?_)
                          refine lv_iload hx hb dX10_goSwitches_63 (lv_at hl 1 rfl) ?_
                          refine lv_iadd hx hb dX10_goSwitches_65 ?_
                          refine lv_topi (fun v65 e65 => ?_)
                          refine m_pu (As := [.long p0, .int v65]) (rest := []) ⟨hx, hb, hml, hown, hts⟩ (c_X10_one l p0 v65 ) (va_cwS 2 hts gX10_goSwitches_X10_one rfl rfl rfl (by decide +kernel) ⟨Nat.le_of_ble_eq_true rfl, Nat.le_of_ble_eq_true rfl⟩) hP rfl hl.1 rfl (Nat.le_of_ble_eq_true rfl) dX10_goSwitches_66 ⟨Nat.le_of_ble_eq_true rfl, Nat.le_of_ble_eq_true rfl⟩ hS (fun r66 H locs q66 hP hS => ?_)
                          have i66 : r66.toInt = (r_one p0 v65).toInt := congrArg Int32.toInt q66
                          refine lv_istore (lv' := [(12, .int r66), (11, .int r53), (10, .int (nI k4)), (9, .int (nI k3)), (8, .int (nI k2)), (7, .int (nI k)), (6, .int u6), (0, .ref mo), (1, .int w), (2, .int h), (3, .long p0), (5, .int at)]) hx hb dX10_goSwitches_69 hl (by decide) rfl (fun ls hl => ?_)
                          refine lv_lload_n hx hb dX10_goSwitches_71 rfl (lv_at hl 10 rfl) ?_
                          refine lv_iload hx hb dX10_goSwitches_72 (lv_at hl 5 rfl) ?_
                          refine lv_iload_n hx hb dX10_goSwitches_74 rfl (lv_at hl 8 rfl) ?_
                          refine lv_imul hx hb dX10_goSwitches_75 ?_
                          refine lv_topi (fun v75 e75 => ?_)
                          refine lv_iload hx hb dX10_goSwitches_76 (lv_at hl 2 rfl) ?_
                          refine lv_iadd hx hb dX10_goSwitches_78 ?_
                          refine lv_topi (fun v78 e78 => ?_)
                          refine m_pu (As := [.long p0, .int v78]) (rest := []) ⟨hx, hb, hml, hown, hts⟩ (c_X10_one l p0 v78 ) (va_cwS 2 hts gX10_goSwitches_X10_one rfl rfl rfl (by decide +kernel) ⟨Nat.le_of_ble_eq_true rfl, Nat.le_of_ble_eq_true rfl⟩) hP rfl hl.1 rfl (Nat.le_of_ble_eq_true rfl) dX10_goSwitches_79 ⟨Nat.le_of_ble_eq_true rfl, Nat.le_of_ble_eq_true rfl⟩ hS (fun r79 H locs q79 hP hS => ?_)
                          have i79 : r79.toInt = (r_one p0 v78).toInt := congrArg Int32.toInt q79
                          refine lv_istore (lv' := [(13, .int r79), (12, .int r66), (11, .int r53), (10, .int (nI k4)), (9, .int (nI k3)), (8, .int (nI k2)), (7, .int (nI k)), (6, .int u6), (0, .ref mo), (1, .int w), (2, .int h), (3, .long p0), (5, .int at)]) hx hb dX10_goSwitches_82 hl (by decide) rfl (fun ls hl => ?_)
                          refine lv_lload_n hx hb dX10_goSwitches_84 rfl (lv_at hl 11 rfl) ?_
                          refine lv_iload hx hb dX10_goSwitches_85 (lv_at hl 5 rfl) ?_
                          refine lv_iload_n hx hb dX10_goSwitches_87 rfl (lv_at hl 9 rfl) ?_
                          refine lv_imul hx hb dX10_goSwitches_88 ?_
                          refine lv_topi (fun v88 e88 => ?_)
                          refine lv_iload hx hb dX10_goSwitches_89 (lv_at hl 4 rfl) ?_
                          refine lv_iadd hx hb dX10_goSwitches_91 ?_
                          refine lv_topi (fun v91 e91 => ?_)
                          refine m_pu (As := [.long p0, .int v91]) (rest := []) ⟨hx, hb, hml, hown, hts⟩ (c_X10_one l p0 v91 ) (va_cwS 2 hts gX10_goSwitches_X10_one rfl rfl rfl (by decide +kernel) ⟨Nat.le_of_ble_eq_true rfl, Nat.le_of_ble_eq_true rfl⟩) hP rfl hl.1 rfl (Nat.le_of_ble_eq_true rfl) dX10_goSwitches_92 ⟨Nat.le_of_ble_eq_true rfl, Nat.le_of_ble_eq_true rfl⟩ hS (fun r92 H locs q92 hP hS => ?_)
                          have i92 : r92.toInt = (r_one p0 v91).toInt := congrArg Int32.toInt q92
                          refine lv_istore (lv' := [(14, .int r92), (13, .int r79), (12, .int r66), (11, .int r53), (10, .int (nI k4)), (9, .int (nI k3)), (8, .int (nI k2)), (7, .int (nI k)), (6, .int u6), (0, .ref mo), (1, .int w), (2, .int h), (3, .long p0), (5, .int at)]) hx hb dX10_goSwitches_95 hl (by decide) rfl (fun ls hl => ?_)
                          refine lv_iload hx hb dX10_goSwitches_97 (lv_at hl 3 rfl) ?_
                          refine lv_iload hx hb dX10_goSwitches_99 (lv_at hl 2 rfl) ?_
                          refine lv_icmp_ne (tgt := 180) hx hb dX10_goSwitches_101 (by decide) (fun c101 => ?_) (fun c101 => ?_)
                          · skip
                            have d101 := c101
                            rw [fa_eq] at d101
                            refine lv_iinc (v := (nI (k4 + 1))) (lv' := [(10, .int (nI (k4 + 1))), (14, .int r92), (13, .int r79), (12, .int r66), (11, .int r53), (9, .int (nI k3)), (8, .int (nI k2)), (7, .int (nI k)), (6, .int u6), (0, .ref mo), (1, .int w), (2, .int h), (3, .long p0), (5, .int at)]) hx hb dX10_goSwitches_180 hl (k := 4) rfl (nI_1 _) (by decide) rfl (fun ls hl => ?_)
                            refine lv_goto (tgt := 39) hx hb dX10_goSwitches_183 (by decide) ?_
                            exact ih_39 (k4 + 1) u6 bh4 (by omega) (by omega) _ _ hP hS ls (lv_sub hl [0, 5, 6, 7, 8, 9, 10, 11, 12, 13] rfl)
                          · skip
                            have d101 := c101
                            rw [fa_eq] at d101
                            refine lv_iload hx hb dX10_goSwitches_104 (lv_at hl 1 rfl) ?_
                            refine lv_iload hx hb dX10_goSwitches_106 (lv_at hl 0 rfl) ?_
                            refine lv_icmp_ne (tgt := 180) hx hb dX10_goSwitches_108 (by decide) (fun c108 => ?_) (fun c108 => ?_)
                            · skip
                              have d108 := c108
                              rw [fa_eq] at d108
                              refine lv_iinc (v := (nI (k4 + 1))) (lv' := [(10, .int (nI (k4 + 1))), (14, .int r92), (13, .int r79), (12, .int r66), (11, .int r53), (9, .int (nI k3)), (8, .int (nI k2)), (7, .int (nI k)), (6, .int u6), (0, .ref mo), (1, .int w), (2, .int h), (3, .long p0), (5, .int at)]) hx hb dX10_goSwitches_180 hl (k := 4) rfl (nI_1 _) (by decide) rfl (fun ls hl => ?_)
                              refine lv_goto (tgt := 39) hx hb dX10_goSwitches_183 (by decide) ?_
                              exact ih_39 (k4 + 1) u6 bh4 (by omega) (by omega) _ _ hP hS ls (lv_sub hl [0, 5, 6, 7, 8, 9, 10, 11, 12, 13] rfl)
                            · skip
                              have d108 := c108
                              rw [fa_eq] at d108
                              refine lv_iload hx hb dX10_goSwitches_111 (lv_at hl 3 rfl) ?_
                              refine lv_iload hx hb dX10_goSwitches_113 (lv_at hl 1 rfl) ?_
                              refine lv_icmp_eq (tgt := 180) hx hb dX10_goSwitches_115 (by decide) (fun c115 => ?_) (fun c115 => ?_)
                              · skip
                                have d115 := c115
                                rw [fa_eq] at d115
                                refine lv_iinc (v := (nI (k4 + 1))) (lv' := [(10, .int (nI (k4 + 1))), (14, .int r92), (13, .int r79), (12, .int r66), (11, .int r53), (9, .int (nI k3)), (8, .int (nI k2)), (7, .int (nI k)), (6, .int u6), (0, .ref mo), (1, .int w), (2, .int h), (3, .long p0), (5, .int at)]) hx hb dX10_goSwitches_180 hl (k := 4) rfl (nI_1 _) (by decide) rfl (fun ls hl => ?_)
                                refine lv_goto (tgt := 39) hx hb dX10_goSwitches_183 (by decide) ?_
                                exact ih_39 (k4 + 1) u6 bh4 (by omega) (by omega) _ _ hP hS ls (lv_sub hl [0, 5, 6, 7, 8, 9, 10, 11, 12, 13] rfl)
                              · skip
                                have d115 := c115
                                rw [fa_eq] at d115
                                refine lv_aload_n hx hb dX10_goSwitches_118 rfl (lv_at hl 9 rfl) ?_
                                refine lv_iload hx hb dX10_goSwitches_119 (lv_at hl 8 rfl) ?_
                                refine lv_iload hx hb dX10_goSwitches_121 (lv_at hl 13 rfl) ?_
                                refine lv_icmp_ne (tgt := 170) hx hb dX10_goSwitches_123 (by decide) (fun c123 => ?_) (fun c123 => ?_)
                                · skip
                                  have d123 := c123
                                  rw [fa_eq] at d123
                                  refine lv_aload_n hx hb dX10_goSwitches_170 rfl (lv_at hl 9 rfl) ?_
                                  refine m_get (v := .long bh4) hx hb hts hin hown hK hP 18 (by decide) rfl (hts (.fieldLink RX10 201 "ShadowBenchModel" "behind" "J") (by decide +kernel)) rfl dX10_goSwitches_171 ?_
                                  refine m_put (v := .long bh4) (ty := .long) hx hb hts hin hown hK hP hD hS 18 (by decide) rfl (hts (.fieldLink RX10 201 "ShadowBenchModel" "behind" "J") (by decide +kernel)) rfl (by decide +kernel) rfl rfl f (vp_updL g 18 bh4) rfl dX10_goSwitches_174 (fun H locs hP hS => ?_)
                                  obtain ⟨v177, e177⟩ : ∃ y : Int32, y = u6 + 1 := ⟨_, rfl⟩
                                  refine lv_iinc (v := v177) (lv' := [(6, .int v177), (14, .int r92), (13, .int r79), (12, .int r66), (11, .int r53), (10, .int (nI k4)), (9, .int (nI k3)), (8, .int (nI k2)), (7, .int (nI k)), (0, .ref mo), (1, .int w), (2, .int h), (3, .long p0), (5, .int at)]) hx hb dX10_goSwitches_177 hl (k := 8) rfl (by rw [e177]; rfl) (by decide) rfl (fun ls hl => ?_)
                                  refine lv_iinc (v := (nI (k4 + 1))) (lv' := [(10, .int (nI (k4 + 1))), (6, .int v177), (14, .int r92), (13, .int r79), (12, .int r66), (11, .int r53), (9, .int (nI k3)), (8, .int (nI k2)), (7, .int (nI k)), (0, .ref mo), (1, .int w), (2, .int h), (3, .long p0), (5, .int at)]) hx hb dX10_goSwitches_180 hl (k := 5) rfl (nI_1 _) (by decide) rfl (fun ls hl => ?_)
                                  refine lv_goto (tgt := 39) hx hb dX10_goSwitches_183 (by decide) ?_
                                  exact ih_39 (k4 + 1) v177 bh4 (by omega) (by omega) _ _ hP hS ls (lv_sub hl [0, 6, 7, 8, 1, 9, 10, 11, 12, 13] rfl)
                                · skip
                                  have d123 := c123
                                  rw [fa_eq] at d123
                                  refine lv_lload_n hx hb dX10_goSwitches_126 rfl (lv_at hl 12 rfl) ?_
                                  refine lv_lconst (v := 1) hx hb dX10_goSwitches_127 (by decide) ?_
                                  refine lv_iload hx hb dX10_goSwitches_128 (lv_at hl 7 rfl) ?_
                                  refine lv_iload_n hx hb dX10_goSwitches_130 rfl (lv_at hl 10 rfl) ?_
                                  refine lv_imul hx hb dX10_goSwitches_131 ?_
                                  refine lv_topi (fun v131 e131 => ?_)
                                  refine lv_iload hx hb dX10_goSwitches_132 (lv_at hl 5 rfl) ?_
                                  refine lv_iadd hx hb dX10_goSwitches_134 ?_
                                  refine lv_topi (fun v134 e134 => ?_)
                                  refine lv_lshl (v := (1 : Int64) <<< (v134.toInt64 &&& 63)) hx hb dX10_goSwitches_135 rfl ?_
                                  refine lv_lxor hx hb dX10_goSwitches_136 ?_
                                  refine lv_topl (fun v136 e136 => ?_)
                                  refine lv_lconst (v := 1) hx hb dX10_goSwitches_137 (by decide) ?_
                                  refine lv_iload hx hb dX10_goSwitches_138 (lv_at hl 6 rfl) ?_
                                  refine lv_iload_n hx hb dX10_goSwitches_140 rfl (lv_at hl 10 rfl) ?_
                                  refine lv_imul hx hb dX10_goSwitches_141 ?_
                                  refine lv_topi (fun v141 e141 => ?_)
                                  refine lv_iload hx hb dX10_goSwitches_142 (lv_at hl 4 rfl) ?_
                                  refine lv_iadd hx hb dX10_goSwitches_144 ?_
                                  refine lv_topi (fun v144 e144 => ?_)
                                  refine lv_lshl (v := (1 : Int64) <<< (v144.toInt64 &&& 63)) hx hb dX10_goSwitches_145 rfl ?_
                                  refine lv_lxor hx hb dX10_goSwitches_146 ?_
                                  refine lv_topl (fun v146 e146 => ?_)
                                  refine lv_lconst (v := 1) hx hb dX10_goSwitches_147 (by decide) ?_
                                  refine lv_iload hx hb dX10_goSwitches_148 (lv_at hl 7 rfl) ?_
                                  refine lv_iload_n hx hb dX10_goSwitches_150 rfl (lv_at hl 10 rfl) ?_
                                  refine lv_imul hx hb dX10_goSwitches_151 ?_
                                  refine lv_topi (fun v151 e151 => ?_)
                                  refine lv_iload hx hb dX10_goSwitches_152 (lv_at hl 4 rfl) ?_
                                  refine lv_iadd hx hb dX10_goSwitches_154 ?_
                                  refine lv_topi (fun v154 e154 => ?_)
                                  refine lv_lshl (v := (1 : Int64) <<< (v154.toInt64 &&& 63)) hx hb dX10_goSwitches_155 rfl ?_
                                  refine lv_lxor hx hb dX10_goSwitches_156 ?_
                                  refine lv_topl (fun v156 e156 => ?_)
                                  refine lv_lconst (v := 1) hx hb dX10_goSwitches_157 (by decide) ?_
                                  refine lv_iload hx hb dX10_goSwitches_158 (lv_at hl 6 rfl) ?_
                                  refine lv_iload_n hx hb dX10_goSwitches_160 rfl (lv_at hl 10 rfl) ?_
                                  refine lv_imul hx hb dX10_goSwitches_161 ?_
                                  refine lv_topi (fun v161 e161 => ?_)
                                  refine lv_iload hx hb dX10_goSwitches_162 (lv_at hl 5 rfl) ?_
                                  refine lv_iadd hx hb dX10_goSwitches_164 ?_
                                  refine lv_topi (fun v164 e164 => ?_)
                                  refine lv_lshl (v := (1 : Int64) <<< (v164.toInt64 &&& 63)) hx hb dX10_goSwitches_165 rfl ?_
                                  refine lv_lxor hx hb dX10_goSwitches_166 ?_
                                  refine lv_topl (fun v166 e166 => ?_)
                                  refine lv_goto (tgt := 174) hx hb dX10_goSwitches_167 (by decide) ?_
                                  refine m_put (v := .long v166) (ty := .long) hx hb hts hin hown hK hP hD hS 18 (by decide) rfl (hts (.fieldLink RX10 201 "ShadowBenchModel" "behind" "J") (by decide +kernel)) rfl (by decide +kernel) rfl rfl f (vp_updL g 18 v166) rfl dX10_goSwitches_174 (fun H locs hP hS => ?_)
                                  obtain ⟨v177, e177⟩ : ∃ y : Int32, y = u6 + 1 := ⟨_, rfl⟩
                                  refine lv_iinc (v := v177) (lv' := [(6, .int v177), (14, .int r92), (13, .int r79), (12, .int r66), (11, .int r53), (10, .int (nI k4)), (9, .int (nI k3)), (8, .int (nI k2)), (7, .int (nI k)), (0, .ref mo), (1, .int w), (2, .int h), (3, .long p0), (5, .int at)]) hx hb dX10_goSwitches_177 hl (k := 8) rfl (by rw [e177]; rfl) (by decide) rfl (fun ls hl => ?_)
                                  refine lv_iinc (v := (nI (k4 + 1))) (lv' := [(10, .int (nI (k4 + 1))), (6, .int v177), (14, .int r92), (13, .int r79), (12, .int r66), (11, .int r53), (9, .int (nI k3)), (8, .int (nI k2)), (7, .int (nI k)), (0, .ref mo), (1, .int w), (2, .int h), (3, .long p0), (5, .int at)]) hx hb dX10_goSwitches_180 hl (k := 5) rfl (nI_1 _) (by decide) rfl (fun ls hl => ?_)
                                  refine lv_goto (tgt := 39) hx hb dX10_goSwitches_183 (by decide) ?_
                                  exact ih_39 (k4 + 1) v177 v166 (by omega) (by omega) _ _ hP hS ls (lv_sub hl [0, 6, 7, 8, 1, 9, 10, 11, 12, 13] rfl)
                    exact loop_39 (6 + 1) (k3 + 1) z6 bh3 (by omega) (by omega) _ _ hP hS ls (lv_sub hl [0, 1, 2, 3, 4, 5, 6, 7, 8, 9] rfl)
              exact loop_27 (6 + 1) 0 y6 bh2 (by omega) (by omega) _ _ hP hS ls (lv_sub hl [0, 1, 2, 3, 4, 5, 6, 7, 8] rfl)
        exact loop_18 (6 + 1) (k + 1) x6 bh1 (by omega) (by omega) _ _ hP hS ls (lv_sub hl [0, 1, 2, 3, 4, 5, 6, 7] rfl)
  have hP := wm_eq rfl (ec_g___18 g ) rfl rfl hP
  exact loop_6 (6 + 1) 0 (0 : Int32) (g 18) (by omega) (by omega) _ _ hP hS ls (lv_sub hl [0, 1, 2, 3, 4, 5, 6] rfl)
set_option maxHeartbeats 4000000 in
set_option maxRecDepth 100000 in
theorem c_X10_switches (l : Launch) (D : va_G) (cy : Nat → ClassId) (mo : Nat) (a : Nat → Nat) (f : Nat → Int32) (g : Nat → Int64) (r : Nat → Nat → Int32) (q : Nat → Nat → Int64) (w : Int32) (h : Int32) (p0 : Int64) (hD : DM cy mo a)  : Mi l D cy mo a yX10_switches wsX10_switches ({ frames := 3, cells := 0, slots := 0, locals := 69 }) f g r q [.int w, .int h, .long p0] (fun r0 u => ∃ (bh : Int64), u = ((upd f 0 (0 : Int32)), (vp_updL g 18 bh), r, q) ∧ (True)) := by
  refine Met.ofW (cc := cX10_switches) (maxL := 5) (ret := (some .int)) (by decide) rfl ?_
  intro p e s m args below meth c s₁ B hml hv
  obtain ⟨rfl, hP, hK⟩ := hv
  have hx := B.exec
  have hb := B.bytes
  have hr := B.returns
  have hts := atoms_spec (ws := wsX10_switches) B.pre
  have hin : ∀ w ∈ u_ws RX10 TX10 35, w ∈ wsX10_switches := by decide +kernel
  have hown : s.vm.findClass RX10 = some m.cls := findClass_of_methodNamed B.named
  have hlocks := B.notSynchronized
  have hS : va_S (AM mo a) s.heap s.heap [] := va_S.rf
  have hl := lv_entry ([.ref mo, .int w, .int h, .long p0]) (n := 5) (Nat.le_of_ble_eq_true rfl)
  rw [lg_entry_eq]
  generalize (lg_sl ([.ref mo, .int w, .int h, .long p0]) ++ List.replicate (5 - (lg_sl ([.ref mo, .int w, .int h, .long p0])).length) Slot.unset).toArray = ls at hl ⊢
  have hl : lv_has ls 5 [(0, .ref mo), (1, .int w), (2, .int h), (3, .long p0)] := hl
  have k_m1 : (-1 : Int32).toInt = -1 := by decide
  have k_0 : (0 : Int32).toInt = 0 := by decide
  refine lv_aload_n hx hb dX10_switches_0 rfl (lv_at hl 0 rfl) ?_
  refine lv_iconst (v := 0) hx hb dX10_switches_1 (by decide) ?_
  refine m_put (v := .int (0 : Int32)) (ty := .int) hx hb hts hin hown hK hP hD hS 0 (by decide) rfl (hts (.fieldLink RX10 79 "ShadowBenchModel" "thrown" "I") (by decide +kernel)) rfl (by decide +kernel) rfl rfl (upd f 0 (0 : Int32)) g rfl dX10_switches_2 (fun H locs hP hS => ?_)
  refine lv_iload_n hx hb dX10_switches_5 rfl (lv_at hl 1 rfl) ?_
  refine lv_iload_n hx hb dX10_switches_6 rfl (lv_at hl 2 rfl) ?_
  refine lv_lload_n hx hb dX10_switches_7 rfl (lv_at hl 3 rfl) ?_
  refine m_pu (As := [.int w, .int h, .long p0]) (rest := []) ⟨hx, hb, hml, hown, hts⟩ (c_X10_isPicture l w h p0 ) (va_cwS 3 hts gX10_switches_X10_isPicture rfl rfl rfl (by decide +kernel) ⟨Nat.le_of_ble_eq_true rfl, Nat.le_of_ble_eq_true rfl⟩) hP rfl hl.1 rfl (Nat.le_of_ble_eq_true rfl) dX10_switches_8 ⟨Nat.le_of_ble_eq_true rfl, Nat.le_of_ble_eq_true rfl⟩ hS (fun r8 H locs q8 hP hS => ?_)
  refine lv_if_eq (tgt := 25) hx hb dX10_switches_11 (by decide) (fun c11 => ?_) (fun c11 => ?_)
  · skip
    have b11 := bo_f q8 c11
    refine lv_iconst (v := (-1)) hx hb dX10_switches_25 (by decide) ?_
    have hP := wm_eq rfl (ec_g___18 g ) rfl rfl hP
    exact W.iret (v := ((-1) : Int32)) hx hb hr (fun t ht hW => ⟨⟨_, ((upd f 0 (0 : Int32)), (vp_updL g 18 (g 18)), r, q), rfl, ⟨(g 18), rfl, trivial⟩, by unfold mB; rw [ht]; exact hP⟩, hS.F ht⟩) hS.2.2 dX10_switches_26
  · skip
    have b11 := bo_t q8 c11
    refine lv_aload_n hx hb dX10_switches_14 rfl (lv_at hl 0 rfl) ?_
    refine lv_iload_n hx hb dX10_switches_15 rfl (lv_at hl 1 rfl) ?_
    refine lv_iload_n hx hb dX10_switches_16 rfl (lv_at hl 2 rfl) ?_
    refine lv_lload_n hx hb dX10_switches_17 rfl (lv_at hl 3 rfl) ?_
    refine lv_iconst (v := (-1)) hx hb dX10_switches_18 (by decide) ?_
    refine m_calli (As := [.int w, .int h, .long p0, .int ((-1) : Int32)]) (rest := []) ⟨hx, hb, hml, hown, hts⟩ (c_X10_goSwitches l D cy mo a (upd f 0 (0 : Int32)) g r q w h p0 (((-1) : Int32)) hD (show 1 ≤ w.toInt ∧ w.toInt ≤ 6 by omega) (show 1 ≤ h.toInt ∧ h.toInt ≤ 6 by omega)) (cwV 4 hts gX10_switches_X10_goSwitches rfl rfl rfl (by decide +kernel) ⟨Nat.le_of_ble_eq_true rfl, Nat.le_of_ble_eq_true rfl⟩) hK hP rfl hl.1 rfl (Nat.le_of_ble_eq_true rfl) dX10_switches_19 ⟨Nat.le_of_ble_eq_true rfl, Nat.le_of_ble_eq_true rfl⟩ hS (fun r19 u H locs q19 hP hS => ?_)
    obtain ⟨bh_19, rfl, q19⟩ := q19
    have hP : va_P D vwCl (WM cy mo a (upd f 0 (0 : Int32)) (vp_updL g 18 bh_19) r q) H := hP
    have q19 : True := q19
    refine lv_goto (tgt := 26) hx hb dX10_switches_22 (by decide) ?_
    exact W.iret (v := r19) hx hb hr (fun t ht hW => ⟨⟨_, ((upd f 0 (0 : Int32)), (vp_updL g 18 bh_19), r, q), rfl, ⟨bh_19, rfl, trivial⟩, by unfold mB; rw [ht]; exact hP⟩, hS.F ht⟩) hS.2.2 dX10_switches_26
set_option maxHeartbeats 4000000 in
set_option maxRecDepth 100000 in
theorem c_X10_switched (l : Launch) (D : va_G) (cy : Nat → ClassId) (mo : Nat) (a : Nat → Nat) (f : Nat → Int32) (g : Nat → Int64) (r : Nat → Nat → Int32) (q : Nat → Nat → Int64) (w : Int32) (h : Int32) (p0 : Int64) (i0 : Int32) (hD : DM cy mo a)  : Ml l D cy mo a yX10_switched wsX10_switched ({ frames := 3, cells := 0, slots := 0, locals := 69 }) f g r q [.int w, .int h, .long p0, .int i0] (fun r0 u => ∃ (bh : Int64), u = ((upd f 0 (0 : Int32)), (vp_updL g 18 bh), r, q) ∧ (True)) := by
  refine Met.ofW (cc := cX10_switched) (maxL := 6) (ret := (some .long)) (by decide) rfl ?_
  intro p e s m args below meth c s₁ B hml hv
  obtain ⟨rfl, hP, hK⟩ := hv
  have hx := B.exec
  have hb := B.bytes
  have hr := B.returns
  have hts := atoms_spec (ws := wsX10_switched) B.pre
  have hin : ∀ w ∈ u_ws RX10 TX10 35, w ∈ wsX10_switched := by decide +kernel
  have hown : s.vm.findClass RX10 = some m.cls := findClass_of_methodNamed B.named
  have hlocks := B.notSynchronized
  have hS : va_S (AM mo a) s.heap s.heap [] := va_S.rf
  have hl := lv_entry ([.ref mo, .int w, .int h, .long p0, .int i0]) (n := 6) (Nat.le_of_ble_eq_true rfl)
  rw [lg_entry_eq]
  generalize (lg_sl ([.ref mo, .int w, .int h, .long p0, .int i0]) ++ List.replicate (6 - (lg_sl ([.ref mo, .int w, .int h, .long p0, .int i0])).length) Slot.unset).toArray = ls at hl ⊢
  have hl : lv_has ls 6 [(0, .ref mo), (1, .int w), (2, .int h), (3, .long p0), (5, .int i0)] := hl
  have k_0 : (0 : Int32).toInt = 0 := by decide
  have k_m2L : (-2 : Int64).toInt = -2 := by decide
  have k_m1L : (-1 : Int64).toInt = -1 := by decide
  refine lv_aload_n hx hb dX10_switched_0 rfl (lv_at hl 0 rfl) ?_
  refine lv_iconst (v := 0) hx hb dX10_switched_1 (by decide) ?_
  refine m_put (v := .int (0 : Int32)) (ty := .int) hx hb hts hin hown hK hP hD hS 0 (by decide) rfl (hts (.fieldLink RX10 79 "ShadowBenchModel" "thrown" "I") (by decide +kernel)) rfl (by decide +kernel) rfl rfl (upd f 0 (0 : Int32)) g rfl dX10_switched_2 (fun H locs hP hS => ?_)
  refine lv_iload_n hx hb dX10_switched_5 rfl (lv_at hl 1 rfl) ?_
  refine lv_iload_n hx hb dX10_switched_6 rfl (lv_at hl 2 rfl) ?_
  refine lv_lload_n hx hb dX10_switched_7 rfl (lv_at hl 3 rfl) ?_
  refine m_pu (As := [.int w, .int h, .long p0]) (rest := []) ⟨hx, hb, hml, hown, hts⟩ (c_X10_isPicture l w h p0 ) (va_cwS 3 hts gX10_switched_X10_isPicture rfl rfl rfl (by decide +kernel) ⟨Nat.le_of_ble_eq_true rfl, Nat.le_of_ble_eq_true rfl⟩) hP rfl hl.1 rfl (Nat.le_of_ble_eq_true rfl) dX10_switched_8 ⟨Nat.le_of_ble_eq_true rfl, Nat.le_of_ble_eq_true rfl⟩ hS (fun r8 H locs q8 hP hS => ?_)
  refine lv_if_eq (tgt := 19) hx hb dX10_switched_11 (by decide) (fun c11 => ?_) (fun c11 => ?_)
  · skip
    have b11 := bo_f q8 c11
    refine lv_ldc2 hx hb hown (hts (.constantLong RX10 185 (-1)) (by decide +kernel)) dX10_switched_19 ?_
    have hP := wm_eq rfl (ec_g___18 g ) rfl rfl hP
    exact W.lret (v := (-1 : Int64)) hx hb hr (fun t ht hW => ⟨⟨_, ((upd f 0 (0 : Int32)), (vp_updL g 18 (g 18)), r, q), rfl, ⟨(g 18), rfl, trivial⟩, by unfold mB; rw [ht]; exact hP⟩, hS.F ht⟩) hS.2.2 dX10_switched_22
  · skip
    have b11 := bo_t q8 c11
    refine lv_iload hx hb dX10_switched_14 (lv_at hl 4 rfl) ?_
    refine lv_if_ge (tgt := 23) hx hb dX10_switched_16 (by decide) (fun c16 => ?_) (fun c16 => ?_)
    · skip
      have d16 := c16
      rw [fa_le] at d16
      refine lv_iload hx hb dX10_switched_23 (lv_at hl 4 rfl) ?_
      refine lv_aload_n hx hb dX10_switched_25 rfl (lv_at hl 0 rfl) ?_
      refine lv_iload_n hx hb dX10_switched_26 rfl (lv_at hl 1 rfl) ?_
      refine lv_iload_n hx hb dX10_switched_27 rfl (lv_at hl 2 rfl) ?_
      refine lv_lload_n hx hb dX10_switched_28 rfl (lv_at hl 3 rfl) ?_
      refine lv_iload hx hb dX10_switched_29 (lv_at hl 4 rfl) ?_
      refine m_calli (As := [.int w, .int h, .long p0, .int i0]) (rest := [.int i0]) ⟨hx, hb, hml, hown, hts⟩ (c_X10_goSwitches l D cy mo a (upd f 0 (0 : Int32)) g r q w h p0 i0 hD (show 1 ≤ w.toInt ∧ w.toInt ≤ 6 by omega) (show 1 ≤ h.toInt ∧ h.toInt ≤ 6 by omega)) (cwV 4 hts gX10_switched_X10_goSwitches rfl rfl rfl (by decide +kernel) ⟨Nat.le_of_ble_eq_true rfl, Nat.le_of_ble_eq_true rfl⟩) hK hP rfl hl.1 rfl (Nat.le_of_ble_eq_true rfl) dX10_switched_31 ⟨Nat.le_of_ble_eq_true rfl, Nat.le_of_ble_eq_true rfl⟩ hS (fun r31 u H locs q31 hP hS => ?_)
      obtain ⟨bh_31, rfl, q31⟩ := q31
      have hP : va_P D vwCl (WM cy mo a (upd f 0 (0 : Int32)) (vp_updL g 18 bh_31) r q) H := hP
      have q31 : True := q31
      refine lv_icmp_ge (tgt := 44) hx hb dX10_switched_34 (by decide) (fun c34 => ?_) (fun c34 => ?_)
      · skip
        have d34 := c34
        rw [fa_le] at d34
        refine lv_ldc2 hx hb hown (hts (.constantLong RX10 189 (-2)) (by decide +kernel)) dX10_switched_44 ?_
        exact W.lret (v := (-2 : Int64)) hx hb hr (fun t ht hW => ⟨⟨_, ((upd f 0 (0 : Int32)), (vp_updL g 18 bh_31), r, q), rfl, ⟨bh_31, rfl, trivial⟩, by unfold mB; rw [ht]; exact hP⟩, hS.F ht⟩) hS.2.2 dX10_switched_47
      · skip
        have d34 := c34
        rw [fa_le] at d34
        refine lv_aload_n hx hb dX10_switched_37 rfl (lv_at hl 0 rfl) ?_
        refine m_get (v := .long bh_31) hx hb hts hin hown hK hP 18 (by decide) rfl (hts (.fieldLink RX10 201 "ShadowBenchModel" "behind" "J") (by decide +kernel)) rfl dX10_switched_38 ?_
        refine lv_goto (tgt := 47) hx hb dX10_switched_41 (by decide) ?_
        exact W.lret (v := bh_31) hx hb hr (fun t ht hW => ⟨⟨_, ((upd f 0 (0 : Int32)), (vp_updL g 18 bh_31), r, q), rfl, ⟨bh_31, rfl, trivial⟩, by unfold mB; rw [ht]; exact hP⟩, hS.F ht⟩) hS.2.2 dX10_switched_47
    · skip
      have d16 := c16
      rw [fa_le] at d16
      refine lv_ldc2 hx hb hown (hts (.constantLong RX10 185 (-1)) (by decide +kernel)) dX10_switched_19 ?_
      have hP := wm_eq rfl (ec_g___18 g ) rfl rfl hP
      exact W.lret (v := (-1 : Int64)) hx hb hr (fun t ht hW => ⟨⟨_, ((upd f 0 (0 : Int32)), (vp_updL g 18 (g 18)), r, q), rfl, ⟨(g 18), rfl, trivial⟩, by unfold mB; rw [ht]; exact hP⟩, hS.F ht⟩) hS.2.2 dX10_switched_22
theorem ec_r___9 (f : Nat → Nat → Int32)  : f = (va_up f 9 (f 9)) := by
  funext j9
  simp only [va_up]
  (repeat' split) <;> simp_all
set_option maxHeartbeats 4000000 in
set_option maxRecDepth 100000 in
theorem c_X10_joined (l : Launch) (D : va_G) (cy : Nat → ClassId) (mo : Nat) (a : Nat → Nat) (f : Nat → Int32) (g : Nat → Int64) (r : Nat → Nat → Int32) (q : Nat → Nat → Int64) (w : Int32) (h : Int32) (p0 : Int64) (hD : DM cy mo a)  : Mi l D cy mo a yX10_joined wsX10_joined ({ frames := 3, cells := 0, slots := 0, locals := 69 }) f g r q [.int w, .int h, .long p0] (fun r0 u => ∃ (mt : Nat → Int32), u = ((upd f 0 (0 : Int32)), g, (va_up r 9 mt), q) ∧ (True)) := by
  refine Met.ofW (cc := cX10_joined) (maxL := 5) (ret := (some .int)) (by decide) rfl ?_
  intro p e s m args below meth c s₁ B hml hv
  obtain ⟨rfl, hP, hK⟩ := hv
  have hx := B.exec
  have hb := B.bytes
  have hr := B.returns
  have hts := atoms_spec (ws := wsX10_joined) B.pre
  have hin : ∀ w ∈ u_ws RX10 TX10 35, w ∈ wsX10_joined := by decide +kernel
  have hown : s.vm.findClass RX10 = some m.cls := findClass_of_methodNamed B.named
  have hlocks := B.notSynchronized
  have hS : va_S (AM mo a) s.heap s.heap [] := va_S.rf
  have hl := lv_entry ([.ref mo, .int w, .int h, .long p0]) (n := 5) (Nat.le_of_ble_eq_true rfl)
  rw [lg_entry_eq]
  generalize (lg_sl ([.ref mo, .int w, .int h, .long p0]) ++ List.replicate (5 - (lg_sl ([.ref mo, .int w, .int h, .long p0])).length) Slot.unset).toArray = ls at hl ⊢
  have hl : lv_has ls 5 [(0, .ref mo), (1, .int w), (2, .int h), (3, .long p0)] := hl
  have k_m1 : (-1 : Int32).toInt = -1 := by decide
  have k_0 : (0 : Int32).toInt = 0 := by decide
  have k_1 : (1 : Int32).toInt = 1 := by decide
  refine lv_aload_n hx hb dX10_joined_0 rfl (lv_at hl 0 rfl) ?_
  refine lv_iconst (v := 0) hx hb dX10_joined_1 (by decide) ?_
  refine m_put (v := .int (0 : Int32)) (ty := .int) hx hb hts hin hown hK hP hD hS 0 (by decide) rfl (hts (.fieldLink RX10 79 "ShadowBenchModel" "thrown" "I") (by decide +kernel)) rfl (by decide +kernel) rfl rfl (upd f 0 (0 : Int32)) g rfl dX10_joined_2 (fun H locs hP hS => ?_)
  refine lv_iload_n hx hb dX10_joined_5 rfl (lv_at hl 1 rfl) ?_
  refine lv_iload_n hx hb dX10_joined_6 rfl (lv_at hl 2 rfl) ?_
  refine lv_lload_n hx hb dX10_joined_7 rfl (lv_at hl 3 rfl) ?_
  refine m_pu (As := [.int w, .int h, .long p0]) (rest := []) ⟨hx, hb, hml, hown, hts⟩ (c_X10_isPicture l w h p0 ) (va_cwS 3 hts gX10_joined_X10_isPicture rfl rfl rfl (by decide +kernel) ⟨Nat.le_of_ble_eq_true rfl, Nat.le_of_ble_eq_true rfl⟩) hP rfl hl.1 rfl (Nat.le_of_ble_eq_true rfl) dX10_joined_8 ⟨Nat.le_of_ble_eq_true rfl, Nat.le_of_ble_eq_true rfl⟩ hS (fun r8 H locs q8 hP hS => ?_)
  refine lv_if_ne (tgt := 18) hx hb dX10_joined_11 (by decide) (fun c11 => ?_) (fun c11 => ?_)
  · skip
    have b11 := bo_t q8 c11
    refine lv_aload_n hx hb dX10_joined_18 rfl (lv_at hl 0 rfl) ?_
    refine lv_iload_n hx hb dX10_joined_19 rfl (lv_at hl 1 rfl) ?_
    refine lv_iload_n hx hb dX10_joined_20 rfl (lv_at hl 2 rfl) ?_
    refine lv_lload_n hx hb dX10_joined_21 rfl (lv_at hl 3 rfl) ?_
    refine m_calli (As := [.int w, .int h, .long p0]) (rest := []) ⟨hx, hb, hml, hown, hts⟩ (c_X10_isJoined l D cy mo a (upd f 0 (0 : Int32)) g r q w h p0 hD (show 1 ≤ w.toInt ∧ w.toInt ≤ 6 by omega) (show 1 ≤ h.toInt ∧ h.toInt ≤ 6 by omega)) (cwV 3 hts gX10_joined_X10_isJoined rfl rfl rfl (by decide +kernel) ⟨Nat.le_of_ble_eq_true rfl, Nat.le_of_ble_eq_true rfl⟩) hK hP rfl hl.1 rfl (Nat.le_of_ble_eq_true rfl) dX10_joined_22 ⟨Nat.le_of_ble_eq_true rfl, Nat.le_of_ble_eq_true rfl⟩ hS (fun r22 u H locs q22 hP hS => ?_)
    obtain ⟨mt_22, rfl, q22⟩ := q22
    have hP : va_P D vwCl (WM cy mo a (upd f 0 (0 : Int32)) g (va_up r 9 mt_22) q) H := hP
    have q22 : r22 = 0 ∨ r22 = 1 := q22
    refine lv_if_eq (tgt := 32) hx hb dX10_joined_25 (by decide) (fun c25 => ?_) (fun c25 => ?_)
    · skip
      have d25 := c25
      rw [fa_eq] at d25
      refine lv_iconst (v := 0) hx hb dX10_joined_32 (by decide) ?_
      exact W.iret (v := (0 : Int32)) hx hb hr (fun t ht hW => ⟨⟨_, ((upd f 0 (0 : Int32)), g, (va_up r 9 mt_22), q), rfl, ⟨mt_22, rfl, trivial⟩, by unfold mB; rw [ht]; exact hP⟩, hS.F ht⟩) hS.2.2 dX10_joined_33
    · skip
      have d25 := c25
      rw [fa_eq] at d25
      refine lv_iconst (v := 1) hx hb dX10_joined_28 (by decide) ?_
      refine lv_goto (tgt := 33) hx hb dX10_joined_29 (by decide) ?_
      exact W.iret (v := (1 : Int32)) hx hb hr (fun t ht hW => ⟨⟨_, ((upd f 0 (0 : Int32)), g, (va_up r 9 mt_22), q), rfl, ⟨mt_22, rfl, trivial⟩, by unfold mB; rw [ht]; exact hP⟩, hS.F ht⟩) hS.2.2 dX10_joined_33
  · skip
    have b11 := bo_f q8 c11
    refine lv_iconst (v := (-1)) hx hb dX10_joined_14 (by decide) ?_
    refine lv_goto (tgt := 33) hx hb dX10_joined_15 (by decide) ?_
    have hP := wm_eq rfl rfl (ec_r___9 r ) rfl hP
    exact W.iret (v := ((-1) : Int32)) hx hb hr (fun t ht hW => ⟨⟨_, ((upd f 0 (0 : Int32)), g, (va_up r 9 (r 9)), q), rfl, ⟨(r 9), rfl, trivial⟩, by unfold mB; rw [ht]; exact hP⟩, hS.F ht⟩) hS.2.2 dX10_joined_33
set_option maxHeartbeats 4000000 in
set_option maxRecDepth 100000 in
theorem c_X10_even (l : Launch) (D : va_G) (cy : Nat → ClassId) (mo : Nat) (a : Nat → Nat) (f : Nat → Int32) (g : Nat → Int64) (r : Nat → Nat → Int32) (q : Nat → Nat → Int64) (w : Int32) (h : Int32) (p0 : Int64) (col : Int32) (hD : DM cy mo a)  : Mi l D cy mo a yX10_even wsX10_even ({ frames := 3, cells := 0, slots := 0, locals := 69 }) f g r q [.int w, .int h, .long p0, .int col] (fun r0 u => u = ((upd f 0 (0 : Int32)), g, r, q) ∧ (True)) := by
  refine Met.ofW (cc := cX10_even) (maxL := 6) (ret := (some .int)) (by decide) rfl ?_
  intro p e s m args below meth c s₁ B hml hv
  obtain ⟨rfl, hP, hK⟩ := hv
  have hx := B.exec
  have hb := B.bytes
  have hr := B.returns
  have hts := atoms_spec (ws := wsX10_even) B.pre
  have hin : ∀ w ∈ u_ws RX10 TX10 35, w ∈ wsX10_even := by decide +kernel
  have hown : s.vm.findClass RX10 = some m.cls := findClass_of_methodNamed B.named
  have hlocks := B.notSynchronized
  have hS : va_S (AM mo a) s.heap s.heap [] := va_S.rf
  have hl := lv_entry ([.ref mo, .int w, .int h, .long p0, .int col]) (n := 6) (Nat.le_of_ble_eq_true rfl)
  rw [lg_entry_eq]
  generalize (lg_sl ([.ref mo, .int w, .int h, .long p0, .int col]) ++ List.replicate (6 - (lg_sl ([.ref mo, .int w, .int h, .long p0, .int col])).length) Slot.unset).toArray = ls at hl ⊢
  have hl : lv_has ls 6 [(0, .ref mo), (1, .int w), (2, .int h), (3, .long p0), (5, .int col)] := hl
  have k_m1 : (-1 : Int32).toInt = -1 := by decide
  have k_0 : (0 : Int32).toInt = 0 := by decide
  have k_1 : (1 : Int32).toInt = 1 := by decide
  refine lv_aload_n hx hb dX10_even_0 rfl (lv_at hl 0 rfl) ?_
  refine lv_iconst (v := 0) hx hb dX10_even_1 (by decide) ?_
  refine m_put (v := .int (0 : Int32)) (ty := .int) hx hb hts hin hown hK hP hD hS 0 (by decide) rfl (hts (.fieldLink RX10 79 "ShadowBenchModel" "thrown" "I") (by decide +kernel)) rfl (by decide +kernel) rfl rfl (upd f 0 (0 : Int32)) g rfl dX10_even_2 (fun H locs hP hS => ?_)
  refine lv_iload_n hx hb dX10_even_5 rfl (lv_at hl 1 rfl) ?_
  refine lv_iload_n hx hb dX10_even_6 rfl (lv_at hl 2 rfl) ?_
  refine lv_lload_n hx hb dX10_even_7 rfl (lv_at hl 3 rfl) ?_
  refine m_pu (As := [.int w, .int h, .long p0]) (rest := []) ⟨hx, hb, hml, hown, hts⟩ (c_X10_isPicture l w h p0 ) (va_cwS 3 hts gX10_even_X10_isPicture rfl rfl rfl (by decide +kernel) ⟨Nat.le_of_ble_eq_true rfl, Nat.le_of_ble_eq_true rfl⟩) hP rfl hl.1 rfl (Nat.le_of_ble_eq_true rfl) dX10_even_8 ⟨Nat.le_of_ble_eq_true rfl, Nat.le_of_ble_eq_true rfl⟩ hS (fun r8 H locs q8 hP hS => ?_)
  refine lv_if_ne (tgt := 18) hx hb dX10_even_11 (by decide) (fun c11 => ?_) (fun c11 => ?_)
  · skip
    have b11 := bo_t q8 c11
    refine lv_iload_n hx hb dX10_even_18 rfl (lv_at hl 1 rfl) ?_
    refine lv_iload_n hx hb dX10_even_19 rfl (lv_at hl 2 rfl) ?_
    refine lv_lload_n hx hb dX10_even_20 rfl (lv_at hl 3 rfl) ?_
    refine lv_iload hx hb dX10_even_21 (lv_at hl 4 rfl) ?_
    refine m_pu (As := [.int w, .int h, .long p0, .int col]) (rest := []) ⟨hx, hb, hml, hown, hts⟩ (c_X10_isEven l w h p0 col b11.1.1 b11.1.2) (va_cwS 4 hts gX10_even_X10_isEven rfl rfl rfl (by decide +kernel) ⟨Nat.le_of_ble_eq_true rfl, Nat.le_of_ble_eq_true rfl⟩) hP rfl hl.1 rfl (Nat.le_of_ble_eq_true rfl) dX10_even_23 ⟨Nat.le_of_ble_eq_true rfl, Nat.le_of_ble_eq_true rfl⟩ hS (fun r23 H locs q23 hP hS => ?_)
    refine lv_if_eq (tgt := 33) hx hb dX10_even_26 (by decide) (fun c26 => ?_) (fun c26 => ?_)
    · skip
      have d26 := c26
      rw [fa_eq] at d26
      refine lv_iconst (v := 0) hx hb dX10_even_33 (by decide) ?_
      exact W.iret (v := (0 : Int32)) hx hb hr (fun t ht hW => ⟨⟨_, ((upd f 0 (0 : Int32)), g, r, q), rfl, ⟨rfl, trivial⟩, by unfold mB; rw [ht]; exact hP⟩, hS.F ht⟩) hS.2.2 dX10_even_34
    · skip
      have d26 := c26
      rw [fa_eq] at d26
      refine lv_iconst (v := 1) hx hb dX10_even_29 (by decide) ?_
      refine lv_goto (tgt := 34) hx hb dX10_even_30 (by decide) ?_
      exact W.iret (v := (1 : Int32)) hx hb hr (fun t ht hW => ⟨⟨_, ((upd f 0 (0 : Int32)), g, r, q), rfl, ⟨rfl, trivial⟩, by unfold mB; rw [ht]; exact hP⟩, hS.F ht⟩) hS.2.2 dX10_even_34
  · skip
    have b11 := bo_f q8 c11
    refine lv_iconst (v := (-1)) hx hb dX10_even_14 (by decide) ?_
    refine lv_goto (tgt := 34) hx hb dX10_even_15 (by decide) ?_
    exact W.iret (v := ((-1) : Int32)) hx hb hr (fun t ht hW => ⟨⟨_, ((upd f 0 (0 : Int32)), g, r, q), rfl, ⟨rfl, trivial⟩, by unfold mB; rw [ht]; exact hP⟩, hS.F ht⟩) hS.2.2 dX10_even_34
set_option maxHeartbeats 4000000 in
set_option maxRecDepth 100000 in
theorem c_X10_turned (l : Launch) (D : va_G) (cy : Nat → ClassId) (mo : Nat) (a : Nat → Nat) (f : Nat → Int32) (g : Nat → Int64) (r : Nat → Nat → Int32) (q : Nat → Nat → Int64) (w : Int32) (h : Int32) (p0 : Int64) (how : Int32) (hD : DM cy mo a)  : Ml l D cy mo a yX10_turned wsX10_turned ({ frames := 3, cells := 0, slots := 0, locals := 69 }) f g r q [.int w, .int h, .long p0, .int how] (fun r0 u => u = ((upd f 0 (0 : Int32)), g, r, q) ∧ (True)) := by
  refine Met.ofW (cc := cX10_turned) (maxL := 12) (ret := (some .long)) (by decide) rfl ?_
  intro p e s m args below meth c s₁ B hml hv
  obtain ⟨rfl, hP, hK⟩ := hv
  have hx := B.exec
  have hb := B.bytes
  have hr := B.returns
  have hts := atoms_spec (ws := wsX10_turned) B.pre
  have hin : ∀ w ∈ u_ws RX10 TX10 35, w ∈ wsX10_turned := by decide +kernel
  have hown : s.vm.findClass RX10 = some m.cls := findClass_of_methodNamed B.named
  have hlocks := B.notSynchronized
  have hS : va_S (AM mo a) s.heap s.heap [] := va_S.rf
  have hl := lv_entry ([.ref mo, .int w, .int h, .long p0, .int how]) (n := 12) (Nat.le_of_ble_eq_true rfl)
  rw [lg_entry_eq]
  generalize (lg_sl ([.ref mo, .int w, .int h, .long p0, .int how]) ++ List.replicate (12 - (lg_sl ([.ref mo, .int w, .int h, .long p0, .int how])).length) Slot.unset).toArray = ls at hl ⊢
  have hl : lv_has ls 12 [(0, .ref mo), (1, .int w), (2, .int h), (3, .long p0), (5, .int how)] := hl
  have k_0 : (0 : Int32).toInt = 0 := by decide
  have k_1 : (1 : Int32).toInt = 1 := by decide
  have k_2 : (2 : Int32).toInt = 2 := by decide
  have k_3 : (3 : Int32).toInt = 3 := by decide
  have k_m1L : (-1 : Int64).toInt = -1 := by decide
  have k_0L : (0 : Int64).toInt = 0 := by decide
  have k_3L : (3 : Int64).toInt = 3 := by decide
  refine lv_aload_n hx hb dX10_turned_0 rfl (lv_at hl 0 rfl) ?_
  refine lv_iconst (v := 0) hx hb dX10_turned_1 (by decide) ?_
  refine m_put (v := .int (0 : Int32)) (ty := .int) hx hb hts hin hown hK hP hD hS 0 (by decide) rfl (hts (.fieldLink RX10 79 "ShadowBenchModel" "thrown" "I") (by decide +kernel)) rfl (by decide +kernel) rfl rfl (upd f 0 (0 : Int32)) g rfl dX10_turned_2 (fun H locs hP hS => ?_)
  refine lv_iload_n hx hb dX10_turned_5 rfl (lv_at hl 1 rfl) ?_
  refine lv_iload_n hx hb dX10_turned_6 rfl (lv_at hl 2 rfl) ?_
  refine lv_lload_n hx hb dX10_turned_7 rfl (lv_at hl 3 rfl) ?_
  refine m_pu (As := [.int w, .int h, .long p0]) (rest := []) ⟨hx, hb, hml, hown, hts⟩ (c_X10_isPicture l w h p0 ) (va_cwS 3 hts gX10_turned_X10_isPicture rfl rfl rfl (by decide +kernel) ⟨Nat.le_of_ble_eq_true rfl, Nat.le_of_ble_eq_true rfl⟩) hP rfl hl.1 rfl (Nat.le_of_ble_eq_true rfl) dX10_turned_8 ⟨Nat.le_of_ble_eq_true rfl, Nat.le_of_ble_eq_true rfl⟩ hS (fun r8 H locs q8 hP hS => ?_)
  refine lv_if_eq (tgt := 27) hx hb dX10_turned_11 (by decide) (fun c11 => ?_) (fun c11 => ?_)
  · skip
    have b11 := bo_f q8 c11
    refine lv_ldc2 hx hb hown (hts (.constantLong RX10 185 (-1)) (by decide +kernel)) dX10_turned_27 ?_
    exact W.lret (v := (-1 : Int64)) hx hb hr (fun t ht hW => ⟨⟨_, ((upd f 0 (0 : Int32)), g, r, q), rfl, ⟨rfl, trivial⟩, by unfold mB; rw [ht]; exact hP⟩, hS.F ht⟩) hS.2.2 dX10_turned_30
  · skip
    have b11 := bo_t q8 c11
    refine lv_iload hx hb dX10_turned_14 (lv_at hl 4 rfl) ?_
    refine lv_i2l (v := how.toInt64) hx hb dX10_turned_16 rfl ?_
    refine lv_lconst (v := 0) hx hb dX10_turned_17 (by decide) ?_
    refine lv_ldc2 hx hb hown (hts (.constantLong RX10 116 (3)) (by decide +kernel)) dX10_turned_18 ?_
    refine m_pu (As := [.long (how.toInt64), .long (0 : Int64), .long (3 : Int64)]) (rest := []) ⟨hx, hb, hml, hown, hts⟩ (c_X10_isIn l how.toInt64 (0 : Int64) (3 : Int64) ) (va_cwS 3 hts gX10_turned_X10_isIn rfl rfl rfl (by decide +kernel) ⟨Nat.le_of_ble_eq_true rfl, Nat.le_of_ble_eq_true rfl⟩) hP rfl hl.1 rfl (Nat.le_of_ble_eq_true rfl) dX10_turned_21 ⟨Nat.le_of_ble_eq_true rfl, Nat.le_of_ble_eq_true rfl⟩ hS (fun r21 H locs q21 hP hS => ?_)
    have q21 := q21
    simp only [k64, show (0 : Int64).toInt = 0 from rfl, show (1 : Int64).toInt = 1 from rfl, show (2 : Int64).toInt = 2 from rfl, show (3 : Int64).toInt = 3 from rfl, show (6 : Int64).toInt = 6 from rfl] at q21
    refine lv_if_ne (tgt := 31) hx hb dX10_turned_24 (by decide) (fun c24 => ?_) (fun c24 => ?_)
    · skip
      have b24 := bo_t q21 c24
      refine lv_lconst (v := 0) hx hb dX10_turned_31 (by decide) ?_
      refine lv_lstore (lv' := [(6, .long (0 : Int64)), (0, .ref mo), (1, .int w), (2, .int h), (3, .long p0), (5, .int how)]) hx hb dX10_turned_32 hl (by decide) rfl (fun ls hl => ?_)
      refine lv_iconst (v := 0) hx hb dX10_turned_34 (by decide) ?_
      refine lv_istore (lv' := [(8, .int (0 : Int32)), (6, .long (0 : Int64)), (0, .ref mo), (1, .int w), (2, .int h), (3, .long p0), (5, .int how)]) hx hb dX10_turned_35 hl (by decide) rfl (fun ls hl => ?_)
      have loop_37 : ∀ (n : Nat) (s1 : Nat) (x6 : Int64), (s1 ≤ 36) → 36 - s1 < n → ∀ (H : Heap) (locs : List Loc), va_P D vwCl (WM cy mo a (upd f 0 (0 : Int32)) g r q) H → va_S (AM mo a) s.heap H locs → ∀ (ls : Array Slot), lv_has ls 12 [(8, .int (nI s1)), (6, .long x6), (0, .ref mo), (1, .int w), (2, .int h), (3, .long p0), (5, .int how)] → W p l e (headSpec wsX10_turned ({ frames := 3, cells := 0, slots := 0, locals := 69 })).room s m #[Value.ref mo, Value.int w, Value.int h, Value.long p0, Value.int how] below meth c H locs 0 0 (MQ below (va_Ql (fun r0 u => u = ((upd f 0 (0 : Int32)), g, r, q) ∧ (True)) (mB D cy mo a) (AM mo a)) #[Value.ref mo, Value.int w, Value.int h, Value.long p0, Value.int how] s 0 0 (AM mo a)) (F0 m 37 ls []) := by
        intro n
        induction n with
        | zero => intro s1 x6  j37_0 hn; exact absurd hn (Nat.not_lt_zero _)
        | succ n ih_37 =>
          intro s1 x6  j37_0 hn_37 H locs hP hS ls hl
          have is1 : (nI s1).toInt = (s1 : Int) := nI_toInt (by omega)
          have m37 := mul66 b11.1.1 b11.1.2
          refine lv_iload hx hb dX10_turned_37 (lv_at hl 0 rfl) ?_
          refine lv_iload_n hx hb dX10_turned_39 rfl (lv_at hl 3 rfl) ?_
          refine lv_iload_n hx hb dX10_turned_40 rfl (lv_at hl 4 rfl) ?_
          refine lv_imul hx hb dX10_turned_41 ?_
          refine lv_topi (fun v41 e41 => ?_)
          have i41 : v41.toInt = w.toInt * h.toInt := by rw [e41]; exact fb_mulI (by omega) (by omega)
          refine lv_icmp_ge (tgt := 154) hx hb dX10_turned_42 (by decide) (fun c42 => ?_) (fun c42 => ?_)
          · skip
            have d42 := c42
            rw [fa_le] at d42
            refine lv_lload hx hb dX10_turned_154 (lv_at hl 1 rfl) ?_
            exact W.lret (v := x6) hx hb hr (fun t ht hW => ⟨⟨_, ((upd f 0 (0 : Int32)), g, r, q), rfl, ⟨rfl, trivial⟩, by unfold mB; rw [ht]; exact hP⟩, hS.F ht⟩) hS.2.2 dX10_turned_156
          · skip
            have d42 := c42
            rw [fa_le] at d42
            refine lv_iload hx hb dX10_turned_45 (lv_at hl 0 rfl) ?_
            refine lv_iload_n hx hb dX10_turned_47 rfl (lv_at hl 3 rfl) ?_
            refine lv_irem hx hb dX10_turned_48 (fun z => by rw [fa_eq] at z; omega) ?_
            refine lv_topi (fun v48 e48 => ?_)
            have i48 : v48.toInt = (nI s1).toInt % w.toInt := by rw [e48]; exact my_irem (by omega) (by omega)
            have j48 : 0 ≤ v48.toInt ∧ v48.toInt < w.toInt ∧ v48.toInt ≤ (nI s1).toInt := by rw [e48]; exact my_remb (by omega) (by omega)
            refine lv_istore (lv' := [(9, .int v48), (8, .int (nI s1)), (6, .long x6), (0, .ref mo), (1, .int w), (2, .int h), (3, .long p0), (5, .int how)]) hx hb dX10_turned_49 hl (by decide) rfl (fun ls hl => ?_)
            refine lv_iload hx hb dX10_turned_51 (lv_at hl 1 rfl) ?_
            refine lv_iload_n hx hb dX10_turned_53 rfl (lv_at hl 4 rfl) ?_
            refine lv_idiv hx hb dX10_turned_54 (fun z => by rw [fa_eq] at z; omega) ?_
            refine lv_topi (fun v54 e54 => ?_)
            have i54 : v54.toInt = (nI s1).toInt / w.toInt := by rw [e54]; exact my_idiv (by omega) (by omega)
            have j54 : 0 ≤ v54.toInt ∧ v54.toInt ≤ (nI s1).toInt := by rw [e54]; exact my_divb (by omega) (by omega)
            refine lv_istore (lv' := [(10, .int v54), (9, .int v48), (8, .int (nI s1)), (6, .long x6), (0, .ref mo), (1, .int w), (2, .int h), (3, .long p0), (5, .int how)]) hx hb dX10_turned_55 hl (by decide) rfl (fun ls hl => ?_)
            refine lv_iload hx hb dX10_turned_57 (lv_at hl 8 rfl) ?_
            refine lv_if_ne (tgt := 76) hx hb dX10_turned_59 (by decide) (fun c59 => ?_) (fun c59 => ?_)
            · skip
              have d59 := c59
              rw [fa_eq] at d59
              refine lv_iload hx hb dX10_turned_76 (lv_at hl 8 rfl) ?_
              refine lv_iconst (v := 1) hx hb dX10_turned_78 (by decide) ?_
              refine lv_icmp_ne (tgt := 96) hx hb dX10_turned_79 (by decide) (fun c79 => ?_) (fun c79 => ?_)
              · skip
                have d79 := c79
                rw [fa_eq] at d79
                refine lv_iload hx hb dX10_turned_96 (lv_at hl 8 rfl) ?_
                refine lv_iconst (v := 2) hx hb dX10_turned_98 (by decide) ?_
                refine lv_icmp_ne (tgt := 112) hx hb dX10_turned_99 (by decide) (fun c99 => ?_) (fun c99 => ?_)
                · skip
                  have d99 := c99
                  rw [fa_eq] at d99
                  refine lv_iload hx hb dX10_turned_112 (lv_at hl 2 rfl) ?_
                  refine lv_istore (lv' := [(11, .int (nI s1)), (10, .int v54), (9, .int v48), (8, .int (nI s1)), (6, .long x6), (0, .ref mo), (1, .int w), (2, .int h), (3, .long p0), (5, .int how)]) hx hb dX10_turned_114 hl (by decide) rfl (fun ls hl => ?_)
                  refine lv_lload hx hb dX10_turned_116 (lv_at hl 4 rfl) ?_
                  refine lv_iload hx hb dX10_turned_118 (lv_at hl 9 rfl) ?_
                  refine lv_iconst (v := 3) hx hb dX10_turned_120 (by decide) ?_
                  refine lv_icmp_ne (tgt := 135) hx hb dX10_turned_121 (by decide) (fun c121 => ?_) (fun c121 => ?_)
                  · skip
                    have d121 := c121
                    rw [fa_eq] at d121
                    refine lv_lload_n hx hb dX10_turned_135 rfl (lv_at hl 8 rfl) ?_
                    refine lv_iload hx hb dX10_turned_136 (lv_at hl 3 rfl) ?_
                    refine m_pu (As := [.long p0, .int (nI s1)]) (rest := [.long x6]) ⟨hx, hb, hml, hown, hts⟩ (c_X10_one l p0 (nI s1) ) (va_cwS 2 hts gX10_turned_X10_one rfl rfl rfl (by decide +kernel) ⟨Nat.le_of_ble_eq_true rfl, Nat.le_of_ble_eq_true rfl⟩) hP rfl hl.1 rfl (Nat.le_of_ble_eq_true rfl) dX10_turned_138 ⟨Nat.le_of_ble_eq_true rfl, Nat.le_of_ble_eq_true rfl⟩ hS (fun r138 H locs q138 hP hS => ?_)
                    have i138 : r138.toInt = (r_one p0 (nI s1)).toInt := congrArg Int32.toInt q138
                    refine lv_i2l (v := r138.toInt64) hx hb dX10_turned_141 rfl ?_
                    refine lv_iload hx hb dX10_turned_142 (lv_at hl 0 rfl) ?_
                    refine lv_lshl (v := r138.toInt64 <<< ((nI s1).toInt64 &&& 63)) hx hb dX10_turned_144 rfl ?_
                    refine lv_lor hx hb dX10_turned_145 ?_
                    refine lv_topl (fun v145 e145 => ?_)
                    refine lv_lstore (lv' := [(6, .long v145), (11, .int (nI s1)), (10, .int v54), (9, .int v48), (8, .int (nI s1)), (0, .ref mo), (1, .int w), (2, .int h), (3, .long p0), (5, .int how)]) hx hb dX10_turned_146 hl (by decide) rfl (fun ls hl => ?_)
                    refine lv_iinc (v := (nI (s1 + 1))) (lv' := [(8, .int (nI (s1 + 1))), (6, .long v145), (11, .int (nI s1)), (10, .int v54), (9, .int v48), (0, .ref mo), (1, .int w), (2, .int h), (3, .long p0), (5, .int how)]) hx hb dX10_turned_148 hl (k := 4) rfl (nI_1 _) (by decide) rfl (fun ls hl => ?_)
                    refine lv_goto (tgt := 37) hx hb dX10_turned_151 (by decide) ?_
                    exact ih_37 (s1 + 1) v145 (by omega) (by omega) _ _ hP hS ls (lv_sub hl [0, 1, 5, 6, 7, 8, 9] rfl)
                  · skip
                    have d121 := c121
                    rw [fa_eq] at d121
                    refine lv_iconst (v := 1) hx hb dX10_turned_124 (by decide) ?_
                    refine lv_lload_n hx hb dX10_turned_125 rfl (lv_at hl 8 rfl) ?_
                    refine lv_iload hx hb dX10_turned_126 (lv_at hl 3 rfl) ?_
                    refine m_pu (As := [.long p0, .int (nI s1)]) (rest := [.int (1 : Int32), .long x6]) ⟨hx, hb, hml, hown, hts⟩ (c_X10_one l p0 (nI s1) ) (va_cwS 2 hts gX10_turned_X10_one rfl rfl rfl (by decide +kernel) ⟨Nat.le_of_ble_eq_true rfl, Nat.le_of_ble_eq_true rfl⟩) hP rfl hl.1 rfl (Nat.le_of_ble_eq_true rfl) dX10_turned_128 ⟨Nat.le_of_ble_eq_true rfl, Nat.le_of_ble_eq_true rfl⟩ hS (fun r128 H locs q128 hP hS => ?_)
                    have i128 : r128.toInt = (r_one p0 (nI s1)).toInt := congrArg Int32.toInt q128
                    refine lv_isub hx hb dX10_turned_131 ?_
                    refine lv_topi (fun v131 e131 => ?_)
                    refine lv_goto (tgt := 141) hx hb dX10_turned_132 (by decide) ?_
                    refine lv_i2l (v := v131.toInt64) hx hb dX10_turned_141 rfl ?_
                    refine lv_iload hx hb dX10_turned_142 (lv_at hl 0 rfl) ?_
                    refine lv_lshl (v := v131.toInt64 <<< ((nI s1).toInt64 &&& 63)) hx hb dX10_turned_144 rfl ?_
                    refine lv_lor hx hb dX10_turned_145 ?_
                    refine lv_topl (fun v145 e145 => ?_)
                    refine lv_lstore (lv' := [(6, .long v145), (11, .int (nI s1)), (10, .int v54), (9, .int v48), (8, .int (nI s1)), (0, .ref mo), (1, .int w), (2, .int h), (3, .long p0), (5, .int how)]) hx hb dX10_turned_146 hl (by decide) rfl (fun ls hl => ?_)
                    refine lv_iinc (v := (nI (s1 + 1))) (lv' := [(8, .int (nI (s1 + 1))), (6, .long v145), (11, .int (nI s1)), (10, .int v54), (9, .int v48), (0, .ref mo), (1, .int w), (2, .int h), (3, .long p0), (5, .int how)]) hx hb dX10_turned_148 hl (k := 4) rfl (nI_1 _) (by decide) rfl (fun ls hl => ?_)
                    refine lv_goto (tgt := 37) hx hb dX10_turned_151 (by decide) ?_
                    exact ih_37 (s1 + 1) v145 (by omega) (by omega) _ _ hP hS ls (lv_sub hl [0, 1, 5, 6, 7, 8, 9] rfl)
                · skip
                  have d99 := c99
                  rw [fa_eq] at d99
                  refine lv_iload hx hb dX10_turned_102 (lv_at hl 1 rfl) ?_
                  refine lv_iload_n hx hb dX10_turned_104 rfl (lv_at hl 6 rfl) ?_
                  refine lv_imul hx hb dX10_turned_105 ?_
                  refine lv_topi (fun v105 e105 => ?_)
                  refine lv_iload hx hb dX10_turned_106 (lv_at hl 0 rfl) ?_
                  refine lv_iadd hx hb dX10_turned_108 ?_
                  refine lv_topi (fun v108 e108 => ?_)
                  refine lv_goto (tgt := 114) hx hb dX10_turned_109 (by decide) ?_
                  refine lv_istore (lv' := [(11, .int v108), (10, .int v54), (9, .int v48), (8, .int (nI s1)), (6, .long x6), (0, .ref mo), (1, .int w), (2, .int h), (3, .long p0), (5, .int how)]) hx hb dX10_turned_114 hl (by decide) rfl (fun ls hl => ?_)
                  refine lv_lload hx hb dX10_turned_116 (lv_at hl 4 rfl) ?_
                  refine lv_iload hx hb dX10_turned_118 (lv_at hl 9 rfl) ?_
                  refine lv_iconst (v := 3) hx hb dX10_turned_120 (by decide) ?_
                  refine lv_icmp_ne (tgt := 135) hx hb dX10_turned_121 (by decide) (fun c121 => ?_) (fun c121 => ?_)
                  · skip
                    have d121 := c121
                    rw [fa_eq] at d121
                    refine lv_lload_n hx hb dX10_turned_135 rfl (lv_at hl 8 rfl) ?_
                    refine lv_iload hx hb dX10_turned_136 (lv_at hl 3 rfl) ?_
                    refine m_pu (As := [.long p0, .int (nI s1)]) (rest := [.long x6]) ⟨hx, hb, hml, hown, hts⟩ (c_X10_one l p0 (nI s1) ) (va_cwS 2 hts gX10_turned_X10_one rfl rfl rfl (by decide +kernel) ⟨Nat.le_of_ble_eq_true rfl, Nat.le_of_ble_eq_true rfl⟩) hP rfl hl.1 rfl (Nat.le_of_ble_eq_true rfl) dX10_turned_138 ⟨Nat.le_of_ble_eq_true rfl, Nat.le_of_ble_eq_true rfl⟩ hS (fun r138 H locs q138 hP hS => ?_)
                    have i138 : r138.toInt = (r_one p0 (nI s1)).toInt := congrArg Int32.toInt q138
                    refine lv_i2l (v := r138.toInt64) hx hb dX10_turned_141 rfl ?_
                    refine lv_iload hx hb dX10_turned_142 (lv_at hl 0 rfl) ?_
                    refine lv_lshl (v := r138.toInt64 <<< (v108.toInt64 &&& 63)) hx hb dX10_turned_144 rfl ?_
                    refine lv_lor hx hb dX10_turned_145 ?_
                    refine lv_topl (fun v145 e145 => ?_)
                    refine lv_lstore (lv' := [(6, .long v145), (11, .int v108), (10, .int v54), (9, .int v48), (8, .int (nI s1)), (0, .ref mo), (1, .int w), (2, .int h), (3, .long p0), (5, .int how)]) hx hb dX10_turned_146 hl (by decide) rfl (fun ls hl => ?_)
                    refine lv_iinc (v := (nI (s1 + 1))) (lv' := [(8, .int (nI (s1 + 1))), (6, .long v145), (11, .int v108), (10, .int v54), (9, .int v48), (0, .ref mo), (1, .int w), (2, .int h), (3, .long p0), (5, .int how)]) hx hb dX10_turned_148 hl (k := 4) rfl (nI_1 _) (by decide) rfl (fun ls hl => ?_)
                    refine lv_goto (tgt := 37) hx hb dX10_turned_151 (by decide) ?_
                    exact ih_37 (s1 + 1) v145 (by omega) (by omega) _ _ hP hS ls (lv_sub hl [0, 1, 5, 6, 7, 8, 9] rfl)
                  · skip
                    have d121 := c121
                    rw [fa_eq] at d121
                    refine lv_iconst (v := 1) hx hb dX10_turned_124 (by decide) ?_
                    refine lv_lload_n hx hb dX10_turned_125 rfl (lv_at hl 8 rfl) ?_
                    refine lv_iload hx hb dX10_turned_126 (lv_at hl 3 rfl) ?_
                    refine m_pu (As := [.long p0, .int (nI s1)]) (rest := [.int (1 : Int32), .long x6]) ⟨hx, hb, hml, hown, hts⟩ (c_X10_one l p0 (nI s1) ) (va_cwS 2 hts gX10_turned_X10_one rfl rfl rfl (by decide +kernel) ⟨Nat.le_of_ble_eq_true rfl, Nat.le_of_ble_eq_true rfl⟩) hP rfl hl.1 rfl (Nat.le_of_ble_eq_true rfl) dX10_turned_128 ⟨Nat.le_of_ble_eq_true rfl, Nat.le_of_ble_eq_true rfl⟩ hS (fun r128 H locs q128 hP hS => ?_)
                    have i128 : r128.toInt = (r_one p0 (nI s1)).toInt := congrArg Int32.toInt q128
                    refine lv_isub hx hb dX10_turned_131 ?_
                    refine lv_topi (fun v131 e131 => ?_)
                    refine lv_goto (tgt := 141) hx hb dX10_turned_132 (by decide) ?_
                    refine lv_i2l (v := v131.toInt64) hx hb dX10_turned_141 rfl ?_
                    refine lv_iload hx hb dX10_turned_142 (lv_at hl 0 rfl) ?_
                    refine lv_lshl (v := v131.toInt64 <<< (v108.toInt64 &&& 63)) hx hb dX10_turned_144 rfl ?_
                    refine lv_lor hx hb dX10_turned_145 ?_
                    refine lv_topl (fun v145 e145 => ?_)
                    refine lv_lstore (lv' := [(6, .long v145), (11, .int v108), (10, .int v54), (9, .int v48), (8, .int (nI s1)), (0, .ref mo), (1, .int w), (2, .int h), (3, .long p0), (5, .int how)]) hx hb dX10_turned_146 hl (by decide) rfl (fun ls hl => ?_)
                    refine lv_iinc (v := (nI (s1 + 1))) (lv' := [(8, .int (nI (s1 + 1))), (6, .long v145), (11, .int v108), (10, .int v54), (9, .int v48), (0, .ref mo), (1, .int w), (2, .int h), (3, .long p0), (5, .int how)]) hx hb dX10_turned_148 hl (k := 4) rfl (nI_1 _) (by decide) rfl (fun ls hl => ?_)
                    refine lv_goto (tgt := 37) hx hb dX10_turned_151 (by decide) ?_
                    exact ih_37 (s1 + 1) v145 (by omega) (by omega) _ _ hP hS ls (lv_sub hl [0, 1, 5, 6, 7, 8, 9] rfl)
              · skip
                have d79 := c79
                rw [fa_eq] at d79
                refine lv_iload_n hx hb dX10_turned_82 rfl (lv_at hl 6 rfl) ?_
                refine lv_iconst (v := 1) hx hb dX10_turned_83 (by decide) ?_
                refine lv_isub hx hb dX10_turned_84 ?_
                refine lv_topi (fun v84 e84 => ?_)
                refine lv_iload hx hb dX10_turned_85 (lv_at hl 0 rfl) ?_
                refine lv_isub hx hb dX10_turned_87 ?_
                refine lv_topi (fun v87 e87 => ?_)
                refine lv_iload_n hx hb dX10_turned_88 rfl (lv_at hl 5 rfl) ?_
                refine lv_imul hx hb dX10_turned_89 ?_
                refine lv_topi (fun v89 e89 => ?_)
                refine lv_iload hx hb dX10_turned_90 (lv_at hl 1 rfl) ?_
                refine lv_iadd hx hb dX10_turned_92 ?_
                refine lv_topi (fun v92 e92 => ?_)
                refine lv_goto (tgt := 114) hx hb dX10_turned_93 (by decide) ?_
                refine lv_istore (lv' := [(11, .int v92), (10, .int v54), (9, .int v48), (8, .int (nI s1)), (6, .long x6), (0, .ref mo), (1, .int w), (2, .int h), (3, .long p0), (5, .int how)]) hx hb dX10_turned_114 hl (by decide) rfl (fun ls hl => ?_)
                refine lv_lload hx hb dX10_turned_116 (lv_at hl 4 rfl) ?_
                refine lv_iload hx hb dX10_turned_118 (lv_at hl 9 rfl) ?_
                refine lv_iconst (v := 3) hx hb dX10_turned_120 (by decide) ?_
                refine lv_icmp_ne (tgt := 135) hx hb dX10_turned_121 (by decide) (fun c121 => ?_) (fun c121 => ?_)
                · skip
                  have d121 := c121
                  rw [fa_eq] at d121
                  refine lv_lload_n hx hb dX10_turned_135 rfl (lv_at hl 8 rfl) ?_
                  refine lv_iload hx hb dX10_turned_136 (lv_at hl 3 rfl) ?_
                  refine m_pu (As := [.long p0, .int (nI s1)]) (rest := [.long x6]) ⟨hx, hb, hml, hown, hts⟩ (c_X10_one l p0 (nI s1) ) (va_cwS 2 hts gX10_turned_X10_one rfl rfl rfl (by decide +kernel) ⟨Nat.le_of_ble_eq_true rfl, Nat.le_of_ble_eq_true rfl⟩) hP rfl hl.1 rfl (Nat.le_of_ble_eq_true rfl) dX10_turned_138 ⟨Nat.le_of_ble_eq_true rfl, Nat.le_of_ble_eq_true rfl⟩ hS (fun r138 H locs q138 hP hS => ?_)
                  have i138 : r138.toInt = (r_one p0 (nI s1)).toInt := congrArg Int32.toInt q138
                  refine lv_i2l (v := r138.toInt64) hx hb dX10_turned_141 rfl ?_
                  refine lv_iload hx hb dX10_turned_142 (lv_at hl 0 rfl) ?_
                  refine lv_lshl (v := r138.toInt64 <<< (v92.toInt64 &&& 63)) hx hb dX10_turned_144 rfl ?_
                  refine lv_lor hx hb dX10_turned_145 ?_
                  refine lv_topl (fun v145 e145 => ?_)
                  refine lv_lstore (lv' := [(6, .long v145), (11, .int v92), (10, .int v54), (9, .int v48), (8, .int (nI s1)), (0, .ref mo), (1, .int w), (2, .int h), (3, .long p0), (5, .int how)]) hx hb dX10_turned_146 hl (by decide) rfl (fun ls hl => ?_)
                  refine lv_iinc (v := (nI (s1 + 1))) (lv' := [(8, .int (nI (s1 + 1))), (6, .long v145), (11, .int v92), (10, .int v54), (9, .int v48), (0, .ref mo), (1, .int w), (2, .int h), (3, .long p0), (5, .int how)]) hx hb dX10_turned_148 hl (k := 4) rfl (nI_1 _) (by decide) rfl (fun ls hl => ?_)
                  refine lv_goto (tgt := 37) hx hb dX10_turned_151 (by decide) ?_
                  exact ih_37 (s1 + 1) v145 (by omega) (by omega) _ _ hP hS ls (lv_sub hl [0, 1, 5, 6, 7, 8, 9] rfl)
                · skip
                  have d121 := c121
                  rw [fa_eq] at d121
                  refine lv_iconst (v := 1) hx hb dX10_turned_124 (by decide) ?_
                  refine lv_lload_n hx hb dX10_turned_125 rfl (lv_at hl 8 rfl) ?_
                  refine lv_iload hx hb dX10_turned_126 (lv_at hl 3 rfl) ?_
                  refine m_pu (As := [.long p0, .int (nI s1)]) (rest := [.int (1 : Int32), .long x6]) ⟨hx, hb, hml, hown, hts⟩ (c_X10_one l p0 (nI s1) ) (va_cwS 2 hts gX10_turned_X10_one rfl rfl rfl (by decide +kernel) ⟨Nat.le_of_ble_eq_true rfl, Nat.le_of_ble_eq_true rfl⟩) hP rfl hl.1 rfl (Nat.le_of_ble_eq_true rfl) dX10_turned_128 ⟨Nat.le_of_ble_eq_true rfl, Nat.le_of_ble_eq_true rfl⟩ hS (fun r128 H locs q128 hP hS => ?_)
                  have i128 : r128.toInt = (r_one p0 (nI s1)).toInt := congrArg Int32.toInt q128
                  refine lv_isub hx hb dX10_turned_131 ?_
                  refine lv_topi (fun v131 e131 => ?_)
                  refine lv_goto (tgt := 141) hx hb dX10_turned_132 (by decide) ?_
                  refine lv_i2l (v := v131.toInt64) hx hb dX10_turned_141 rfl ?_
                  refine lv_iload hx hb dX10_turned_142 (lv_at hl 0 rfl) ?_
                  refine lv_lshl (v := v131.toInt64 <<< (v92.toInt64 &&& 63)) hx hb dX10_turned_144 rfl ?_
                  refine lv_lor hx hb dX10_turned_145 ?_
                  refine lv_topl (fun v145 e145 => ?_)
                  refine lv_lstore (lv' := [(6, .long v145), (11, .int v92), (10, .int v54), (9, .int v48), (8, .int (nI s1)), (0, .ref mo), (1, .int w), (2, .int h), (3, .long p0), (5, .int how)]) hx hb dX10_turned_146 hl (by decide) rfl (fun ls hl => ?_)
                  refine lv_iinc (v := (nI (s1 + 1))) (lv' := [(8, .int (nI (s1 + 1))), (6, .long v145), (11, .int v92), (10, .int v54), (9, .int v48), (0, .ref mo), (1, .int w), (2, .int h), (3, .long p0), (5, .int how)]) hx hb dX10_turned_148 hl (k := 4) rfl (nI_1 _) (by decide) rfl (fun ls hl => ?_)
                  refine lv_goto (tgt := 37) hx hb dX10_turned_151 (by decide) ?_
                  exact ih_37 (s1 + 1) v145 (by omega) (by omega) _ _ hP hS ls (lv_sub hl [0, 1, 5, 6, 7, 8, 9] rfl)
            · skip
              have d59 := c59
              rw [fa_eq] at d59
              refine lv_iload hx hb dX10_turned_62 (lv_at hl 1 rfl) ?_
              refine lv_iload_n hx hb dX10_turned_64 rfl (lv_at hl 6 rfl) ?_
              refine lv_imul hx hb dX10_turned_65 ?_
              refine lv_topi (fun v65 e65 => ?_)
              refine lv_iload_n hx hb dX10_turned_66 rfl (lv_at hl 6 rfl) ?_
              refine lv_iadd hx hb dX10_turned_67 ?_
              refine lv_topi (fun v67 e67 => ?_)
              refine lv_iconst (v := 1) hx hb dX10_turned_68 (by decide) ?_
              refine lv_isub hx hb dX10_turned_69 ?_
              refine lv_topi (fun v69 e69 => ?_)
              refine lv_iload hx hb dX10_turned_70 (lv_at hl 0 rfl) ?_
              refine lv_isub hx hb dX10_turned_72 ?_
              refine lv_topi (fun v72 e72 => ?_)
              refine lv_goto (tgt := 114) hx hb dX10_turned_73 (by decide) ?_
              refine lv_istore (lv' := [(11, .int v72), (10, .int v54), (9, .int v48), (8, .int (nI s1)), (6, .long x6), (0, .ref mo), (1, .int w), (2, .int h), (3, .long p0), (5, .int how)]) hx hb dX10_turned_114 hl (by decide) rfl (fun ls hl => ?_)
              refine lv_lload hx hb dX10_turned_116 (lv_at hl 4 rfl) ?_
              refine lv_iload hx hb dX10_turned_118 (lv_at hl 9 rfl) ?_
              refine lv_iconst (v := 3) hx hb dX10_turned_120 (by decide) ?_
              refine lv_icmp_ne (tgt := 135) hx hb dX10_turned_121 (by decide) (fun c121 => ?_) (fun c121 => ?_)
              · skip
                have d121 := c121
                rw [fa_eq] at d121
                refine lv_lload_n hx hb dX10_turned_135 rfl (lv_at hl 8 rfl) ?_
                refine lv_iload hx hb dX10_turned_136 (lv_at hl 3 rfl) ?_
                refine m_pu (As := [.long p0, .int (nI s1)]) (rest := [.long x6]) ⟨hx, hb, hml, hown, hts⟩ (c_X10_one l p0 (nI s1) ) (va_cwS 2 hts gX10_turned_X10_one rfl rfl rfl (by decide +kernel) ⟨Nat.le_of_ble_eq_true rfl, Nat.le_of_ble_eq_true rfl⟩) hP rfl hl.1 rfl (Nat.le_of_ble_eq_true rfl) dX10_turned_138 ⟨Nat.le_of_ble_eq_true rfl, Nat.le_of_ble_eq_true rfl⟩ hS (fun r138 H locs q138 hP hS => ?_)
                have i138 : r138.toInt = (r_one p0 (nI s1)).toInt := congrArg Int32.toInt q138
                refine lv_i2l (v := r138.toInt64) hx hb dX10_turned_141 rfl ?_
                refine lv_iload hx hb dX10_turned_142 (lv_at hl 0 rfl) ?_
                refine lv_lshl (v := r138.toInt64 <<< (v72.toInt64 &&& 63)) hx hb dX10_turned_144 rfl ?_
                refine lv_lor hx hb dX10_turned_145 ?_
                refine lv_topl (fun v145 e145 => ?_)
                refine lv_lstore (lv' := [(6, .long v145), (11, .int v72), (10, .int v54), (9, .int v48), (8, .int (nI s1)), (0, .ref mo), (1, .int w), (2, .int h), (3, .long p0), (5, .int how)]) hx hb dX10_turned_146 hl (by decide) rfl (fun ls hl => ?_)
                refine lv_iinc (v := (nI (s1 + 1))) (lv' := [(8, .int (nI (s1 + 1))), (6, .long v145), (11, .int v72), (10, .int v54), (9, .int v48), (0, .ref mo), (1, .int w), (2, .int h), (3, .long p0), (5, .int how)]) hx hb dX10_turned_148 hl (k := 4) rfl (nI_1 _) (by decide) rfl (fun ls hl => ?_)
                refine lv_goto (tgt := 37) hx hb dX10_turned_151 (by decide) ?_
                exact ih_37 (s1 + 1) v145 (by omega) (by omega) _ _ hP hS ls (lv_sub hl [0, 1, 5, 6, 7, 8, 9] rfl)
              · skip
                have d121 := c121
                rw [fa_eq] at d121
                refine lv_iconst (v := 1) hx hb dX10_turned_124 (by decide) ?_
                refine lv_lload_n hx hb dX10_turned_125 rfl (lv_at hl 8 rfl) ?_
                refine lv_iload hx hb dX10_turned_126 (lv_at hl 3 rfl) ?_
                refine m_pu (As := [.long p0, .int (nI s1)]) (rest := [.int (1 : Int32), .long x6]) ⟨hx, hb, hml, hown, hts⟩ (c_X10_one l p0 (nI s1) ) (va_cwS 2 hts gX10_turned_X10_one rfl rfl rfl (by decide +kernel) ⟨Nat.le_of_ble_eq_true rfl, Nat.le_of_ble_eq_true rfl⟩) hP rfl hl.1 rfl (Nat.le_of_ble_eq_true rfl) dX10_turned_128 ⟨Nat.le_of_ble_eq_true rfl, Nat.le_of_ble_eq_true rfl⟩ hS (fun r128 H locs q128 hP hS => ?_)
                have i128 : r128.toInt = (r_one p0 (nI s1)).toInt := congrArg Int32.toInt q128
                refine lv_isub hx hb dX10_turned_131 ?_
                refine lv_topi (fun v131 e131 => ?_)
                refine lv_goto (tgt := 141) hx hb dX10_turned_132 (by decide) ?_
                refine lv_i2l (v := v131.toInt64) hx hb dX10_turned_141 rfl ?_
                refine lv_iload hx hb dX10_turned_142 (lv_at hl 0 rfl) ?_
                refine lv_lshl (v := v131.toInt64 <<< (v72.toInt64 &&& 63)) hx hb dX10_turned_144 rfl ?_
                refine lv_lor hx hb dX10_turned_145 ?_
                refine lv_topl (fun v145 e145 => ?_)
                refine lv_lstore (lv' := [(6, .long v145), (11, .int v72), (10, .int v54), (9, .int v48), (8, .int (nI s1)), (0, .ref mo), (1, .int w), (2, .int h), (3, .long p0), (5, .int how)]) hx hb dX10_turned_146 hl (by decide) rfl (fun ls hl => ?_)
                refine lv_iinc (v := (nI (s1 + 1))) (lv' := [(8, .int (nI (s1 + 1))), (6, .long v145), (11, .int v72), (10, .int v54), (9, .int v48), (0, .ref mo), (1, .int w), (2, .int h), (3, .long p0), (5, .int how)]) hx hb dX10_turned_148 hl (k := 4) rfl (nI_1 _) (by decide) rfl (fun ls hl => ?_)
                refine lv_goto (tgt := 37) hx hb dX10_turned_151 (by decide) ?_
                exact ih_37 (s1 + 1) v145 (by omega) (by omega) _ _ hP hS ls (lv_sub hl [0, 1, 5, 6, 7, 8, 9] rfl)
      exact loop_37 (36 + 1) 0 (0 : Int64) (by omega) (by omega) _ _ hP hS ls (lv_sub hl [0, 1, 2, 3, 4, 5, 6] rfl)
    · skip
      have b24 := bo_f q21 c24
      refine lv_ldc2 hx hb hown (hts (.constantLong RX10 185 (-1)) (by decide +kernel)) dX10_turned_27 ?_
      exact W.lret (v := (-1 : Int64)) hx hb hr (fun t ht hW => ⟨⟨_, ((upd f 0 (0 : Int32)), g, r, q), rfl, ⟨rfl, trivial⟩, by unfold mB; rw [ht]; exact hP⟩, hS.F ht⟩) hS.2.2 dX10_turned_30
set_option maxHeartbeats 4000000 in
set_option maxRecDepth 100000 in
theorem c_X10_parts (l : Launch) (D : va_G) (cy : Nat → ClassId) (mo : Nat) (a : Nat → Nat) (f : Nat → Int32) (g : Nat → Int64) (r : Nat → Nat → Int32) (q : Nat → Nat → Int64) (w : Int32) (h : Int32) (p0 : Int64) (p1 : Int64) (ways : Int32) (hD : DM cy mo a)  : Mi l D cy mo a yX10_parts wsX10_parts ({ frames := 3, cells := 0, slots := 0, locals := 78 }) f g r q [.int w, .int h, .long p0, .long p1, .int ways] (fun r0 u => u = ((upd f 0 (0 : Int32)), g, r, q) ∧ (True)) := by
  refine Met.ofW (cc := cX10_parts) (maxL := 9) (ret := (some .int)) (by decide) rfl ?_
  intro p e s m args below meth c s₁ B hml hv
  obtain ⟨rfl, hP, hK⟩ := hv
  have hx := B.exec
  have hb := B.bytes
  have hr := B.returns
  have hts := atoms_spec (ws := wsX10_parts) B.pre
  have hin : ∀ w ∈ u_ws RX10 TX10 35, w ∈ wsX10_parts := by decide +kernel
  have hown : s.vm.findClass RX10 = some m.cls := findClass_of_methodNamed B.named
  have hlocks := B.notSynchronized
  have hS : va_S (AM mo a) s.heap s.heap [] := va_S.rf
  have hl := lv_entry ([.ref mo, .int w, .int h, .long p0, .long p1, .int ways]) (n := 9) (Nat.le_of_ble_eq_true rfl)
  rw [lg_entry_eq]
  generalize (lg_sl ([.ref mo, .int w, .int h, .long p0, .long p1, .int ways]) ++ List.replicate (9 - (lg_sl ([.ref mo, .int w, .int h, .long p0, .long p1, .int ways])).length) Slot.unset).toArray = ls at hl ⊢
  have hl : lv_has ls 9 [(0, .ref mo), (1, .int w), (2, .int h), (3, .long p0), (5, .long p1), (7, .int ways)] := hl
  have k_m2 : (-2 : Int32).toInt = -2 := by decide
  have k_m1 : (-1 : Int32).toInt = -1 := by decide
  have k_0 : (0 : Int32).toInt = 0 := by decide
  have k_1 : (1 : Int32).toInt = 1 := by decide
  have k_4 : (4 : Int32).toInt = 4 := by decide
  have k_0L : (0 : Int64).toInt = 0 := by decide
  have k_15L : (15 : Int64).toInt = 15 := by decide
  refine lv_aload_n hx hb dX10_parts_0 rfl (lv_at hl 0 rfl) ?_
  refine lv_iconst (v := 0) hx hb dX10_parts_1 (by decide) ?_
  refine m_put (v := .int (0 : Int32)) (ty := .int) hx hb hts hin hown hK hP hD hS 0 (by decide) rfl (hts (.fieldLink RX10 79 "ShadowBenchModel" "thrown" "I") (by decide +kernel)) rfl (by decide +kernel) rfl rfl (upd f 0 (0 : Int32)) g rfl dX10_parts_2 (fun H locs hP hS => ?_)
  refine lv_iload_n hx hb dX10_parts_5 rfl (lv_at hl 1 rfl) ?_
  refine lv_iload_n hx hb dX10_parts_6 rfl (lv_at hl 2 rfl) ?_
  refine lv_lload_n hx hb dX10_parts_7 rfl (lv_at hl 3 rfl) ?_
  refine m_pu (As := [.int w, .int h, .long p0]) (rest := []) ⟨hx, hb, hml, hown, hts⟩ (c_X10_isPicture l w h p0 ) (va_cwS 3 hts gX10_parts_X10_isPicture rfl rfl rfl (by decide +kernel) ⟨Nat.le_of_ble_eq_true rfl, Nat.le_of_ble_eq_true rfl⟩) hP rfl hl.1 rfl (Nat.le_of_ble_eq_true rfl) dX10_parts_8 ⟨Nat.le_of_ble_eq_true rfl, Nat.le_of_ble_eq_true rfl⟩ hS (fun r8 H locs q8 hP hS => ?_)
  refine lv_if_eq (tgt := 37) hx hb dX10_parts_11 (by decide) (fun c11 => ?_) (fun c11 => ?_)
  · skip
    have b11 := bo_f q8 c11
    refine lv_iconst (v := (-1)) hx hb dX10_parts_37 (by decide) ?_
    exact W.iret (v := ((-1) : Int32)) hx hb hr (fun t ht hW => ⟨⟨_, ((upd f 0 (0 : Int32)), g, r, q), rfl, ⟨rfl, trivial⟩, by unfold mB; rw [ht]; exact hP⟩, hS.F ht⟩) hS.2.2 dX10_parts_38
  · skip
    have b11 := bo_t q8 c11
    refine lv_iload_n hx hb dX10_parts_14 rfl (lv_at hl 1 rfl) ?_
    refine lv_iload_n hx hb dX10_parts_15 rfl (lv_at hl 2 rfl) ?_
    refine lv_lload hx hb dX10_parts_16 (lv_at hl 4 rfl) ?_
    refine m_pu (As := [.int w, .int h, .long p1]) (rest := []) ⟨hx, hb, hml, hown, hts⟩ (c_X10_isPicture l w h p1 ) (va_cwS 3 hts gX10_parts_X10_isPicture rfl rfl rfl (by decide +kernel) ⟨Nat.le_of_ble_eq_true rfl, Nat.le_of_ble_eq_true rfl⟩) hP rfl hl.1 rfl (Nat.le_of_ble_eq_true rfl) dX10_parts_18 ⟨Nat.le_of_ble_eq_true rfl, Nat.le_of_ble_eq_true rfl⟩ hS (fun r18 H locs q18 hP hS => ?_)
    refine lv_if_eq (tgt := 37) hx hb dX10_parts_21 (by decide) (fun c21 => ?_) (fun c21 => ?_)
    · skip
      have b21 := bo_f q18 c21
      refine lv_iconst (v := (-1)) hx hb dX10_parts_37 (by decide) ?_
      exact W.iret (v := ((-1) : Int32)) hx hb hr (fun t ht hW => ⟨⟨_, ((upd f 0 (0 : Int32)), g, r, q), rfl, ⟨rfl, trivial⟩, by unfold mB; rw [ht]; exact hP⟩, hS.F ht⟩) hS.2.2 dX10_parts_38
    · skip
      have b21 := bo_t q18 c21
      refine lv_iload hx hb dX10_parts_24 (lv_at hl 5 rfl) ?_
      refine lv_i2l (v := ways.toInt64) hx hb dX10_parts_26 rfl ?_
      refine lv_lconst (v := 0) hx hb dX10_parts_27 (by decide) ?_
      refine lv_ldc2 hx hb hown (hts (.constantLong RX10 228 (15)) (by decide +kernel)) dX10_parts_28 ?_
      refine m_pu (As := [.long (ways.toInt64), .long (0 : Int64), .long (15 : Int64)]) (rest := []) ⟨hx, hb, hml, hown, hts⟩ (c_X10_isIn l ways.toInt64 (0 : Int64) (15 : Int64) ) (va_cwS 3 hts gX10_parts_X10_isIn rfl rfl rfl (by decide +kernel) ⟨Nat.le_of_ble_eq_true rfl, Nat.le_of_ble_eq_true rfl⟩) hP rfl hl.1 rfl (Nat.le_of_ble_eq_true rfl) dX10_parts_31 ⟨Nat.le_of_ble_eq_true rfl, Nat.le_of_ble_eq_true rfl⟩ hS (fun r31 H locs q31 hP hS => ?_)
      have q31 := q31
      simp only [k64, show (0 : Int64).toInt = 0 from rfl, show (1 : Int64).toInt = 1 from rfl, show (2 : Int64).toInt = 2 from rfl, show (3 : Int64).toInt = 3 from rfl, show (6 : Int64).toInt = 6 from rfl] at q31
      refine lv_if_ne (tgt := 39) hx hb dX10_parts_34 (by decide) (fun c34 => ?_) (fun c34 => ?_)
      · skip
        have b34 := bo_t q31 c34
        refine lv_iconst (v := 0) hx hb dX10_parts_39 (by decide) ?_
        refine lv_istore (lv' := [(8, .int (0 : Int32)), (0, .ref mo), (1, .int w), (2, .int h), (3, .long p0), (5, .long p1), (7, .int ways)]) hx hb dX10_parts_40 hl (by decide) rfl (fun ls hl => ?_)
        have loop_42 : ∀ (n : Nat) (k : Nat), (k ≤ 4) → 4 - k < n → ∀ (H : Heap) (locs : List Loc), va_P D vwCl (WM cy mo a (upd f 0 (0 : Int32)) g r q) H → va_S (AM mo a) s.heap H locs → ∀ (ls : Array Slot), lv_has ls 9 [(8, .int (nI k)), (0, .ref mo), (1, .int w), (2, .int h), (3, .long p0), (5, .long p1), (7, .int ways)] → W p l e (headSpec wsX10_parts ({ frames := 3, cells := 0, slots := 0, locals := 78 })).room s m #[Value.ref mo, Value.int w, Value.int h, Value.long p0, Value.long p1, Value.int ways] below meth c H locs 0 0 (MQ below (va_Qi (fun r0 u => u = ((upd f 0 (0 : Int32)), g, r, q) ∧ (True)) (mB D cy mo a) (AM mo a)) #[Value.ref mo, Value.int w, Value.int h, Value.long p0, Value.long p1, Value.int ways] s 0 0 (AM mo a)) (F0 m 42 ls []) := by
          intro n
          induction n with
          | zero => intro k  j42_0 hn; exact absurd hn (Nat.not_lt_zero _)
          | succ n ih_42 =>
            intro k  j42_0 hn_42 H locs hP hS ls hl
            have ik : (nI k).toInt = (k : Int) := nI_toInt (by omega)
            refine lv_iload hx hb dX10_parts_42 (lv_at hl 0 rfl) ?_
            refine lv_iconst (v := 4) hx hb dX10_parts_44 (by decide) ?_
            refine lv_icmp_ge (tgt := 81) hx hb dX10_parts_45 (by decide) (fun c45 => ?_) (fun c45 => ?_)
            · skip
              have d45 := c45
              rw [fa_le] at d45
              refine lv_bipush (v := (-2)) hx hb dX10_parts_81 (by decide) ?_
              exact W.iret (v := ((-2) : Int32)) hx hb hr (fun t ht hW => ⟨⟨_, ((upd f 0 (0 : Int32)), g, r, q), rfl, ⟨rfl, trivial⟩, by unfold mB; rw [ht]; exact hP⟩, hS.F ht⟩) hS.2.2 dX10_parts_83
            · skip
              have d45 := c45
              rw [fa_le] at d45
              refine lv_iload hx hb dX10_parts_48 (lv_at hl 6 rfl) ?_
              refine lv_iload hx hb dX10_parts_50 (lv_at hl 0 rfl) ?_
              refine lv_ishr hx hb dX10_parts_52 ?_
              refine lv_topi (fun v52 e52 => ?_)
              refine lv_iconst (v := 1) hx hb dX10_parts_53 (by decide) ?_
              refine lv_iand hx hb dX10_parts_54 ?_
              refine lv_topi (fun v54 e54 => ?_)
              refine lv_iconst (v := 1) hx hb dX10_parts_55 (by decide) ?_
              refine lv_icmp_ne (tgt := 75) hx hb dX10_parts_56 (by decide) (fun c56 => ?_) (fun c56 => ?_)
              · skip
                have d56 := c56
                rw [fa_eq] at d56
                refine lv_iinc (v := (nI (k + 1))) (lv' := [(8, .int (nI (k + 1))), (0, .ref mo), (1, .int w), (2, .int h), (3, .long p0), (5, .long p1), (7, .int ways)]) hx hb dX10_parts_75 hl (k := 0) rfl (nI_1 _) (by decide) rfl (fun ls hl => ?_)
                refine lv_goto (tgt := 42) hx hb dX10_parts_78 (by decide) ?_
                exact ih_42 (k + 1) (by omega) (by omega) _ _ hP hS ls (lv_sub hl [0, 1, 2, 3, 4, 5, 6] rfl)
              · skip
                have d56 := c56
                rw [fa_eq] at d56
                refine lv_iload_n hx hb dX10_parts_59 rfl (lv_at hl 2 rfl) ?_
                refine lv_iload_n hx hb dX10_parts_60 rfl (lv_at hl 3 rfl) ?_
                refine lv_lload_n hx hb dX10_parts_61 rfl (lv_at hl 4 rfl) ?_
                refine lv_lload hx hb dX10_parts_62 (lv_at hl 5 rfl) ?_
                refine lv_iload hx hb dX10_parts_64 (lv_at hl 0 rfl) ?_
                refine m_pu (As := [.int w, .int h, .long p0, .long p1, .int (nI k)]) (rest := []) ⟨hx, hb, hml, hown, hts⟩ (c_X10_areAlike l w h p0 p1 (nI k) b11.1.1 b11.1.2) (va_cwS 5 hts gX10_parts_X10_areAlike rfl rfl rfl (by decide +kernel) ⟨Nat.le_of_ble_eq_true rfl, Nat.le_of_ble_eq_true rfl⟩) hP rfl hl.1 rfl (Nat.le_of_ble_eq_true rfl) dX10_parts_66 ⟨Nat.le_of_ble_eq_true rfl, Nat.le_of_ble_eq_true rfl⟩ hS (fun r66 H locs q66 hP hS => ?_)
                refine lv_if_ne (tgt := 75) hx hb dX10_parts_69 (by decide) (fun c69 => ?_) (fun c69 => ?_)
                · skip
                  have d69 := c69
                  rw [fa_eq] at d69
                  refine lv_iinc (v := (nI (k + 1))) (lv' := [(8, .int (nI (k + 1))), (0, .ref mo), (1, .int w), (2, .int h), (3, .long p0), (5, .long p1), (7, .int ways)]) hx hb dX10_parts_75 hl (k := 0) rfl (nI_1 _) (by decide) rfl (fun ls hl => ?_)
                  refine lv_goto (tgt := 42) hx hb dX10_parts_78 (by decide) ?_
                  exact ih_42 (k + 1) (by omega) (by omega) _ _ hP hS ls (lv_sub hl [0, 1, 2, 3, 4, 5, 6] rfl)
                · skip
                  have d69 := c69
                  rw [fa_eq] at d69
                  refine lv_iload hx hb dX10_parts_72 (lv_at hl 0 rfl) ?_
                  exact W.iret (v := (nI k)) hx hb hr (fun t ht hW => ⟨⟨_, ((upd f 0 (0 : Int32)), g, r, q), rfl, ⟨rfl, trivial⟩, by unfold mB; rw [ht]; exact hP⟩, hS.F ht⟩) hS.2.2 dX10_parts_74
        exact loop_42 (4 + 1) 0 (by omega) (by omega) _ _ hP hS ls (lv_sub hl [0, 1, 2, 3, 4, 5, 6] rfl)
      · skip
        have b34 := bo_f q31 c34
        refine lv_iconst (v := (-1)) hx hb dX10_parts_37 (by decide) ?_
        exact W.iret (v := ((-1) : Int32)) hx hb hr (fun t ht hW => ⟨⟨_, ((upd f 0 (0 : Int32)), g, r, q), rfl, ⟨rfl, trivial⟩, by unfold mB; rw [ht]; exact hP⟩, hS.F ht⟩) hS.2.2 dX10_parts_38
theorem ec_f_0_24_25_23__0_23_24_25 (f : Nat → Int32) (v0 : Int32) (v24 : Int32) (v25 : Int32) (v23 : Int32) : (upd (upd (upd (upd f 0 v0) 24 v24) 25 v25) 23 v23) = (upd (upd (upd (upd f 0 v0) 23 v23) 24 v24) 25 v25) := by
  funext j9
  simp only [upd]
  (repeat' split) <;> simp_all
theorem ec_q_26__26 (f : Nat → Nat → Int64) (v26 : Nat → Int64) : (va_up f 26 v26) = (va_up f 26 v26) := by
  funext j9
  simp only [va_up]
  (repeat' split) <;> simp_all
theorem ec_f_0__0_23_24_25 (f : Nat → Int32) (v0 : Int32) : (upd f 0 v0) = (upd (upd (upd (upd f 0 v0) 23 (f 23)) 24 (f 24)) 25 (f 25)) := by
  funext j9
  simp only [upd]
  (repeat' split) <;> simp_all
theorem ec_q___26 (f : Nat → Nat → Int64)  : f = (va_up f 26 (f 26)) := by
  funext j9
  simp only [va_up]
  (repeat' split) <;> simp_all
set_option maxHeartbeats 4000000 in
set_option maxRecDepth 100000 in
theorem c_X10_list (l : Launch) (D : va_G) (cy : Nat → ClassId) (mo : Nat) (a : Nat → Nat) (f : Nat → Int32) (g : Nat → Int64) (r : Nat → Nat → Int32) (q : Nat → Nat → Int64) (w : Int32) (h : Int32) (p0 : Int64) (hD : DM cy mo a) (hI : MI f r) : Mi l D cy mo a yX10_list wsX10_list ({ frames := 3, cells := 0, slots := 0, locals := 69 }) f g r q [.int w, .int h, .long p0] (fun r0 u => ∃ (lc : Int32), ∃ (lw : Int32), ∃ (lh : Int32), ∃ (ls1 : Nat → Int64), u = ((upd (upd (upd (upd f 0 (0 : Int32)) 23 lc) 24 lw) 25 lh), g, r, (va_up q 26 ls1)) ∧ (MI (upd (upd (upd (upd f 0 (0 : Int32)) 23 lc) 24 lw) 25 lh) r)) := by
  refine Met.ofW (cc := cX10_list) (maxL := 7) (ret := (some .int)) (by decide) rfl ?_
  intro p e s m args below meth c s₁ B hml hv
  obtain ⟨rfl, hP, hK⟩ := hv
  have hx := B.exec
  have hb := B.bytes
  have hr := B.returns
  have hts := atoms_spec (ws := wsX10_list) B.pre
  have hin : ∀ w ∈ u_ws RX10 TX10 35, w ∈ wsX10_list := by decide +kernel
  have hown : s.vm.findClass RX10 = some m.cls := findClass_of_methodNamed B.named
  have hlocks := B.notSynchronized
  have hS : va_S (AM mo a) s.heap s.heap [] := va_S.rf
  have hl := lv_entry ([.ref mo, .int w, .int h, .long p0]) (n := 7) (Nat.le_of_ble_eq_true rfl)
  rw [lg_entry_eq]
  generalize (lg_sl ([.ref mo, .int w, .int h, .long p0]) ++ List.replicate (7 - (lg_sl ([.ref mo, .int w, .int h, .long p0])).length) Slot.unset).toArray = ls at hl ⊢
  have hl : lv_has ls 7 [(0, .ref mo), (1, .int w), (2, .int h), (3, .long p0)] := hl
  have k_m3 : (-3 : Int32).toInt = -3 := by decide
  have k_m2 : (-2 : Int32).toInt = -2 := by decide
  have k_m1 : (-1 : Int32).toInt = -1 := by decide
  have k_0 : (0 : Int32).toInt = 0 := by decide
  have k_1 : (1 : Int32).toInt = 1 := by decide
  have k_12 : (12 : Int32).toInt = 12 := by decide
  have hI1 := hI.2.2.1
  refine lv_aload_n hx hb dX10_list_0 rfl (lv_at hl 0 rfl) ?_
  refine lv_iconst (v := 0) hx hb dX10_list_1 (by decide) ?_
  refine m_put (v := .int (0 : Int32)) (ty := .int) hx hb hts hin hown hK hP hD hS 0 (by decide) rfl (hts (.fieldLink RX10 79 "ShadowBenchModel" "thrown" "I") (by decide +kernel)) rfl (by decide +kernel) rfl rfl (upd f 0 (0 : Int32)) g rfl dX10_list_2 (fun H locs hP hS => ?_)
  refine lv_iload_n hx hb dX10_list_5 rfl (lv_at hl 1 rfl) ?_
  refine lv_iload_n hx hb dX10_list_6 rfl (lv_at hl 2 rfl) ?_
  refine lv_lload_n hx hb dX10_list_7 rfl (lv_at hl 3 rfl) ?_
  refine m_pu (As := [.int w, .int h, .long p0]) (rest := []) ⟨hx, hb, hml, hown, hts⟩ (c_X10_isPicture l w h p0 ) (va_cwS 3 hts gX10_list_X10_isPicture rfl rfl rfl (by decide +kernel) ⟨Nat.le_of_ble_eq_true rfl, Nat.le_of_ble_eq_true rfl⟩) hP rfl hl.1 rfl (Nat.le_of_ble_eq_true rfl) dX10_list_8 ⟨Nat.le_of_ble_eq_true rfl, Nat.le_of_ble_eq_true rfl⟩ hS (fun r8 H locs q8 hP hS => ?_)
  refine lv_if_ne (tgt := 16) hx hb dX10_list_11 (by decide) (fun c11 => ?_) (fun c11 => ?_)
  · skip
    have b11 := bo_t q8 c11
    refine lv_aload_n hx hb dX10_list_16 rfl (lv_at hl 0 rfl) ?_
    refine m_get (v := .int (f 23)) hx hb hts hin hown hK hP 23 (by decide) rfl (hts (.fieldLink RX10 230 "ShadowBenchModel" "listed" "I") (by decide +kernel)) rfl dX10_list_17 ?_
    refine lv_bipush (v := 12) hx hb dX10_list_20 (by decide) ?_
    refine lv_icmp_ne (tgt := 28) hx hb dX10_list_22 (by decide) (fun c22 => ?_) (fun c22 => ?_)
    · skip
      have d22 := c22
      rw [fa_eq] at d22
      refine lv_aload_n hx hb dX10_list_28 rfl (lv_at hl 0 rfl) ?_
      refine m_get (v := .int (f 23)) hx hb hts hin hown hK hP 23 (by decide) rfl (hts (.fieldLink RX10 230 "ShadowBenchModel" "listed" "I") (by decide +kernel)) rfl dX10_list_29 ?_
      refine lv_if_le (tgt := 55) hx hb dX10_list_32 (by decide) (fun c32 => ?_) (fun c32 => ?_)
      · skip
        have d32 := c32
        rw [fa_le] at d32
        refine lv_iconst (v := 0) hx hb dX10_list_55 (by decide) ?_
        refine lv_istore (lv' := [(5, .int (0 : Int32)), (0, .ref mo), (1, .int w), (2, .int h), (3, .long p0)]) hx hb dX10_list_56 hl (by decide) rfl (fun ls hl => ?_)
        refine lv_iconst (v := 0) hx hb dX10_list_58 (by decide) ?_
        refine lv_istore (lv' := [(6, .int (0 : Int32)), (5, .int (0 : Int32)), (0, .ref mo), (1, .int w), (2, .int h), (3, .long p0)]) hx hb dX10_list_59 hl (by decide) rfl (fun ls hl => ?_)
        have loop_61 : ∀ (n : Nat) (k : Nat) (x5 : Int32), (k ≤ 12) → 12 - k < n → ∀ (H : Heap) (locs : List Loc), va_P D vwCl (WM cy mo a (upd f 0 (0 : Int32)) g r q) H → va_S (AM mo a) s.heap H locs → ∀ (ls : Array Slot), lv_has ls 7 [(6, .int (nI k)), (5, .int x5), (0, .ref mo), (1, .int w), (2, .int h), (3, .long p0)] → W p l e (headSpec wsX10_list ({ frames := 3, cells := 0, slots := 0, locals := 69 })).room s m #[Value.ref mo, Value.int w, Value.int h, Value.long p0] below meth c H locs 0 0 (MQ below (va_Qi (fun r0 u => ∃ (lc : Int32), ∃ (lw : Int32), ∃ (lh : Int32), ∃ (ls1 : Nat → Int64), u = ((upd (upd (upd (upd f 0 (0 : Int32)) 23 lc) 24 lw) 25 lh), g, r, (va_up q 26 ls1)) ∧ (MI (upd (upd (upd (upd f 0 (0 : Int32)) 23 lc) 24 lw) 25 lh) r)) (mB D cy mo a) (AM mo a)) #[Value.ref mo, Value.int w, Value.int h, Value.long p0] s 0 0 (AM mo a)) (F0 m 61 ls []) := by
          intro n
          induction n with
          | zero => intro k x5  j61_0 hn; exact absurd hn (Nat.not_lt_zero _)
          | succ n ih_61 =>
            intro k x5  j61_0 hn_61 H locs hP hS ls hl
            have ik : (nI k).toInt = (k : Int) := nI_toInt (by omega)
            refine lv_iload hx hb dX10_list_61 (lv_at hl 0 rfl) ?_
            refine lv_aload_n hx hb dX10_list_63 rfl (lv_at hl 2 rfl) ?_
            refine m_get (v := .int (f 23)) hx hb hts hin hown hK hP 23 (by decide) rfl (hts (.fieldLink RX10 230 "ShadowBenchModel" "listed" "I") (by decide +kernel)) rfl dX10_list_64 ?_
            refine lv_icmp_ge (tgt := 100) hx hb dX10_list_67 (by decide) (fun c67 => ?_) (fun c67 => ?_)
            · skip
              have d67 := c67
              rw [fa_le] at d67
              refine lv_iload hx hb dX10_list_100 (lv_at hl 1 rfl) ?_
              refine lv_if_eq (tgt := 108) hx hb dX10_list_102 (by decide) (fun c102 => ?_) (fun c102 => ?_)
              · skip
                have d102 := c102
                rw [fa_eq] at d102
                refine lv_aload_n hx hb dX10_list_108 rfl (lv_at hl 2 rfl) ?_
                refine lv_iload_n hx hb dX10_list_109 rfl (lv_at hl 3 rfl) ?_
                refine m_put (v := .int w) (ty := .int) hx hb hts hin hown hK hP hD hS 24 (by decide) rfl (hts (.fieldLink RX10 233 "ShadowBenchModel" "listWide" "I") (by decide +kernel)) rfl (by decide +kernel) rfl rfl (upd (upd f 0 (0 : Int32)) 24 w) g rfl dX10_list_110 (fun H locs hP hS => ?_)
                refine lv_aload_n hx hb dX10_list_113 rfl (lv_at hl 2 rfl) ?_
                refine lv_iload_n hx hb dX10_list_114 rfl (lv_at hl 4 rfl) ?_
                refine m_put (v := .int h) (ty := .int) hx hb hts hin hown hK hP hD hS 25 (by decide) rfl (hts (.fieldLink RX10 236 "ShadowBenchModel" "listHigh" "I") (by decide +kernel)) rfl (by decide +kernel) rfl rfl (upd (upd (upd f 0 (0 : Int32)) 24 w) 25 h) g rfl dX10_list_115 (fun H locs hP hS => ?_)
                refine lv_aload_n hx hb dX10_list_118 rfl (lv_at hl 2 rfl) ?_
                refine m_get (v := .ref (a 26)) hx hb hts hin hown hK hP 26 (by decide) rfl (hts (.fieldLink RX10 52 "ShadowBenchModel" "list" "[J") (by decide +kernel)) rfl dX10_list_119 ?_
                refine lv_aload_n hx hb dX10_list_122 rfl (lv_at hl 2 rfl) ?_
                refine m_get (v := .int (f 23)) hx hb hts hin hown hK hP 23 (by decide) rfl (hts (.fieldLink RX10 230 "ShadowBenchModel" "listed" "I") (by decide +kernel)) rfl dX10_list_123 ?_
                refine lv_lload_n hx hb dX10_list_126 rfl (lv_at hl 5 rfl) ?_
                refine m_last (w := (q 26)) hx hb hK hP hD hS 14 rfl (vp_in_iff.mpr ⟨by omega, by omega⟩) (va_up q 26 ((vp_updL (q 26) (f 23).toNatClampNeg p0))) rfl dX10_list_127 (fun H locs hP hS => ?_)
                refine lv_aload_n hx hb dX10_list_128 rfl (lv_at hl 2 rfl) ?_
                refine lv_dup hx hb dX10_list_129 rfl ?_
                refine m_get (v := .int (f 23)) hx hb hts hin hown hK hP 23 (by decide) rfl (hts (.fieldLink RX10 230 "ShadowBenchModel" "listed" "I") (by decide +kernel)) rfl dX10_list_130 ?_
                refine lv_iconst (v := 1) hx hb dX10_list_133 (by decide) ?_
                refine lv_iadd hx hb dX10_list_134 ?_
                refine lv_topi (fun v134 e134 => ?_)
                have i134 : v134.toInt = (f 23).toInt + (1 : Int32).toInt := by rw [e134]; exact fb_addI (by omega) (by omega)
                refine m_put (v := .int v134) (ty := .int) hx hb hts hin hown hK hP hD hS 23 (by decide) rfl (hts (.fieldLink RX10 230 "ShadowBenchModel" "listed" "I") (by decide +kernel)) rfl (by decide +kernel) rfl rfl (upd (upd (upd (upd f 0 (0 : Int32)) 24 w) 25 h) 23 v134) g rfl dX10_list_135 (fun H locs hP hS => ?_)
                refine lv_aload_n hx hb dX10_list_138 rfl (lv_at hl 2 rfl) ?_
                refine m_get (v := .int v134) hx hb hts hin hown hK hP 23 (by decide) rfl (hts (.fieldLink RX10 230 "ShadowBenchModel" "listed" "I") (by decide +kernel)) rfl dX10_list_139 ?_
                have hP := wm_eq (ec_f_0_24_25_23__0_23_24_25 f (0 : Int32) w h v134) rfl rfl (ec_q_26__26 q ((vp_updL (q 26) (f 23).toNatClampNeg p0))) hP
                exact W.iret (v := v134) hx hb hr (fun t ht hW => ⟨⟨_, ((upd (upd (upd (upd f 0 (0 : Int32)) 23 v134) 24 w) 25 h), g, r, (va_up q 26 (((vp_updL (q 26) (f 23).toNatClampNeg p0))))), rfl, ⟨v134, w, h, ((vp_updL (q 26) (f 23).toNatClampNeg p0)), rfl, by first | exact hI | exact mi_li hI rfl (by show _ ∧ _; omega) (fun _ => ⟨by show _ ∧ _; omega, by show _ ∧ _; omega⟩) rfl rfl rfl rfl⟩, by unfold mB; rw [ht]; exact hP⟩, hS.F ht⟩) hS.2.2 dX10_list_142
              · skip
                have d102 := c102
                rw [fa_eq] at d102
                refine lv_bipush (v := (-3)) hx hb dX10_list_105 (by decide) ?_
                have hP := wm_eq (ec_f_0__0_23_24_25 f (0 : Int32)) rfl rfl (ec_q___26 q ) hP
                exact W.iret (v := ((-3) : Int32)) hx hb hr (fun t ht hW => ⟨⟨_, ((upd (upd (upd (upd f 0 (0 : Int32)) 23 (f 23)) 24 (f 24)) 25 (f 25)), g, r, (va_up q 26 (q 26))), rfl, ⟨(f 23), (f 24), (f 25), (q 26), rfl, by first | exact hI | exact mi_li hI rfl (by show _ ∧ _; omega) (fun _ => ⟨by show _ ∧ _; omega, by show _ ∧ _; omega⟩) rfl rfl rfl rfl⟩, by unfold mB; rw [ht]; exact hP⟩, hS.F ht⟩) hS.2.2 dX10_list_107
            · skip
              have d67 := c67
              rw [fa_le] at d67
              refine lv_iload hx hb dX10_list_70 (lv_at hl 1 rfl) ?_
              refine lv_if_ne (tgt := 87) hx hb dX10_list_72 (by decide) (fun c72 => ?_) (fun c72 => ?_)
              · skip
                have d72 := c72
                rw [fa_eq] at d72
                refine lv_iconst (v := 1) hx hb dX10_list_87 (by decide) ?_
                refine lv_goto (tgt := 92) hx hb dX10_list_88 (by decide) ?_
                refine lv_istore (lv' := [(5, .int (1 : Int32)), (6, .int (nI k)), (0, .ref mo), (1, .int w), (2, .int h), (3, .long p0)]) hx hb dX10_list_92 hl (by decide) rfl (fun ls hl => ?_)
                refine lv_iinc (v := (nI (k + 1))) (lv' := [(6, .int (nI (k + 1))), (5, .int (1 : Int32)), (0, .ref mo), (1, .int w), (2, .int h), (3, .long p0)]) hx hb dX10_list_94 hl (k := 1) rfl (nI_1 _) (by decide) rfl (fun ls hl => ?_)
                refine lv_goto (tgt := 61) hx hb dX10_list_97 (by decide) ?_
                exact ih_61 (k + 1) (1 : Int32) (by omega) (by omega) _ _ hP hS ls (lv_sub hl [0, 1, 2, 3, 4, 5] rfl)
              · skip
                have d72 := c72
                rw [fa_eq] at d72
                refine lv_aload_n hx hb dX10_list_75 rfl (lv_at hl 2 rfl) ?_
                refine m_get (v := .ref (a 26)) hx hb hts hin hown hK hP 26 (by decide) rfl (hts (.fieldLink RX10 52 "ShadowBenchModel" "list" "[J") (by decide +kernel)) rfl dX10_list_76 ?_
                refine lv_iload hx hb dX10_list_79 (lv_at hl 0 rfl) ?_
                refine m_lald (w := (q 26)) hx hb hK hP 14 rfl (vp_in_iff.mpr ⟨by omega, by omega⟩) dX10_list_81 ?_
                refine lv_topl (fun v81 e81 => ?_)
                refine lv_lload_n hx hb dX10_list_82 rfl (lv_at hl 5 rfl) ?_
                refine W.lcmp hx hb dX10_list_83 ?_
                refine lv_if_ne (tgt := 91) hx hb dX10_list_84 (by decide) (fun c84 => ?_) (fun c84 => ?_)
                · skip
                  have d84 := c84
                  rw [lg_cmp_eq, fa_eq64] at d84
                  refine lv_iconst (v := 0) hx hb dX10_list_91 (by decide) ?_
                  refine lv_istore (lv' := [(5, .int (0 : Int32)), (6, .int (nI k)), (0, .ref mo), (1, .int w), (2, .int h), (3, .long p0)]) hx hb dX10_list_92 hl (by decide) rfl (fun ls hl => ?_)
                  refine lv_iinc (v := (nI (k + 1))) (lv' := [(6, .int (nI (k + 1))), (5, .int (0 : Int32)), (0, .ref mo), (1, .int w), (2, .int h), (3, .long p0)]) hx hb dX10_list_94 hl (k := 1) rfl (nI_1 _) (by decide) rfl (fun ls hl => ?_)
                  refine lv_goto (tgt := 61) hx hb dX10_list_97 (by decide) ?_
                  exact ih_61 (k + 1) (0 : Int32) (by omega) (by omega) _ _ hP hS ls (lv_sub hl [0, 1, 2, 3, 4, 5] rfl)
                · skip
                  have d84 := c84
                  rw [lg_cmp_eq, fa_eq64] at d84
                  refine lv_iconst (v := 1) hx hb dX10_list_87 (by decide) ?_
                  refine lv_goto (tgt := 92) hx hb dX10_list_88 (by decide) ?_
                  refine lv_istore (lv' := [(5, .int (1 : Int32)), (6, .int (nI k)), (0, .ref mo), (1, .int w), (2, .int h), (3, .long p0)]) hx hb dX10_list_92 hl (by decide) rfl (fun ls hl => ?_)
                  refine lv_iinc (v := (nI (k + 1))) (lv' := [(6, .int (nI (k + 1))), (5, .int (1 : Int32)), (0, .ref mo), (1, .int w), (2, .int h), (3, .long p0)]) hx hb dX10_list_94 hl (k := 1) rfl (nI_1 _) (by decide) rfl (fun ls hl => ?_)
                  refine lv_goto (tgt := 61) hx hb dX10_list_97 (by decide) ?_
                  exact ih_61 (k + 1) (1 : Int32) (by omega) (by omega) _ _ hP hS ls (lv_sub hl [0, 1, 2, 3, 4, 5] rfl)
        exact loop_61 (12 + 1) 0 (0 : Int32) (by omega) (by omega) _ _ hP hS ls (lv_sub hl [0, 1, 2, 3, 4, 5] rfl)
      · skip
        have d32 := c32
        rw [fa_le] at d32
        refine lv_iload_n hx hb dX10_list_35 rfl (lv_at hl 1 rfl) ?_
        refine lv_aload_n hx hb dX10_list_36 rfl (lv_at hl 0 rfl) ?_
        refine m_get (v := .int (f 24)) hx hb hts hin hown hK hP 24 (by decide) rfl (hts (.fieldLink RX10 233 "ShadowBenchModel" "listWide" "I") (by decide +kernel)) rfl dX10_list_37 ?_
        refine lv_icmp_ne (tgt := 51) hx hb dX10_list_40 (by decide) (fun c40 => ?_) (fun c40 => ?_)
        · skip
          have d40 := c40
          rw [fa_eq] at d40
          refine lv_iconst (v := 1) hx hb dX10_list_51 (by decide) ?_
          refine lv_goto (tgt := 56) hx hb dX10_list_52 (by decide) ?_
          refine lv_istore (lv' := [(5, .int (1 : Int32)), (0, .ref mo), (1, .int w), (2, .int h), (3, .long p0)]) hx hb dX10_list_56 hl (by decide) rfl (fun ls hl => ?_)
          refine lv_iconst (v := 0) hx hb dX10_list_58 (by decide) ?_
          refine lv_istore (lv' := [(6, .int (0 : Int32)), (5, .int (1 : Int32)), (0, .ref mo), (1, .int w), (2, .int h), (3, .long p0)]) hx hb dX10_list_59 hl (by decide) rfl (fun ls hl => ?_)
          have loop_61 : ∀ (n : Nat) (k : Nat) (x5 : Int32), (k ≤ 12) → 12 - k < n → ∀ (H : Heap) (locs : List Loc), va_P D vwCl (WM cy mo a (upd f 0 (0 : Int32)) g r q) H → va_S (AM mo a) s.heap H locs → ∀ (ls : Array Slot), lv_has ls 7 [(6, .int (nI k)), (5, .int x5), (0, .ref mo), (1, .int w), (2, .int h), (3, .long p0)] → W p l e (headSpec wsX10_list ({ frames := 3, cells := 0, slots := 0, locals := 69 })).room s m #[Value.ref mo, Value.int w, Value.int h, Value.long p0] below meth c H locs 0 0 (MQ below (va_Qi (fun r0 u => ∃ (lc : Int32), ∃ (lw : Int32), ∃ (lh : Int32), ∃ (ls1 : Nat → Int64), u = ((upd (upd (upd (upd f 0 (0 : Int32)) 23 lc) 24 lw) 25 lh), g, r, (va_up q 26 ls1)) ∧ (MI (upd (upd (upd (upd f 0 (0 : Int32)) 23 lc) 24 lw) 25 lh) r)) (mB D cy mo a) (AM mo a)) #[Value.ref mo, Value.int w, Value.int h, Value.long p0] s 0 0 (AM mo a)) (F0 m 61 ls []) := by
            intro n
            induction n with
            | zero => intro k x5  j61_0 hn; exact absurd hn (Nat.not_lt_zero _)
            | succ n ih_61 =>
              intro k x5  j61_0 hn_61 H locs hP hS ls hl
              have ik : (nI k).toInt = (k : Int) := nI_toInt (by omega)
              refine lv_iload hx hb dX10_list_61 (lv_at hl 0 rfl) ?_
              refine lv_aload_n hx hb dX10_list_63 rfl (lv_at hl 2 rfl) ?_
              refine m_get (v := .int (f 23)) hx hb hts hin hown hK hP 23 (by decide) rfl (hts (.fieldLink RX10 230 "ShadowBenchModel" "listed" "I") (by decide +kernel)) rfl dX10_list_64 ?_
              refine lv_icmp_ge (tgt := 100) hx hb dX10_list_67 (by decide) (fun c67 => ?_) (fun c67 => ?_)
              · skip
                have d67 := c67
                rw [fa_le] at d67
                refine lv_iload hx hb dX10_list_100 (lv_at hl 1 rfl) ?_
                refine lv_if_eq (tgt := 108) hx hb dX10_list_102 (by decide) (fun c102 => ?_) (fun c102 => ?_)
                · skip
                  have d102 := c102
                  rw [fa_eq] at d102
                  refine lv_aload_n hx hb dX10_list_108 rfl (lv_at hl 2 rfl) ?_
                  refine lv_iload_n hx hb dX10_list_109 rfl (lv_at hl 3 rfl) ?_
                  refine m_put (v := .int w) (ty := .int) hx hb hts hin hown hK hP hD hS 24 (by decide) rfl (hts (.fieldLink RX10 233 "ShadowBenchModel" "listWide" "I") (by decide +kernel)) rfl (by decide +kernel) rfl rfl (upd (upd f 0 (0 : Int32)) 24 w) g rfl dX10_list_110 (fun H locs hP hS => ?_)
                  refine lv_aload_n hx hb dX10_list_113 rfl (lv_at hl 2 rfl) ?_
                  refine lv_iload_n hx hb dX10_list_114 rfl (lv_at hl 4 rfl) ?_
                  refine m_put (v := .int h) (ty := .int) hx hb hts hin hown hK hP hD hS 25 (by decide) rfl (hts (.fieldLink RX10 236 "ShadowBenchModel" "listHigh" "I") (by decide +kernel)) rfl (by decide +kernel) rfl rfl (upd (upd (upd f 0 (0 : Int32)) 24 w) 25 h) g rfl dX10_list_115 (fun H locs hP hS => ?_)
                  refine lv_aload_n hx hb dX10_list_118 rfl (lv_at hl 2 rfl) ?_
                  refine m_get (v := .ref (a 26)) hx hb hts hin hown hK hP 26 (by decide) rfl (hts (.fieldLink RX10 52 "ShadowBenchModel" "list" "[J") (by decide +kernel)) rfl dX10_list_119 ?_
                  refine lv_aload_n hx hb dX10_list_122 rfl (lv_at hl 2 rfl) ?_
                  refine m_get (v := .int (f 23)) hx hb hts hin hown hK hP 23 (by decide) rfl (hts (.fieldLink RX10 230 "ShadowBenchModel" "listed" "I") (by decide +kernel)) rfl dX10_list_123 ?_
                  refine lv_lload_n hx hb dX10_list_126 rfl (lv_at hl 5 rfl) ?_
                  refine m_last (w := (q 26)) hx hb hK hP hD hS 14 rfl (vp_in_iff.mpr ⟨by omega, by omega⟩) (va_up q 26 ((vp_updL (q 26) (f 23).toNatClampNeg p0))) rfl dX10_list_127 (fun H locs hP hS => ?_)
                  refine lv_aload_n hx hb dX10_list_128 rfl (lv_at hl 2 rfl) ?_
                  refine lv_dup hx hb dX10_list_129 rfl ?_
                  refine m_get (v := .int (f 23)) hx hb hts hin hown hK hP 23 (by decide) rfl (hts (.fieldLink RX10 230 "ShadowBenchModel" "listed" "I") (by decide +kernel)) rfl dX10_list_130 ?_
                  refine lv_iconst (v := 1) hx hb dX10_list_133 (by decide) ?_
                  refine lv_iadd hx hb dX10_list_134 ?_
                  refine lv_topi (fun v134 e134 => ?_)
                  have i134 : v134.toInt = (f 23).toInt + (1 : Int32).toInt := by rw [e134]; exact fb_addI (by omega) (by omega)
                  refine m_put (v := .int v134) (ty := .int) hx hb hts hin hown hK hP hD hS 23 (by decide) rfl (hts (.fieldLink RX10 230 "ShadowBenchModel" "listed" "I") (by decide +kernel)) rfl (by decide +kernel) rfl rfl (upd (upd (upd (upd f 0 (0 : Int32)) 24 w) 25 h) 23 v134) g rfl dX10_list_135 (fun H locs hP hS => ?_)
                  refine lv_aload_n hx hb dX10_list_138 rfl (lv_at hl 2 rfl) ?_
                  refine m_get (v := .int v134) hx hb hts hin hown hK hP 23 (by decide) rfl (hts (.fieldLink RX10 230 "ShadowBenchModel" "listed" "I") (by decide +kernel)) rfl dX10_list_139 ?_
                  have hP := wm_eq (ec_f_0_24_25_23__0_23_24_25 f (0 : Int32) w h v134) rfl rfl (ec_q_26__26 q ((vp_updL (q 26) (f 23).toNatClampNeg p0))) hP
                  exact W.iret (v := v134) hx hb hr (fun t ht hW => ⟨⟨_, ((upd (upd (upd (upd f 0 (0 : Int32)) 23 v134) 24 w) 25 h), g, r, (va_up q 26 (((vp_updL (q 26) (f 23).toNatClampNeg p0))))), rfl, ⟨v134, w, h, ((vp_updL (q 26) (f 23).toNatClampNeg p0)), rfl, by first | exact hI | exact mi_li hI rfl (by show _ ∧ _; omega) (fun _ => ⟨by show _ ∧ _; omega, by show _ ∧ _; omega⟩) rfl rfl rfl rfl⟩, by unfold mB; rw [ht]; exact hP⟩, hS.F ht⟩) hS.2.2 dX10_list_142
                · skip
                  have d102 := c102
                  rw [fa_eq] at d102
                  refine lv_bipush (v := (-3)) hx hb dX10_list_105 (by decide) ?_
                  have hP := wm_eq (ec_f_0__0_23_24_25 f (0 : Int32)) rfl rfl (ec_q___26 q ) hP
                  exact W.iret (v := ((-3) : Int32)) hx hb hr (fun t ht hW => ⟨⟨_, ((upd (upd (upd (upd f 0 (0 : Int32)) 23 (f 23)) 24 (f 24)) 25 (f 25)), g, r, (va_up q 26 (q 26))), rfl, ⟨(f 23), (f 24), (f 25), (q 26), rfl, by first | exact hI | exact mi_li hI rfl (by show _ ∧ _; omega) (fun _ => ⟨by show _ ∧ _; omega, by show _ ∧ _; omega⟩) rfl rfl rfl rfl⟩, by unfold mB; rw [ht]; exact hP⟩, hS.F ht⟩) hS.2.2 dX10_list_107
              · skip
                have d67 := c67
                rw [fa_le] at d67
                refine lv_iload hx hb dX10_list_70 (lv_at hl 1 rfl) ?_
                refine lv_if_ne (tgt := 87) hx hb dX10_list_72 (by decide) (fun c72 => ?_) (fun c72 => ?_)
                · skip
                  have d72 := c72
                  rw [fa_eq] at d72
                  refine lv_iconst (v := 1) hx hb dX10_list_87 (by decide) ?_
                  refine lv_goto (tgt := 92) hx hb dX10_list_88 (by decide) ?_
                  refine lv_istore (lv' := [(5, .int (1 : Int32)), (6, .int (nI k)), (0, .ref mo), (1, .int w), (2, .int h), (3, .long p0)]) hx hb dX10_list_92 hl (by decide) rfl (fun ls hl => ?_)
                  refine lv_iinc (v := (nI (k + 1))) (lv' := [(6, .int (nI (k + 1))), (5, .int (1 : Int32)), (0, .ref mo), (1, .int w), (2, .int h), (3, .long p0)]) hx hb dX10_list_94 hl (k := 1) rfl (nI_1 _) (by decide) rfl (fun ls hl => ?_)
                  refine lv_goto (tgt := 61) hx hb dX10_list_97 (by decide) ?_
                  exact ih_61 (k + 1) (1 : Int32) (by omega) (by omega) _ _ hP hS ls (lv_sub hl [0, 1, 2, 3, 4, 5] rfl)
                · skip
                  have d72 := c72
                  rw [fa_eq] at d72
                  refine lv_aload_n hx hb dX10_list_75 rfl (lv_at hl 2 rfl) ?_
                  refine m_get (v := .ref (a 26)) hx hb hts hin hown hK hP 26 (by decide) rfl (hts (.fieldLink RX10 52 "ShadowBenchModel" "list" "[J") (by decide +kernel)) rfl dX10_list_76 ?_
                  refine lv_iload hx hb dX10_list_79 (lv_at hl 0 rfl) ?_
                  refine m_lald (w := (q 26)) hx hb hK hP 14 rfl (vp_in_iff.mpr ⟨by omega, by omega⟩) dX10_list_81 ?_
                  refine lv_topl (fun v81 e81 => ?_)
                  refine lv_lload_n hx hb dX10_list_82 rfl (lv_at hl 5 rfl) ?_
                  refine W.lcmp hx hb dX10_list_83 ?_
                  refine lv_if_ne (tgt := 91) hx hb dX10_list_84 (by decide) (fun c84 => ?_) (fun c84 => ?_)
                  · skip
                    have d84 := c84
                    rw [lg_cmp_eq, fa_eq64] at d84
                    refine lv_iconst (v := 0) hx hb dX10_list_91 (by decide) ?_
                    refine lv_istore (lv' := [(5, .int (0 : Int32)), (6, .int (nI k)), (0, .ref mo), (1, .int w), (2, .int h), (3, .long p0)]) hx hb dX10_list_92 hl (by decide) rfl (fun ls hl => ?_)
                    refine lv_iinc (v := (nI (k + 1))) (lv' := [(6, .int (nI (k + 1))), (5, .int (0 : Int32)), (0, .ref mo), (1, .int w), (2, .int h), (3, .long p0)]) hx hb dX10_list_94 hl (k := 1) rfl (nI_1 _) (by decide) rfl (fun ls hl => ?_)
                    refine lv_goto (tgt := 61) hx hb dX10_list_97 (by decide) ?_
                    exact ih_61 (k + 1) (0 : Int32) (by omega) (by omega) _ _ hP hS ls (lv_sub hl [0, 1, 2, 3, 4, 5] rfl)
                  · skip
                    have d84 := c84
                    rw [lg_cmp_eq, fa_eq64] at d84
                    refine lv_iconst (v := 1) hx hb dX10_list_87 (by decide) ?_
                    refine lv_goto (tgt := 92) hx hb dX10_list_88 (by decide) ?_
                    refine lv_istore (lv' := [(5, .int (1 : Int32)), (6, .int (nI k)), (0, .ref mo), (1, .int w), (2, .int h), (3, .long p0)]) hx hb dX10_list_92 hl (by decide) rfl (fun ls hl => ?_)
                    refine lv_iinc (v := (nI (k + 1))) (lv' := [(6, .int (nI (k + 1))), (5, .int (1 : Int32)), (0, .ref mo), (1, .int w), (2, .int h), (3, .long p0)]) hx hb dX10_list_94 hl (k := 1) rfl (nI_1 _) (by decide) rfl (fun ls hl => ?_)
                    refine lv_goto (tgt := 61) hx hb dX10_list_97 (by decide) ?_
                    exact ih_61 (k + 1) (1 : Int32) (by omega) (by omega) _ _ hP hS ls (lv_sub hl [0, 1, 2, 3, 4, 5] rfl)
          exact loop_61 (12 + 1) 0 (1 : Int32) (by omega) (by omega) _ _ hP hS ls (lv_sub hl [0, 1, 2, 3, 4, 5] rfl)
        · skip
          have d40 := c40
          rw [fa_eq] at d40
          refine lv_iload_n hx hb dX10_list_43 rfl (lv_at hl 2 rfl) ?_
          refine lv_aload_n hx hb dX10_list_44 rfl (lv_at hl 0 rfl) ?_
          refine m_get (v := .int (f 25)) hx hb hts hin hown hK hP 25 (by decide) rfl (hts (.fieldLink RX10 236 "ShadowBenchModel" "listHigh" "I") (by decide +kernel)) rfl dX10_list_45 ?_
          refine lv_icmp_eq (tgt := 55) hx hb dX10_list_48 (by decide) (fun c48 => ?_) (fun c48 => ?_)
          · skip
            have d48 := c48
            rw [fa_eq] at d48
            refine lv_iconst (v := 0) hx hb dX10_list_55 (by decide) ?_
            refine lv_istore (lv' := [(5, .int (0 : Int32)), (0, .ref mo), (1, .int w), (2, .int h), (3, .long p0)]) hx hb dX10_list_56 hl (by decide) rfl (fun ls hl => ?_)
            refine lv_iconst (v := 0) hx hb dX10_list_58 (by decide) ?_
            refine lv_istore (lv' := [(6, .int (0 : Int32)), (5, .int (0 : Int32)), (0, .ref mo), (1, .int w), (2, .int h), (3, .long p0)]) hx hb dX10_list_59 hl (by decide) rfl (fun ls hl => ?_)
            have loop_61 : ∀ (n : Nat) (k : Nat) (x5 : Int32), (k ≤ 12) → 12 - k < n → ∀ (H : Heap) (locs : List Loc), va_P D vwCl (WM cy mo a (upd f 0 (0 : Int32)) g r q) H → va_S (AM mo a) s.heap H locs → ∀ (ls : Array Slot), lv_has ls 7 [(6, .int (nI k)), (5, .int x5), (0, .ref mo), (1, .int w), (2, .int h), (3, .long p0)] → W p l e (headSpec wsX10_list ({ frames := 3, cells := 0, slots := 0, locals := 69 })).room s m #[Value.ref mo, Value.int w, Value.int h, Value.long p0] below meth c H locs 0 0 (MQ below (va_Qi (fun r0 u => ∃ (lc : Int32), ∃ (lw : Int32), ∃ (lh : Int32), ∃ (ls1 : Nat → Int64), u = ((upd (upd (upd (upd f 0 (0 : Int32)) 23 lc) 24 lw) 25 lh), g, r, (va_up q 26 ls1)) ∧ (MI (upd (upd (upd (upd f 0 (0 : Int32)) 23 lc) 24 lw) 25 lh) r)) (mB D cy mo a) (AM mo a)) #[Value.ref mo, Value.int w, Value.int h, Value.long p0] s 0 0 (AM mo a)) (F0 m 61 ls []) := by
              intro n
              induction n with
              | zero => intro k x5  j61_0 hn; exact absurd hn (Nat.not_lt_zero _)
              | succ n ih_61 =>
                intro k x5  j61_0 hn_61 H locs hP hS ls hl
                have ik : (nI k).toInt = (k : Int) := nI_toInt (by omega)
                refine lv_iload hx hb dX10_list_61 (lv_at hl 0 rfl) ?_
                refine lv_aload_n hx hb dX10_list_63 rfl (lv_at hl 2 rfl) ?_
                refine m_get (v := .int (f 23)) hx hb hts hin hown hK hP 23 (by decide) rfl (hts (.fieldLink RX10 230 "ShadowBenchModel" "listed" "I") (by decide +kernel)) rfl dX10_list_64 ?_
                refine lv_icmp_ge (tgt := 100) hx hb dX10_list_67 (by decide) (fun c67 => ?_) (fun c67 => ?_)
                · skip
                  have d67 := c67
                  rw [fa_le] at d67
                  refine lv_iload hx hb dX10_list_100 (lv_at hl 1 rfl) ?_
                  refine lv_if_eq (tgt := 108) hx hb dX10_list_102 (by decide) (fun c102 => ?_) (fun c102 => ?_)
                  · skip
                    have d102 := c102
                    rw [fa_eq] at d102
                    refine lv_aload_n hx hb dX10_list_108 rfl (lv_at hl 2 rfl) ?_
                    refine lv_iload_n hx hb dX10_list_109 rfl (lv_at hl 3 rfl) ?_
                    refine m_put (v := .int w) (ty := .int) hx hb hts hin hown hK hP hD hS 24 (by decide) rfl (hts (.fieldLink RX10 233 "ShadowBenchModel" "listWide" "I") (by decide +kernel)) rfl (by decide +kernel) rfl rfl (upd (upd f 0 (0 : Int32)) 24 w) g rfl dX10_list_110 (fun H locs hP hS => ?_)
                    refine lv_aload_n hx hb dX10_list_113 rfl (lv_at hl 2 rfl) ?_
                    refine lv_iload_n hx hb dX10_list_114 rfl (lv_at hl 4 rfl) ?_
                    refine m_put (v := .int h) (ty := .int) hx hb hts hin hown hK hP hD hS 25 (by decide) rfl (hts (.fieldLink RX10 236 "ShadowBenchModel" "listHigh" "I") (by decide +kernel)) rfl (by decide +kernel) rfl rfl (upd (upd (upd f 0 (0 : Int32)) 24 w) 25 h) g rfl dX10_list_115 (fun H locs hP hS => ?_)
                    refine lv_aload_n hx hb dX10_list_118 rfl (lv_at hl 2 rfl) ?_
                    refine m_get (v := .ref (a 26)) hx hb hts hin hown hK hP 26 (by decide) rfl (hts (.fieldLink RX10 52 "ShadowBenchModel" "list" "[J") (by decide +kernel)) rfl dX10_list_119 ?_
                    refine lv_aload_n hx hb dX10_list_122 rfl (lv_at hl 2 rfl) ?_
                    refine m_get (v := .int (f 23)) hx hb hts hin hown hK hP 23 (by decide) rfl (hts (.fieldLink RX10 230 "ShadowBenchModel" "listed" "I") (by decide +kernel)) rfl dX10_list_123 ?_
                    refine lv_lload_n hx hb dX10_list_126 rfl (lv_at hl 5 rfl) ?_
                    refine m_last (w := (q 26)) hx hb hK hP hD hS 14 rfl (vp_in_iff.mpr ⟨by omega, by omega⟩) (va_up q 26 ((vp_updL (q 26) (f 23).toNatClampNeg p0))) rfl dX10_list_127 (fun H locs hP hS => ?_)
                    refine lv_aload_n hx hb dX10_list_128 rfl (lv_at hl 2 rfl) ?_
                    refine lv_dup hx hb dX10_list_129 rfl ?_
                    refine m_get (v := .int (f 23)) hx hb hts hin hown hK hP 23 (by decide) rfl (hts (.fieldLink RX10 230 "ShadowBenchModel" "listed" "I") (by decide +kernel)) rfl dX10_list_130 ?_
                    refine lv_iconst (v := 1) hx hb dX10_list_133 (by decide) ?_
                    refine lv_iadd hx hb dX10_list_134 ?_
                    refine lv_topi (fun v134 e134 => ?_)
                    have i134 : v134.toInt = (f 23).toInt + (1 : Int32).toInt := by rw [e134]; exact fb_addI (by omega) (by omega)
                    refine m_put (v := .int v134) (ty := .int) hx hb hts hin hown hK hP hD hS 23 (by decide) rfl (hts (.fieldLink RX10 230 "ShadowBenchModel" "listed" "I") (by decide +kernel)) rfl (by decide +kernel) rfl rfl (upd (upd (upd (upd f 0 (0 : Int32)) 24 w) 25 h) 23 v134) g rfl dX10_list_135 (fun H locs hP hS => ?_)
                    refine lv_aload_n hx hb dX10_list_138 rfl (lv_at hl 2 rfl) ?_
                    refine m_get (v := .int v134) hx hb hts hin hown hK hP 23 (by decide) rfl (hts (.fieldLink RX10 230 "ShadowBenchModel" "listed" "I") (by decide +kernel)) rfl dX10_list_139 ?_
                    have hP := wm_eq (ec_f_0_24_25_23__0_23_24_25 f (0 : Int32) w h v134) rfl rfl (ec_q_26__26 q ((vp_updL (q 26) (f 23).toNatClampNeg p0))) hP
                    exact W.iret (v := v134) hx hb hr (fun t ht hW => ⟨⟨_, ((upd (upd (upd (upd f 0 (0 : Int32)) 23 v134) 24 w) 25 h), g, r, (va_up q 26 (((vp_updL (q 26) (f 23).toNatClampNeg p0))))), rfl, ⟨v134, w, h, ((vp_updL (q 26) (f 23).toNatClampNeg p0)), rfl, by first | exact hI | exact mi_li hI rfl (by show _ ∧ _; omega) (fun _ => ⟨by show _ ∧ _; omega, by show _ ∧ _; omega⟩) rfl rfl rfl rfl⟩, by unfold mB; rw [ht]; exact hP⟩, hS.F ht⟩) hS.2.2 dX10_list_142
                  · skip
                    have d102 := c102
                    rw [fa_eq] at d102
                    refine lv_bipush (v := (-3)) hx hb dX10_list_105 (by decide) ?_
                    have hP := wm_eq (ec_f_0__0_23_24_25 f (0 : Int32)) rfl rfl (ec_q___26 q ) hP
                    exact W.iret (v := ((-3) : Int32)) hx hb hr (fun t ht hW => ⟨⟨_, ((upd (upd (upd (upd f 0 (0 : Int32)) 23 (f 23)) 24 (f 24)) 25 (f 25)), g, r, (va_up q 26 (q 26))), rfl, ⟨(f 23), (f 24), (f 25), (q 26), rfl, by first | exact hI | exact mi_li hI rfl (by show _ ∧ _; omega) (fun _ => ⟨by show _ ∧ _; omega, by show _ ∧ _; omega⟩) rfl rfl rfl rfl⟩, by unfold mB; rw [ht]; exact hP⟩, hS.F ht⟩) hS.2.2 dX10_list_107
                · skip
                  have d67 := c67
                  rw [fa_le] at d67
                  refine lv_iload hx hb dX10_list_70 (lv_at hl 1 rfl) ?_
                  refine lv_if_ne (tgt := 87) hx hb dX10_list_72 (by decide) (fun c72 => ?_) (fun c72 => ?_)
                  · skip
                    have d72 := c72
                    rw [fa_eq] at d72
                    refine lv_iconst (v := 1) hx hb dX10_list_87 (by decide) ?_
                    refine lv_goto (tgt := 92) hx hb dX10_list_88 (by decide) ?_
                    refine lv_istore (lv' := [(5, .int (1 : Int32)), (6, .int (nI k)), (0, .ref mo), (1, .int w), (2, .int h), (3, .long p0)]) hx hb dX10_list_92 hl (by decide) rfl (fun ls hl => ?_)
                    refine lv_iinc (v := (nI (k + 1))) (lv' := [(6, .int (nI (k + 1))), (5, .int (1 : Int32)), (0, .ref mo), (1, .int w), (2, .int h), (3, .long p0)]) hx hb dX10_list_94 hl (k := 1) rfl (nI_1 _) (by decide) rfl (fun ls hl => ?_)
                    refine lv_goto (tgt := 61) hx hb dX10_list_97 (by decide) ?_
                    exact ih_61 (k + 1) (1 : Int32) (by omega) (by omega) _ _ hP hS ls (lv_sub hl [0, 1, 2, 3, 4, 5] rfl)
                  · skip
                    have d72 := c72
                    rw [fa_eq] at d72
                    refine lv_aload_n hx hb dX10_list_75 rfl (lv_at hl 2 rfl) ?_
                    refine m_get (v := .ref (a 26)) hx hb hts hin hown hK hP 26 (by decide) rfl (hts (.fieldLink RX10 52 "ShadowBenchModel" "list" "[J") (by decide +kernel)) rfl dX10_list_76 ?_
                    refine lv_iload hx hb dX10_list_79 (lv_at hl 0 rfl) ?_
                    refine m_lald (w := (q 26)) hx hb hK hP 14 rfl (vp_in_iff.mpr ⟨by omega, by omega⟩) dX10_list_81 ?_
                    refine lv_topl (fun v81 e81 => ?_)
                    refine lv_lload_n hx hb dX10_list_82 rfl (lv_at hl 5 rfl) ?_
                    refine W.lcmp hx hb dX10_list_83 ?_
                    refine lv_if_ne (tgt := 91) hx hb dX10_list_84 (by decide) (fun c84 => ?_) (fun c84 => ?_)
                    · skip
                      have d84 := c84
                      rw [lg_cmp_eq, fa_eq64] at d84
                      refine lv_iconst (v := 0) hx hb dX10_list_91 (by decide) ?_
                      refine lv_istore (lv' := [(5, .int (0 : Int32)), (6, .int (nI k)), (0, .ref mo), (1, .int w), (2, .int h), (3, .long p0)]) hx hb dX10_list_92 hl (by decide) rfl (fun ls hl => ?_)
                      refine lv_iinc (v := (nI (k + 1))) (lv' := [(6, .int (nI (k + 1))), (5, .int (0 : Int32)), (0, .ref mo), (1, .int w), (2, .int h), (3, .long p0)]) hx hb dX10_list_94 hl (k := 1) rfl (nI_1 _) (by decide) rfl (fun ls hl => ?_)
                      refine lv_goto (tgt := 61) hx hb dX10_list_97 (by decide) ?_
                      exact ih_61 (k + 1) (0 : Int32) (by omega) (by omega) _ _ hP hS ls (lv_sub hl [0, 1, 2, 3, 4, 5] rfl)
                    · skip
                      have d84 := c84
                      rw [lg_cmp_eq, fa_eq64] at d84
                      refine lv_iconst (v := 1) hx hb dX10_list_87 (by decide) ?_
                      refine lv_goto (tgt := 92) hx hb dX10_list_88 (by decide) ?_
                      refine lv_istore (lv' := [(5, .int (1 : Int32)), (6, .int (nI k)), (0, .ref mo), (1, .int w), (2, .int h), (3, .long p0)]) hx hb dX10_list_92 hl (by decide) rfl (fun ls hl => ?_)
                      refine lv_iinc (v := (nI (k + 1))) (lv' := [(6, .int (nI (k + 1))), (5, .int (1 : Int32)), (0, .ref mo), (1, .int w), (2, .int h), (3, .long p0)]) hx hb dX10_list_94 hl (k := 1) rfl (nI_1 _) (by decide) rfl (fun ls hl => ?_)
                      refine lv_goto (tgt := 61) hx hb dX10_list_97 (by decide) ?_
                      exact ih_61 (k + 1) (1 : Int32) (by omega) (by omega) _ _ hP hS ls (lv_sub hl [0, 1, 2, 3, 4, 5] rfl)
            exact loop_61 (12 + 1) 0 (0 : Int32) (by omega) (by omega) _ _ hP hS ls (lv_sub hl [0, 1, 2, 3, 4, 5] rfl)
          · skip
            have d48 := c48
            rw [fa_eq] at d48
            refine lv_iconst (v := 1) hx hb dX10_list_51 (by decide) ?_
            refine lv_goto (tgt := 56) hx hb dX10_list_52 (by decide) ?_
            refine lv_istore (lv' := [(5, .int (1 : Int32)), (0, .ref mo), (1, .int w), (2, .int h), (3, .long p0)]) hx hb dX10_list_56 hl (by decide) rfl (fun ls hl => ?_)
            refine lv_iconst (v := 0) hx hb dX10_list_58 (by decide) ?_
            refine lv_istore (lv' := [(6, .int (0 : Int32)), (5, .int (1 : Int32)), (0, .ref mo), (1, .int w), (2, .int h), (3, .long p0)]) hx hb dX10_list_59 hl (by decide) rfl (fun ls hl => ?_)
            have loop_61 : ∀ (n : Nat) (k : Nat) (x5 : Int32), (k ≤ 12) → 12 - k < n → ∀ (H : Heap) (locs : List Loc), va_P D vwCl (WM cy mo a (upd f 0 (0 : Int32)) g r q) H → va_S (AM mo a) s.heap H locs → ∀ (ls : Array Slot), lv_has ls 7 [(6, .int (nI k)), (5, .int x5), (0, .ref mo), (1, .int w), (2, .int h), (3, .long p0)] → W p l e (headSpec wsX10_list ({ frames := 3, cells := 0, slots := 0, locals := 69 })).room s m #[Value.ref mo, Value.int w, Value.int h, Value.long p0] below meth c H locs 0 0 (MQ below (va_Qi (fun r0 u => ∃ (lc : Int32), ∃ (lw : Int32), ∃ (lh : Int32), ∃ (ls1 : Nat → Int64), u = ((upd (upd (upd (upd f 0 (0 : Int32)) 23 lc) 24 lw) 25 lh), g, r, (va_up q 26 ls1)) ∧ (MI (upd (upd (upd (upd f 0 (0 : Int32)) 23 lc) 24 lw) 25 lh) r)) (mB D cy mo a) (AM mo a)) #[Value.ref mo, Value.int w, Value.int h, Value.long p0] s 0 0 (AM mo a)) (F0 m 61 ls []) := by
              intro n
              induction n with
              | zero => intro k x5  j61_0 hn; exact absurd hn (Nat.not_lt_zero _)
              | succ n ih_61 =>
                intro k x5  j61_0 hn_61 H locs hP hS ls hl
                have ik : (nI k).toInt = (k : Int) := nI_toInt (by omega)
                refine lv_iload hx hb dX10_list_61 (lv_at hl 0 rfl) ?_
                refine lv_aload_n hx hb dX10_list_63 rfl (lv_at hl 2 rfl) ?_
                refine m_get (v := .int (f 23)) hx hb hts hin hown hK hP 23 (by decide) rfl (hts (.fieldLink RX10 230 "ShadowBenchModel" "listed" "I") (by decide +kernel)) rfl dX10_list_64 ?_
                refine lv_icmp_ge (tgt := 100) hx hb dX10_list_67 (by decide) (fun c67 => ?_) (fun c67 => ?_)
                · skip
                  have d67 := c67
                  rw [fa_le] at d67
                  refine lv_iload hx hb dX10_list_100 (lv_at hl 1 rfl) ?_
                  refine lv_if_eq (tgt := 108) hx hb dX10_list_102 (by decide) (fun c102 => ?_) (fun c102 => ?_)
                  · skip
                    have d102 := c102
                    rw [fa_eq] at d102
                    refine lv_aload_n hx hb dX10_list_108 rfl (lv_at hl 2 rfl) ?_
                    refine lv_iload_n hx hb dX10_list_109 rfl (lv_at hl 3 rfl) ?_
                    refine m_put (v := .int w) (ty := .int) hx hb hts hin hown hK hP hD hS 24 (by decide) rfl (hts (.fieldLink RX10 233 "ShadowBenchModel" "listWide" "I") (by decide +kernel)) rfl (by decide +kernel) rfl rfl (upd (upd f 0 (0 : Int32)) 24 w) g rfl dX10_list_110 (fun H locs hP hS => ?_)
                    refine lv_aload_n hx hb dX10_list_113 rfl (lv_at hl 2 rfl) ?_
                    refine lv_iload_n hx hb dX10_list_114 rfl (lv_at hl 4 rfl) ?_
                    refine m_put (v := .int h) (ty := .int) hx hb hts hin hown hK hP hD hS 25 (by decide) rfl (hts (.fieldLink RX10 236 "ShadowBenchModel" "listHigh" "I") (by decide +kernel)) rfl (by decide +kernel) rfl rfl (upd (upd (upd f 0 (0 : Int32)) 24 w) 25 h) g rfl dX10_list_115 (fun H locs hP hS => ?_)
                    refine lv_aload_n hx hb dX10_list_118 rfl (lv_at hl 2 rfl) ?_
                    refine m_get (v := .ref (a 26)) hx hb hts hin hown hK hP 26 (by decide) rfl (hts (.fieldLink RX10 52 "ShadowBenchModel" "list" "[J") (by decide +kernel)) rfl dX10_list_119 ?_
                    refine lv_aload_n hx hb dX10_list_122 rfl (lv_at hl 2 rfl) ?_
                    refine m_get (v := .int (f 23)) hx hb hts hin hown hK hP 23 (by decide) rfl (hts (.fieldLink RX10 230 "ShadowBenchModel" "listed" "I") (by decide +kernel)) rfl dX10_list_123 ?_
                    refine lv_lload_n hx hb dX10_list_126 rfl (lv_at hl 5 rfl) ?_
                    refine m_last (w := (q 26)) hx hb hK hP hD hS 14 rfl (vp_in_iff.mpr ⟨by omega, by omega⟩) (va_up q 26 ((vp_updL (q 26) (f 23).toNatClampNeg p0))) rfl dX10_list_127 (fun H locs hP hS => ?_)
                    refine lv_aload_n hx hb dX10_list_128 rfl (lv_at hl 2 rfl) ?_
                    refine lv_dup hx hb dX10_list_129 rfl ?_
                    refine m_get (v := .int (f 23)) hx hb hts hin hown hK hP 23 (by decide) rfl (hts (.fieldLink RX10 230 "ShadowBenchModel" "listed" "I") (by decide +kernel)) rfl dX10_list_130 ?_
                    refine lv_iconst (v := 1) hx hb dX10_list_133 (by decide) ?_
                    refine lv_iadd hx hb dX10_list_134 ?_
                    refine lv_topi (fun v134 e134 => ?_)
                    have i134 : v134.toInt = (f 23).toInt + (1 : Int32).toInt := by rw [e134]; exact fb_addI (by omega) (by omega)
                    refine m_put (v := .int v134) (ty := .int) hx hb hts hin hown hK hP hD hS 23 (by decide) rfl (hts (.fieldLink RX10 230 "ShadowBenchModel" "listed" "I") (by decide +kernel)) rfl (by decide +kernel) rfl rfl (upd (upd (upd (upd f 0 (0 : Int32)) 24 w) 25 h) 23 v134) g rfl dX10_list_135 (fun H locs hP hS => ?_)
                    refine lv_aload_n hx hb dX10_list_138 rfl (lv_at hl 2 rfl) ?_
                    refine m_get (v := .int v134) hx hb hts hin hown hK hP 23 (by decide) rfl (hts (.fieldLink RX10 230 "ShadowBenchModel" "listed" "I") (by decide +kernel)) rfl dX10_list_139 ?_
                    have hP := wm_eq (ec_f_0_24_25_23__0_23_24_25 f (0 : Int32) w h v134) rfl rfl (ec_q_26__26 q ((vp_updL (q 26) (f 23).toNatClampNeg p0))) hP
                    exact W.iret (v := v134) hx hb hr (fun t ht hW => ⟨⟨_, ((upd (upd (upd (upd f 0 (0 : Int32)) 23 v134) 24 w) 25 h), g, r, (va_up q 26 (((vp_updL (q 26) (f 23).toNatClampNeg p0))))), rfl, ⟨v134, w, h, ((vp_updL (q 26) (f 23).toNatClampNeg p0)), rfl, by first | exact hI | exact mi_li hI rfl (by show _ ∧ _; omega) (fun _ => ⟨by show _ ∧ _; omega, by show _ ∧ _; omega⟩) rfl rfl rfl rfl⟩, by unfold mB; rw [ht]; exact hP⟩, hS.F ht⟩) hS.2.2 dX10_list_142
                  · skip
                    have d102 := c102
                    rw [fa_eq] at d102
                    refine lv_bipush (v := (-3)) hx hb dX10_list_105 (by decide) ?_
                    have hP := wm_eq (ec_f_0__0_23_24_25 f (0 : Int32)) rfl rfl (ec_q___26 q ) hP
                    exact W.iret (v := ((-3) : Int32)) hx hb hr (fun t ht hW => ⟨⟨_, ((upd (upd (upd (upd f 0 (0 : Int32)) 23 (f 23)) 24 (f 24)) 25 (f 25)), g, r, (va_up q 26 (q 26))), rfl, ⟨(f 23), (f 24), (f 25), (q 26), rfl, by first | exact hI | exact mi_li hI rfl (by show _ ∧ _; omega) (fun _ => ⟨by show _ ∧ _; omega, by show _ ∧ _; omega⟩) rfl rfl rfl rfl⟩, by unfold mB; rw [ht]; exact hP⟩, hS.F ht⟩) hS.2.2 dX10_list_107
                · skip
                  have d67 := c67
                  rw [fa_le] at d67
                  refine lv_iload hx hb dX10_list_70 (lv_at hl 1 rfl) ?_
                  refine lv_if_ne (tgt := 87) hx hb dX10_list_72 (by decide) (fun c72 => ?_) (fun c72 => ?_)
                  · skip
                    have d72 := c72
                    rw [fa_eq] at d72
                    refine lv_iconst (v := 1) hx hb dX10_list_87 (by decide) ?_
                    refine lv_goto (tgt := 92) hx hb dX10_list_88 (by decide) ?_
                    refine lv_istore (lv' := [(5, .int (1 : Int32)), (6, .int (nI k)), (0, .ref mo), (1, .int w), (2, .int h), (3, .long p0)]) hx hb dX10_list_92 hl (by decide) rfl (fun ls hl => ?_)
                    refine lv_iinc (v := (nI (k + 1))) (lv' := [(6, .int (nI (k + 1))), (5, .int (1 : Int32)), (0, .ref mo), (1, .int w), (2, .int h), (3, .long p0)]) hx hb dX10_list_94 hl (k := 1) rfl (nI_1 _) (by decide) rfl (fun ls hl => ?_)
                    refine lv_goto (tgt := 61) hx hb dX10_list_97 (by decide) ?_
                    exact ih_61 (k + 1) (1 : Int32) (by omega) (by omega) _ _ hP hS ls (lv_sub hl [0, 1, 2, 3, 4, 5] rfl)
                  · skip
                    have d72 := c72
                    rw [fa_eq] at d72
                    refine lv_aload_n hx hb dX10_list_75 rfl (lv_at hl 2 rfl) ?_
                    refine m_get (v := .ref (a 26)) hx hb hts hin hown hK hP 26 (by decide) rfl (hts (.fieldLink RX10 52 "ShadowBenchModel" "list" "[J") (by decide +kernel)) rfl dX10_list_76 ?_
                    refine lv_iload hx hb dX10_list_79 (lv_at hl 0 rfl) ?_
                    refine m_lald (w := (q 26)) hx hb hK hP 14 rfl (vp_in_iff.mpr ⟨by omega, by omega⟩) dX10_list_81 ?_
                    refine lv_topl (fun v81 e81 => ?_)
                    refine lv_lload_n hx hb dX10_list_82 rfl (lv_at hl 5 rfl) ?_
                    refine W.lcmp hx hb dX10_list_83 ?_
                    refine lv_if_ne (tgt := 91) hx hb dX10_list_84 (by decide) (fun c84 => ?_) (fun c84 => ?_)
                    · skip
                      have d84 := c84
                      rw [lg_cmp_eq, fa_eq64] at d84
                      refine lv_iconst (v := 0) hx hb dX10_list_91 (by decide) ?_
                      refine lv_istore (lv' := [(5, .int (0 : Int32)), (6, .int (nI k)), (0, .ref mo), (1, .int w), (2, .int h), (3, .long p0)]) hx hb dX10_list_92 hl (by decide) rfl (fun ls hl => ?_)
                      refine lv_iinc (v := (nI (k + 1))) (lv' := [(6, .int (nI (k + 1))), (5, .int (0 : Int32)), (0, .ref mo), (1, .int w), (2, .int h), (3, .long p0)]) hx hb dX10_list_94 hl (k := 1) rfl (nI_1 _) (by decide) rfl (fun ls hl => ?_)
                      refine lv_goto (tgt := 61) hx hb dX10_list_97 (by decide) ?_
                      exact ih_61 (k + 1) (0 : Int32) (by omega) (by omega) _ _ hP hS ls (lv_sub hl [0, 1, 2, 3, 4, 5] rfl)
                    · skip
                      have d84 := c84
                      rw [lg_cmp_eq, fa_eq64] at d84
                      refine lv_iconst (v := 1) hx hb dX10_list_87 (by decide) ?_
                      refine lv_goto (tgt := 92) hx hb dX10_list_88 (by decide) ?_
                      refine lv_istore (lv' := [(5, .int (1 : Int32)), (6, .int (nI k)), (0, .ref mo), (1, .int w), (2, .int h), (3, .long p0)]) hx hb dX10_list_92 hl (by decide) rfl (fun ls hl => ?_)
                      refine lv_iinc (v := (nI (k + 1))) (lv' := [(6, .int (nI (k + 1))), (5, .int (1 : Int32)), (0, .ref mo), (1, .int w), (2, .int h), (3, .long p0)]) hx hb dX10_list_94 hl (k := 1) rfl (nI_1 _) (by decide) rfl (fun ls hl => ?_)
                      refine lv_goto (tgt := 61) hx hb dX10_list_97 (by decide) ?_
                      exact ih_61 (k + 1) (1 : Int32) (by omega) (by omega) _ _ hP hS ls (lv_sub hl [0, 1, 2, 3, 4, 5] rfl)
            exact loop_61 (12 + 1) 0 (1 : Int32) (by omega) (by omega) _ _ hP hS ls (lv_sub hl [0, 1, 2, 3, 4, 5] rfl)
    · skip
      have d22 := c22
      rw [fa_eq] at d22
      refine lv_bipush (v := (-2)) hx hb dX10_list_25 (by decide) ?_
      have hP := wm_eq (ec_f_0__0_23_24_25 f (0 : Int32)) rfl rfl (ec_q___26 q ) hP
      exact W.iret (v := ((-2) : Int32)) hx hb hr (fun t ht hW => ⟨⟨_, ((upd (upd (upd (upd f 0 (0 : Int32)) 23 (f 23)) 24 (f 24)) 25 (f 25)), g, r, (va_up q 26 (q 26))), rfl, ⟨(f 23), (f 24), (f 25), (q 26), rfl, by first | exact hI | exact mi_li hI rfl (by show _ ∧ _; omega) (fun _ => ⟨by show _ ∧ _; omega, by show _ ∧ _; omega⟩) rfl rfl rfl rfl⟩, by unfold mB; rw [ht]; exact hP⟩, hS.F ht⟩) hS.2.2 dX10_list_27
  · skip
    have b11 := bo_f q8 c11
    refine lv_iconst (v := (-1)) hx hb dX10_list_14 (by decide) ?_
    have hP := wm_eq (ec_f_0__0_23_24_25 f (0 : Int32)) rfl rfl (ec_q___26 q ) hP
    exact W.iret (v := ((-1) : Int32)) hx hb hr (fun t ht hW => ⟨⟨_, ((upd (upd (upd (upd f 0 (0 : Int32)) 23 (f 23)) 24 (f 24)) 25 (f 25)), g, r, (va_up q 26 (q 26))), rfl, ⟨(f 23), (f 24), (f 25), (q 26), rfl, by first | exact hI | exact mi_li hI rfl (by show _ ∧ _; omega) (fun _ => ⟨by show _ ∧ _; omega, by show _ ∧ _; omega⟩) rfl rfl rfl rfl⟩, by unfold mB; rw [ht]; exact hP⟩, hS.F ht⟩) hS.2.2 dX10_list_15
set_option maxHeartbeats 4000000 in
set_option maxRecDepth 100000 in
theorem c_X10_clear (l : Launch) (D : va_G) (cy : Nat → ClassId) (mo : Nat) (a : Nat → Nat) (f : Nat → Int32) (g : Nat → Int64) (r : Nat → Nat → Int32) (q : Nat → Nat → Int64)  (hD : DM cy mo a) (hI : MI f r) : Mi l D cy mo a yX10_clear wsX10_clear ({ frames := 0, cells := 0, slots := 0, locals := 0 }) f g r q [] (fun r0 u => u = ((upd (upd f 0 (0 : Int32)) 23 (0 : Int32)), g, r, q) ∧ (r0 = (f 23) ∧ MI (upd (upd f 0 (0 : Int32)) 23 (0 : Int32)) r)) := by
  refine Met.ofW (cc := cX10_clear) (maxL := 2) (ret := (some .int)) (by decide) rfl ?_
  intro p e s m args below meth c s₁ B hml hv
  obtain ⟨rfl, hP, hK⟩ := hv
  have hx := B.exec
  have hb := B.bytes
  have hr := B.returns
  have hts := atoms_spec (ws := wsX10_clear) B.pre
  have hin : ∀ w ∈ u_ws RX10 TX10 35, w ∈ wsX10_clear := by decide +kernel
  have hown : s.vm.findClass RX10 = some m.cls := findClass_of_methodNamed B.named
  have hlocks := B.notSynchronized
  have hS : va_S (AM mo a) s.heap s.heap [] := va_S.rf
  have hl := lv_entry ([.ref mo]) (n := 2) (Nat.le_of_ble_eq_true rfl)
  rw [lg_entry_eq]
  generalize (lg_sl ([.ref mo]) ++ List.replicate (2 - (lg_sl ([.ref mo])).length) Slot.unset).toArray = ls at hl ⊢
  have hl : lv_has ls 2 [(0, .ref mo)] := hl
  have k_0 : (0 : Int32).toInt = 0 := by decide
  refine lv_aload_n hx hb dX10_clear_0 rfl (lv_at hl 0 rfl) ?_
  refine lv_iconst (v := 0) hx hb dX10_clear_1 (by decide) ?_
  refine m_put (v := .int (0 : Int32)) (ty := .int) hx hb hts hin hown hK hP hD hS 0 (by decide) rfl (hts (.fieldLink RX10 79 "ShadowBenchModel" "thrown" "I") (by decide +kernel)) rfl (by decide +kernel) rfl rfl (upd f 0 (0 : Int32)) g rfl dX10_clear_2 (fun H locs hP hS => ?_)
  refine lv_aload_n hx hb dX10_clear_5 rfl (lv_at hl 0 rfl) ?_
  refine m_get (v := .int (f 23)) hx hb hts hin hown hK hP 23 (by decide) rfl (hts (.fieldLink RX10 230 "ShadowBenchModel" "listed" "I") (by decide +kernel)) rfl dX10_clear_6 ?_
  refine lv_istore_n (lv' := [(1, .int (f 23)), (0, .ref mo)]) hx hb dX10_clear_9 rfl hl (by decide) rfl (fun ls hl => ?_)
  refine lv_aload_n hx hb dX10_clear_10 rfl (lv_at hl 1 rfl) ?_
  refine lv_iconst (v := 0) hx hb dX10_clear_11 (by decide) ?_
  refine m_put (v := .int (0 : Int32)) (ty := .int) hx hb hts hin hown hK hP hD hS 23 (by decide) rfl (hts (.fieldLink RX10 230 "ShadowBenchModel" "listed" "I") (by decide +kernel)) rfl (by decide +kernel) rfl rfl (upd (upd f 0 (0 : Int32)) 23 (0 : Int32)) g rfl dX10_clear_12 (fun H locs hP hS => ?_)
  refine lv_iload_n hx hb dX10_clear_15 rfl (lv_at hl 0 rfl) ?_
  exact W.iret (v := (f 23)) hx hb hr (fun t ht hW => ⟨⟨_, ((upd (upd f 0 (0 : Int32)) 23 (0 : Int32)), g, r, q), rfl, ⟨rfl, ⟨rfl, mi_li hI rfl (by decide) (fun z => absurd z (by decide)) rfl rfl rfl rfl⟩⟩, by unfold mB; rw [ht]; exact hP⟩, hS.F ht⟩) hS.2.2 dX10_clear_16
set_option maxHeartbeats 4000000 in
set_option maxRecDepth 100000 in
theorem c_X10_tells (l : Launch) (D : va_G) (cy : Nat → ClassId) (mo : Nat) (a : Nat → Nat) (f : Nat → Int32) (g : Nat → Int64) (r : Nat → Nat → Int32) (q : Nat → Nat → Int64) (ways : Int32) (hD : DM cy mo a) (hI : MI f r) : Mi l D cy mo a yX10_tells wsX10_tells ({ frames := 3, cells := 0, slots := 0, locals := 78 }) f g r q [.int ways] (fun r0 u => u = (f, g, r, q) ∧ (r0 = 0 ∨ r0 = 1)) := by
  refine Met.ofW (cc := cX10_tells) (maxL := 7) (ret := (some .boolean)) (by decide) rfl ?_
  intro p e s m args below meth c s₁ B hml hv
  obtain ⟨rfl, hP, hK⟩ := hv
  have hx := B.exec
  have hb := B.bytes
  have hr := B.returns
  have hts := atoms_spec (ws := wsX10_tells) B.pre
  have hin : ∀ w ∈ u_ws RX10 TX10 35, w ∈ wsX10_tells := by decide +kernel
  have hown : s.vm.findClass RX10 = some m.cls := findClass_of_methodNamed B.named
  have hlocks := B.notSynchronized
  have hS : va_S (AM mo a) s.heap s.heap [] := va_S.rf
  have hl := lv_entry ([.ref mo, .int ways]) (n := 7) (Nat.le_of_ble_eq_true rfl)
  rw [lg_entry_eq]
  generalize (lg_sl ([.ref mo, .int ways]) ++ List.replicate (7 - (lg_sl ([.ref mo, .int ways])).length) Slot.unset).toArray = ls at hl ⊢
  have hl : lv_has ls 7 [(0, .ref mo), (1, .int ways)] := hl
  have k_0 : (0 : Int32).toInt = 0 := by decide
  have k_1 : (1 : Int32).toInt = 1 := by decide
  have k_4 : (4 : Int32).toInt = 4 := by decide
  have hI1 := hI.2.2.1
  refine lv_iconst (v := 1) hx hb dX10_tells_0 (by decide) ?_
  refine lv_istore_n (lv' := [(2, .int (1 : Int32)), (0, .ref mo), (1, .int ways)]) hx hb dX10_tells_1 rfl hl (by decide) rfl (fun ls hl => ?_)
  refine lv_iconst (v := 0) hx hb dX10_tells_2 (by decide) ?_
  refine lv_istore_n (lv' := [(3, .int (0 : Int32)), (2, .int (1 : Int32)), (0, .ref mo), (1, .int ways)]) hx hb dX10_tells_3 rfl hl (by decide) rfl (fun ls hl => ?_)
  have loop_4 : ∀ (n : Nat) (k : Nat) (x2 : Int32), (k ≤ 12) → (x2 = 0 ∨ x2 = 1) → 12 - k < n → ∀ (H : Heap) (locs : List Loc), va_P D vwCl (WM cy mo a f g r q) H → va_S (AM mo a) s.heap H locs → ∀ (ls : Array Slot), lv_has ls 7 [(3, .int (nI k)), (2, .int x2), (0, .ref mo), (1, .int ways)] → W p l e (headSpec wsX10_tells ({ frames := 3, cells := 0, slots := 0, locals := 78 })).room s m #[Value.ref mo, Value.int ways] below meth c H locs 0 0 (MQ below (va_Qi (fun r0 u => u = (f, g, r, q) ∧ (r0 = 0 ∨ r0 = 1)) (mB D cy mo a) (AM mo a)) #[Value.ref mo, Value.int ways] s 0 0 (AM mo a)) (F0 m 4 ls []) := by
    intro n
    induction n with
    | zero => intro k x2  j4_0 j4_1 hn; exact absurd hn (Nat.not_lt_zero _)
    | succ n ih_4 =>
      intro k x2  j4_0 j4_1 hn_4 H locs hP hS ls hl
      have ik : (nI k).toInt = (k : Int) := nI_toInt (by omega)
      refine lv_iload_n hx hb dX10_tells_4 rfl (lv_at hl 0 rfl) ?_
      refine lv_aload_n hx hb dX10_tells_5 rfl (lv_at hl 2 rfl) ?_
      refine m_get (v := .int (f 23)) hx hb hts hin hown hK hP 23 (by decide) rfl (hts (.fieldLink RX10 230 "ShadowBenchModel" "listed" "I") (by decide +kernel)) rfl dX10_tells_6 ?_
      refine lv_icmp_ge (tgt := 117) hx hb dX10_tells_9 (by decide) (fun c9 => ?_) (fun c9 => ?_)
      · skip
        have d9 := c9
        rw [fa_le] at d9
        refine lv_iload_n hx hb dX10_tells_117 rfl (lv_at hl 1 rfl) ?_
        exact W.zret (v := x2) hx hb hr (by rcases j4_1 with z | z <;> rw [z] <;> rfl) (fun t ht hW => ⟨⟨_, (f, g, r, q), rfl, ⟨rfl, j4_1⟩, by unfold mB; rw [ht]; exact hP⟩, hS.F ht⟩) hS.2.2 dX10_tells_118
      · skip
        have d9 := c9
        rw [fa_le] at d9
        refine lv_iconst (v := 0) hx hb dX10_tells_12 (by decide) ?_
        refine lv_istore (lv' := [(4, .int (0 : Int32)), (3, .int (nI k)), (2, .int x2), (0, .ref mo), (1, .int ways)]) hx hb dX10_tells_13 hl (by decide) rfl (fun ls hl => ?_)
        have loop_15 : ∀ (n : Nat) (i : Nat) (y2 : Int32), (i ≤ 12) → (y2 = 0 ∨ y2 = 1) → 12 - i < n → ∀ (H : Heap) (locs : List Loc), va_P D vwCl (WM cy mo a f g r q) H → va_S (AM mo a) s.heap H locs → ∀ (ls : Array Slot), lv_has ls 7 [(4, .int (nI i)), (3, .int (nI k)), (2, .int y2), (0, .ref mo), (1, .int ways)] → W p l e (headSpec wsX10_tells ({ frames := 3, cells := 0, slots := 0, locals := 78 })).room s m #[Value.ref mo, Value.int ways] below meth c H locs 0 0 (MQ below (va_Qi (fun r0 u => u = (f, g, r, q) ∧ (r0 = 0 ∨ r0 = 1)) (mB D cy mo a) (AM mo a)) #[Value.ref mo, Value.int ways] s 0 0 (AM mo a)) (F0 m 15 ls []) := by
          intro n
          induction n with
          | zero => intro i y2  j15_0 j15_1 hn; exact absurd hn (Nat.not_lt_zero _)
          | succ n ih_15 =>
            intro i y2  j15_0 j15_1 hn_15 H locs hP hS ls hl
            have ii : (nI i).toInt = (i : Int) := nI_toInt (by omega)
            refine lv_iload hx hb dX10_tells_15 (lv_at hl 0 rfl) ?_
            refine lv_iload_n hx hb dX10_tells_17 rfl (lv_at hl 1 rfl) ?_
            refine lv_icmp_ge (tgt := 111) hx hb dX10_tells_18 (by decide) (fun c18 => ?_) (fun c18 => ?_)
            · skip
              have d18 := c18
              rw [fa_le] at d18
              refine lv_iinc (v := (nI (k + 1))) (lv' := [(3, .int (nI (k + 1))), (4, .int (nI i)), (2, .int y2), (0, .ref mo), (1, .int ways)]) hx hb dX10_tells_111 hl (k := 1) rfl (nI_1 _) (by decide) rfl (fun ls hl => ?_)
              refine lv_goto (tgt := 4) hx hb dX10_tells_114 (by decide) ?_
              exact ih_4 (k + 1) y2 (by omega) (by first | assumption | decide) (by omega) _ _ hP hS ls (lv_sub hl [0, 2, 3, 4] rfl)
            · skip
              have d18 := c18
              rw [fa_le] at d18
              refine lv_iconst (v := 0) hx hb dX10_tells_21 (by decide) ?_
              refine lv_istore (lv' := [(5, .int (0 : Int32)), (4, .int (nI i)), (3, .int (nI k)), (2, .int y2), (0, .ref mo), (1, .int ways)]) hx hb dX10_tells_22 hl (by decide) rfl (fun ls hl => ?_)
              refine lv_iconst (v := 0) hx hb dX10_tells_24 (by decide) ?_
              refine lv_istore (lv' := [(6, .int (0 : Int32)), (5, .int (0 : Int32)), (4, .int (nI i)), (3, .int (nI k)), (2, .int y2), (0, .ref mo), (1, .int ways)]) hx hb dX10_tells_25 hl (by decide) rfl (fun ls hl => ?_)
              have loop_27 : ∀ (n : Nat) (m1 : Nat) (x5 : Int32), (m1 ≤ 4) → 4 - m1 < n → ∀ (H : Heap) (locs : List Loc), va_P D vwCl (WM cy mo a f g r q) H → va_S (AM mo a) s.heap H locs → ∀ (ls : Array Slot), lv_has ls 7 [(6, .int (nI m1)), (5, .int x5), (4, .int (nI i)), (3, .int (nI k)), (2, .int y2), (0, .ref mo), (1, .int ways)] → W p l e (headSpec wsX10_tells ({ frames := 3, cells := 0, slots := 0, locals := 78 })).room s m #[Value.ref mo, Value.int ways] below meth c H locs 0 0 (MQ below (va_Qi (fun r0 u => u = (f, g, r, q) ∧ (r0 = 0 ∨ r0 = 1)) (mB D cy mo a) (AM mo a)) #[Value.ref mo, Value.int ways] s 0 0 (AM mo a)) (F0 m 27 ls []) := by
                intro n
                induction n with
                | zero => intro m1 x5  j27_0 hn; exact absurd hn (Nat.not_lt_zero _)
                | succ n ih_27 =>
                  intro m1 x5  j27_0 hn_27 H locs hP hS ls hl
                  have im1 : (nI m1).toInt = (m1 : Int) := nI_toInt (by omega)
                  refine lv_iload hx hb dX10_tells_27 (lv_at hl 0 rfl) ?_
                  refine lv_iconst (v := 4) hx hb dX10_tells_29 (by decide) ?_
                  refine lv_icmp_ge (tgt := 90) hx hb dX10_tells_30 (by decide) (fun c30 => ?_) (fun c30 => ?_)
                  · skip
                    have d30 := c30
                    rw [fa_le] at d30
                    refine lv_iload_n hx hb dX10_tells_90 rfl (lv_at hl 4 rfl) ?_
                    refine lv_if_eq (tgt := 103) hx hb dX10_tells_91 (by decide) (fun c91 => ?_) (fun c91 => ?_)
                    · skip
                      have d91 := c91
                      rw [fa_eq] at d91
                      refine lv_iconst (v := 0) hx hb dX10_tells_103 (by decide) ?_
                      refine lv_istore_n (lv' := [(2, .int (0 : Int32)), (6, .int (nI m1)), (5, .int x5), (4, .int (nI i)), (3, .int (nI k)), (0, .ref mo), (1, .int ways)]) hx hb dX10_tells_104 rfl hl (by decide) rfl (fun ls hl => ?_)
                      refine lv_iinc (v := (nI (i + 1))) (lv' := [(4, .int (nI (i + 1))), (2, .int (0 : Int32)), (6, .int (nI m1)), (5, .int x5), (3, .int (nI k)), (0, .ref mo), (1, .int ways)]) hx hb dX10_tells_105 hl (k := 3) rfl (nI_1 _) (by decide) rfl (fun ls hl => ?_)
                      refine lv_goto (tgt := 15) hx hb dX10_tells_108 (by decide) ?_
                      exact ih_15 (i + 1) (0 : Int32) (by omega) (by first | assumption | decide) (by omega) _ _ hP hS ls (lv_sub hl [0, 4, 1, 5, 6] rfl)
                    · skip
                      have d91 := c91
                      rw [fa_eq] at d91
                      refine lv_iload hx hb dX10_tells_94 (lv_at hl 1 rfl) ?_
                      refine lv_if_eq (tgt := 103) hx hb dX10_tells_96 (by decide) (fun c96 => ?_) (fun c96 => ?_)
                      · skip
                        have d96 := c96
                        rw [fa_eq] at d96
                        refine lv_iconst (v := 0) hx hb dX10_tells_103 (by decide) ?_
                        refine lv_istore_n (lv' := [(2, .int (0 : Int32)), (6, .int (nI m1)), (5, .int x5), (4, .int (nI i)), (3, .int (nI k)), (0, .ref mo), (1, .int ways)]) hx hb dX10_tells_104 rfl hl (by decide) rfl (fun ls hl => ?_)
                        refine lv_iinc (v := (nI (i + 1))) (lv' := [(4, .int (nI (i + 1))), (2, .int (0 : Int32)), (6, .int (nI m1)), (5, .int x5), (3, .int (nI k)), (0, .ref mo), (1, .int ways)]) hx hb dX10_tells_105 hl (k := 3) rfl (nI_1 _) (by decide) rfl (fun ls hl => ?_)
                        refine lv_goto (tgt := 15) hx hb dX10_tells_108 (by decide) ?_
                        exact ih_15 (i + 1) (0 : Int32) (by omega) (by first | assumption | decide) (by omega) _ _ hP hS ls (lv_sub hl [0, 4, 1, 5, 6] rfl)
                      · skip
                        have d96 := c96
                        rw [fa_eq] at d96
                        refine lv_iconst (v := 1) hx hb dX10_tells_99 (by decide) ?_
                        refine lv_goto (tgt := 104) hx hb dX10_tells_100 (by decide) ?_
                        refine lv_istore_n (lv' := [(2, .int (1 : Int32)), (6, .int (nI m1)), (5, .int x5), (4, .int (nI i)), (3, .int (nI k)), (0, .ref mo), (1, .int ways)]) hx hb dX10_tells_104 rfl hl (by decide) rfl (fun ls hl => ?_)
                        refine lv_iinc (v := (nI (i + 1))) (lv' := [(4, .int (nI (i + 1))), (2, .int (1 : Int32)), (6, .int (nI m1)), (5, .int x5), (3, .int (nI k)), (0, .ref mo), (1, .int ways)]) hx hb dX10_tells_105 hl (k := 3) rfl (nI_1 _) (by decide) rfl (fun ls hl => ?_)
                        refine lv_goto (tgt := 15) hx hb dX10_tells_108 (by decide) ?_
                        exact ih_15 (i + 1) (1 : Int32) (by omega) (by first | assumption | decide) (by omega) _ _ hP hS ls (lv_sub hl [0, 4, 1, 5, 6] rfl)
                  · skip
                    have d30 := c30
                    rw [fa_le] at d30
                    refine lv_iload hx hb dX10_tells_33 (lv_at hl 1 rfl) ?_
                    refine lv_if_ne (tgt := 77) hx hb dX10_tells_35 (by decide) (fun c35 => ?_) (fun c35 => ?_)
                    · skip
                      have d35 := c35
                      rw [fa_eq] at d35
                      refine lv_iconst (v := 1) hx hb dX10_tells_77 (by decide) ?_
                      refine lv_goto (tgt := 82) hx hb dX10_tells_78 (by decide) ?_
                      refine lv_istore (lv' := [(5, .int (1 : Int32)), (6, .int (nI m1)), (4, .int (nI i)), (3, .int (nI k)), (2, .int y2), (0, .ref mo), (1, .int ways)]) hx hb dX10_tells_82 hl (by decide) rfl (fun ls hl => ?_)
                      refine lv_iinc (v := (nI (m1 + 1))) (lv' := [(6, .int (nI (m1 + 1))), (5, .int (1 : Int32)), (4, .int (nI i)), (3, .int (nI k)), (2, .int y2), (0, .ref mo), (1, .int ways)]) hx hb dX10_tells_84 hl (k := 1) rfl (nI_1 _) (by decide) rfl (fun ls hl => ?_)
                      refine lv_goto (tgt := 27) hx hb dX10_tells_87 (by decide) ?_
                      exact ih_27 (m1 + 1) (1 : Int32) (by omega) (by omega) _ _ hP hS ls (lv_sub hl [0, 1, 2, 3, 4, 5, 6] rfl)
                    · skip
                      have d35 := c35
                      rw [fa_eq] at d35
                      refine lv_iload_n hx hb dX10_tells_38 rfl (lv_at hl 6 rfl) ?_
                      refine lv_iload hx hb dX10_tells_39 (lv_at hl 0 rfl) ?_
                      refine lv_ishr hx hb dX10_tells_41 ?_
                      refine lv_topi (fun v41 e41 => ?_)
                      refine lv_iconst (v := 1) hx hb dX10_tells_42 (by decide) ?_
                      refine lv_iand hx hb dX10_tells_43 ?_
                      refine lv_topi (fun v43 e43 => ?_)
                      refine lv_iconst (v := 1) hx hb dX10_tells_44 (by decide) ?_
                      refine lv_icmp_ne (tgt := 81) hx hb dX10_tells_45 (by decide) (fun c45 => ?_) (fun c45 => ?_)
                      · skip
                        have d45 := c45
                        rw [fa_eq] at d45
                        refine lv_iconst (v := 0) hx hb dX10_tells_81 (by decide) ?_
                        refine lv_istore (lv' := [(5, .int (0 : Int32)), (6, .int (nI m1)), (4, .int (nI i)), (3, .int (nI k)), (2, .int y2), (0, .ref mo), (1, .int ways)]) hx hb dX10_tells_82 hl (by decide) rfl (fun ls hl => ?_)
                        refine lv_iinc (v := (nI (m1 + 1))) (lv' := [(6, .int (nI (m1 + 1))), (5, .int (0 : Int32)), (4, .int (nI i)), (3, .int (nI k)), (2, .int y2), (0, .ref mo), (1, .int ways)]) hx hb dX10_tells_84 hl (k := 1) rfl (nI_1 _) (by decide) rfl (fun ls hl => ?_)
                        refine lv_goto (tgt := 27) hx hb dX10_tells_87 (by decide) ?_
                        exact ih_27 (m1 + 1) (0 : Int32) (by omega) (by omega) _ _ hP hS ls (lv_sub hl [0, 1, 2, 3, 4, 5, 6] rfl)
                      · skip
                        have d45 := c45
                        rw [fa_eq] at d45
                        have hLw := hI.2.2.2.1 (by omega)
                        refine lv_aload_n hx hb dX10_tells_48 rfl (lv_at hl 5 rfl) ?_
                        refine m_get (v := .int (f 24)) hx hb hts hin hown hK hP 24 (by decide) rfl (hts (.fieldLink RX10 233 "ShadowBenchModel" "listWide" "I") (by decide +kernel)) rfl dX10_tells_49 ?_
                        refine lv_aload_n hx hb dX10_tells_52 rfl (lv_at hl 5 rfl) ?_
                        refine m_get (v := .int (f 25)) hx hb hts hin hown hK hP 25 (by decide) rfl (hts (.fieldLink RX10 236 "ShadowBenchModel" "listHigh" "I") (by decide +kernel)) rfl dX10_tells_53 ?_
                        refine lv_aload_n hx hb dX10_tells_56 rfl (lv_at hl 5 rfl) ?_
                        refine m_get (v := .ref (a 26)) hx hb hts hin hown hK hP 26 (by decide) rfl (hts (.fieldLink RX10 52 "ShadowBenchModel" "list" "[J") (by decide +kernel)) rfl dX10_tells_57 ?_
                        refine lv_iload_n hx hb dX10_tells_60 rfl (lv_at hl 3 rfl) ?_
                        refine m_lald (w := (q 26)) hx hb hK hP 14 rfl (vp_in_iff.mpr ⟨by omega, by omega⟩) dX10_tells_61 ?_
                        refine lv_topl (fun v61 e61 => ?_)
                        refine lv_aload_n hx hb dX10_tells_62 rfl (lv_at hl 5 rfl) ?_
                        refine m_get (v := .ref (a 26)) hx hb hts hin hown hK hP 26 (by decide) rfl (hts (.fieldLink RX10 52 "ShadowBenchModel" "list" "[J") (by decide +kernel)) rfl dX10_tells_63 ?_
                        refine lv_iload hx hb dX10_tells_66 (lv_at hl 2 rfl) ?_
                        refine m_lald (w := (q 26)) hx hb hK hP 14 rfl (vp_in_iff.mpr ⟨by omega, by omega⟩) dX10_tells_68 ?_
                        refine lv_topl (fun v68 e68 => ?_)
                        refine lv_iload hx hb dX10_tells_69 (lv_at hl 0 rfl) ?_
                        refine m_pu (As := [.int (f 24), .int (f 25), .long v61, .long v68, .int (nI m1)]) (rest := []) ⟨hx, hb, hml, hown, hts⟩ (c_X10_areAlike l (f 24) (f 25) v61 v68 (nI m1) hLw.1 hLw.2) (va_cwS 5 hts gX10_tells_X10_areAlike rfl rfl rfl (by decide +kernel) ⟨Nat.le_of_ble_eq_true rfl, Nat.le_of_ble_eq_true rfl⟩) hP rfl hl.1 rfl (Nat.le_of_ble_eq_true rfl) dX10_tells_71 ⟨Nat.le_of_ble_eq_true rfl, Nat.le_of_ble_eq_true rfl⟩ hS (fun r71 H locs q71 hP hS => ?_)
                        refine lv_if_ne (tgt := 81) hx hb dX10_tells_74 (by decide) (fun c74 => ?_) (fun c74 => ?_)
                        · skip
                          have d74 := c74
                          rw [fa_eq] at d74
                          refine lv_iconst (v := 0) hx hb dX10_tells_81 (by decide) ?_
                          refine lv_istore (lv' := [(5, .int (0 : Int32)), (6, .int (nI m1)), (4, .int (nI i)), (3, .int (nI k)), (2, .int y2), (0, .ref mo), (1, .int ways)]) hx hb dX10_tells_82 hl (by decide) rfl (fun ls hl => ?_)
                          refine lv_iinc (v := (nI (m1 + 1))) (lv' := [(6, .int (nI (m1 + 1))), (5, .int (0 : Int32)), (4, .int (nI i)), (3, .int (nI k)), (2, .int y2), (0, .ref mo), (1, .int ways)]) hx hb dX10_tells_84 hl (k := 1) rfl (nI_1 _) (by decide) rfl (fun ls hl => ?_)
                          refine lv_goto (tgt := 27) hx hb dX10_tells_87 (by decide) ?_
                          exact ih_27 (m1 + 1) (0 : Int32) (by omega) (by omega) _ _ hP hS ls (lv_sub hl [0, 1, 2, 3, 4, 5, 6] rfl)
                        · skip
                          have d74 := c74
                          rw [fa_eq] at d74
                          refine lv_iconst (v := 1) hx hb dX10_tells_77 (by decide) ?_
                          refine lv_goto (tgt := 82) hx hb dX10_tells_78 (by decide) ?_
                          refine lv_istore (lv' := [(5, .int (1 : Int32)), (6, .int (nI m1)), (4, .int (nI i)), (3, .int (nI k)), (2, .int y2), (0, .ref mo), (1, .int ways)]) hx hb dX10_tells_82 hl (by decide) rfl (fun ls hl => ?_)
                          refine lv_iinc (v := (nI (m1 + 1))) (lv' := [(6, .int (nI (m1 + 1))), (5, .int (1 : Int32)), (4, .int (nI i)), (3, .int (nI k)), (2, .int y2), (0, .ref mo), (1, .int ways)]) hx hb dX10_tells_84 hl (k := 1) rfl (nI_1 _) (by decide) rfl (fun ls hl => ?_)
                          refine lv_goto (tgt := 27) hx hb dX10_tells_87 (by decide) ?_
                          exact ih_27 (m1 + 1) (1 : Int32) (by omega) (by omega) _ _ hP hS ls (lv_sub hl [0, 1, 2, 3, 4, 5, 6] rfl)
              exact loop_27 (4 + 1) 0 (0 : Int32) (by omega) (by omega) _ _ hP hS ls (lv_sub hl [0, 1, 2, 3, 4, 5, 6] rfl)
        exact loop_15 (12 + 1) 0 x2 (by omega) (by assumption) (by omega) _ _ hP hS ls (lv_sub hl [0, 1, 2, 3, 4] rfl)
  exact loop_4 (12 + 1) 0 (1 : Int32) (by omega) (by decide) (by omega) _ _ hP hS ls (lv_sub hl [0, 1, 2, 3] rfl)
set_option maxHeartbeats 4000000 in
set_option maxRecDepth 100000 in
theorem c_X10_ways (l : Launch) (D : va_G) (cy : Nat → ClassId) (mo : Nat) (a : Nat → Nat) (f : Nat → Int32) (g : Nat → Int64) (r : Nat → Nat → Int32) (q : Nat → Nat → Int64)  (hD : DM cy mo a) (hI : MI f r) : Mi l D cy mo a yX10_ways wsX10_ways ({ frames := 4, cells := 0, slots := 0, locals := 104 }) f g r q [] (fun r0 u => u = ((upd f 0 (0 : Int32)), g, r, q) ∧ (True)) := by
  refine Met.ofW (cc := cX10_ways) (maxL := 3) (ret := (some .int)) (by decide) rfl ?_
  intro p e s m args below meth c s₁ B hml hv
  obtain ⟨rfl, hP, hK⟩ := hv
  have hx := B.exec
  have hb := B.bytes
  have hr := B.returns
  have hts := atoms_spec (ws := wsX10_ways) B.pre
  have hin : ∀ w ∈ u_ws RX10 TX10 35, w ∈ wsX10_ways := by decide +kernel
  have hown : s.vm.findClass RX10 = some m.cls := findClass_of_methodNamed B.named
  have hlocks := B.notSynchronized
  have hS : va_S (AM mo a) s.heap s.heap [] := va_S.rf
  have hl := lv_entry ([.ref mo]) (n := 3) (Nat.le_of_ble_eq_true rfl)
  rw [lg_entry_eq]
  generalize (lg_sl ([.ref mo]) ++ List.replicate (3 - (lg_sl ([.ref mo])).length) Slot.unset).toArray = ls at hl ⊢
  have hl : lv_has ls 3 [(0, .ref mo)] := hl
  have k_m2 : (-2 : Int32).toInt = -2 := by decide
  have k_0 : (0 : Int32).toInt = 0 := by decide
  have k_4 : (4 : Int32).toInt = 4 := by decide
  have k_16 : (16 : Int32).toInt = 16 := by decide
  refine lv_aload_n hx hb dX10_ways_0 rfl (lv_at hl 0 rfl) ?_
  refine lv_iconst (v := 0) hx hb dX10_ways_1 (by decide) ?_
  refine m_put (v := .int (0 : Int32)) (ty := .int) hx hb hts hin hown hK hP hD hS 0 (by decide) rfl (hts (.fieldLink RX10 79 "ShadowBenchModel" "thrown" "I") (by decide +kernel)) rfl (by decide +kernel) rfl rfl (upd f 0 (0 : Int32)) g rfl dX10_ways_2 (fun H locs hP hS => ?_)
  refine lv_iconst (v := 0) hx hb dX10_ways_5 (by decide) ?_
  refine lv_istore_n (lv' := [(1, .int (0 : Int32)), (0, .ref mo)]) hx hb dX10_ways_6 rfl hl (by decide) rfl (fun ls hl => ?_)
  have loop_7 : ∀ (n : Nat) (k : Nat), (k ≤ 5) → 5 - k < n → ∀ (H : Heap) (locs : List Loc), va_P D vwCl (WM cy mo a (upd f 0 (0 : Int32)) g r q) H → va_S (AM mo a) s.heap H locs → ∀ (ls : Array Slot), lv_has ls 3 [(1, .int (nI k)), (0, .ref mo)] → W p l e (headSpec wsX10_ways ({ frames := 4, cells := 0, slots := 0, locals := 104 })).room s m #[Value.ref mo] below meth c H locs 0 0 (MQ below (va_Qi (fun r0 u => u = ((upd f 0 (0 : Int32)), g, r, q) ∧ (True)) (mB D cy mo a) (AM mo a)) #[Value.ref mo] s 0 0 (AM mo a)) (F0 m 7 ls []) := by
    intro n
    induction n with
    | zero => intro k  j7_0 hn; exact absurd hn (Nat.not_lt_zero _)
    | succ n ih_7 =>
      intro k  j7_0 hn_7 H locs hP hS ls hl
      have ik : (nI k).toInt = (k : Int) := nI_toInt (by omega)
      refine lv_iload_n hx hb dX10_ways_7 rfl (lv_at hl 0 rfl) ?_
      refine lv_iconst (v := 4) hx hb dX10_ways_8 (by decide) ?_
      refine lv_icmp_gt (tgt := 51) hx hb dX10_ways_9 (by decide) (fun c9 => ?_) (fun c9 => ?_)
      · skip
        have d9 := c9
        rw [fa_lt] at d9
        refine lv_bipush (v := (-2)) hx hb dX10_ways_51 (by decide) ?_
        exact W.iret (v := ((-2) : Int32)) hx hb hr (fun t ht hW => ⟨⟨_, ((upd f 0 (0 : Int32)), g, r, q), rfl, ⟨rfl, trivial⟩, by unfold mB; rw [ht]; exact hP⟩, hS.F ht⟩) hS.2.2 dX10_ways_53
      · skip
        have d9 := c9
        rw [fa_lt] at d9
        refine lv_iconst (v := 0) hx hb dX10_ways_12 (by decide) ?_
        refine lv_istore_n (lv' := [(2, .int (0 : Int32)), (1, .int (nI k)), (0, .ref mo)]) hx hb dX10_ways_13 rfl hl (by decide) rfl (fun ls hl => ?_)
        have loop_14 : ∀ (n : Nat) (i : Nat), (i ≤ 16) → 16 - i < n → ∀ (H : Heap) (locs : List Loc), va_P D vwCl (WM cy mo a (upd f 0 (0 : Int32)) g r q) H → va_S (AM mo a) s.heap H locs → ∀ (ls : Array Slot), lv_has ls 3 [(2, .int (nI i)), (1, .int (nI k)), (0, .ref mo)] → W p l e (headSpec wsX10_ways ({ frames := 4, cells := 0, slots := 0, locals := 104 })).room s m #[Value.ref mo] below meth c H locs 0 0 (MQ below (va_Qi (fun r0 u => u = ((upd f 0 (0 : Int32)), g, r, q) ∧ (True)) (mB D cy mo a) (AM mo a)) #[Value.ref mo] s 0 0 (AM mo a)) (F0 m 14 ls []) := by
          intro n
          induction n with
          | zero => intro i  j14_0 hn; exact absurd hn (Nat.not_lt_zero _)
          | succ n ih_14 =>
            intro i  j14_0 hn_14 H locs hP hS ls hl
            have ii : (nI i).toInt = (i : Int) := nI_toInt (by omega)
            refine lv_iload_n hx hb dX10_ways_14 rfl (lv_at hl 0 rfl) ?_
            refine lv_bipush (v := 16) hx hb dX10_ways_15 (by decide) ?_
            refine lv_icmp_ge (tgt := 45) hx hb dX10_ways_17 (by decide) (fun c17 => ?_) (fun c17 => ?_)
            · skip
              have d17 := c17
              rw [fa_le] at d17
              refine lv_iinc (v := (nI (k + 1))) (lv' := [(1, .int (nI (k + 1))), (2, .int (nI i)), (0, .ref mo)]) hx hb dX10_ways_45 hl (k := 1) rfl (nI_1 _) (by decide) rfl (fun ls hl => ?_)
              refine lv_goto (tgt := 7) hx hb dX10_ways_48 (by decide) ?_
              exact ih_7 (k + 1) (by omega) (by omega) _ _ hP hS ls (lv_sub hl [0, 2] rfl)
            · skip
              have d17 := c17
              rw [fa_le] at d17
              refine lv_iload_n hx hb dX10_ways_20 rfl (lv_at hl 0 rfl) ?_
              refine lv_i2l (v := (nI i).toInt64) hx hb dX10_ways_21 rfl ?_
              refine m_pu (As := [.long ((nI i).toInt64)]) (rest := []) ⟨hx, hb, hml, hown, hts⟩ (c_X10_countOnes l ((nI i).toInt64) ) (va_cwS 1 hts gX10_ways_X10_countOnes rfl rfl rfl (by decide +kernel) ⟨Nat.le_of_ble_eq_true rfl, Nat.le_of_ble_eq_true rfl⟩) hP rfl hl.1 rfl (Nat.le_of_ble_eq_true rfl) dX10_ways_22 ⟨Nat.le_of_ble_eq_true rfl, Nat.le_of_ble_eq_true rfl⟩ hS (fun r22 H locs q22 hP hS => ?_)
              refine lv_iload_n hx hb dX10_ways_25 rfl (lv_at hl 1 rfl) ?_
              refine lv_icmp_ne (tgt := 39) hx hb dX10_ways_26 (by decide) (fun c26 => ?_) (fun c26 => ?_)
              · skip
                have d26 := c26
                rw [fa_eq] at d26
                refine lv_iinc (v := (nI (i + 1))) (lv' := [(2, .int (nI (i + 1))), (1, .int (nI k)), (0, .ref mo)]) hx hb dX10_ways_39 hl (k := 0) rfl (nI_1 _) (by decide) rfl (fun ls hl => ?_)
                refine lv_goto (tgt := 14) hx hb dX10_ways_42 (by decide) ?_
                exact ih_14 (i + 1) (by omega) (by omega) _ _ hP hS ls (lv_sub hl [0, 1, 2] rfl)
              · skip
                have d26 := c26
                rw [fa_eq] at d26
                refine lv_aload_n hx hb dX10_ways_29 rfl (lv_at hl 2 rfl) ?_
                refine lv_iload_n hx hb dX10_ways_30 rfl (lv_at hl 0 rfl) ?_
                refine m_calli (As := [.int (nI i)]) (rest := []) ⟨hx, hb, hml, hown, hts⟩ (c_X10_tells l D cy mo a (upd f 0 (0 : Int32)) g r q (nI i) hD hI) (cwV 1 hts gX10_ways_X10_tells rfl rfl rfl (by decide +kernel) ⟨Nat.le_of_ble_eq_true rfl, Nat.le_of_ble_eq_true rfl⟩) hK hP rfl hl.1 rfl (Nat.le_of_ble_eq_true rfl) dX10_ways_31 ⟨Nat.le_of_ble_eq_true rfl, Nat.le_of_ble_eq_true rfl⟩ hS (fun r31 u H locs q31 hP hS => ?_)
                obtain ⟨rfl, q31⟩ := q31
                have hP : va_P D vwCl (WM cy mo a (upd f 0 (0 : Int32)) g r q) H := hP
                have q31 : r31 = 0 ∨ r31 = 1 := q31
                refine lv_if_eq (tgt := 39) hx hb dX10_ways_34 (by decide) (fun c34 => ?_) (fun c34 => ?_)
                · skip
                  have d34 := c34
                  rw [fa_eq] at d34
                  refine lv_iinc (v := (nI (i + 1))) (lv' := [(2, .int (nI (i + 1))), (1, .int (nI k)), (0, .ref mo)]) hx hb dX10_ways_39 hl (k := 0) rfl (nI_1 _) (by decide) rfl (fun ls hl => ?_)
                  refine lv_goto (tgt := 14) hx hb dX10_ways_42 (by decide) ?_
                  exact ih_14 (i + 1) (by omega) (by omega) _ _ hP hS ls (lv_sub hl [0, 1, 2] rfl)
                · skip
                  have d34 := c34
                  rw [fa_eq] at d34
                  refine lv_iload_n hx hb dX10_ways_37 rfl (lv_at hl 0 rfl) ?_
                  exact W.iret (v := (nI i)) hx hb hr (fun t ht hW => ⟨⟨_, ((upd f 0 (0 : Int32)), g, r, q), rfl, ⟨rfl, trivial⟩, by unfold mB; rw [ht]; exact hP⟩, hS.F ht⟩) hS.2.2 dX10_ways_38
        exact loop_14 (16 + 1) 0 (by omega) (by omega) _ _ hP hS ls (lv_sub hl [0, 1, 2] rfl)
  exact loop_7 (5 + 1) 0 (by omega) (by omega) _ _ hP hS ls (lv_sub hl [0, 1] rfl)
theorem ec_r_28_27__27_28 (f : Nat → Nat → Int32) (v28 : Nat → Int32) (v27 : Nat → Int32) : (va_up (va_up f 28 v28) 27 v27) = (va_up (va_up f 27 v27) 28 v28) := by
  funext j9
  simp only [va_up]
  (repeat' split) <;> simp_all
theorem ec_r_28_27__28_27 (f : Nat → Nat → Int32) (v28 : Nat → Int32) (v27 : Nat → Int32) : (va_up (va_up f 28 v28) 27 v27) = (va_up (va_up f 28 v28) 27 v27) := by
  funext j9
  simp only [va_up]
  (repeat' split) <;> simp_all
theorem ec_r_27_28__28_27 (f : Nat → Nat → Int32) (v27 : Nat → Int32) (v28 : Nat → Int32) : (va_up (va_up f 27 v27) 28 v28) = (va_up (va_up f 28 v28) 27 v27) := by
  funext j9
  simp only [va_up]
  (repeat' split) <;> simp_all
theorem ec_r_27_28__27_28 (f : Nat → Nat → Int32) (v27 : Nat → Int32) (v28 : Nat → Int32) : (va_up (va_up f 27 v27) 28 v28) = (va_up (va_up f 27 v27) 28 v28) := by
  funext j9
  simp only [va_up]
  (repeat' split) <;> simp_all
theorem ec_r_27__27_28 (f : Nat → Nat → Int32) (v27 : Nat → Int32) : (va_up f 27 v27) = (va_up (va_up f 27 v27) 28 (f 28)) := by
  funext j9
  simp only [va_up]
  (repeat' split) <;> simp_all
theorem ec_r_27__27 (f : Nat → Nat → Int32) (v27 : Nat → Int32) : (va_up f 27 v27) = (va_up f 27 v27) := by
  funext j9
  simp only [va_up]
  (repeat' split) <;> simp_all
theorem ec_r___27 (f : Nat → Nat → Int32)  : f = (va_up f 27 (f 27)) := by
  funext j9
  simp only [va_up]
  (repeat' split) <;> simp_all
set_option maxHeartbeats 4000000 in
set_option maxRecDepth 100000 in
theorem c_X10_haunt (l : Launch) (D : va_G) (cy : Nat → ClassId) (mo : Nat) (a : Nat → Nat) (f : Nat → Int32) (g : Nat → Int64) (r : Nat → Nat → Int32) (q : Nat → Nat → Int64) (ways : Int32) (hD : DM cy mo a)  : Mv l D cy mo a yX10_haunt wsX10_haunt ({ frames := 1, cells := 0, slots := 0, locals := 25 }) f g r q [.int ways] (fun u => ∃ (gh : Nat → Int32), ∃ (mv : Nat → Int32), u = (f, g, (va_up (va_up r 27 gh) 28 mv), q) ∧ (True)) := by
  refine Met.ofW (cc := cX10_haunt) (maxL := 7) (ret := none) (by decide) rfl ?_
  intro p e s m args below meth c s₁ B hml hv
  obtain ⟨rfl, hP, hK⟩ := hv
  have hx := B.exec
  have hb := B.bytes
  have hr := B.returns
  have hts := atoms_spec (ws := wsX10_haunt) B.pre
  have hin : ∀ w ∈ u_ws RX10 TX10 35, w ∈ wsX10_haunt := by decide +kernel
  have hown : s.vm.findClass RX10 = some m.cls := findClass_of_methodNamed B.named
  have hlocks := B.notSynchronized
  have hS : va_S (AM mo a) s.heap s.heap [] := va_S.rf
  have hl := lv_entry ([.ref mo, .int ways]) (n := 7) (Nat.le_of_ble_eq_true rfl)
  rw [lg_entry_eq]
  generalize (lg_sl ([.ref mo, .int ways]) ++ List.replicate (7 - (lg_sl ([.ref mo, .int ways])).length) Slot.unset).toArray = ls at hl ⊢
  have hl : lv_has ls 7 [(0, .ref mo), (1, .int ways)] := hl
  have k_0 : (0 : Int32).toInt = 0 := by decide
  have k_1 : (1 : Int32).toInt = 1 := by decide
  have k_3 : (3 : Int32).toInt = 3 := by decide
  have k_4 : (4 : Int32).toInt = 4 := by decide
  have k_11 : (11 : Int32).toInt = 11 := by decide
  have k_121 : (121 : Int32).toInt = 121 := by decide
  have k_0L : (0 : Int64).toInt = 0 := by decide
  have k_10L : (10 : Int64).toInt = 10 := by decide
  refine lv_iconst (v := 0) hx hb dX10_haunt_0 (by decide) ?_
  refine lv_istore_n (lv' := [(2, .int (0 : Int32)), (0, .ref mo), (1, .int ways)]) hx hb dX10_haunt_1 rfl hl (by decide) rfl (fun ls hl => ?_)
  have loop_2 : ∀ (n : Nat) (k : Nat) (g1 : Nat → Int32), (k ≤ 121) → 121 - k < n → ∀ (H : Heap) (locs : List Loc), va_P D vwCl (WM cy mo a f g (va_up r 27 g1) q) H → va_S (AM mo a) s.heap H locs → ∀ (ls : Array Slot), lv_has ls 7 [(2, .int (nI k)), (0, .ref mo), (1, .int ways)] → W p l e (headSpec wsX10_haunt ({ frames := 1, cells := 0, slots := 0, locals := 25 })).room s m #[Value.ref mo, Value.int ways] below meth c H locs 0 0 (MQ below (va_Qv (fun u => ∃ (gh : Nat → Int32), ∃ (mv : Nat → Int32), u = (f, g, (va_up (va_up r 27 gh) 28 mv), q) ∧ (True)) (mB D cy mo a) (AM mo a)) #[Value.ref mo, Value.int ways] s 0 0 (AM mo a)) (F0 m 2 ls []) := by
    intro n
    induction n with
    | zero => intro k g1 j2_0 hn; exact absurd hn (Nat.not_lt_zero _)
    | succ n ih_2 =>
      intro k g1 j2_0 hn_2 H locs hP hS ls hl
      have ik : (nI k).toInt = (k : Int) := nI_toInt (by omega)
      refine lv_iload_n hx hb dX10_haunt_2 rfl (lv_at hl 0 rfl) ?_
      refine lv_bipush (v := 121) hx hb dX10_haunt_3 (by decide) ?_
      refine lv_icmp_ge (tgt := 21) hx hb dX10_haunt_5 (by decide) (fun c5 => ?_) (fun c5 => ?_)
      · skip
        have d5 := c5
        rw [fa_le] at d5
        refine lv_aload_n hx hb dX10_haunt_21 rfl (lv_at hl 1 rfl) ?_
        refine m_get (v := .ref (a 27)) hx hb hts hin hown hK hP 27 (by decide) rfl (hts (.fieldLink RX10 55 "ShadowBenchModel" "ghost" "[I") (by decide +kernel)) rfl dX10_haunt_22 ?_
        refine lv_iload_n hx hb dX10_haunt_25 rfl (lv_at hl 2 rfl) ?_
        refine lv_iconst (v := 3) hx hb dX10_haunt_26 (by decide) ?_
        refine lv_ishr hx hb dX10_haunt_27 ?_
        refine lv_topi (fun v27 e27 => ?_)
        refine lv_iconst (v := 1) hx hb dX10_haunt_28 (by decide) ?_
        refine lv_iand hx hb dX10_haunt_29 ?_
        refine lv_topi (fun v29 e29 => ?_)
        have b29 := bit1 e29
        refine lv_bipush (v := 11) hx hb dX10_haunt_30 (by decide) ?_
        refine lv_imul hx hb dX10_haunt_32 ?_
        refine lv_topi (fun v32 e32 => ?_)
        have i32 : v32.toInt = v29.toInt * 11 := by rw [e32]; exact mulcR rfl (by omega) (by omega)
        refine lv_iconst (v := 1) hx hb dX10_haunt_33 (by decide) ?_
        refine m_iast (w := g1) hx hb hK hP hD hS 15 rfl (vp_in_iff.mpr ⟨by omega, by omega⟩) (va_up r 27 ((upd g1 v32.toNatClampNeg (1 : Int32)))) rfl dX10_haunt_34 (fun H locs hP hS => ?_)
        refine lv_iconst (v := 0) hx hb dX10_haunt_35 (by decide) ?_
        refine lv_istore_n (lv' := [(2, .int (0 : Int32)), (0, .ref mo), (1, .int ways)]) hx hb dX10_haunt_36 rfl hl (by decide) rfl (fun ls hl => ?_)
        have loop_37 : ∀ (n : Nat) (k2 : Nat) (g2 : Nat → Int32) (m2 : Nat → Int32), (k2 ≤ 4) → 4 - k2 < n → ∀ (H : Heap) (locs : List Loc), va_P D vwCl (WM cy mo a f g (va_up (va_up r 27 g2) 28 m2) q) H → va_S (AM mo a) s.heap H locs → ∀ (ls : Array Slot), lv_has ls 7 [(2, .int (nI k2)), (0, .ref mo), (1, .int ways)] → W p l e (headSpec wsX10_haunt ({ frames := 1, cells := 0, slots := 0, locals := 25 })).room s m #[Value.ref mo, Value.int ways] below meth c H locs 0 0 (MQ below (va_Qv (fun u => ∃ (gh : Nat → Int32), ∃ (mv : Nat → Int32), u = (f, g, (va_up (va_up r 27 gh) 28 mv), q) ∧ (True)) (mB D cy mo a) (AM mo a)) #[Value.ref mo, Value.int ways] s 0 0 (AM mo a)) (F0 m 37 ls []) := by
          intro n
          induction n with
          | zero => intro k2 g2 m2 j37_0 hn; exact absurd hn (Nat.not_lt_zero _)
          | succ n ih_37 =>
            intro k2 g2 m2 j37_0 hn_37 H locs hP hS ls hl
            have ik2 : (nI k2).toInt = (k2 : Int) := nI_toInt (by omega)
            refine lv_iload_n hx hb dX10_haunt_37 rfl (lv_at hl 0 rfl) ?_
            refine lv_iconst (v := 4) hx hb dX10_haunt_38 (by decide) ?_
            refine lv_icmp_ge (tgt := 196) hx hb dX10_haunt_39 (by decide) (fun c39 => ?_) (fun c39 => ?_)
            · skip
              have d39 := c39
              rw [fa_le] at d39
              exact W.vret hx hb hr (fun t ht hW => ⟨⟨(f, g, (va_up (va_up r 27 g2) 28 m2), q), rfl, ⟨g2, m2, rfl, trivial⟩, by unfold mB; rw [ht]; exact hP⟩, hS.F ht⟩) hS.2.2 dX10_haunt_196
            · skip
              have d39 := c39
              rw [fa_le] at d39
              refine lv_iconst (v := 0) hx hb dX10_haunt_42 (by decide) ?_
              refine lv_istore_n (lv' := [(3, .int (0 : Int32)), (2, .int (nI k2)), (0, .ref mo), (1, .int ways)]) hx hb dX10_haunt_43 rfl hl (by decide) rfl (fun ls hl => ?_)
              have loop_44 : ∀ (n : Nat) (i : Nat) (m3 : Nat → Int32), (i ≤ 121) → 121 - i < n → ∀ (H : Heap) (locs : List Loc), va_P D vwCl (WM cy mo a f g (va_up (va_up r 27 g2) 28 m3) q) H → va_S (AM mo a) s.heap H locs → ∀ (ls : Array Slot), lv_has ls 7 [(3, .int (nI i)), (2, .int (nI k2)), (0, .ref mo), (1, .int ways)] → W p l e (headSpec wsX10_haunt ({ frames := 1, cells := 0, slots := 0, locals := 25 })).room s m #[Value.ref mo, Value.int ways] below meth c H locs 0 0 (MQ below (va_Qv (fun u => ∃ (gh : Nat → Int32), ∃ (mv : Nat → Int32), u = (f, g, (va_up (va_up r 27 gh) 28 mv), q) ∧ (True)) (mB D cy mo a) (AM mo a)) #[Value.ref mo, Value.int ways] s 0 0 (AM mo a)) (F0 m 44 ls []) := by
                intro n
                induction n with
                | zero => intro i m3 j44_0 hn; exact absurd hn (Nat.not_lt_zero _)
                | succ n ih_44 =>
                  intro i m3 j44_0 hn_44 H locs hP hS ls hl
                  have ii : (nI i).toInt = (i : Int) := nI_toInt (by omega)
                  refine lv_iload_n hx hb dX10_haunt_44 rfl (lv_at hl 0 rfl) ?_
                  refine lv_bipush (v := 121) hx hb dX10_haunt_45 (by decide) ?_
                  refine lv_icmp_ge (tgt := 155) hx hb dX10_haunt_47 (by decide) (fun c47 => ?_) (fun c47 => ?_)
                  · skip
                    have d47 := c47
                    rw [fa_le] at d47
                    refine lv_iconst (v := 0) hx hb dX10_haunt_155 (by decide) ?_
                    refine lv_istore_n (lv' := [(3, .int (0 : Int32)), (2, .int (nI k2)), (0, .ref mo), (1, .int ways)]) hx hb dX10_haunt_156 rfl hl (by decide) rfl (fun ls hl => ?_)
                    have loop_157 : ∀ (n : Nat) (i2 : Nat) (g4 : Nat → Int32), (i2 ≤ 121) → 121 - i2 < n → ∀ (H : Heap) (locs : List Loc), va_P D vwCl (WM cy mo a f g (va_up (va_up r 28 m3) 27 g4) q) H → va_S (AM mo a) s.heap H locs → ∀ (ls : Array Slot), lv_has ls 7 [(3, .int (nI i2)), (2, .int (nI k2)), (0, .ref mo), (1, .int ways)] → W p l e (headSpec wsX10_haunt ({ frames := 1, cells := 0, slots := 0, locals := 25 })).room s m #[Value.ref mo, Value.int ways] below meth c H locs 0 0 (MQ below (va_Qv (fun u => ∃ (gh : Nat → Int32), ∃ (mv : Nat → Int32), u = (f, g, (va_up (va_up r 27 gh) 28 mv), q) ∧ (True)) (mB D cy mo a) (AM mo a)) #[Value.ref mo, Value.int ways] s 0 0 (AM mo a)) (F0 m 157 ls []) := by
                      intro n
                      induction n with
                      | zero => intro i2 g4 j157_0 hn; exact absurd hn (Nat.not_lt_zero _)
                      | succ n ih_157 =>
                        intro i2 g4 j157_0 hn_157 H locs hP hS ls hl
                        have ii2 : (nI i2).toInt = (i2 : Int) := nI_toInt (by omega)
                        refine lv_iload_n hx hb dX10_haunt_157 rfl (lv_at hl 0 rfl) ?_
                        refine lv_bipush (v := 121) hx hb dX10_haunt_158 (by decide) ?_
                        refine lv_icmp_ge (tgt := 190) hx hb dX10_haunt_160 (by decide) (fun c160 => ?_) (fun c160 => ?_)
                        · skip
                          have d160 := c160
                          rw [fa_le] at d160
                          refine lv_iinc (v := (nI (k2 + 1))) (lv' := [(2, .int (nI (k2 + 1))), (3, .int (nI i2)), (0, .ref mo), (1, .int ways)]) hx hb dX10_haunt_190 hl (k := 1) rfl (nI_1 _) (by decide) rfl (fun ls hl => ?_)
                          refine lv_goto (tgt := 37) hx hb dX10_haunt_193 (by decide) ?_
                          have hP := wm_eq rfl rfl (ec_r_28_27__27_28 r m3 g4) rfl hP
                          exact ih_37 (k2 + 1) g4 m3 (by omega) (by omega) _ _ hP hS ls (lv_sub hl [0, 2, 3] rfl)
                        · skip
                          have d160 := c160
                          rw [fa_le] at d160
                          refine lv_iload_n hx hb dX10_haunt_163 rfl (lv_at hl 3 rfl) ?_
                          refine lv_iload_n hx hb dX10_haunt_164 rfl (lv_at hl 1 rfl) ?_
                          refine lv_ishr hx hb dX10_haunt_165 ?_
                          refine lv_topi (fun v165 e165 => ?_)
                          refine lv_iconst (v := 1) hx hb dX10_haunt_166 (by decide) ?_
                          refine lv_iand hx hb dX10_haunt_167 ?_
                          refine lv_topi (fun v167 e167 => ?_)
                          refine lv_iconst (v := 1) hx hb dX10_haunt_168 (by decide) ?_
                          refine lv_icmp_ne (tgt := 190) hx hb dX10_haunt_169 (by decide) (fun c169 => ?_) (fun c169 => ?_)
                          · skip
                            have d169 := c169
                            rw [fa_eq] at d169
                            refine lv_iinc (v := (nI (k2 + 1))) (lv' := [(2, .int (nI (k2 + 1))), (3, .int (nI i2)), (0, .ref mo), (1, .int ways)]) hx hb dX10_haunt_190 hl (k := 1) rfl (nI_1 _) (by decide) rfl (fun ls hl => ?_)
                            refine lv_goto (tgt := 37) hx hb dX10_haunt_193 (by decide) ?_
                            have hP := wm_eq rfl rfl (ec_r_28_27__27_28 r m3 g4) rfl hP
                            exact ih_37 (k2 + 1) g4 m3 (by omega) (by omega) _ _ hP hS ls (lv_sub hl [0, 2, 3] rfl)
                          · skip
                            have d169 := c169
                            rw [fa_eq] at d169
                            refine lv_aload_n hx hb dX10_haunt_172 rfl (lv_at hl 2 rfl) ?_
                            refine m_get (v := .ref (a 27)) hx hb hts hin hown hK hP 27 (by decide) rfl (hts (.fieldLink RX10 55 "ShadowBenchModel" "ghost" "[I") (by decide +kernel)) rfl dX10_haunt_173 ?_
                            refine lv_iload_n hx hb dX10_haunt_176 rfl (lv_at hl 0 rfl) ?_
                            refine lv_aload_n hx hb dX10_haunt_177 rfl (lv_at hl 2 rfl) ?_
                            refine m_get (v := .ref (a 28)) hx hb hts hin hown hK hP 28 (by decide) rfl (hts (.fieldLink RX10 58 "ShadowBenchModel" "moved" "[I") (by decide +kernel)) rfl dX10_haunt_178 ?_
                            refine lv_iload_n hx hb dX10_haunt_181 rfl (lv_at hl 0 rfl) ?_
                            refine m_iald (w := m3) hx hb hK hP 16 rfl (vp_in_iff.mpr ⟨by omega, by omega⟩) dX10_haunt_182 ?_
                            refine lv_topi (fun v182 e182 => ?_)
                            have i182 : v182.toInt = (m3 (nI i2).toNatClampNeg).toInt := congrArg Int32.toInt e182
                            refine m_iast (w := g4) hx hb hK hP hD hS 15 rfl (vp_in_iff.mpr ⟨by omega, by omega⟩) (va_up (va_up r 28 m3) 27 ((upd g4 (nI i2).toNatClampNeg v182))) rfl dX10_haunt_183 (fun H locs hP hS => ?_)
                            refine lv_iinc (v := (nI (i2 + 1))) (lv' := [(3, .int (nI (i2 + 1))), (2, .int (nI k2)), (0, .ref mo), (1, .int ways)]) hx hb dX10_haunt_184 hl (k := 0) rfl (nI_1 _) (by decide) rfl (fun ls hl => ?_)
                            refine lv_goto (tgt := 157) hx hb dX10_haunt_187 (by decide) ?_
                            have hP := wm_eq rfl rfl (ec_r_28_27__28_27 r m3 ((upd g4 (nI i2).toNatClampNeg v182))) rfl hP
                            exact ih_157 (i2 + 1) (((upd g4 (nI i2).toNatClampNeg v182))) (by omega) (by omega) _ _ hP hS ls (lv_sub hl [0, 1, 2, 3] rfl)
                    have hP := wm_eq rfl rfl (ec_r_27_28__28_27 r g2 m3) rfl hP
                    exact loop_157 (121 + 1) 0 g2 (by omega) (by omega) _ _ hP hS ls (lv_sub hl [0, 1, 2, 3] rfl)
                  · skip
                    have d47 := c47
                    rw [fa_le] at d47
                    refine lv_iload_n hx hb dX10_haunt_50 rfl (lv_at hl 3 rfl) ?_
                    refine lv_iload_n hx hb dX10_haunt_51 rfl (lv_at hl 1 rfl) ?_
                    refine lv_ishr hx hb dX10_haunt_52 ?_
                    refine lv_topi (fun v52 e52 => ?_)
                    refine lv_iconst (v := 1) hx hb dX10_haunt_53 (by decide) ?_
                    refine lv_iand hx hb dX10_haunt_54 ?_
                    refine lv_topi (fun v54 e54 => ?_)
                    refine lv_iconst (v := 1) hx hb dX10_haunt_55 (by decide) ?_
                    refine lv_icmp_ne (tgt := 155) hx hb dX10_haunt_56 (by decide) (fun c56 => ?_) (fun c56 => ?_)
                    · skip
                      have d56 := c56
                      rw [fa_eq] at d56
                      refine lv_iconst (v := 0) hx hb dX10_haunt_155 (by decide) ?_
                      refine lv_istore_n (lv' := [(3, .int (0 : Int32)), (2, .int (nI k2)), (0, .ref mo), (1, .int ways)]) hx hb dX10_haunt_156 rfl hl (by decide) rfl (fun ls hl => ?_)
                      have loop_157 : ∀ (n : Nat) (i2 : Nat) (g4 : Nat → Int32), (i2 ≤ 121) → 121 - i2 < n → ∀ (H : Heap) (locs : List Loc), va_P D vwCl (WM cy mo a f g (va_up (va_up r 28 m3) 27 g4) q) H → va_S (AM mo a) s.heap H locs → ∀ (ls : Array Slot), lv_has ls 7 [(3, .int (nI i2)), (2, .int (nI k2)), (0, .ref mo), (1, .int ways)] → W p l e (headSpec wsX10_haunt ({ frames := 1, cells := 0, slots := 0, locals := 25 })).room s m #[Value.ref mo, Value.int ways] below meth c H locs 0 0 (MQ below (va_Qv (fun u => ∃ (gh : Nat → Int32), ∃ (mv : Nat → Int32), u = (f, g, (va_up (va_up r 27 gh) 28 mv), q) ∧ (True)) (mB D cy mo a) (AM mo a)) #[Value.ref mo, Value.int ways] s 0 0 (AM mo a)) (F0 m 157 ls []) := by
                        intro n
                        induction n with
                        | zero => intro i2 g4 j157_0 hn; exact absurd hn (Nat.not_lt_zero _)
                        | succ n ih_157 =>
                          intro i2 g4 j157_0 hn_157 H locs hP hS ls hl
                          have ii2 : (nI i2).toInt = (i2 : Int) := nI_toInt (by omega)
                          refine lv_iload_n hx hb dX10_haunt_157 rfl (lv_at hl 0 rfl) ?_
                          refine lv_bipush (v := 121) hx hb dX10_haunt_158 (by decide) ?_
                          refine lv_icmp_ge (tgt := 190) hx hb dX10_haunt_160 (by decide) (fun c160 => ?_) (fun c160 => ?_)
                          · skip
                            have d160 := c160
                            rw [fa_le] at d160
                            refine lv_iinc (v := (nI (k2 + 1))) (lv' := [(2, .int (nI (k2 + 1))), (3, .int (nI i2)), (0, .ref mo), (1, .int ways)]) hx hb dX10_haunt_190 hl (k := 1) rfl (nI_1 _) (by decide) rfl (fun ls hl => ?_)
                            refine lv_goto (tgt := 37) hx hb dX10_haunt_193 (by decide) ?_
                            have hP := wm_eq rfl rfl (ec_r_28_27__27_28 r m3 g4) rfl hP
                            exact ih_37 (k2 + 1) g4 m3 (by omega) (by omega) _ _ hP hS ls (lv_sub hl [0, 2, 3] rfl)
                          · skip
                            have d160 := c160
                            rw [fa_le] at d160
                            refine lv_iload_n hx hb dX10_haunt_163 rfl (lv_at hl 3 rfl) ?_
                            refine lv_iload_n hx hb dX10_haunt_164 rfl (lv_at hl 1 rfl) ?_
                            refine lv_ishr hx hb dX10_haunt_165 ?_
                            refine lv_topi (fun v165 e165 => ?_)
                            refine lv_iconst (v := 1) hx hb dX10_haunt_166 (by decide) ?_
                            refine lv_iand hx hb dX10_haunt_167 ?_
                            refine lv_topi (fun v167 e167 => ?_)
                            refine lv_iconst (v := 1) hx hb dX10_haunt_168 (by decide) ?_
                            refine lv_icmp_ne (tgt := 190) hx hb dX10_haunt_169 (by decide) (fun c169 => ?_) (fun c169 => ?_)
                            · skip
                              have d169 := c169
                              rw [fa_eq] at d169
                              refine lv_iinc (v := (nI (k2 + 1))) (lv' := [(2, .int (nI (k2 + 1))), (3, .int (nI i2)), (0, .ref mo), (1, .int ways)]) hx hb dX10_haunt_190 hl (k := 1) rfl (nI_1 _) (by decide) rfl (fun ls hl => ?_)
                              refine lv_goto (tgt := 37) hx hb dX10_haunt_193 (by decide) ?_
                              have hP := wm_eq rfl rfl (ec_r_28_27__27_28 r m3 g4) rfl hP
                              exact ih_37 (k2 + 1) g4 m3 (by omega) (by omega) _ _ hP hS ls (lv_sub hl [0, 2, 3] rfl)
                            · skip
                              have d169 := c169
                              rw [fa_eq] at d169
                              refine lv_aload_n hx hb dX10_haunt_172 rfl (lv_at hl 2 rfl) ?_
                              refine m_get (v := .ref (a 27)) hx hb hts hin hown hK hP 27 (by decide) rfl (hts (.fieldLink RX10 55 "ShadowBenchModel" "ghost" "[I") (by decide +kernel)) rfl dX10_haunt_173 ?_
                              refine lv_iload_n hx hb dX10_haunt_176 rfl (lv_at hl 0 rfl) ?_
                              refine lv_aload_n hx hb dX10_haunt_177 rfl (lv_at hl 2 rfl) ?_
                              refine m_get (v := .ref (a 28)) hx hb hts hin hown hK hP 28 (by decide) rfl (hts (.fieldLink RX10 58 "ShadowBenchModel" "moved" "[I") (by decide +kernel)) rfl dX10_haunt_178 ?_
                              refine lv_iload_n hx hb dX10_haunt_181 rfl (lv_at hl 0 rfl) ?_
                              refine m_iald (w := m3) hx hb hK hP 16 rfl (vp_in_iff.mpr ⟨by omega, by omega⟩) dX10_haunt_182 ?_
                              refine lv_topi (fun v182 e182 => ?_)
                              have i182 : v182.toInt = (m3 (nI i2).toNatClampNeg).toInt := congrArg Int32.toInt e182
                              refine m_iast (w := g4) hx hb hK hP hD hS 15 rfl (vp_in_iff.mpr ⟨by omega, by omega⟩) (va_up (va_up r 28 m3) 27 ((upd g4 (nI i2).toNatClampNeg v182))) rfl dX10_haunt_183 (fun H locs hP hS => ?_)
                              refine lv_iinc (v := (nI (i2 + 1))) (lv' := [(3, .int (nI (i2 + 1))), (2, .int (nI k2)), (0, .ref mo), (1, .int ways)]) hx hb dX10_haunt_184 hl (k := 0) rfl (nI_1 _) (by decide) rfl (fun ls hl => ?_)
                              refine lv_goto (tgt := 157) hx hb dX10_haunt_187 (by decide) ?_
                              have hP := wm_eq rfl rfl (ec_r_28_27__28_27 r m3 ((upd g4 (nI i2).toNatClampNeg v182))) rfl hP
                              exact ih_157 (i2 + 1) (((upd g4 (nI i2).toNatClampNeg v182))) (by omega) (by omega) _ _ hP hS ls (lv_sub hl [0, 1, 2, 3] rfl)
                      have hP := wm_eq rfl rfl (ec_r_27_28__28_27 r g2 m3) rfl hP
                      exact loop_157 (121 + 1) 0 g2 (by omega) (by omega) _ _ hP hS ls (lv_sub hl [0, 1, 2, 3] rfl)
                    · skip
                      have d56 := c56
                      rw [fa_eq] at d56
                      refine lv_iload_n hx hb dX10_haunt_59 rfl (lv_at hl 0 rfl) ?_
                      refine lv_bipush (v := 11) hx hb dX10_haunt_60 (by decide) ?_
                      refine lv_irem hx hb dX10_haunt_62 (fun z => by rw [fa_eq] at z; omega) ?_
                      refine lv_topi (fun v62 e62 => ?_)
                      have i62 : v62.toInt = (nI i).toInt % (11 : Int32).toInt := by rw [e62]; exact my_irem (by omega) (by omega)
                      have j62 : 0 ≤ v62.toInt ∧ v62.toInt < (11 : Int32).toInt ∧ v62.toInt ≤ (nI i).toInt := by rw [e62]; exact my_remb (by omega) (by omega)
                      rw [show (11 : Int32).toInt = 11 from by decide] at i62 j62
                      refine lv_iload_n hx hb dX10_haunt_63 rfl (lv_at hl 1 rfl) ?_
                      refine m_pu (As := [.int (nI k2)]) (rest := [.int v62]) ⟨hx, hb, hml, hown, hts⟩ (c_X10_across l (nI k2) ) (va_cwS 1 hts gX10_haunt_X10_across rfl rfl rfl (by decide +kernel) ⟨Nat.le_of_ble_eq_true rfl, Nat.le_of_ble_eq_true rfl⟩) hP rfl hl.1 rfl (Nat.le_of_ble_eq_true rfl) dX10_haunt_64 ⟨Nat.le_of_ble_eq_true rfl, Nat.le_of_ble_eq_true rfl⟩ hS (fun r64 H locs q64 hP hS => ?_)
                      refine lv_isub hx hb dX10_haunt_67 ?_
                      refine lv_topi (fun v67 e67 => ?_)
                      have i67 : v67.toInt = v62.toInt - r64.toInt := by rw [e67]; exact fb_subI (by omega) (by omega)
                      refine lv_istore (lv' := [(4, .int v67), (3, .int (nI i)), (2, .int (nI k2)), (0, .ref mo), (1, .int ways)]) hx hb dX10_haunt_68 hl (by decide) rfl (fun ls hl => ?_)
                      refine lv_iload_n hx hb dX10_haunt_70 rfl (lv_at hl 1 rfl) ?_
                      refine lv_bipush (v := 11) hx hb dX10_haunt_71 (by decide) ?_
                      refine lv_idiv hx hb dX10_haunt_73 (fun z => by rw [fa_eq] at z; omega) ?_
                      refine lv_topi (fun v73 e73 => ?_)
                      have i73 : v73.toInt = (nI i).toInt / (11 : Int32).toInt := by rw [e73]; exact my_idiv (by omega) (by omega)
                      have j73 : 0 ≤ v73.toInt ∧ v73.toInt ≤ (nI i).toInt := by rw [e73]; exact my_divb (by omega) (by omega)
                      rw [show (11 : Int32).toInt = 11 from by decide] at i73
                      refine lv_iload_n hx hb dX10_haunt_74 rfl (lv_at hl 2 rfl) ?_
                      refine m_pu (As := [.int (nI k2)]) (rest := [.int v73]) ⟨hx, hb, hml, hown, hts⟩ (c_X10_down l (nI k2) ) (va_cwS 1 hts gX10_haunt_X10_down rfl rfl rfl (by decide +kernel) ⟨Nat.le_of_ble_eq_true rfl, Nat.le_of_ble_eq_true rfl⟩) hP rfl hl.1 rfl (Nat.le_of_ble_eq_true rfl) dX10_haunt_75 ⟨Nat.le_of_ble_eq_true rfl, Nat.le_of_ble_eq_true rfl⟩ hS (fun r75 H locs q75 hP hS => ?_)
                      refine lv_isub hx hb dX10_haunt_78 ?_
                      refine lv_topi (fun v78 e78 => ?_)
                      have i78 : v78.toInt = v73.toInt - r75.toInt := by rw [e78]; exact fb_subI (by omega) (by omega)
                      refine lv_istore (lv' := [(5, .int v78), (4, .int v67), (3, .int (nI i)), (2, .int (nI k2)), (0, .ref mo), (1, .int ways)]) hx hb dX10_haunt_79 hl (by decide) rfl (fun ls hl => ?_)
                      refine lv_iload hx hb dX10_haunt_81 (lv_at hl 1 rfl) ?_
                      refine lv_i2l (v := v67.toInt64) hx hb dX10_haunt_83 rfl ?_
                      refine lv_lconst (v := 0) hx hb dX10_haunt_84 (by decide) ?_
                      refine lv_ldc2 hx hb hown (hts (.constantLong RX10 248 (10)) (by decide +kernel)) dX10_haunt_85 ?_
                      refine m_pu (As := [.long (v67.toInt64), .long (0 : Int64), .long (10 : Int64)]) (rest := []) ⟨hx, hb, hml, hown, hts⟩ (c_X10_isIn l v67.toInt64 (0 : Int64) (10 : Int64) ) (va_cwS 3 hts gX10_haunt_X10_isIn rfl rfl rfl (by decide +kernel) ⟨Nat.le_of_ble_eq_true rfl, Nat.le_of_ble_eq_true rfl⟩) hP rfl hl.1 rfl (Nat.le_of_ble_eq_true rfl) dX10_haunt_88 ⟨Nat.le_of_ble_eq_true rfl, Nat.le_of_ble_eq_true rfl⟩ hS (fun r88 H locs q88 hP hS => ?_)
                      have q88 := q88
                      simp only [k64, show (0 : Int64).toInt = 0 from rfl, show (1 : Int64).toInt = 1 from rfl, show (2 : Int64).toInt = 2 from rfl, show (3 : Int64).toInt = 3 from rfl, show (6 : Int64).toInt = 6 from rfl] at q88
                      refine lv_if_eq (tgt := 111) hx hb dX10_haunt_91 (by decide) (fun c91 => ?_) (fun c91 => ?_)
                      · skip
                        have b91 := bo_f q88 c91
                        refine lv_iconst (v := 0) hx hb dX10_haunt_111 (by decide) ?_
                        refine lv_istore (lv' := [(6, .int (0 : Int32)), (5, .int v78), (4, .int v67), (3, .int (nI i)), (2, .int (nI k2)), (0, .ref mo), (1, .int ways)]) hx hb dX10_haunt_112 hl (by decide) rfl (fun ls hl => ?_)
                        refine lv_aload_n hx hb dX10_haunt_114 rfl (lv_at hl 5 rfl) ?_
                        refine m_get (v := .ref (a 28)) hx hb hts hin hown hK hP 28 (by decide) rfl (hts (.fieldLink RX10 58 "ShadowBenchModel" "moved" "[I") (by decide +kernel)) rfl dX10_haunt_115 ?_
                        refine lv_iload_n hx hb dX10_haunt_118 rfl (lv_at hl 3 rfl) ?_
                        refine lv_aload_n hx hb dX10_haunt_119 rfl (lv_at hl 5 rfl) ?_
                        refine m_get (v := .ref (a 27)) hx hb hts hin hown hK hP 27 (by decide) rfl (hts (.fieldLink RX10 55 "ShadowBenchModel" "ghost" "[I") (by decide +kernel)) rfl dX10_haunt_120 ?_
                        refine lv_iload_n hx hb dX10_haunt_123 rfl (lv_at hl 3 rfl) ?_
                        refine m_iald (w := g2) hx hb hK hP 15 rfl (vp_in_iff.mpr ⟨by omega, by omega⟩) dX10_haunt_124 ?_
                        refine lv_topi (fun v124 e124 => ?_)
                        have i124 : v124.toInt = (g2 (nI i).toNatClampNeg).toInt := congrArg Int32.toInt e124
                        refine lv_iload hx hb dX10_haunt_125 (lv_at hl 0 rfl) ?_
                        refine lv_if_eq (tgt := 146) hx hb dX10_haunt_127 (by decide) (fun c127 => ?_) (fun c127 => ?_)
                        · skip
                          have d127 := c127
                          rw [fa_eq] at d127
                          refine lv_iconst (v := 0) hx hb dX10_haunt_146 (by decide) ?_
                          refine lv_isub hx hb dX10_haunt_147 ?_
                          refine lv_topi (fun v147 e147 => ?_)
                          refine m_iast (w := m3) hx hb hK hP hD hS 16 rfl (vp_in_iff.mpr ⟨by omega, by omega⟩) (va_up (va_up r 27 g2) 28 ((upd m3 (nI i).toNatClampNeg v147))) rfl dX10_haunt_148 (fun H locs hP hS => ?_)
                          refine lv_iinc (v := (nI (i + 1))) (lv' := [(3, .int (nI (i + 1))), (6, .int (0 : Int32)), (5, .int v78), (4, .int v67), (2, .int (nI k2)), (0, .ref mo), (1, .int ways)]) hx hb dX10_haunt_149 hl (k := 3) rfl (nI_1 _) (by decide) rfl (fun ls hl => ?_)
                          refine lv_goto (tgt := 44) hx hb dX10_haunt_152 (by decide) ?_
                          have hP := wm_eq rfl rfl (ec_r_27_28__27_28 r g2 ((upd m3 (nI i).toNatClampNeg v147))) rfl hP
                          exact ih_44 (i + 1) (((upd m3 (nI i).toNatClampNeg v147))) (by omega) (by omega) _ _ hP hS ls (lv_sub hl [0, 4, 5, 6] rfl)
                        · first | exact absurd c127 (by decide) | exact absurd (by decide) c127
                      · skip
                        have b91 := bo_t q88 c91
                        refine lv_iload hx hb dX10_haunt_94 (lv_at hl 0 rfl) ?_
                        refine lv_i2l (v := v78.toInt64) hx hb dX10_haunt_96 rfl ?_
                        refine lv_lconst (v := 0) hx hb dX10_haunt_97 (by decide) ?_
                        refine lv_ldc2 hx hb hown (hts (.constantLong RX10 248 (10)) (by decide +kernel)) dX10_haunt_98 ?_
                        refine m_pu (As := [.long (v78.toInt64), .long (0 : Int64), .long (10 : Int64)]) (rest := []) ⟨hx, hb, hml, hown, hts⟩ (c_X10_isIn l v78.toInt64 (0 : Int64) (10 : Int64) ) (va_cwS 3 hts gX10_haunt_X10_isIn rfl rfl rfl (by decide +kernel) ⟨Nat.le_of_ble_eq_true rfl, Nat.le_of_ble_eq_true rfl⟩) hP rfl hl.1 rfl (Nat.le_of_ble_eq_true rfl) dX10_haunt_101 ⟨Nat.le_of_ble_eq_true rfl, Nat.le_of_ble_eq_true rfl⟩ hS (fun r101 H locs q101 hP hS => ?_)
                        have q101 := q101
                        simp only [k64, show (0 : Int64).toInt = 0 from rfl, show (1 : Int64).toInt = 1 from rfl, show (2 : Int64).toInt = 2 from rfl, show (3 : Int64).toInt = 3 from rfl, show (6 : Int64).toInt = 6 from rfl] at q101
                        refine lv_if_eq (tgt := 111) hx hb dX10_haunt_104 (by decide) (fun c104 => ?_) (fun c104 => ?_)
                        · skip
                          have b104 := bo_f q101 c104
                          refine lv_iconst (v := 0) hx hb dX10_haunt_111 (by decide) ?_
                          refine lv_istore (lv' := [(6, .int (0 : Int32)), (5, .int v78), (4, .int v67), (3, .int (nI i)), (2, .int (nI k2)), (0, .ref mo), (1, .int ways)]) hx hb dX10_haunt_112 hl (by decide) rfl (fun ls hl => ?_)
                          refine lv_aload_n hx hb dX10_haunt_114 rfl (lv_at hl 5 rfl) ?_
                          refine m_get (v := .ref (a 28)) hx hb hts hin hown hK hP 28 (by decide) rfl (hts (.fieldLink RX10 58 "ShadowBenchModel" "moved" "[I") (by decide +kernel)) rfl dX10_haunt_115 ?_
                          refine lv_iload_n hx hb dX10_haunt_118 rfl (lv_at hl 3 rfl) ?_
                          refine lv_aload_n hx hb dX10_haunt_119 rfl (lv_at hl 5 rfl) ?_
                          refine m_get (v := .ref (a 27)) hx hb hts hin hown hK hP 27 (by decide) rfl (hts (.fieldLink RX10 55 "ShadowBenchModel" "ghost" "[I") (by decide +kernel)) rfl dX10_haunt_120 ?_
                          refine lv_iload_n hx hb dX10_haunt_123 rfl (lv_at hl 3 rfl) ?_
                          refine m_iald (w := g2) hx hb hK hP 15 rfl (vp_in_iff.mpr ⟨by omega, by omega⟩) dX10_haunt_124 ?_
                          refine lv_topi (fun v124 e124 => ?_)
                          have i124 : v124.toInt = (g2 (nI i).toNatClampNeg).toInt := congrArg Int32.toInt e124
                          refine lv_iload hx hb dX10_haunt_125 (lv_at hl 0 rfl) ?_
                          refine lv_if_eq (tgt := 146) hx hb dX10_haunt_127 (by decide) (fun c127 => ?_) (fun c127 => ?_)
                          · skip
                            have d127 := c127
                            rw [fa_eq] at d127
                            refine lv_iconst (v := 0) hx hb dX10_haunt_146 (by decide) ?_
                            refine lv_isub hx hb dX10_haunt_147 ?_
                            refine lv_topi (fun v147 e147 => ?_)
                            refine m_iast (w := m3) hx hb hK hP hD hS 16 rfl (vp_in_iff.mpr ⟨by omega, by omega⟩) (va_up (va_up r 27 g2) 28 ((upd m3 (nI i).toNatClampNeg v147))) rfl dX10_haunt_148 (fun H locs hP hS => ?_)
                            refine lv_iinc (v := (nI (i + 1))) (lv' := [(3, .int (nI (i + 1))), (6, .int (0 : Int32)), (5, .int v78), (4, .int v67), (2, .int (nI k2)), (0, .ref mo), (1, .int ways)]) hx hb dX10_haunt_149 hl (k := 3) rfl (nI_1 _) (by decide) rfl (fun ls hl => ?_)
                            refine lv_goto (tgt := 44) hx hb dX10_haunt_152 (by decide) ?_
                            have hP := wm_eq rfl rfl (ec_r_27_28__27_28 r g2 ((upd m3 (nI i).toNatClampNeg v147))) rfl hP
                            exact ih_44 (i + 1) (((upd m3 (nI i).toNatClampNeg v147))) (by omega) (by omega) _ _ hP hS ls (lv_sub hl [0, 4, 5, 6] rfl)
                          · first | exact absurd c127 (by decide) | exact absurd (by decide) c127
                        · skip
                          have b104 := bo_t q101 c104
                          refine lv_iconst (v := 1) hx hb dX10_haunt_107 (by decide) ?_
                          refine lv_goto (tgt := 112) hx hb dX10_haunt_108 (by decide) ?_
                          refine lv_istore (lv' := [(6, .int (1 : Int32)), (5, .int v78), (4, .int v67), (3, .int (nI i)), (2, .int (nI k2)), (0, .ref mo), (1, .int ways)]) hx hb dX10_haunt_112 hl (by decide) rfl (fun ls hl => ?_)
                          refine lv_aload_n hx hb dX10_haunt_114 rfl (lv_at hl 5 rfl) ?_
                          refine m_get (v := .ref (a 28)) hx hb hts hin hown hK hP 28 (by decide) rfl (hts (.fieldLink RX10 58 "ShadowBenchModel" "moved" "[I") (by decide +kernel)) rfl dX10_haunt_115 ?_
                          refine lv_iload_n hx hb dX10_haunt_118 rfl (lv_at hl 3 rfl) ?_
                          refine lv_aload_n hx hb dX10_haunt_119 rfl (lv_at hl 5 rfl) ?_
                          refine m_get (v := .ref (a 27)) hx hb hts hin hown hK hP 27 (by decide) rfl (hts (.fieldLink RX10 55 "ShadowBenchModel" "ghost" "[I") (by decide +kernel)) rfl dX10_haunt_120 ?_
                          refine lv_iload_n hx hb dX10_haunt_123 rfl (lv_at hl 3 rfl) ?_
                          refine m_iald (w := g2) hx hb hK hP 15 rfl (vp_in_iff.mpr ⟨by omega, by omega⟩) dX10_haunt_124 ?_
                          refine lv_topi (fun v124 e124 => ?_)
                          have i124 : v124.toInt = (g2 (nI i).toNatClampNeg).toInt := congrArg Int32.toInt e124
                          refine lv_iload hx hb dX10_haunt_125 (lv_at hl 0 rfl) ?_
                          refine lv_if_eq (tgt := 146) hx hb dX10_haunt_127 (by decide) (fun c127 => ?_) (fun c127 => ?_)
                          · first | exact absurd c127 (by decide) | exact absurd (by decide) c127
                          · skip
                            have d127 := c127
                            rw [fa_eq] at d127
                            refine lv_aload_n hx hb dX10_haunt_130 rfl (lv_at hl 5 rfl) ?_
                            refine m_get (v := .ref (a 27)) hx hb hts hin hown hK hP 27 (by decide) rfl (hts (.fieldLink RX10 55 "ShadowBenchModel" "ghost" "[I") (by decide +kernel)) rfl dX10_haunt_131 ?_
                            have y91 := b91
                            have y104 := b104
                            simp only [k64, show (0 : Int64).toInt = 0 from rfl, show (10 : Int64).toInt = 10 from rfl] at y91 y104
                            refine lv_bipush (v := 11) hx hb dX10_haunt_134 (by decide) ?_
                            refine lv_iload hx hb dX10_haunt_136 (lv_at hl 1 rfl) ?_
                            refine lv_imul hx hb dX10_haunt_138 ?_
                            refine lv_topi (fun v138 e138 => ?_)
                            have i138 : v138.toInt = 11 * v78.toInt := by rw [e138]; exact mulcL rfl (by omega) (by omega)
                            refine lv_iload hx hb dX10_haunt_139 (lv_at hl 2 rfl) ?_
                            refine lv_iadd hx hb dX10_haunt_141 ?_
                            refine lv_topi (fun v141 e141 => ?_)
                            have i141 : v141.toInt = v138.toInt + v67.toInt := by rw [e141]; exact fb_addI (by omega) (by omega)
                            refine m_iald (w := g2) hx hb hK hP 15 rfl (vp_in_iff.mpr ⟨by omega, by omega⟩) dX10_haunt_142 ?_
                            refine lv_topi (fun v142 e142 => ?_)
                            have i142 : v142.toInt = (g2 v141.toNatClampNeg).toInt := congrArg Int32.toInt e142
                            refine lv_goto (tgt := 147) hx hb dX10_haunt_143 (by decide) ?_
                            refine lv_isub hx hb dX10_haunt_147 ?_
                            refine lv_topi (fun v147 e147 => ?_)
                            refine m_iast (w := m3) hx hb hK hP hD hS 16 rfl (vp_in_iff.mpr ⟨by omega, by omega⟩) (va_up (va_up r 27 g2) 28 ((upd m3 (nI i).toNatClampNeg v147))) rfl dX10_haunt_148 (fun H locs hP hS => ?_)
                            refine lv_iinc (v := (nI (i + 1))) (lv' := [(3, .int (nI (i + 1))), (6, .int (1 : Int32)), (5, .int v78), (4, .int v67), (2, .int (nI k2)), (0, .ref mo), (1, .int ways)]) hx hb dX10_haunt_149 hl (k := 3) rfl (nI_1 _) (by decide) rfl (fun ls hl => ?_)
                            refine lv_goto (tgt := 44) hx hb dX10_haunt_152 (by decide) ?_
                            have hP := wm_eq rfl rfl (ec_r_27_28__27_28 r g2 ((upd m3 (nI i).toNatClampNeg v147))) rfl hP
                            exact ih_44 (i + 1) (((upd m3 (nI i).toNatClampNeg v147))) (by omega) (by omega) _ _ hP hS ls (lv_sub hl [0, 4, 5, 6] rfl)
              exact loop_44 (121 + 1) 0 m2 (by omega) (by omega) _ _ hP hS ls (lv_sub hl [0, 1, 2, 3] rfl)
        have hP := wm_eq rfl rfl (ec_r_27__27_28 r ((upd g1 v32.toNatClampNeg (1 : Int32)))) rfl hP
        exact loop_37 (4 + 1) 0 (((upd g1 v32.toNatClampNeg (1 : Int32)))) (r 28) (by omega) (by omega) _ _ hP hS ls (lv_sub hl [0, 1, 2] rfl)
      · skip
        have d5 := c5
        rw [fa_le] at d5
        refine lv_aload_n hx hb dX10_haunt_8 rfl (lv_at hl 1 rfl) ?_
        refine m_get (v := .ref (a 27)) hx hb hts hin hown hK hP 27 (by decide) rfl (hts (.fieldLink RX10 55 "ShadowBenchModel" "ghost" "[I") (by decide +kernel)) rfl dX10_haunt_9 ?_
        refine lv_iload_n hx hb dX10_haunt_12 rfl (lv_at hl 0 rfl) ?_
        refine lv_iconst (v := 0) hx hb dX10_haunt_13 (by decide) ?_
        refine m_iast (w := g1) hx hb hK hP hD hS 15 rfl (vp_in_iff.mpr ⟨by omega, by omega⟩) (va_up r 27 ((upd g1 (nI k).toNatClampNeg (0 : Int32)))) rfl dX10_haunt_14 (fun H locs hP hS => ?_)
        refine lv_iinc (v := (nI (k + 1))) (lv' := [(2, .int (nI (k + 1))), (0, .ref mo), (1, .int ways)]) hx hb dX10_haunt_15 hl (k := 0) rfl (nI_1 _) (by decide) rfl (fun ls hl => ?_)
        refine lv_goto (tgt := 2) hx hb dX10_haunt_18 (by decide) ?_
        have hP := wm_eq rfl rfl (ec_r_27__27 r ((upd g1 (nI k).toNatClampNeg (0 : Int32)))) rfl hP
        exact ih_2 (k + 1) (((upd g1 (nI k).toNatClampNeg (0 : Int32)))) (by omega) (by omega) _ _ hP hS ls (lv_sub hl [0, 1, 2] rfl)
  have hP := wm_eq rfl rfl (ec_r___27 r ) rfl hP
  exact loop_2 (121 + 1) 0 (r 27) (by omega) (by omega) _ _ hP hS ls (lv_sub hl [0, 1, 2] rfl)
theorem ec_r___27_28 (f : Nat → Nat → Int32)  : f = (va_up (va_up f 27 (f 27)) 28 (f 28)) := by
  funext j9
  simp only [va_up]
  (repeat' split) <;> simp_all
set_option maxHeartbeats 4000000 in
set_option maxRecDepth 100000 in
theorem c_X10_ghost (l : Launch) (D : va_G) (cy : Nat → ClassId) (mo : Nat) (a : Nat → Nat) (f : Nat → Int32) (g : Nat → Int64) (r : Nat → Nat → Int32) (q : Nat → Nat → Int64) (ways : Int32) (x : Int32) (y : Int32) (hD : DM cy mo a)  : Mi l D cy mo a yX10_ghost wsX10_ghost ({ frames := 2, cells := 0, slots := 0, locals := 51 }) f g r q [.int ways, .int x, .int y] (fun r0 u => ∃ (th : Int32), ∃ (gh : Nat → Int32), ∃ (mv : Nat → Int32), u = ((upd f 0 th), g, (va_up (va_up r 27 gh) 28 mv), q) ∧ (True)) := by
  refine Met.ofW (cc := cX10_ghost) (maxL := 4) (ret := (some .int)) (by decide) rfl ?_
  intro p e s m args below meth c s₁ B hml hv
  obtain ⟨rfl, hP, hK⟩ := hv
  have hx := B.exec
  have hb := B.bytes
  have hr := B.returns
  have hts := atoms_spec (ws := wsX10_ghost) B.pre
  have hin : ∀ w ∈ u_ws RX10 TX10 35, w ∈ wsX10_ghost := by decide +kernel
  have hown : s.vm.findClass RX10 = some m.cls := findClass_of_methodNamed B.named
  have hlocks := B.notSynchronized
  have hS : va_S (AM mo a) s.heap s.heap [] := va_S.rf
  have hl := lv_entry ([.ref mo, .int ways, .int x, .int y]) (n := 4) (Nat.le_of_ble_eq_true rfl)
  rw [lg_entry_eq]
  generalize (lg_sl ([.ref mo, .int ways, .int x, .int y]) ++ List.replicate (4 - (lg_sl ([.ref mo, .int ways, .int x, .int y])).length) Slot.unset).toArray = ls at hl ⊢
  have hl : lv_has ls 4 [(0, .ref mo), (1, .int ways), (2, .int x), (3, .int y)] := hl
  have k_0 : (0 : Int32).toInt = 0 := by decide
  have k_1 : (1 : Int32).toInt = 1 := by decide
  have k_11 : (11 : Int32).toInt = 11 := by decide
  have k_0L : (0 : Int64).toInt = 0 := by decide
  have k_1L : (1 : Int64).toInt = 1 := by decide
  have k_8L : (8 : Int64).toInt = 8 := by decide
  have k_15L : (15 : Int64).toInt = 15 := by decide
  refine lv_aload_n hx hb dX10_ghost_0 rfl (lv_at hl 0 rfl) ?_
  refine lv_iload_n hx hb dX10_ghost_1 rfl (lv_at hl 1 rfl) ?_
  refine lv_i2l (v := ways.toInt64) hx hb dX10_ghost_2 rfl ?_
  refine lv_lconst (v := 1) hx hb dX10_ghost_3 (by decide) ?_
  refine lv_ldc2 hx hb hown (hts (.constantLong RX10 228 (15)) (by decide +kernel)) dX10_ghost_4 ?_
  refine m_pu (As := [.long (ways.toInt64), .long (1 : Int64), .long (15 : Int64)]) (rest := [.ref mo]) ⟨hx, hb, hml, hown, hts⟩ (c_X10_isIn l ways.toInt64 (1 : Int64) (15 : Int64) ) (va_cwS 3 hts gX10_ghost_X10_isIn rfl rfl rfl (by decide +kernel) ⟨Nat.le_of_ble_eq_true rfl, Nat.le_of_ble_eq_true rfl⟩) hP rfl hl.1 rfl (Nat.le_of_ble_eq_true rfl) dX10_ghost_7 ⟨Nat.le_of_ble_eq_true rfl, Nat.le_of_ble_eq_true rfl⟩ hS (fun r7 H locs q7 hP hS => ?_)
  have q7 := q7
  simp only [k64, show (0 : Int64).toInt = 0 from rfl, show (1 : Int64).toInt = 1 from rfl, show (2 : Int64).toInt = 2 from rfl, show (3 : Int64).toInt = 3 from rfl, show (6 : Int64).toInt = 6 from rfl] at q7
  refine lv_if_eq (tgt := 41) hx hb dX10_ghost_10 (by decide) (fun c10 => ?_) (fun c10 => ?_)
  · skip
    have b10 := bo_f q7 c10
    refine lv_iconst (v := 1) hx hb dX10_ghost_41 (by decide) ?_
    refine m_put (v := .int (1 : Int32)) (ty := .int) hx hb hts hin hown hK hP hD hS 0 (by decide) rfl (hts (.fieldLink RX10 79 "ShadowBenchModel" "thrown" "I") (by decide +kernel)) rfl (by decide +kernel) rfl rfl (upd f 0 (1 : Int32)) g rfl dX10_ghost_42 (fun H locs hP hS => ?_)
    refine lv_aload_n hx hb dX10_ghost_45 rfl (lv_at hl 0 rfl) ?_
    refine m_get (v := .int (1 : Int32)) hx hb hts hin hown hK hP 0 (by decide) rfl (hts (.fieldLink RX10 79 "ShadowBenchModel" "thrown" "I") (by decide +kernel)) rfl dX10_ghost_46 ?_
    refine lv_if_le (tgt := 54) hx hb dX10_ghost_49 (by decide) (fun c49 => ?_) (fun c49 => ?_)
    · skip
      have d49 := c49
      rw [fa_le] at d49
      have y22 := b22
      have y34 := b34
      simp only [k64, show (0 : Int64).toInt = 0 from rfl, show (8 : Int64).toInt = 8 from rfl] at y22 y34
      refine lv_aload_n hx hb dX10_ghost_54 rfl (lv_at hl 0 rfl) ?_
      refine lv_iload_n hx hb dX10_ghost_55 rfl (lv_at hl 1 rfl) ?_
      refine m_callv (As := [.int ways]) (rest := []) ⟨hx, hb, hml, hown, hts⟩ (c_X10_haunt l D cy mo a (upd f 0 (1 : Int32)) g r q ways hD) (cwV 1 hts gX10_ghost_X10_haunt rfl rfl rfl (by decide +kernel) ⟨Nat.le_of_ble_eq_true rfl, Nat.le_of_ble_eq_true rfl⟩) hK hP rfl hl.1 rfl (Nat.le_of_ble_eq_true rfl) dX10_ghost_56 ⟨Nat.le_of_ble_eq_true rfl, Nat.le_of_ble_eq_true rfl⟩ hS (fun u H locs q56 hP hS => ?_)
      obtain ⟨gh_56, mv_56, rfl, q56⟩ := q56
      have hP : va_P D vwCl (WM cy mo a (upd f 0 (1 : Int32)) g (va_up (va_up r 27 gh_56) 28 mv_56) q) H := hP
      have q56 : True := q56
      refine lv_aload_n hx hb dX10_ghost_59 rfl (lv_at hl 0 rfl) ?_
      refine m_get (v := .ref (a 27)) hx hb hts hin hown hK hP 27 (by decide) rfl (hts (.fieldLink RX10 55 "ShadowBenchModel" "ghost" "[I") (by decide +kernel)) rfl dX10_ghost_60 ?_
      refine lv_bipush (v := 11) hx hb dX10_ghost_63 (by decide) ?_
      refine lv_iload_n hx hb dX10_ghost_65 rfl (lv_at hl 3 rfl) ?_
      refine lv_imul hx hb dX10_ghost_66 ?_
      refine lv_topi (fun v66 e66 => ?_)
      have i66 : v66.toInt = 11 * y.toInt := by rw [e66]; exact mulcL rfl (by omega) (by omega)
      refine lv_iload_n hx hb dX10_ghost_67 rfl (lv_at hl 2 rfl) ?_
      refine lv_iadd hx hb dX10_ghost_68 ?_
      refine lv_topi (fun v68 e68 => ?_)
      have i68 : v68.toInt = v66.toInt + x.toInt := by rw [e68]; exact fb_addI (by omega) (by omega)
      refine m_iald (w := gh_56) hx hb hK hP 15 rfl (vp_in_iff.mpr ⟨by omega, by omega⟩) dX10_ghost_69 ?_
      refine lv_topi (fun v69 e69 => ?_)
      have i69 : v69.toInt = (gh_56 v68.toNatClampNeg).toInt := congrArg Int32.toInt e69
      exact W.iret (v := v69) hx hb hr (fun t ht hW => ⟨⟨_, ((upd f 0 (1 : Int32)), g, (va_up (va_up r 27 gh_56) 28 mv_56), q), rfl, ⟨(1 : Int32), gh_56, mv_56, rfl, trivial⟩, by unfold mB; rw [ht]; exact hP⟩, hS.F ht⟩) hS.2.2 dX10_ghost_70
    · skip
      have d49 := c49
      rw [fa_le] at d49
      refine lv_iconst (v := 0) hx hb dX10_ghost_52 (by decide) ?_
      have hP := wm_eq rfl rfl (ec_r___27_28 r ) rfl hP
      exact W.iret (v := (0 : Int32)) hx hb hr (fun t ht hW => ⟨⟨_, ((upd f 0 (1 : Int32)), g, (va_up (va_up r 27 (r 27)) 28 (r 28)), q), rfl, ⟨(1 : Int32), (r 27), (r 28), rfl, trivial⟩, by unfold mB; rw [ht]; exact hP⟩, hS.F ht⟩) hS.2.2 dX10_ghost_53
  · skip
    have b10 := bo_t q7 c10
    refine lv_iload_n hx hb dX10_ghost_13 rfl (lv_at hl 2 rfl) ?_
    refine lv_i2l (v := x.toInt64) hx hb dX10_ghost_14 rfl ?_
    refine lv_lconst (v := 0) hx hb dX10_ghost_15 (by decide) ?_
    refine lv_ldc2 hx hb hown (hts (.constantLong RX10 250 (8)) (by decide +kernel)) dX10_ghost_16 ?_
    refine m_pu (As := [.long (x.toInt64), .long (0 : Int64), .long (8 : Int64)]) (rest := [.ref mo]) ⟨hx, hb, hml, hown, hts⟩ (c_X10_isIn l x.toInt64 (0 : Int64) (8 : Int64) ) (va_cwS 3 hts gX10_ghost_X10_isIn rfl rfl rfl (by decide +kernel) ⟨Nat.le_of_ble_eq_true rfl, Nat.le_of_ble_eq_true rfl⟩) hP rfl hl.1 rfl (Nat.le_of_ble_eq_true rfl) dX10_ghost_19 ⟨Nat.le_of_ble_eq_true rfl, Nat.le_of_ble_eq_true rfl⟩ hS (fun r19 H locs q19 hP hS => ?_)
    have q19 := q19
    simp only [k64, show (0 : Int64).toInt = 0 from rfl, show (1 : Int64).toInt = 1 from rfl, show (2 : Int64).toInt = 2 from rfl, show (3 : Int64).toInt = 3 from rfl, show (6 : Int64).toInt = 6 from rfl] at q19
    refine lv_if_eq (tgt := 41) hx hb dX10_ghost_22 (by decide) (fun c22 => ?_) (fun c22 => ?_)
    · skip
      have b22 := bo_f q19 c22
      refine lv_iconst (v := 1) hx hb dX10_ghost_41 (by decide) ?_
      refine m_put (v := .int (1 : Int32)) (ty := .int) hx hb hts hin hown hK hP hD hS 0 (by decide) rfl (hts (.fieldLink RX10 79 "ShadowBenchModel" "thrown" "I") (by decide +kernel)) rfl (by decide +kernel) rfl rfl (upd f 0 (1 : Int32)) g rfl dX10_ghost_42 (fun H locs hP hS => ?_)
      refine lv_aload_n hx hb dX10_ghost_45 rfl (lv_at hl 0 rfl) ?_
      refine m_get (v := .int (1 : Int32)) hx hb hts hin hown hK hP 0 (by decide) rfl (hts (.fieldLink RX10 79 "ShadowBenchModel" "thrown" "I") (by decide +kernel)) rfl dX10_ghost_46 ?_
      refine lv_if_le (tgt := 54) hx hb dX10_ghost_49 (by decide) (fun c49 => ?_) (fun c49 => ?_)
      · skip
        have d49 := c49
        rw [fa_le] at d49
        have y22 := b22
        have y34 := b34
        simp only [k64, show (0 : Int64).toInt = 0 from rfl, show (8 : Int64).toInt = 8 from rfl] at y22 y34
        refine lv_aload_n hx hb dX10_ghost_54 rfl (lv_at hl 0 rfl) ?_
        refine lv_iload_n hx hb dX10_ghost_55 rfl (lv_at hl 1 rfl) ?_
        refine m_callv (As := [.int ways]) (rest := []) ⟨hx, hb, hml, hown, hts⟩ (c_X10_haunt l D cy mo a (upd f 0 (1 : Int32)) g r q ways hD) (cwV 1 hts gX10_ghost_X10_haunt rfl rfl rfl (by decide +kernel) ⟨Nat.le_of_ble_eq_true rfl, Nat.le_of_ble_eq_true rfl⟩) hK hP rfl hl.1 rfl (Nat.le_of_ble_eq_true rfl) dX10_ghost_56 ⟨Nat.le_of_ble_eq_true rfl, Nat.le_of_ble_eq_true rfl⟩ hS (fun u H locs q56 hP hS => ?_)
        obtain ⟨gh_56, mv_56, rfl, q56⟩ := q56
        have hP : va_P D vwCl (WM cy mo a (upd f 0 (1 : Int32)) g (va_up (va_up r 27 gh_56) 28 mv_56) q) H := hP
        have q56 : True := q56
        refine lv_aload_n hx hb dX10_ghost_59 rfl (lv_at hl 0 rfl) ?_
        refine m_get (v := .ref (a 27)) hx hb hts hin hown hK hP 27 (by decide) rfl (hts (.fieldLink RX10 55 "ShadowBenchModel" "ghost" "[I") (by decide +kernel)) rfl dX10_ghost_60 ?_
        refine lv_bipush (v := 11) hx hb dX10_ghost_63 (by decide) ?_
        refine lv_iload_n hx hb dX10_ghost_65 rfl (lv_at hl 3 rfl) ?_
        refine lv_imul hx hb dX10_ghost_66 ?_
        refine lv_topi (fun v66 e66 => ?_)
        have i66 : v66.toInt = 11 * y.toInt := by rw [e66]; exact mulcL rfl (by omega) (by omega)
        refine lv_iload_n hx hb dX10_ghost_67 rfl (lv_at hl 2 rfl) ?_
        refine lv_iadd hx hb dX10_ghost_68 ?_
        refine lv_topi (fun v68 e68 => ?_)
        have i68 : v68.toInt = v66.toInt + x.toInt := by rw [e68]; exact fb_addI (by omega) (by omega)
        refine m_iald (w := gh_56) hx hb hK hP 15 rfl (vp_in_iff.mpr ⟨by omega, by omega⟩) dX10_ghost_69 ?_
        refine lv_topi (fun v69 e69 => ?_)
        have i69 : v69.toInt = (gh_56 v68.toNatClampNeg).toInt := congrArg Int32.toInt e69
        exact W.iret (v := v69) hx hb hr (fun t ht hW => ⟨⟨_, ((upd f 0 (1 : Int32)), g, (va_up (va_up r 27 gh_56) 28 mv_56), q), rfl, ⟨(1 : Int32), gh_56, mv_56, rfl, trivial⟩, by unfold mB; rw [ht]; exact hP⟩, hS.F ht⟩) hS.2.2 dX10_ghost_70
      · skip
        have d49 := c49
        rw [fa_le] at d49
        refine lv_iconst (v := 0) hx hb dX10_ghost_52 (by decide) ?_
        have hP := wm_eq rfl rfl (ec_r___27_28 r ) rfl hP
        exact W.iret (v := (0 : Int32)) hx hb hr (fun t ht hW => ⟨⟨_, ((upd f 0 (1 : Int32)), g, (va_up (va_up r 27 (r 27)) 28 (r 28)), q), rfl, ⟨(1 : Int32), (r 27), (r 28), rfl, trivial⟩, by unfold mB; rw [ht]; exact hP⟩, hS.F ht⟩) hS.2.2 dX10_ghost_53
    · skip
      have b22 := bo_t q19 c22
      refine lv_iload_n hx hb dX10_ghost_25 rfl (lv_at hl 3 rfl) ?_
      refine lv_i2l (v := y.toInt64) hx hb dX10_ghost_26 rfl ?_
      refine lv_lconst (v := 0) hx hb dX10_ghost_27 (by decide) ?_
      refine lv_ldc2 hx hb hown (hts (.constantLong RX10 250 (8)) (by decide +kernel)) dX10_ghost_28 ?_
      refine m_pu (As := [.long (y.toInt64), .long (0 : Int64), .long (8 : Int64)]) (rest := [.ref mo]) ⟨hx, hb, hml, hown, hts⟩ (c_X10_isIn l y.toInt64 (0 : Int64) (8 : Int64) ) (va_cwS 3 hts gX10_ghost_X10_isIn rfl rfl rfl (by decide +kernel) ⟨Nat.le_of_ble_eq_true rfl, Nat.le_of_ble_eq_true rfl⟩) hP rfl hl.1 rfl (Nat.le_of_ble_eq_true rfl) dX10_ghost_31 ⟨Nat.le_of_ble_eq_true rfl, Nat.le_of_ble_eq_true rfl⟩ hS (fun r31 H locs q31 hP hS => ?_)
      have q31 := q31
      simp only [k64, show (0 : Int64).toInt = 0 from rfl, show (1 : Int64).toInt = 1 from rfl, show (2 : Int64).toInt = 2 from rfl, show (3 : Int64).toInt = 3 from rfl, show (6 : Int64).toInt = 6 from rfl] at q31
      refine lv_if_eq (tgt := 41) hx hb dX10_ghost_34 (by decide) (fun c34 => ?_) (fun c34 => ?_)
      · skip
        have b34 := bo_f q31 c34
        refine lv_iconst (v := 1) hx hb dX10_ghost_41 (by decide) ?_
        refine m_put (v := .int (1 : Int32)) (ty := .int) hx hb hts hin hown hK hP hD hS 0 (by decide) rfl (hts (.fieldLink RX10 79 "ShadowBenchModel" "thrown" "I") (by decide +kernel)) rfl (by decide +kernel) rfl rfl (upd f 0 (1 : Int32)) g rfl dX10_ghost_42 (fun H locs hP hS => ?_)
        refine lv_aload_n hx hb dX10_ghost_45 rfl (lv_at hl 0 rfl) ?_
        refine m_get (v := .int (1 : Int32)) hx hb hts hin hown hK hP 0 (by decide) rfl (hts (.fieldLink RX10 79 "ShadowBenchModel" "thrown" "I") (by decide +kernel)) rfl dX10_ghost_46 ?_
        refine lv_if_le (tgt := 54) hx hb dX10_ghost_49 (by decide) (fun c49 => ?_) (fun c49 => ?_)
        · skip
          have d49 := c49
          rw [fa_le] at d49
          have y22 := b22
          have y34 := b34
          simp only [k64, show (0 : Int64).toInt = 0 from rfl, show (8 : Int64).toInt = 8 from rfl] at y22 y34
          refine lv_aload_n hx hb dX10_ghost_54 rfl (lv_at hl 0 rfl) ?_
          refine lv_iload_n hx hb dX10_ghost_55 rfl (lv_at hl 1 rfl) ?_
          refine m_callv (As := [.int ways]) (rest := []) ⟨hx, hb, hml, hown, hts⟩ (c_X10_haunt l D cy mo a (upd f 0 (1 : Int32)) g r q ways hD) (cwV 1 hts gX10_ghost_X10_haunt rfl rfl rfl (by decide +kernel) ⟨Nat.le_of_ble_eq_true rfl, Nat.le_of_ble_eq_true rfl⟩) hK hP rfl hl.1 rfl (Nat.le_of_ble_eq_true rfl) dX10_ghost_56 ⟨Nat.le_of_ble_eq_true rfl, Nat.le_of_ble_eq_true rfl⟩ hS (fun u H locs q56 hP hS => ?_)
          obtain ⟨gh_56, mv_56, rfl, q56⟩ := q56
          have hP : va_P D vwCl (WM cy mo a (upd f 0 (1 : Int32)) g (va_up (va_up r 27 gh_56) 28 mv_56) q) H := hP
          have q56 : True := q56
          refine lv_aload_n hx hb dX10_ghost_59 rfl (lv_at hl 0 rfl) ?_
          refine m_get (v := .ref (a 27)) hx hb hts hin hown hK hP 27 (by decide) rfl (hts (.fieldLink RX10 55 "ShadowBenchModel" "ghost" "[I") (by decide +kernel)) rfl dX10_ghost_60 ?_
          refine lv_bipush (v := 11) hx hb dX10_ghost_63 (by decide) ?_
          refine lv_iload_n hx hb dX10_ghost_65 rfl (lv_at hl 3 rfl) ?_
          refine lv_imul hx hb dX10_ghost_66 ?_
          refine lv_topi (fun v66 e66 => ?_)
          have i66 : v66.toInt = 11 * y.toInt := by rw [e66]; exact mulcL rfl (by omega) (by omega)
          refine lv_iload_n hx hb dX10_ghost_67 rfl (lv_at hl 2 rfl) ?_
          refine lv_iadd hx hb dX10_ghost_68 ?_
          refine lv_topi (fun v68 e68 => ?_)
          have i68 : v68.toInt = v66.toInt + x.toInt := by rw [e68]; exact fb_addI (by omega) (by omega)
          refine m_iald (w := gh_56) hx hb hK hP 15 rfl (vp_in_iff.mpr ⟨by omega, by omega⟩) dX10_ghost_69 ?_
          refine lv_topi (fun v69 e69 => ?_)
          have i69 : v69.toInt = (gh_56 v68.toNatClampNeg).toInt := congrArg Int32.toInt e69
          exact W.iret (v := v69) hx hb hr (fun t ht hW => ⟨⟨_, ((upd f 0 (1 : Int32)), g, (va_up (va_up r 27 gh_56) 28 mv_56), q), rfl, ⟨(1 : Int32), gh_56, mv_56, rfl, trivial⟩, by unfold mB; rw [ht]; exact hP⟩, hS.F ht⟩) hS.2.2 dX10_ghost_70
        · skip
          have d49 := c49
          rw [fa_le] at d49
          refine lv_iconst (v := 0) hx hb dX10_ghost_52 (by decide) ?_
          have hP := wm_eq rfl rfl (ec_r___27_28 r ) rfl hP
          exact W.iret (v := (0 : Int32)) hx hb hr (fun t ht hW => ⟨⟨_, ((upd f 0 (1 : Int32)), g, (va_up (va_up r 27 (r 27)) 28 (r 28)), q), rfl, ⟨(1 : Int32), (r 27), (r 28), rfl, trivial⟩, by unfold mB; rw [ht]; exact hP⟩, hS.F ht⟩) hS.2.2 dX10_ghost_53
      · skip
        have b34 := bo_t q31 c34
        refine lv_iconst (v := 0) hx hb dX10_ghost_37 (by decide) ?_
        refine lv_goto (tgt := 42) hx hb dX10_ghost_38 (by decide) ?_
        refine m_put (v := .int (0 : Int32)) (ty := .int) hx hb hts hin hown hK hP hD hS 0 (by decide) rfl (hts (.fieldLink RX10 79 "ShadowBenchModel" "thrown" "I") (by decide +kernel)) rfl (by decide +kernel) rfl rfl (upd f 0 (0 : Int32)) g rfl dX10_ghost_42 (fun H locs hP hS => ?_)
        refine lv_aload_n hx hb dX10_ghost_45 rfl (lv_at hl 0 rfl) ?_
        refine m_get (v := .int (0 : Int32)) hx hb hts hin hown hK hP 0 (by decide) rfl (hts (.fieldLink RX10 79 "ShadowBenchModel" "thrown" "I") (by decide +kernel)) rfl dX10_ghost_46 ?_
        refine lv_if_le (tgt := 54) hx hb dX10_ghost_49 (by decide) (fun c49 => ?_) (fun c49 => ?_)
        · skip
          have d49 := c49
          rw [fa_le] at d49
          have y22 := b22
          have y34 := b34
          simp only [k64, show (0 : Int64).toInt = 0 from rfl, show (8 : Int64).toInt = 8 from rfl] at y22 y34
          refine lv_aload_n hx hb dX10_ghost_54 rfl (lv_at hl 0 rfl) ?_
          refine lv_iload_n hx hb dX10_ghost_55 rfl (lv_at hl 1 rfl) ?_
          refine m_callv (As := [.int ways]) (rest := []) ⟨hx, hb, hml, hown, hts⟩ (c_X10_haunt l D cy mo a (upd f 0 (0 : Int32)) g r q ways hD) (cwV 1 hts gX10_ghost_X10_haunt rfl rfl rfl (by decide +kernel) ⟨Nat.le_of_ble_eq_true rfl, Nat.le_of_ble_eq_true rfl⟩) hK hP rfl hl.1 rfl (Nat.le_of_ble_eq_true rfl) dX10_ghost_56 ⟨Nat.le_of_ble_eq_true rfl, Nat.le_of_ble_eq_true rfl⟩ hS (fun u H locs q56 hP hS => ?_)
          obtain ⟨gh_56, mv_56, rfl, q56⟩ := q56
          have hP : va_P D vwCl (WM cy mo a (upd f 0 (0 : Int32)) g (va_up (va_up r 27 gh_56) 28 mv_56) q) H := hP
          have q56 : True := q56
          refine lv_aload_n hx hb dX10_ghost_59 rfl (lv_at hl 0 rfl) ?_
          refine m_get (v := .ref (a 27)) hx hb hts hin hown hK hP 27 (by decide) rfl (hts (.fieldLink RX10 55 "ShadowBenchModel" "ghost" "[I") (by decide +kernel)) rfl dX10_ghost_60 ?_
          refine lv_bipush (v := 11) hx hb dX10_ghost_63 (by decide) ?_
          refine lv_iload_n hx hb dX10_ghost_65 rfl (lv_at hl 3 rfl) ?_
          refine lv_imul hx hb dX10_ghost_66 ?_
          refine lv_topi (fun v66 e66 => ?_)
          have i66 : v66.toInt = 11 * y.toInt := by rw [e66]; exact mulcL rfl (by omega) (by omega)
          refine lv_iload_n hx hb dX10_ghost_67 rfl (lv_at hl 2 rfl) ?_
          refine lv_iadd hx hb dX10_ghost_68 ?_
          refine lv_topi (fun v68 e68 => ?_)
          have i68 : v68.toInt = v66.toInt + x.toInt := by rw [e68]; exact fb_addI (by omega) (by omega)
          refine m_iald (w := gh_56) hx hb hK hP 15 rfl (vp_in_iff.mpr ⟨by omega, by omega⟩) dX10_ghost_69 ?_
          refine lv_topi (fun v69 e69 => ?_)
          have i69 : v69.toInt = (gh_56 v68.toNatClampNeg).toInt := congrArg Int32.toInt e69
          exact W.iret (v := v69) hx hb hr (fun t ht hW => ⟨⟨_, ((upd f 0 (0 : Int32)), g, (va_up (va_up r 27 gh_56) 28 mv_56), q), rfl, ⟨(0 : Int32), gh_56, mv_56, rfl, trivial⟩, by unfold mB; rw [ht]; exact hP⟩, hS.F ht⟩) hS.2.2 dX10_ghost_70
        · skip
          have d49 := c49
          rw [fa_le] at d49
          refine lv_iconst (v := 0) hx hb dX10_ghost_52 (by decide) ?_
          have hP := wm_eq rfl rfl (ec_r___27_28 r ) rfl hP
          exact W.iret (v := (0 : Int32)) hx hb hr (fun t ht hW => ⟨⟨_, ((upd f 0 (0 : Int32)), g, (va_up (va_up r 27 (r 27)) 28 (r 28)), q), rfl, ⟨(0 : Int32), (r 27), (r 28), rfl, trivial⟩, by unfold mB; rw [ht]; exact hP⟩, hS.F ht⟩) hS.2.2 dX10_ghost_53
set_option maxHeartbeats 4000000 in
set_option maxRecDepth 100000 in
theorem c_X10_placesOf (l : Launch) (D : va_G) (cy : Nat → ClassId) (mo : Nat) (a : Nat → Nat) (f : Nat → Int32) (g : Nat → Int64) (r : Nat → Nat → Int32) (q : Nat → Nat → Int64) (ways : Int32) (w : Int32) (h : Int32) (hD : DM cy mo a)  : Mi l D cy mo a yX10_placesOf wsX10_placesOf ({ frames := 1, cells := 0, slots := 0, locals := 20 }) f g r q [.int ways, .int w, .int h] (fun r0 u => u = (f, g, r, q) ∧ (True)) := by
  refine Met.ofW (cc := cX10_placesOf) (maxL := 8) (ret := (some .int)) (by decide) rfl ?_
  intro p e s m args below meth c s₁ B hml hv
  obtain ⟨rfl, hP, hK⟩ := hv
  have hx := B.exec
  have hb := B.bytes
  have hr := B.returns
  have hts := atoms_spec (ws := wsX10_placesOf) B.pre
  have hin : ∀ w ∈ u_ws RX10 TX10 35, w ∈ wsX10_placesOf := by decide +kernel
  have hown : s.vm.findClass RX10 = some m.cls := findClass_of_methodNamed B.named
  have hlocks := B.notSynchronized
  have hS : va_S (AM mo a) s.heap s.heap [] := va_S.rf
  have hl := lv_entry ([.ref mo, .int ways, .int w, .int h]) (n := 8) (Nat.le_of_ble_eq_true rfl)
  rw [lg_entry_eq]
  generalize (lg_sl ([.ref mo, .int ways, .int w, .int h]) ++ List.replicate (8 - (lg_sl ([.ref mo, .int ways, .int w, .int h])).length) Slot.unset).toArray = ls at hl ⊢
  have hl : lv_has ls 8 [(0, .ref mo), (1, .int ways), (2, .int w), (3, .int h)] := hl
  have k_0 : (0 : Int32).toInt = 0 := by decide
  have k_1 : (1 : Int32).toInt = 1 := by decide
  have k_4 : (4 : Int32).toInt = 4 := by decide
  refine lv_iconst (v := 1) hx hb dX10_placesOf_0 (by decide) ?_
  refine lv_istore (lv' := [(4, .int (1 : Int32)), (0, .ref mo), (1, .int ways), (2, .int w), (3, .int h)]) hx hb dX10_placesOf_1 hl (by decide) rfl (fun ls hl => ?_)
  refine lv_iconst (v := 1) hx hb dX10_placesOf_3 (by decide) ?_
  refine lv_istore (lv' := [(5, .int (1 : Int32)), (4, .int (1 : Int32)), (0, .ref mo), (1, .int ways), (2, .int w), (3, .int h)]) hx hb dX10_placesOf_4 hl (by decide) rfl (fun ls hl => ?_)
  refine lv_iconst (v := 0) hx hb dX10_placesOf_6 (by decide) ?_
  refine lv_istore (lv' := [(6, .int (0 : Int32)), (5, .int (1 : Int32)), (4, .int (1 : Int32)), (0, .ref mo), (1, .int ways), (2, .int w), (3, .int h)]) hx hb dX10_placesOf_7 hl (by decide) rfl (fun ls hl => ?_)
  have loop_9 : ∀ (n : Nat) (k : Nat) (x5 : Int32) (x4 : Int32), (k ≤ 4) → 4 - k < n → ∀ (H : Heap) (locs : List Loc), va_P D vwCl (WM cy mo a f g r q) H → va_S (AM mo a) s.heap H locs → ∀ (ls : Array Slot), lv_has ls 8 [(6, .int (nI k)), (5, .int x5), (4, .int x4), (0, .ref mo), (1, .int ways), (2, .int w), (3, .int h)] → W p l e (headSpec wsX10_placesOf ({ frames := 1, cells := 0, slots := 0, locals := 20 })).room s m #[Value.ref mo, Value.int ways, Value.int w, Value.int h] below meth c H locs 0 0 (MQ below (va_Qi (fun r0 u => u = (f, g, r, q) ∧ (True)) (mB D cy mo a) (AM mo a)) #[Value.ref mo, Value.int ways, Value.int w, Value.int h] s 0 0 (AM mo a)) (F0 m 9 ls []) := by
    intro n
    induction n with
    | zero => intro k x5 x4  j9_0 hn; exact absurd hn (Nat.not_lt_zero _)
    | succ n ih_9 =>
      intro k x5 x4  j9_0 hn_9 H locs hP hS ls hl
      have ik : (nI k).toInt = (k : Int) := nI_toInt (by omega)
      refine lv_iload hx hb dX10_placesOf_9 (lv_at hl 0 rfl) ?_
      refine lv_iconst (v := 4) hx hb dX10_placesOf_11 (by decide) ?_
      refine lv_icmp_ge (tgt := 77) hx hb dX10_placesOf_12 (by decide) (fun c12 => ?_) (fun c12 => ?_)
      · skip
        have d12 := c12
        rw [fa_le] at d12
        refine lv_iload_n hx hb dX10_placesOf_77 rfl (lv_at hl 5 rfl) ?_
        refine lv_iload hx hb dX10_placesOf_78 (lv_at hl 2 rfl) ?_
        refine lv_icmp_lt (tgt := 89) hx hb dX10_placesOf_80 (by decide) (fun c80 => ?_) (fun c80 => ?_)
        · skip
          have d80 := c80
          rw [fa_lt] at d80
          refine lv_iconst (v := 0) hx hb dX10_placesOf_89 (by decide) ?_
          refine lv_goto (tgt := 106) hx hb dX10_placesOf_90 (by decide) ?_
          exact W.iret (v := (0 : Int32)) hx hb hr (fun t ht hW => ⟨⟨_, (f, g, r, q), rfl, ⟨rfl, trivial⟩, by unfold mB; rw [ht]; exact hP⟩, hS.F ht⟩) hS.2.2 dX10_placesOf_106
        · skip
          have d80 := c80
          rw [fa_lt] at d80
          refine lv_iload_n hx hb dX10_placesOf_83 rfl (lv_at hl 6 rfl) ?_
          refine lv_iload hx hb dX10_placesOf_84 (lv_at hl 1 rfl) ?_
          refine lv_icmp_ge (tgt := 93) hx hb dX10_placesOf_86 (by decide) (fun c86 => ?_) (fun c86 => ?_)
          · skip
            have d86 := c86
            rw [fa_le] at d86
            refine lv_iload_n hx hb dX10_placesOf_93 rfl (lv_at hl 5 rfl) ?_
            refine lv_iload hx hb dX10_placesOf_94 (lv_at hl 2 rfl) ?_
            refine lv_isub hx hb dX10_placesOf_96 ?_
            refine lv_topi (fun v96 e96 => ?_)
            refine lv_iconst (v := 1) hx hb dX10_placesOf_97 (by decide) ?_
            refine lv_iadd hx hb dX10_placesOf_98 ?_
            refine lv_topi (fun v98 e98 => ?_)
            refine lv_iload_n hx hb dX10_placesOf_99 rfl (lv_at hl 6 rfl) ?_
            refine lv_iload hx hb dX10_placesOf_100 (lv_at hl 1 rfl) ?_
            refine lv_isub hx hb dX10_placesOf_102 ?_
            refine lv_topi (fun v102 e102 => ?_)
            refine lv_iconst (v := 1) hx hb dX10_placesOf_103 (by decide) ?_
            refine lv_iadd hx hb dX10_placesOf_104 ?_
            refine lv_topi (fun v104 e104 => ?_)
            refine lv_imul hx hb dX10_placesOf_105 ?_
            refine lv_topi (fun v105 e105 => ?_)
            exact W.iret (v := v105) hx hb hr (fun t ht hW => ⟨⟨_, (f, g, r, q), rfl, ⟨rfl, trivial⟩, by unfold mB; rw [ht]; exact hP⟩, hS.F ht⟩) hS.2.2 dX10_placesOf_106
          · skip
            have d86 := c86
            rw [fa_le] at d86
            refine lv_iconst (v := 0) hx hb dX10_placesOf_89 (by decide) ?_
            refine lv_goto (tgt := 106) hx hb dX10_placesOf_90 (by decide) ?_
            exact W.iret (v := (0 : Int32)) hx hb hr (fun t ht hW => ⟨⟨_, (f, g, r, q), rfl, ⟨rfl, trivial⟩, by unfold mB; rw [ht]; exact hP⟩, hS.F ht⟩) hS.2.2 dX10_placesOf_106
      · skip
        have d12 := c12
        rw [fa_le] at d12
        refine lv_iload_n hx hb dX10_placesOf_15 rfl (lv_at hl 4 rfl) ?_
        refine lv_iload hx hb dX10_placesOf_16 (lv_at hl 0 rfl) ?_
        refine lv_ishr hx hb dX10_placesOf_18 ?_
        refine lv_topi (fun v18 e18 => ?_)
        refine lv_iconst (v := 1) hx hb dX10_placesOf_19 (by decide) ?_
        refine lv_iand hx hb dX10_placesOf_20 ?_
        refine lv_topi (fun v20 e20 => ?_)
        refine lv_iconst (v := 1) hx hb dX10_placesOf_21 (by decide) ?_
        refine lv_icmp_ne (tgt := 29) hx hb dX10_placesOf_22 (by decide) (fun c22 => ?_) (fun c22 => ?_)
        · skip
          have d22 := c22
          rw [fa_eq] at d22
          refine lv_iconst (v := 0) hx hb dX10_placesOf_29 (by decide) ?_
          refine lv_istore (lv' := [(7, .int (0 : Int32)), (6, .int (nI k)), (5, .int x5), (4, .int x4), (0, .ref mo), (1, .int ways), (2, .int w), (3, .int h)]) hx hb dX10_placesOf_30 hl (by decide) rfl (fun ls hl => ?_)
          refine lv_iload hx hb dX10_placesOf_32 (lv_at hl 3 rfl) ?_
          refine lv_iload hx hb dX10_placesOf_34 (lv_at hl 0 rfl) ?_
          refine lv_if_eq (tgt := 47) hx hb dX10_placesOf_36 (by decide) (fun c36 => ?_) (fun c36 => ?_)
          · skip
            have d36 := c36
            rw [fa_eq] at d36
            refine lv_iconst (v := 0) hx hb dX10_placesOf_47 (by decide) ?_
            refine lv_iadd hx hb dX10_placesOf_48 ?_
            refine lv_topi (fun v48 e48 => ?_)
            refine lv_istore (lv' := [(4, .int v48), (7, .int (0 : Int32)), (6, .int (nI k)), (5, .int x5), (0, .ref mo), (1, .int ways), (2, .int w), (3, .int h)]) hx hb dX10_placesOf_49 hl (by decide) rfl (fun ls hl => ?_)
            refine lv_iload hx hb dX10_placesOf_51 (lv_at hl 3 rfl) ?_
            refine lv_iload hx hb dX10_placesOf_53 (lv_at hl 1 rfl) ?_
            refine lv_if_eq (tgt := 67) hx hb dX10_placesOf_55 (by decide) (fun c55 => ?_) (fun c55 => ?_)
            · skip
              have d55 := c55
              rw [fa_eq] at d55
              refine lv_iconst (v := 0) hx hb dX10_placesOf_67 (by decide) ?_
              refine lv_iadd hx hb dX10_placesOf_68 ?_
              refine lv_topi (fun v68 e68 => ?_)
              refine lv_istore (lv' := [(5, .int v68), (4, .int v48), (7, .int (0 : Int32)), (6, .int (nI k)), (0, .ref mo), (1, .int ways), (2, .int w), (3, .int h)]) hx hb dX10_placesOf_69 hl (by decide) rfl (fun ls hl => ?_)
              refine lv_iinc (v := (nI (k + 1))) (lv' := [(6, .int (nI (k + 1))), (5, .int v68), (4, .int v48), (7, .int (0 : Int32)), (0, .ref mo), (1, .int ways), (2, .int w), (3, .int h)]) hx hb dX10_placesOf_71 hl (k := 3) rfl (nI_1 _) (by decide) rfl (fun ls hl => ?_)
              refine lv_goto (tgt := 9) hx hb dX10_placesOf_74 (by decide) ?_
              exact ih_9 (k + 1) v68 v48 (by omega) (by omega) _ _ hP hS ls (lv_sub hl [0, 1, 2, 4, 5, 6, 7] rfl)
            · first | exact absurd c55 (by decide) | exact absurd (by decide) c55
          · first | exact absurd c36 (by decide) | exact absurd (by decide) c36
        · skip
          have d22 := c22
          rw [fa_eq] at d22
          refine lv_iconst (v := 1) hx hb dX10_placesOf_25 (by decide) ?_
          refine lv_goto (tgt := 30) hx hb dX10_placesOf_26 (by decide) ?_
          refine lv_istore (lv' := [(7, .int (1 : Int32)), (6, .int (nI k)), (5, .int x5), (4, .int x4), (0, .ref mo), (1, .int ways), (2, .int w), (3, .int h)]) hx hb dX10_placesOf_30 hl (by decide) rfl (fun ls hl => ?_)
          refine lv_iload hx hb dX10_placesOf_32 (lv_at hl 3 rfl) ?_
          refine lv_iload hx hb dX10_placesOf_34 (lv_at hl 0 rfl) ?_
          refine lv_if_eq (tgt := 47) hx hb dX10_placesOf_36 (by decide) (fun c36 => ?_) (fun c36 => ?_)
          · first | exact absurd c36 (by decide) | exact absurd (by decide) c36
          · skip
            have d36 := c36
            rw [fa_eq] at d36
            refine lv_iload hx hb dX10_placesOf_39 (lv_at hl 1 rfl) ?_
            refine m_pu (As := [.int (nI k)]) (rest := [.int x4]) ⟨hx, hb, hml, hown, hts⟩ (c_X10_across l (nI k) ) (va_cwS 1 hts gX10_placesOf_X10_across rfl rfl rfl (by decide +kernel) ⟨Nat.le_of_ble_eq_true rfl, Nat.le_of_ble_eq_true rfl⟩) hP rfl hl.1 rfl (Nat.le_of_ble_eq_true rfl) dX10_placesOf_41 ⟨Nat.le_of_ble_eq_true rfl, Nat.le_of_ble_eq_true rfl⟩ hS (fun r41 H locs q41 hP hS => ?_)
            refine lv_goto (tgt := 48) hx hb dX10_placesOf_44 (by decide) ?_
            refine lv_iadd hx hb dX10_placesOf_48 ?_
            refine lv_topi (fun v48 e48 => ?_)
            refine lv_istore (lv' := [(4, .int v48), (7, .int (1 : Int32)), (6, .int (nI k)), (5, .int x5), (0, .ref mo), (1, .int ways), (2, .int w), (3, .int h)]) hx hb dX10_placesOf_49 hl (by decide) rfl (fun ls hl => ?_)
            refine lv_iload hx hb dX10_placesOf_51 (lv_at hl 3 rfl) ?_
            refine lv_iload hx hb dX10_placesOf_53 (lv_at hl 1 rfl) ?_
            refine lv_if_eq (tgt := 67) hx hb dX10_placesOf_55 (by decide) (fun c55 => ?_) (fun c55 => ?_)
            · first | exact absurd c55 (by decide) | exact absurd (by decide) c55
            · skip
              have d55 := c55
              rw [fa_eq] at d55
              refine lv_iload hx hb dX10_placesOf_58 (lv_at hl 2 rfl) ?_
              refine lv_if_le (tgt := 67) hx hb dX10_placesOf_60 (by decide) (fun c60 => ?_) (fun c60 => ?_)
              · skip
                have d60 := c60
                rw [fa_le] at d60
                refine lv_iconst (v := 0) hx hb dX10_placesOf_67 (by decide) ?_
                refine lv_iadd hx hb dX10_placesOf_68 ?_
                refine lv_topi (fun v68 e68 => ?_)
                refine lv_istore (lv' := [(5, .int v68), (4, .int v48), (7, .int (1 : Int32)), (6, .int (nI k)), (0, .ref mo), (1, .int ways), (2, .int w), (3, .int h)]) hx hb dX10_placesOf_69 hl (by decide) rfl (fun ls hl => ?_)
                refine lv_iinc (v := (nI (k + 1))) (lv' := [(6, .int (nI (k + 1))), (5, .int v68), (4, .int v48), (7, .int (1 : Int32)), (0, .ref mo), (1, .int ways), (2, .int w), (3, .int h)]) hx hb dX10_placesOf_71 hl (k := 3) rfl (nI_1 _) (by decide) rfl (fun ls hl => ?_)
                refine lv_goto (tgt := 9) hx hb dX10_placesOf_74 (by decide) ?_
                exact ih_9 (k + 1) v68 v48 (by omega) (by omega) _ _ hP hS ls (lv_sub hl [0, 1, 2, 4, 5, 6, 7] rfl)
              · skip
                have d60 := c60
                rw [fa_le] at d60
                refine lv_iconst (v := 1) hx hb dX10_placesOf_63 (by decide) ?_
                refine lv_goto (tgt := 68) hx hb dX10_placesOf_64 (by decide) ?_
                refine lv_iadd hx hb dX10_placesOf_68 ?_
                refine lv_topi (fun v68 e68 => ?_)
                refine lv_istore (lv' := [(5, .int v68), (4, .int v48), (7, .int (1 : Int32)), (6, .int (nI k)), (0, .ref mo), (1, .int ways), (2, .int w), (3, .int h)]) hx hb dX10_placesOf_69 hl (by decide) rfl (fun ls hl => ?_)
                refine lv_iinc (v := (nI (k + 1))) (lv' := [(6, .int (nI (k + 1))), (5, .int v68), (4, .int v48), (7, .int (1 : Int32)), (0, .ref mo), (1, .int ways), (2, .int w), (3, .int h)]) hx hb dX10_placesOf_71 hl (k := 3) rfl (nI_1 _) (by decide) rfl (fun ls hl => ?_)
                refine lv_goto (tgt := 9) hx hb dX10_placesOf_74 (by decide) ?_
                exact ih_9 (k + 1) v68 v48 (by omega) (by omega) _ _ hP hS ls (lv_sub hl [0, 1, 2, 4, 5, 6, 7] rfl)
  exact loop_9 (4 + 1) 0 (1 : Int32) (1 : Int32) (by omega) (by omega) _ _ hP hS ls (lv_sub hl [0, 1, 2, 3, 4, 5, 6] rfl)
set_option maxHeartbeats 4000000 in
set_option maxRecDepth 100000 in
theorem c_X10_haunts (l : Launch) (D : va_G) (cy : Nat → ClassId) (mo : Nat) (a : Nat → Nat) (f : Nat → Int32) (g : Nat → Int64) (r : Nat → Nat → Int32) (q : Nat → Nat → Int64) (ways : Int32) (w : Int32) (h : Int32) (hD : DM cy mo a)  : Mi l D cy mo a yX10_haunts wsX10_haunts ({ frames := 2, cells := 0, slots := 0, locals := 47 }) f g r q [.int ways, .int w, .int h] (fun r0 u => u = ((upd f 0 (0 : Int32)), g, r, q) ∧ (True)) := by
  refine Met.ofW (cc := cX10_haunts) (maxL := 4) (ret := (some .int)) (by decide) rfl ?_
  intro p e s m args below meth c s₁ B hml hv
  obtain ⟨rfl, hP, hK⟩ := hv
  have hx := B.exec
  have hb := B.bytes
  have hr := B.returns
  have hts := atoms_spec (ws := wsX10_haunts) B.pre
  have hin : ∀ w ∈ u_ws RX10 TX10 35, w ∈ wsX10_haunts := by decide +kernel
  have hown : s.vm.findClass RX10 = some m.cls := findClass_of_methodNamed B.named
  have hlocks := B.notSynchronized
  have hS : va_S (AM mo a) s.heap s.heap [] := va_S.rf
  have hl := lv_entry ([.ref mo, .int ways, .int w, .int h]) (n := 4) (Nat.le_of_ble_eq_true rfl)
  rw [lg_entry_eq]
  generalize (lg_sl ([.ref mo, .int ways, .int w, .int h]) ++ List.replicate (4 - (lg_sl ([.ref mo, .int ways, .int w, .int h])).length) Slot.unset).toArray = ls at hl ⊢
  have hl : lv_has ls 4 [(0, .ref mo), (1, .int ways), (2, .int w), (3, .int h)] := hl
  have k_m1 : (-1 : Int32).toInt = -1 := by decide
  have k_0 : (0 : Int32).toInt = 0 := by decide
  have k_1 : (1 : Int32).toInt = 1 := by decide
  have k_1L : (1 : Int64).toInt = 1 := by decide
  have k_15L : (15 : Int64).toInt = 15 := by decide
  refine lv_aload_n hx hb dX10_haunts_0 rfl (lv_at hl 0 rfl) ?_
  refine lv_iconst (v := 0) hx hb dX10_haunts_1 (by decide) ?_
  refine m_put (v := .int (0 : Int32)) (ty := .int) hx hb hts hin hown hK hP hD hS 0 (by decide) rfl (hts (.fieldLink RX10 79 "ShadowBenchModel" "thrown" "I") (by decide +kernel)) rfl (by decide +kernel) rfl rfl (upd f 0 (0 : Int32)) g rfl dX10_haunts_2 (fun H locs hP hS => ?_)
  refine lv_iload_n hx hb dX10_haunts_5 rfl (lv_at hl 1 rfl) ?_
  refine lv_i2l (v := ways.toInt64) hx hb dX10_haunts_6 rfl ?_
  refine lv_lconst (v := 1) hx hb dX10_haunts_7 (by decide) ?_
  refine lv_ldc2 hx hb hown (hts (.constantLong RX10 228 (15)) (by decide +kernel)) dX10_haunts_8 ?_
  refine m_pu (As := [.long (ways.toInt64), .long (1 : Int64), .long (15 : Int64)]) (rest := []) ⟨hx, hb, hml, hown, hts⟩ (c_X10_isIn l ways.toInt64 (1 : Int64) (15 : Int64) ) (va_cwS 3 hts gX10_haunts_X10_isIn rfl rfl rfl (by decide +kernel) ⟨Nat.le_of_ble_eq_true rfl, Nat.le_of_ble_eq_true rfl⟩) hP rfl hl.1 rfl (Nat.le_of_ble_eq_true rfl) dX10_haunts_11 ⟨Nat.le_of_ble_eq_true rfl, Nat.le_of_ble_eq_true rfl⟩ hS (fun r11 H locs q11 hP hS => ?_)
  have q11 := q11
  simp only [k64, show (0 : Int64).toInt = 0 from rfl, show (1 : Int64).toInt = 1 from rfl, show (2 : Int64).toInt = 2 from rfl, show (3 : Int64).toInt = 3 from rfl, show (6 : Int64).toInt = 6 from rfl] at q11
  refine lv_if_eq (tgt := 25) hx hb dX10_haunts_14 (by decide) (fun c14 => ?_) (fun c14 => ?_)
  · skip
    have b14 := bo_f q11 c14
    refine lv_iconst (v := (-1)) hx hb dX10_haunts_25 (by decide) ?_
    refine lv_goto (tgt := 44) hx hb dX10_haunts_26 (by decide) ?_
    exact W.iret (v := ((-1) : Int32)) hx hb hr (fun t ht hW => ⟨⟨_, ((upd f 0 (0 : Int32)), g, r, q), rfl, ⟨rfl, trivial⟩, by unfold mB; rw [ht]; exact hP⟩, hS.F ht⟩) hS.2.2 dX10_haunts_44
  · skip
    have b14 := bo_t q11 c14
    refine lv_iload_n hx hb dX10_haunts_17 rfl (lv_at hl 2 rfl) ?_
    refine lv_iload_n hx hb dX10_haunts_18 rfl (lv_at hl 3 rfl) ?_
    refine m_pu (As := [.int w, .int h]) (rest := []) ⟨hx, hb, hml, hown, hts⟩ (c_X10_isBoard l w h ) (va_cwS 2 hts gX10_haunts_X10_isBoard rfl rfl rfl (by decide +kernel) ⟨Nat.le_of_ble_eq_true rfl, Nat.le_of_ble_eq_true rfl⟩) hP rfl hl.1 rfl (Nat.le_of_ble_eq_true rfl) dX10_haunts_19 ⟨Nat.le_of_ble_eq_true rfl, Nat.le_of_ble_eq_true rfl⟩ hS (fun r19 H locs q19 hP hS => ?_)
    refine lv_if_ne (tgt := 29) hx hb dX10_haunts_22 (by decide) (fun c22 => ?_) (fun c22 => ?_)
    · skip
      have b22 := bo_t q19 c22
      refine lv_aload_n hx hb dX10_haunts_29 rfl (lv_at hl 0 rfl) ?_
      refine lv_iload_n hx hb dX10_haunts_30 rfl (lv_at hl 1 rfl) ?_
      refine lv_iload_n hx hb dX10_haunts_31 rfl (lv_at hl 2 rfl) ?_
      refine lv_iload_n hx hb dX10_haunts_32 rfl (lv_at hl 3 rfl) ?_
      refine m_calli (As := [.int ways, .int w, .int h]) (rest := []) ⟨hx, hb, hml, hown, hts⟩ (c_X10_placesOf l D cy mo a (upd f 0 (0 : Int32)) g r q ways w h hD) (cwV 3 hts gX10_haunts_X10_placesOf rfl rfl rfl (by decide +kernel) ⟨Nat.le_of_ble_eq_true rfl, Nat.le_of_ble_eq_true rfl⟩) hK hP rfl hl.1 rfl (Nat.le_of_ble_eq_true rfl) dX10_haunts_33 ⟨Nat.le_of_ble_eq_true rfl, Nat.le_of_ble_eq_true rfl⟩ hS (fun r33 u H locs q33 hP hS => ?_)
      obtain ⟨rfl, q33⟩ := q33
      have hP : va_P D vwCl (WM cy mo a (upd f 0 (0 : Int32)) g r q) H := hP
      have q33 : True := q33
      refine lv_if_le (tgt := 43) hx hb dX10_haunts_36 (by decide) (fun c36 => ?_) (fun c36 => ?_)
      · skip
        have d36 := c36
        rw [fa_le] at d36
        refine lv_iconst (v := 0) hx hb dX10_haunts_43 (by decide) ?_
        exact W.iret (v := (0 : Int32)) hx hb hr (fun t ht hW => ⟨⟨_, ((upd f 0 (0 : Int32)), g, r, q), rfl, ⟨rfl, trivial⟩, by unfold mB; rw [ht]; exact hP⟩, hS.F ht⟩) hS.2.2 dX10_haunts_44
      · skip
        have d36 := c36
        rw [fa_le] at d36
        refine lv_iconst (v := 1) hx hb dX10_haunts_39 (by decide) ?_
        refine lv_goto (tgt := 44) hx hb dX10_haunts_40 (by decide) ?_
        exact W.iret (v := (1 : Int32)) hx hb hr (fun t ht hW => ⟨⟨_, ((upd f 0 (0 : Int32)), g, r, q), rfl, ⟨rfl, trivial⟩, by unfold mB; rw [ht]; exact hP⟩, hS.F ht⟩) hS.2.2 dX10_haunts_44
    · skip
      have b22 := bo_f q19 c22
      refine lv_iconst (v := (-1)) hx hb dX10_haunts_25 (by decide) ?_
      refine lv_goto (tgt := 44) hx hb dX10_haunts_26 (by decide) ?_
      exact W.iret (v := ((-1) : Int32)) hx hb hr (fun t ht hW => ⟨⟨_, ((upd f 0 (0 : Int32)), g, r, q), rfl, ⟨rfl, trivial⟩, by unfold mB; rw [ht]; exact hP⟩, hS.F ht⟩) hS.2.2 dX10_haunts_44
set_option maxHeartbeats 4000000 in
set_option maxRecDepth 100000 in
theorem c_X10_ghosts (l : Launch) (D : va_G) (cy : Nat → ClassId) (mo : Nat) (a : Nat → Nat) (f : Nat → Int32) (g : Nat → Int64) (r : Nat → Nat → Int32) (q : Nat → Nat → Int64) (ways : Int32) (w : Int32) (h : Int32) (hD : DM cy mo a)  : Mi l D cy mo a yX10_ghosts wsX10_ghosts ({ frames := 2, cells := 0, slots := 0, locals := 47 }) f g r q [.int ways, .int w, .int h] (fun r0 u => u = ((upd f 0 (0 : Int32)), g, r, q) ∧ (True)) := by
  refine Met.ofW (cc := cX10_ghosts) (maxL := 4) (ret := (some .int)) (by decide) rfl ?_
  intro p e s m args below meth c s₁ B hml hv
  obtain ⟨rfl, hP, hK⟩ := hv
  have hx := B.exec
  have hb := B.bytes
  have hr := B.returns
  have hts := atoms_spec (ws := wsX10_ghosts) B.pre
  have hin : ∀ w ∈ u_ws RX10 TX10 35, w ∈ wsX10_ghosts := by decide +kernel
  have hown : s.vm.findClass RX10 = some m.cls := findClass_of_methodNamed B.named
  have hlocks := B.notSynchronized
  have hS : va_S (AM mo a) s.heap s.heap [] := va_S.rf
  have hl := lv_entry ([.ref mo, .int ways, .int w, .int h]) (n := 4) (Nat.le_of_ble_eq_true rfl)
  rw [lg_entry_eq]
  generalize (lg_sl ([.ref mo, .int ways, .int w, .int h]) ++ List.replicate (4 - (lg_sl ([.ref mo, .int ways, .int w, .int h])).length) Slot.unset).toArray = ls at hl ⊢
  have hl : lv_has ls 4 [(0, .ref mo), (1, .int ways), (2, .int w), (3, .int h)] := hl
  have k_m1 : (-1 : Int32).toInt = -1 := by decide
  have k_0 : (0 : Int32).toInt = 0 := by decide
  have k_1L : (1 : Int64).toInt = 1 := by decide
  have k_15L : (15 : Int64).toInt = 15 := by decide
  refine lv_aload_n hx hb dX10_ghosts_0 rfl (lv_at hl 0 rfl) ?_
  refine lv_iconst (v := 0) hx hb dX10_ghosts_1 (by decide) ?_
  refine m_put (v := .int (0 : Int32)) (ty := .int) hx hb hts hin hown hK hP hD hS 0 (by decide) rfl (hts (.fieldLink RX10 79 "ShadowBenchModel" "thrown" "I") (by decide +kernel)) rfl (by decide +kernel) rfl rfl (upd f 0 (0 : Int32)) g rfl dX10_ghosts_2 (fun H locs hP hS => ?_)
  refine lv_iload_n hx hb dX10_ghosts_5 rfl (lv_at hl 1 rfl) ?_
  refine lv_i2l (v := ways.toInt64) hx hb dX10_ghosts_6 rfl ?_
  refine lv_lconst (v := 1) hx hb dX10_ghosts_7 (by decide) ?_
  refine lv_ldc2 hx hb hown (hts (.constantLong RX10 228 (15)) (by decide +kernel)) dX10_ghosts_8 ?_
  refine m_pu (As := [.long (ways.toInt64), .long (1 : Int64), .long (15 : Int64)]) (rest := []) ⟨hx, hb, hml, hown, hts⟩ (c_X10_isIn l ways.toInt64 (1 : Int64) (15 : Int64) ) (va_cwS 3 hts gX10_ghosts_X10_isIn rfl rfl rfl (by decide +kernel) ⟨Nat.le_of_ble_eq_true rfl, Nat.le_of_ble_eq_true rfl⟩) hP rfl hl.1 rfl (Nat.le_of_ble_eq_true rfl) dX10_ghosts_11 ⟨Nat.le_of_ble_eq_true rfl, Nat.le_of_ble_eq_true rfl⟩ hS (fun r11 H locs q11 hP hS => ?_)
  have q11 := q11
  simp only [k64, show (0 : Int64).toInt = 0 from rfl, show (1 : Int64).toInt = 1 from rfl, show (2 : Int64).toInt = 2 from rfl, show (3 : Int64).toInt = 3 from rfl, show (6 : Int64).toInt = 6 from rfl] at q11
  refine lv_if_eq (tgt := 25) hx hb dX10_ghosts_14 (by decide) (fun c14 => ?_) (fun c14 => ?_)
  · skip
    have b14 := bo_f q11 c14
    refine lv_iconst (v := (-1)) hx hb dX10_ghosts_25 (by decide) ?_
    refine lv_goto (tgt := 36) hx hb dX10_ghosts_26 (by decide) ?_
    exact W.iret (v := ((-1) : Int32)) hx hb hr (fun t ht hW => ⟨⟨_, ((upd f 0 (0 : Int32)), g, r, q), rfl, ⟨rfl, trivial⟩, by unfold mB; rw [ht]; exact hP⟩, hS.F ht⟩) hS.2.2 dX10_ghosts_36
  · skip
    have b14 := bo_t q11 c14
    refine lv_iload_n hx hb dX10_ghosts_17 rfl (lv_at hl 2 rfl) ?_
    refine lv_iload_n hx hb dX10_ghosts_18 rfl (lv_at hl 3 rfl) ?_
    refine m_pu (As := [.int w, .int h]) (rest := []) ⟨hx, hb, hml, hown, hts⟩ (c_X10_isBoard l w h ) (va_cwS 2 hts gX10_ghosts_X10_isBoard rfl rfl rfl (by decide +kernel) ⟨Nat.le_of_ble_eq_true rfl, Nat.le_of_ble_eq_true rfl⟩) hP rfl hl.1 rfl (Nat.le_of_ble_eq_true rfl) dX10_ghosts_19 ⟨Nat.le_of_ble_eq_true rfl, Nat.le_of_ble_eq_true rfl⟩ hS (fun r19 H locs q19 hP hS => ?_)
    refine lv_if_ne (tgt := 29) hx hb dX10_ghosts_22 (by decide) (fun c22 => ?_) (fun c22 => ?_)
    · skip
      have b22 := bo_t q19 c22
      refine lv_aload_n hx hb dX10_ghosts_29 rfl (lv_at hl 0 rfl) ?_
      refine lv_iload_n hx hb dX10_ghosts_30 rfl (lv_at hl 1 rfl) ?_
      refine lv_iload_n hx hb dX10_ghosts_31 rfl (lv_at hl 2 rfl) ?_
      refine lv_iload_n hx hb dX10_ghosts_32 rfl (lv_at hl 3 rfl) ?_
      refine m_calli (As := [.int ways, .int w, .int h]) (rest := []) ⟨hx, hb, hml, hown, hts⟩ (c_X10_placesOf l D cy mo a (upd f 0 (0 : Int32)) g r q ways w h hD) (cwV 3 hts gX10_ghosts_X10_placesOf rfl rfl rfl (by decide +kernel) ⟨Nat.le_of_ble_eq_true rfl, Nat.le_of_ble_eq_true rfl⟩) hK hP rfl hl.1 rfl (Nat.le_of_ble_eq_true rfl) dX10_ghosts_33 ⟨Nat.le_of_ble_eq_true rfl, Nat.le_of_ble_eq_true rfl⟩ hS (fun r33 u H locs q33 hP hS => ?_)
      obtain ⟨rfl, q33⟩ := q33
      have hP : va_P D vwCl (WM cy mo a (upd f 0 (0 : Int32)) g r q) H := hP
      have q33 : True := q33
      exact W.iret (v := r33) hx hb hr (fun t ht hW => ⟨⟨_, ((upd f 0 (0 : Int32)), g, r, q), rfl, ⟨rfl, trivial⟩, by unfold mB; rw [ht]; exact hP⟩, hS.F ht⟩) hS.2.2 dX10_ghosts_36
    · skip
      have b22 := bo_f q19 c22
      refine lv_iconst (v := (-1)) hx hb dX10_ghosts_25 (by decide) ?_
      refine lv_goto (tgt := 36) hx hb dX10_ghosts_26 (by decide) ?_
      exact W.iret (v := ((-1) : Int32)) hx hb hr (fun t ht hW => ⟨⟨_, ((upd f 0 (0 : Int32)), g, r, q), rfl, ⟨rfl, trivial⟩, by unfold mB; rw [ht]; exact hP⟩, hS.F ht⟩) hS.2.2 dX10_ghosts_36
set_option maxHeartbeats 4000000 in
set_option maxRecDepth 100000 in
theorem c_X10_weightOf (l : Launch) (D : va_G) (cy : Nat → ClassId) (mo : Nat) (a : Nat → Nat) (f : Nat → Int32) (g : Nat → Int64) (r : Nat → Nat → Int32) (q : Nat → Nat → Int64) (j : Int32) (hD : DM cy mo a) (hI : MI f r) (hj : 0 ≤ j.toInt ∧ j.toInt < (f 1).toInt) : Mi l D cy mo a yX10_weightOf wsX10_weightOf ({ frames := 0, cells := 0, slots := 0, locals := 0 }) f g r q [.int j] (fun r0 u => u = (f, g, r, q) ∧ (True)) := by
  refine Met.ofW (cc := cX10_weightOf) (maxL := 5) (ret := (some .int)) (by decide) rfl ?_
  intro p e s m args below meth c s₁ B hml hv
  obtain ⟨rfl, hP, hK⟩ := hv
  have hx := B.exec
  have hb := B.bytes
  have hr := B.returns
  have hts := atoms_spec (ws := wsX10_weightOf) B.pre
  have hin : ∀ w ∈ u_ws RX10 TX10 35, w ∈ wsX10_weightOf := by decide +kernel
  have hown : s.vm.findClass RX10 = some m.cls := findClass_of_methodNamed B.named
  have hlocks := B.notSynchronized
  have hS : va_S (AM mo a) s.heap s.heap [] := va_S.rf
  have hl := lv_entry ([.ref mo, .int j]) (n := 5) (Nat.le_of_ble_eq_true rfl)
  rw [lg_entry_eq]
  generalize (lg_sl ([.ref mo, .int j]) ++ List.replicate (5 - (lg_sl ([.ref mo, .int j])).length) Slot.unset).toArray = ls at hl ⊢
  have hl : lv_has ls 5 [(0, .ref mo), (1, .int j)] := hl
  have k_0 : (0 : Int32).toInt = 0 := by decide
  have k_1 : (1 : Int32).toInt = 1 := by decide
  have k_2 : (2 : Int32).toInt = 2 := by decide
  have k_10 : (10 : Int32).toInt = 10 := by decide
  have k_36 : (36 : Int32).toInt = 36 := by decide
  have k_100 : (100 : Int32).toInt = 100 := by decide
  have hI1 := hI.1
  refine lv_bipush (v := 10) hx hb dX10_weightOf_0 (by decide) ?_
  refine lv_aload_n hx hb dX10_weightOf_2 rfl (lv_at hl 0 rfl) ?_
  refine m_get (v := .ref (a 3)) hx hb hts hin hown hK hP 3 (by decide) rfl (hts (.fieldLink RX10 13 "ShadowBenchModel" "wide" "[I") (by decide +kernel)) rfl dX10_weightOf_3 ?_
  refine lv_iload_n hx hb dX10_weightOf_6 rfl (lv_at hl 1 rfl) ?_
  refine m_iald (w := (r 3)) hx hb hK hP 2 rfl (vp_in_iff.mpr ⟨by omega, by omega⟩) dX10_weightOf_7 ?_
  refine lv_topi (fun v7 e7 => ?_)
  have i7 : v7.toInt = ((r 3) j.toNatClampNeg).toInt := congrArg Int32.toInt e7
  have w7 := mi_w hI (x := j) (by omega) (by omega) e7
  refine lv_aload_n hx hb dX10_weightOf_8 rfl (lv_at hl 0 rfl) ?_
  refine m_get (v := .ref (a 4)) hx hb hts hin hown hK hP 4 (by decide) rfl (hts (.fieldLink RX10 16 "ShadowBenchModel" "high" "[I") (by decide +kernel)) rfl dX10_weightOf_9 ?_
  refine lv_iload_n hx hb dX10_weightOf_12 rfl (lv_at hl 1 rfl) ?_
  refine m_iald (w := (r 4)) hx hb hK hP 3 rfl (vp_in_iff.mpr ⟨by omega, by omega⟩) dX10_weightOf_13 ?_
  refine lv_topi (fun v13 e13 => ?_)
  have i13 : v13.toInt = ((r 4) j.toNatClampNeg).toInt := congrArg Int32.toInt e13
  have w13 := mi_h hI (x := j) (by omega) (by omega) e13
  refine lv_imul hx hb dX10_weightOf_14 ?_
  refine lv_topi (fun v14 e14 => ?_)
  refine lv_iadd hx hb dX10_weightOf_15 ?_
  refine lv_topi (fun v15 e15 => ?_)
  refine lv_istore_n (lv' := [(2, .int v15), (0, .ref mo), (1, .int j)]) hx hb dX10_weightOf_16 rfl hl (by decide) rfl (fun ls hl => ?_)
  refine lv_iconst (v := 0) hx hb dX10_weightOf_17 (by decide) ?_
  refine lv_istore_n (lv' := [(3, .int (0 : Int32)), (2, .int v15), (0, .ref mo), (1, .int j)]) hx hb dX10_weightOf_18 rfl hl (by decide) rfl (fun ls hl => ?_)
  refine lv_iconst (v := 0) hx hb dX10_weightOf_19 (by decide) ?_
  refine lv_istore (lv' := [(4, .int (0 : Int32)), (3, .int (0 : Int32)), (2, .int v15), (0, .ref mo), (1, .int j)]) hx hb dX10_weightOf_20 hl (by decide) rfl (fun ls hl => ?_)
  have loop_22 : ∀ (n : Nat) (k : Nat) (x3 : Int32), (k ≤ 36) → 36 - k < n → ∀ (H : Heap) (locs : List Loc), va_P D vwCl (WM cy mo a f g r q) H → va_S (AM mo a) s.heap H locs → ∀ (ls : Array Slot), lv_has ls 5 [(4, .int (nI k)), (3, .int x3), (2, .int v15), (0, .ref mo), (1, .int j)] → W p l e (headSpec wsX10_weightOf ({ frames := 0, cells := 0, slots := 0, locals := 0 })).room s m #[Value.ref mo, Value.int j] below meth c H locs 0 0 (MQ below (va_Qi (fun r0 u => u = (f, g, r, q) ∧ (True)) (mB D cy mo a) (AM mo a)) #[Value.ref mo, Value.int j] s 0 0 (AM mo a)) (F0 m 22 ls []) := by
    intro n
    induction n with
    | zero => intro k x3  j22_0 hn; exact absurd hn (Nat.not_lt_zero _)
    | succ n ih_22 =>
      intro k x3  j22_0 hn_22 H locs hP hS ls hl
      have ik : (nI k).toInt = (k : Int) := nI_toInt (by omega)
      refine lv_iload hx hb dX10_weightOf_22 (lv_at hl 0 rfl) ?_
      refine lv_bipush (v := 36) hx hb dX10_weightOf_24 (by decide) ?_
      refine lv_icmp_ge (tgt := 50) hx hb dX10_weightOf_26 (by decide) (fun c26 => ?_) (fun c26 => ?_)
      · skip
        have d26 := c26
        rw [fa_le] at d26
        refine lv_aload_n hx hb dX10_weightOf_50 rfl (lv_at hl 3 rfl) ?_
        refine m_get (v := .ref (a 2)) hx hb hts hin hown hK hP 2 (by decide) rfl (hts (.fieldLink RX10 7 "ShadowBenchModel" "kind" "[I") (by decide +kernel)) rfl dX10_weightOf_51 ?_
        refine lv_iload_n hx hb dX10_weightOf_54 rfl (lv_at hl 4 rfl) ?_
        refine m_iald (w := (r 2)) hx hb hK hP 1 rfl (vp_in_iff.mpr ⟨by omega, by omega⟩) dX10_weightOf_55 ?_
        refine lv_topi (fun v55 e55 => ?_)
        have i55 : v55.toInt = ((r 2) j.toNatClampNeg).toInt := congrArg Int32.toInt e55
        refine lv_if_ne (tgt := 63) hx hb dX10_weightOf_56 (by decide) (fun c56 => ?_) (fun c56 => ?_)
        · skip
          have d56 := c56
          rw [fa_eq] at d56
          refine lv_aload_n hx hb dX10_weightOf_63 rfl (lv_at hl 3 rfl) ?_
          refine m_get (v := .ref (a 2)) hx hb hts hin hown hK hP 2 (by decide) rfl (hts (.fieldLink RX10 7 "ShadowBenchModel" "kind" "[I") (by decide +kernel)) rfl dX10_weightOf_64 ?_
          refine lv_iload_n hx hb dX10_weightOf_67 rfl (lv_at hl 4 rfl) ?_
          refine m_iald (w := (r 2)) hx hb hK hP 1 rfl (vp_in_iff.mpr ⟨by omega, by omega⟩) dX10_weightOf_68 ?_
          refine lv_topi (fun v68 e68 => ?_)
          have i68 : v68.toInt = ((r 2) j.toNatClampNeg).toInt := congrArg Int32.toInt e68
          refine lv_iconst (v := 1) hx hb dX10_weightOf_69 (by decide) ?_
          refine lv_icmp_ne (tgt := 80) hx hb dX10_weightOf_70 (by decide) (fun c70 => ?_) (fun c70 => ?_)
          · skip
            have d70 := c70
            rw [fa_eq] at d70
            refine lv_aload_n hx hb dX10_weightOf_80 rfl (lv_at hl 3 rfl) ?_
            refine m_get (v := .ref (a 2)) hx hb hts hin hown hK hP 2 (by decide) rfl (hts (.fieldLink RX10 7 "ShadowBenchModel" "kind" "[I") (by decide +kernel)) rfl dX10_weightOf_81 ?_
            refine lv_iload_n hx hb dX10_weightOf_84 rfl (lv_at hl 4 rfl) ?_
            refine m_iald (w := (r 2)) hx hb hK hP 1 rfl (vp_in_iff.mpr ⟨by omega, by omega⟩) dX10_weightOf_85 ?_
            refine lv_topi (fun v85 e85 => ?_)
            have i85 : v85.toInt = ((r 2) j.toNatClampNeg).toInt := congrArg Int32.toInt e85
            refine lv_iconst (v := 2) hx hb dX10_weightOf_86 (by decide) ?_
            refine lv_icmp_ne (tgt := 99) hx hb dX10_weightOf_87 (by decide) (fun c87 => ?_) (fun c87 => ?_)
            · skip
              have d87 := c87
              rw [fa_eq] at d87
              refine lv_iload_n hx hb dX10_weightOf_99 rfl (lv_at hl 2 rfl) ?_
              refine lv_iload_n hx hb dX10_weightOf_100 rfl (lv_at hl 1 rfl) ?_
              refine lv_iadd hx hb dX10_weightOf_101 ?_
              refine lv_topi (fun v101 e101 => ?_)
              exact W.iret (v := v101) hx hb hr (fun t ht hW => ⟨⟨_, (f, g, r, q), rfl, ⟨rfl, trivial⟩, by unfold mB; rw [ht]; exact hP⟩, hS.F ht⟩) hS.2.2 dX10_weightOf_102
            · skip
              have d87 := c87
              rw [fa_eq] at d87
              refine lv_iconst (v := 2) hx hb dX10_weightOf_90 (by decide) ?_
              refine lv_iload_n hx hb dX10_weightOf_91 rfl (lv_at hl 2 rfl) ?_
              refine lv_bipush (v := 100) hx hb dX10_weightOf_92 (by decide) ?_
              refine lv_iadd hx hb dX10_weightOf_94 ?_
              refine lv_topi (fun v94 e94 => ?_)
              refine lv_imul hx hb dX10_weightOf_95 ?_
              refine lv_topi (fun v95 e95 => ?_)
              refine lv_goto (tgt := 102) hx hb dX10_weightOf_96 (by decide) ?_
              exact W.iret (v := v95) hx hb hr (fun t ht hW => ⟨⟨_, (f, g, r, q), rfl, ⟨rfl, trivial⟩, by unfold mB; rw [ht]; exact hP⟩, hS.F ht⟩) hS.2.2 dX10_weightOf_102
          · skip
            have d70 := c70
            rw [fa_eq] at d70
            refine lv_iload_n hx hb dX10_weightOf_73 rfl (lv_at hl 2 rfl) ?_
            refine lv_bipush (v := 100) hx hb dX10_weightOf_74 (by decide) ?_
            refine lv_iadd hx hb dX10_weightOf_76 ?_
            refine lv_topi (fun v76 e76 => ?_)
            refine lv_goto (tgt := 102) hx hb dX10_weightOf_77 (by decide) ?_
            exact W.iret (v := v76) hx hb hr (fun t ht hW => ⟨⟨_, (f, g, r, q), rfl, ⟨rfl, trivial⟩, by unfold mB; rw [ht]; exact hP⟩, hS.F ht⟩) hS.2.2 dX10_weightOf_102
        · skip
          have d56 := c56
          rw [fa_eq] at d56
          refine lv_iload_n hx hb dX10_weightOf_59 rfl (lv_at hl 2 rfl) ?_
          refine lv_goto (tgt := 102) hx hb dX10_weightOf_60 (by decide) ?_
          exact W.iret (v := v15) hx hb hr (fun t ht hW => ⟨⟨_, (f, g, r, q), rfl, ⟨rfl, trivial⟩, by unfold mB; rw [ht]; exact hP⟩, hS.F ht⟩) hS.2.2 dX10_weightOf_102
      · skip
        have d26 := c26
        rw [fa_le] at d26
        refine lv_iload_n hx hb dX10_weightOf_29 rfl (lv_at hl 1 rfl) ?_
        refine lv_aload_n hx hb dX10_weightOf_30 rfl (lv_at hl 3 rfl) ?_
        refine m_get (v := .ref (a 8)) hx hb hts hin hown hK hP 8 (by decide) rfl (hts (.fieldLink RX10 29 "ShadowBenchModel" "weight" "[I") (by decide +kernel)) rfl dX10_weightOf_31 ?_
        refine lv_bipush (v := 36) hx hb dX10_weightOf_34 (by decide) ?_
        refine lv_iload_n hx hb dX10_weightOf_36 rfl (lv_at hl 4 rfl) ?_
        refine lv_imul hx hb dX10_weightOf_37 ?_
        refine lv_topi (fun v37 e37 => ?_)
        have i37 : v37.toInt = 36 * j.toInt := by rw [e37]; exact mulcL rfl (by omega) (by omega)
        refine lv_iload hx hb dX10_weightOf_38 (lv_at hl 0 rfl) ?_
        refine lv_iadd hx hb dX10_weightOf_40 ?_
        refine lv_topi (fun v40 e40 => ?_)
        have i40 : v40.toInt = v37.toInt + (nI k).toInt := by rw [e40]; exact fb_addI (by omega) (by omega)
        refine m_iald (w := (r 8)) hx hb hK hP 7 rfl (vp_in_iff.mpr ⟨by omega, by omega⟩) dX10_weightOf_41 ?_
        refine lv_topi (fun v41 e41 => ?_)
        have i41 : v41.toInt = ((r 8) v40.toNatClampNeg).toInt := congrArg Int32.toInt e41
        refine lv_iadd hx hb dX10_weightOf_42 ?_
        refine lv_topi (fun v42 e42 => ?_)
        refine lv_istore_n (lv' := [(3, .int v42), (4, .int (nI k)), (2, .int v15), (0, .ref mo), (1, .int j)]) hx hb dX10_weightOf_43 rfl hl (by decide) rfl (fun ls hl => ?_)
        refine lv_iinc (v := (nI (k + 1))) (lv' := [(4, .int (nI (k + 1))), (3, .int v42), (2, .int v15), (0, .ref mo), (1, .int j)]) hx hb dX10_weightOf_44 hl (k := 1) rfl (nI_1 _) (by decide) rfl (fun ls hl => ?_)
        refine lv_goto (tgt := 22) hx hb dX10_weightOf_47 (by decide) ?_
        exact ih_22 (k + 1) v42 (by omega) (by omega) _ _ hP hS ls (lv_sub hl [0, 1, 2, 3, 4] rfl)
  exact loop_22 (36 + 1) 0 (0 : Int32) (by omega) (by omega) _ _ hP hS ls (lv_sub hl [0, 1, 2, 3, 4] rfl)
theorem ec_r___29_30 (f : Nat → Nat → Int32)  : f = (va_up (va_up f 29 (f 29)) 30 (f 30)) := by
  funext j9
  simp only [va_up]
  (repeat' split) <;> simp_all
theorem ec_q___33 (f : Nat → Nat → Int64)  : f = (va_up f 33 (f 33)) := by
  funext j9
  simp only [va_up]
  (repeat' split) <;> simp_all
theorem ec_r_29_30__29_30 (f : Nat → Nat → Int32) (v29 : Nat → Int32) (v30 : Nat → Int32) : (va_up (va_up f 29 v29) 30 v30) = (va_up (va_up f 29 v29) 30 v30) := by
  funext j9
  simp only [va_up]
  (repeat' split) <;> simp_all
theorem ec_q_33__33 (f : Nat → Nat → Int64) (v33 : Nat → Int64) : (va_up f 33 v33) = (va_up f 33 v33) := by
  funext j9
  simp only [va_up]
  (repeat' split) <;> simp_all
set_option maxHeartbeats 4000000 in
set_option maxRecDepth 100000 in
theorem c_X10_make (l : Launch) (D : va_G) (cy : Nat → ClassId) (mo : Nat) (a : Nat → Nat) (f : Nat → Int32) (g : Nat → Int64) (r : Nat → Nat → Int32) (q : Nat → Nat → Int64) (d : Int32) (what : Int32) (n1 : Int32) (hD : DM cy mo a) (hI : MI f r) : Mi l D cy mo a yX10_make wsX10_make ({ frames := 1, cells := 0, slots := 0, locals := 25 }) f g r q [.int d, .int what, .int n1] (fun r0 u => ∃ (sh : Nat → Int32), ∃ (sz : Nat → Int32), ∃ (sr : Nat → Int64), u = ((upd f 0 (0 : Int32)), g, (va_up (va_up r 29 sh) 30 sz), (va_up q 33 sr)) ∧ (r0 = mkAns d what n1 ∧ MI (upd f 0 (0 : Int32)) (va_up (va_up r 29 sh) 30 sz))) := by
  refine Met.ofW (cc := cX10_make) (maxL := 5) (ret := (some .int)) (by decide) rfl ?_
  intro p e s m args below meth c s₁ B hml hv
  obtain ⟨rfl, hP, hK⟩ := hv
  have hx := B.exec
  have hb := B.bytes
  have hr := B.returns
  have hts := atoms_spec (ws := wsX10_make) B.pre
  have hin : ∀ w ∈ u_ws RX10 TX10 35, w ∈ wsX10_make := by decide +kernel
  have hown : s.vm.findClass RX10 = some m.cls := findClass_of_methodNamed B.named
  have hlocks := B.notSynchronized
  have hS : va_S (AM mo a) s.heap s.heap [] := va_S.rf
  have hl := lv_entry ([.ref mo, .int d, .int what, .int n1]) (n := 5) (Nat.le_of_ble_eq_true rfl)
  rw [lg_entry_eq]
  generalize (lg_sl ([.ref mo, .int d, .int what, .int n1]) ++ List.replicate (5 - (lg_sl ([.ref mo, .int d, .int what, .int n1])).length) Slot.unset).toArray = ls at hl ⊢
  have hl : lv_has ls 5 [(0, .ref mo), (1, .int d), (2, .int what), (3, .int n1)] := hl
  have k_m14 : (-14 : Int32).toInt = -14 := by decide
  have k_m1 : (-1 : Int32).toInt = -1 := by decide
  have k_0 : (0 : Int32).toInt = 0 := by decide
  have k_60 : (60 : Int32).toInt = 60 := by decide
  have k_0L : (0 : Int64).toInt = 0 := by decide
  have k_3L : (3 : Int64).toInt = 3 := by decide
  have k_4L : (4 : Int64).toInt = 4 := by decide
  refine lv_aload_n hx hb dX10_make_0 rfl (lv_at hl 0 rfl) ?_
  refine lv_iconst (v := 0) hx hb dX10_make_1 (by decide) ?_
  refine m_put (v := .int (0 : Int32)) (ty := .int) hx hb hts hin hown hK hP hD hS 0 (by decide) rfl (hts (.fieldLink RX10 79 "ShadowBenchModel" "thrown" "I") (by decide +kernel)) rfl (by decide +kernel) rfl rfl (upd f 0 (0 : Int32)) g rfl dX10_make_2 (fun H locs hP hS => ?_)
  refine lv_iload_n hx hb dX10_make_5 rfl (lv_at hl 1 rfl) ?_
  refine m_pu (As := [.int d]) (rest := []) ⟨hx, hb, hml, hown, hts⟩ (c_X10_isShelf l d ) (va_cwS 1 hts gX10_make_X10_isShelf rfl rfl rfl (by decide +kernel) ⟨Nat.le_of_ble_eq_true rfl, Nat.le_of_ble_eq_true rfl⟩) hP rfl hl.1 rfl (Nat.le_of_ble_eq_true rfl) dX10_make_6 ⟨Nat.le_of_ble_eq_true rfl, Nat.le_of_ble_eq_true rfl⟩ hS (fun r6 H locs q6 hP hS => ?_)
  refine lv_if_eq (tgt := 32) hx hb dX10_make_9 (by decide) (fun c9 => ?_) (fun c9 => ?_)
  · skip
    have b9 := bo_f q6 c9
    refine lv_iconst (v := (-1)) hx hb dX10_make_32 (by decide) ?_
    have hP := wm_eq rfl rfl (ec_r___29_30 r ) (ec_q___33 q ) hP
    exact W.iret (v := ((-1) : Int32)) hx hb hr (fun t ht hW => ⟨⟨_, ((upd f 0 (0 : Int32)), g, (va_up (va_up r 29 (r 29)) 30 (r 30)), (va_up q 33 (q 33))), rfl, ⟨(r 29), (r 30), (q 33), rfl, ⟨by unfold mkAns; split <;> (try split) <;> first | rfl | (exfalso; omega), by first | exact hI | exact mi_sz (d := d) hI (v := n1) (by omega) rfl rfl rfl rfl rfl rfl rfl rfl⟩⟩, by unfold mB; rw [ht]; exact hP⟩, hS.F ht⟩) hS.2.2 dX10_make_33
  · skip
    have b9 := bo_t q6 c9
    refine lv_iload_n hx hb dX10_make_12 rfl (lv_at hl 2 rfl) ?_
    refine lv_i2l (v := what.toInt64) hx hb dX10_make_13 rfl ?_
    refine lv_ldc2 hx hb hown (hts (.constantLong RX10 116 (3)) (by decide +kernel)) dX10_make_14 ?_
    refine lv_ldc2 hx hb hown (hts (.constantLong RX10 265 (4)) (by decide +kernel)) dX10_make_17 ?_
    refine m_pu (As := [.long (what.toInt64), .long (3 : Int64), .long (4 : Int64)]) (rest := []) ⟨hx, hb, hml, hown, hts⟩ (c_X10_isIn l what.toInt64 (3 : Int64) (4 : Int64) ) (va_cwS 3 hts gX10_make_X10_isIn rfl rfl rfl (by decide +kernel) ⟨Nat.le_of_ble_eq_true rfl, Nat.le_of_ble_eq_true rfl⟩) hP rfl hl.1 rfl (Nat.le_of_ble_eq_true rfl) dX10_make_20 ⟨Nat.le_of_ble_eq_true rfl, Nat.le_of_ble_eq_true rfl⟩ hS (fun r20 H locs q20 hP hS => ?_)
    have q20 := q20
    simp only [k64, show (0 : Int64).toInt = 0 from rfl, show (1 : Int64).toInt = 1 from rfl, show (2 : Int64).toInt = 2 from rfl, show (3 : Int64).toInt = 3 from rfl, show (6 : Int64).toInt = 6 from rfl] at q20
    refine lv_if_eq (tgt := 32) hx hb dX10_make_23 (by decide) (fun c23 => ?_) (fun c23 => ?_)
    · skip
      have b23 := bo_f q20 c23
      refine lv_iconst (v := (-1)) hx hb dX10_make_32 (by decide) ?_
      have hP := wm_eq rfl rfl (ec_r___29_30 r ) (ec_q___33 q ) hP
      exact W.iret (v := ((-1) : Int32)) hx hb hr (fun t ht hW => ⟨⟨_, ((upd f 0 (0 : Int32)), g, (va_up (va_up r 29 (r 29)) 30 (r 30)), (va_up q 33 (q 33))), rfl, ⟨(r 29), (r 30), (q 33), rfl, ⟨by unfold mkAns; split <;> (try split) <;> first | rfl | (exfalso; omega), by first | exact hI | exact mi_sz (d := d) hI (v := n1) (by omega) rfl rfl rfl rfl rfl rfl rfl rfl⟩⟩, by unfold mB; rw [ht]; exact hP⟩, hS.F ht⟩) hS.2.2 dX10_make_33
    · skip
      have b23 := bo_t q20 c23
      refine lv_iload_n hx hb dX10_make_26 rfl (lv_at hl 3 rfl) ?_
      refine lv_bipush (v := 60) hx hb dX10_make_27 (by decide) ?_
      refine lv_icmp_le (tgt := 34) hx hb dX10_make_29 (by decide) (fun c29 => ?_) (fun c29 => ?_)
      · skip
        have d29 := c29
        rw [fa_le] at d29
        refine lv_iload_n hx hb dX10_make_34 rfl (lv_at hl 3 rfl) ?_
        refine lv_if_ge (tgt := 41) hx hb dX10_make_35 (by decide) (fun c35 => ?_) (fun c35 => ?_)
        · skip
          have d35 := c35
          rw [fa_le] at d35
          refine lv_aload_n hx hb dX10_make_41 rfl (lv_at hl 0 rfl) ?_
          refine m_get (v := .ref (a 29)) hx hb hts hin hown hK hP 29 (by decide) rfl (hts (.fieldLink RX10 61 "ShadowBenchModel" "shelf" "[I") (by decide +kernel)) rfl dX10_make_42 ?_
          refine lv_iload_n hx hb dX10_make_45 rfl (lv_at hl 1 rfl) ?_
          refine lv_iload_n hx hb dX10_make_46 rfl (lv_at hl 2 rfl) ?_
          refine m_iast (w := (r 29)) hx hb hK hP hD hS 17 rfl (vp_in_iff.mpr ⟨by omega, by omega⟩) (va_up r 29 ((upd (r 29) d.toNatClampNeg what))) rfl dX10_make_47 (fun H locs hP hS => ?_)
          refine lv_aload_n hx hb dX10_make_48 rfl (lv_at hl 0 rfl) ?_
          refine m_get (v := .ref (a 30)) hx hb hts hin hown hK hP 30 (by decide) rfl (hts (.fieldLink RX10 64 "ShadowBenchModel" "shelfSize" "[I") (by decide +kernel)) rfl dX10_make_49 ?_
          refine lv_iload_n hx hb dX10_make_52 rfl (lv_at hl 1 rfl) ?_
          refine lv_iload_n hx hb dX10_make_53 rfl (lv_at hl 3 rfl) ?_
          refine m_iast (w := (r 30)) hx hb hK hP hD hS 18 rfl (vp_in_iff.mpr ⟨by omega, by omega⟩) (va_up (va_up r 29 ((upd (r 29) d.toNatClampNeg what))) 30 ((upd (r 30) d.toNatClampNeg n1))) rfl dX10_make_54 (fun H locs hP hS => ?_)
          refine lv_iconst (v := 0) hx hb dX10_make_55 (by decide) ?_
          refine lv_istore (lv' := [(4, .int (0 : Int32)), (0, .ref mo), (1, .int d), (2, .int what), (3, .int n1)]) hx hb dX10_make_56 hl (by decide) rfl (fun ls hl => ?_)
          have loop_58 : ∀ (n : Nat) (i : Nat) (s3 : Nat → Int64), (i ≤ 60) → 60 - i < n → ∀ (H : Heap) (locs : List Loc), va_P D vwCl (WM cy mo a (upd f 0 (0 : Int32)) g (va_up (va_up r 29 ((upd (r 29) d.toNatClampNeg what))) 30 ((upd (r 30) d.toNatClampNeg n1))) (va_up q 33 s3)) H → va_S (AM mo a) s.heap H locs → ∀ (ls : Array Slot), lv_has ls 5 [(4, .int (nI i)), (0, .ref mo), (1, .int d), (2, .int what), (3, .int n1)] → W p l e (headSpec wsX10_make ({ frames := 1, cells := 0, slots := 0, locals := 25 })).room s m #[Value.ref mo, Value.int d, Value.int what, Value.int n1] below meth c H locs 0 0 (MQ below (va_Qi (fun r0 u => ∃ (sh : Nat → Int32), ∃ (sz : Nat → Int32), ∃ (sr : Nat → Int64), u = ((upd f 0 (0 : Int32)), g, (va_up (va_up r 29 sh) 30 sz), (va_up q 33 sr)) ∧ (r0 = mkAns d what n1 ∧ MI (upd f 0 (0 : Int32)) (va_up (va_up r 29 sh) 30 sz))) (mB D cy mo a) (AM mo a)) #[Value.ref mo, Value.int d, Value.int what, Value.int n1] s 0 0 (AM mo a)) (F0 m 58 ls []) := by
            intro n
            induction n with
            | zero => intro i s3 j58_0 hn; exact absurd hn (Nat.not_lt_zero _)
            | succ n ih_58 =>
              intro i s3 j58_0 hn_58 H locs hP hS ls hl
              have ii : (nI i).toInt = (i : Int) := nI_toInt (by omega)
              refine lv_iload hx hb dX10_make_58 (lv_at hl 0 rfl) ?_
              refine lv_iload_n hx hb dX10_make_60 rfl (lv_at hl 4 rfl) ?_
              refine lv_icmp_ge (tgt := 83) hx hb dX10_make_61 (by decide) (fun c61 => ?_) (fun c61 => ?_)
              · skip
                have d61 := c61
                rw [fa_le] at d61
                refine lv_iconst (v := 0) hx hb dX10_make_83 (by decide) ?_
                have hP := wm_eq rfl rfl (ec_r_29_30__29_30 r ((upd (r 29) d.toNatClampNeg what)) ((upd (r 30) d.toNatClampNeg n1))) rfl hP
                exact W.iret (v := (0 : Int32)) hx hb hr (fun t ht hW => ⟨⟨_, ((upd f 0 (0 : Int32)), g, (va_up (va_up r 29 (((upd (r 29) d.toNatClampNeg what)))) 30 (((upd (r 30) d.toNatClampNeg n1)))), (va_up q 33 s3)), rfl, ⟨((upd (r 29) d.toNatClampNeg what)), ((upd (r 30) d.toNatClampNeg n1)), s3, rfl, ⟨by unfold mkAns; split <;> (try split) <;> first | rfl | (exfalso; omega), by first | exact hI | exact mi_sz (d := d) hI (v := n1) (by omega) rfl rfl rfl rfl rfl rfl rfl rfl⟩⟩, by unfold mB; rw [ht]; exact hP⟩, hS.F ht⟩) hS.2.2 dX10_make_84
              · skip
                have d61 := c61
                rw [fa_le] at d61
                refine lv_aload_n hx hb dX10_make_64 rfl (lv_at hl 1 rfl) ?_
                refine m_get (v := .ref (a 33)) hx hb hts hin hown hK hP 33 (by decide) rfl (hts (.fieldLink RX10 73 "ShadowBenchModel" "shelfRow" "[J") (by decide +kernel)) rfl dX10_make_65 ?_
                refine lv_bipush (v := 60) hx hb dX10_make_68 (by decide) ?_
                refine lv_iload_n hx hb dX10_make_70 rfl (lv_at hl 2 rfl) ?_
                refine lv_imul hx hb dX10_make_71 ?_
                refine lv_topi (fun v71 e71 => ?_)
                have i71 : v71.toInt = 60 * d.toInt := by rw [e71]; exact mulcL rfl (by omega) (by omega)
                refine lv_iload hx hb dX10_make_72 (lv_at hl 0 rfl) ?_
                refine lv_iadd hx hb dX10_make_74 ?_
                refine lv_topi (fun v74 e74 => ?_)
                have i74 : v74.toInt = v71.toInt + (nI i).toInt := by rw [e74]; exact fb_addI (by omega) (by omega)
                refine lv_lconst (v := 0) hx hb dX10_make_75 (by decide) ?_
                refine m_last (w := s3) hx hb hK hP hD hS 21 rfl (vp_in_iff.mpr ⟨by omega, by omega⟩) (va_up q 33 ((vp_updL s3 v74.toNatClampNeg (0 : Int64)))) rfl dX10_make_76 (fun H locs hP hS => ?_)
                refine lv_iinc (v := (nI (i + 1))) (lv' := [(4, .int (nI (i + 1))), (0, .ref mo), (1, .int d), (2, .int what), (3, .int n1)]) hx hb dX10_make_77 hl (k := 0) rfl (nI_1 _) (by decide) rfl (fun ls hl => ?_)
                refine lv_goto (tgt := 58) hx hb dX10_make_80 (by decide) ?_
                have hP := wm_eq rfl rfl (ec_r_29_30__29_30 r ((upd (r 29) d.toNatClampNeg what)) ((upd (r 30) d.toNatClampNeg n1))) (ec_q_33__33 q ((vp_updL s3 v74.toNatClampNeg (0 : Int64)))) hP
                exact ih_58 (i + 1) (((vp_updL s3 v74.toNatClampNeg (0 : Int64)))) (by omega) (by omega) _ _ hP hS ls (lv_sub hl [0, 1, 2, 3, 4] rfl)
          have hP := wm_eq rfl rfl (ec_r_29_30__29_30 r ((upd (r 29) d.toNatClampNeg what)) ((upd (r 30) d.toNatClampNeg n1))) (ec_q___33 q ) hP
          exact loop_58 (60 + 1) 0 (q 33) (by omega) (by omega) _ _ hP hS ls (lv_sub hl [0, 1, 2, 3, 4] rfl)
        · skip
          have d35 := c35
          rw [fa_le] at d35
          refine lv_bipush (v := (-14)) hx hb dX10_make_38 (by decide) ?_
          have hP := wm_eq rfl rfl (ec_r___29_30 r ) (ec_q___33 q ) hP
          exact W.iret (v := ((-14) : Int32)) hx hb hr (fun t ht hW => ⟨⟨_, ((upd f 0 (0 : Int32)), g, (va_up (va_up r 29 (r 29)) 30 (r 30)), (va_up q 33 (q 33))), rfl, ⟨(r 29), (r 30), (q 33), rfl, ⟨by unfold mkAns; split <;> (try split) <;> first | rfl | (exfalso; omega), by first | exact hI | exact mi_sz (d := d) hI (v := n1) (by omega) rfl rfl rfl rfl rfl rfl rfl rfl⟩⟩, by unfold mB; rw [ht]; exact hP⟩, hS.F ht⟩) hS.2.2 dX10_make_40
      · skip
        have d29 := c29
        rw [fa_le] at d29
        refine lv_iconst (v := (-1)) hx hb dX10_make_32 (by decide) ?_
        have hP := wm_eq rfl rfl (ec_r___29_30 r ) (ec_q___33 q ) hP
        exact W.iret (v := ((-1) : Int32)) hx hb hr (fun t ht hW => ⟨⟨_, ((upd f 0 (0 : Int32)), g, (va_up (va_up r 29 (r 29)) 30 (r 30)), (va_up q 33 (q 33))), rfl, ⟨(r 29), (r 30), (q 33), rfl, ⟨by unfold mkAns; split <;> (try split) <;> first | rfl | (exfalso; omega), by first | exact hI | exact mi_sz (d := d) hI (v := n1) (by omega) rfl rfl rfl rfl rfl rfl rfl rfl⟩⟩, by unfold mB; rw [ht]; exact hP⟩, hS.F ht⟩) hS.2.2 dX10_make_33
set_option maxHeartbeats 4000000 in
set_option maxRecDepth 100000 in
theorem c_X10_element (l : Launch) (D : va_G) (cy : Nat → ClassId) (mo : Nat) (a : Nat → Nat) (f : Nat → Int32) (g : Nat → Int64) (r : Nat → Nat → Int32) (q : Nat → Nat → Int64) (d : Int32) (i0 : Int32) (hD : DM cy mo a) (hI : MI f r) : Ml l D cy mo a yX10_element wsX10_element ({ frames := 1, cells := 0, slots := 0, locals := 25 }) f g r q [.int d, .int i0] (fun r0 u => ∃ (th : Int32), u = ((upd f 0 th), g, r, q) ∧ (True)) := by
  refine Met.ofW (cc := cX10_element) (maxL := 4) (ret := (some .long)) (by decide) rfl ?_
  intro p e s m args below meth c s₁ B hml hv
  obtain ⟨rfl, hP, hK⟩ := hv
  have hx := B.exec
  have hb := B.bytes
  have hr := B.returns
  have hts := atoms_spec (ws := wsX10_element) B.pre
  have hin : ∀ w ∈ u_ws RX10 TX10 35, w ∈ wsX10_element := by decide +kernel
  have hown : s.vm.findClass RX10 = some m.cls := findClass_of_methodNamed B.named
  have hlocks := B.notSynchronized
  have hS : va_S (AM mo a) s.heap s.heap [] := va_S.rf
  have hl := lv_entry ([.ref mo, .int d, .int i0]) (n := 4) (Nat.le_of_ble_eq_true rfl)
  rw [lg_entry_eq]
  generalize (lg_sl ([.ref mo, .int d, .int i0]) ++ List.replicate (4 - (lg_sl ([.ref mo, .int d, .int i0])).length) Slot.unset).toArray = ls at hl ⊢
  have hl : lv_has ls 4 [(0, .ref mo), (1, .int d), (2, .int i0)] := hl
  have k_0 : (0 : Int32).toInt = 0 := by decide
  have k_1 : (1 : Int32).toInt = 1 := by decide
  have k_2 : (2 : Int32).toInt = 2 := by decide
  have k_60 : (60 : Int32).toInt = 60 := by decide
  have k_0L : (0 : Int64).toInt = 0 := by decide
  refine lv_iload_n hx hb dX10_element_0 rfl (lv_at hl 1 rfl) ?_
  refine m_pu (As := [.int d]) (rest := []) ⟨hx, hb, hml, hown, hts⟩ (c_X10_isShelf l d ) (va_cwS 1 hts gX10_element_X10_isShelf rfl rfl rfl (by decide +kernel) ⟨Nat.le_of_ble_eq_true rfl, Nat.le_of_ble_eq_true rfl⟩) hP rfl hl.1 rfl (Nat.le_of_ble_eq_true rfl) dX10_element_1 ⟨Nat.le_of_ble_eq_true rfl, Nat.le_of_ble_eq_true rfl⟩ hS (fun r1 H locs q1 hP hS => ?_)
  refine lv_if_eq (tgt := 39) hx hb dX10_element_4 (by decide) (fun c4 => ?_) (fun c4 => ?_)
  · skip
    have b4 := bo_f q1 c4
    refine lv_iconst (v := 0) hx hb dX10_element_39 (by decide) ?_
    refine lv_istore_n (lv' := [(3, .int (0 : Int32)), (0, .ref mo), (1, .int d), (2, .int i0)]) hx hb dX10_element_40 rfl hl (by decide) rfl (fun ls hl => ?_)
    refine lv_aload_n hx hb dX10_element_41 rfl (lv_at hl 1 rfl) ?_
    refine lv_iload_n hx hb dX10_element_42 rfl (lv_at hl 2 rfl) ?_
    refine m_pu (As := [.int d]) (rest := [.ref mo]) ⟨hx, hb, hml, hown, hts⟩ (c_X10_isShelf l d ) (va_cwS 1 hts gX10_element_X10_isShelf rfl rfl rfl (by decide +kernel) ⟨Nat.le_of_ble_eq_true rfl, Nat.le_of_ble_eq_true rfl⟩) hP rfl hl.1 rfl (Nat.le_of_ble_eq_true rfl) dX10_element_43 ⟨Nat.le_of_ble_eq_true rfl, Nat.le_of_ble_eq_true rfl⟩ hS (fun r43 H locs q43 hP hS => ?_)
    refine lv_if_ne (tgt := 53) hx hb dX10_element_46 (by decide) (fun c46 => ?_) (fun c46 => ?_)
    · skip
      have b46 := bo_t q43 c46
      refine lv_iload_n hx hb dX10_element_53 rfl (lv_at hl 0 rfl) ?_
      refine lv_if_eq (tgt := 61) hx hb dX10_element_54 (by decide) (fun c54 => ?_) (fun c54 => ?_)
      · skip
        have d54 := c54
        rw [fa_eq] at d54
        refine lv_iconst (v := 2) hx hb dX10_element_61 (by decide) ?_
        refine m_put (v := .int (2 : Int32)) (ty := .int) hx hb hts hin hown hK hP hD hS 0 (by decide) rfl (hts (.fieldLink RX10 79 "ShadowBenchModel" "thrown" "I") (by decide +kernel)) rfl (by decide +kernel) rfl rfl (upd f 0 (2 : Int32)) g rfl dX10_element_62 (fun H locs hP hS => ?_)
        refine lv_iload_n hx hb dX10_element_65 rfl (lv_at hl 0 rfl) ?_
        refine lv_if_eq (tgt := 83) hx hb dX10_element_66 (by decide) (fun c66 => ?_) (fun c66 => ?_)
        · skip
          have d66 := c66
          rw [fa_eq] at d66
          refine lv_lconst (v := 0) hx hb dX10_element_83 (by decide) ?_
          exact W.lret (v := (0 : Int64)) hx hb hr (fun t ht hW => ⟨⟨_, ((upd f 0 (2 : Int32)), g, r, q), rfl, ⟨(2 : Int32), rfl, trivial⟩, by unfold mB; rw [ht]; exact hP⟩, hS.F ht⟩) hS.2.2 dX10_element_84
        · first | exact absurd c66 (by decide) | exact absurd (by decide) c66
      · first | exact absurd c54 (by decide) | exact absurd (by decide) c54
    · skip
      have b46 := bo_f q43 c46
      refine lv_iconst (v := 1) hx hb dX10_element_49 (by decide) ?_
      refine lv_goto (tgt := 62) hx hb dX10_element_50 (by decide) ?_
      refine m_put (v := .int (1 : Int32)) (ty := .int) hx hb hts hin hown hK hP hD hS 0 (by decide) rfl (hts (.fieldLink RX10 79 "ShadowBenchModel" "thrown" "I") (by decide +kernel)) rfl (by decide +kernel) rfl rfl (upd f 0 (1 : Int32)) g rfl dX10_element_62 (fun H locs hP hS => ?_)
      refine lv_iload_n hx hb dX10_element_65 rfl (lv_at hl 0 rfl) ?_
      refine lv_if_eq (tgt := 83) hx hb dX10_element_66 (by decide) (fun c66 => ?_) (fun c66 => ?_)
      · skip
        have d66 := c66
        rw [fa_eq] at d66
        refine lv_lconst (v := 0) hx hb dX10_element_83 (by decide) ?_
        exact W.lret (v := (0 : Int64)) hx hb hr (fun t ht hW => ⟨⟨_, ((upd f 0 (1 : Int32)), g, r, q), rfl, ⟨(1 : Int32), rfl, trivial⟩, by unfold mB; rw [ht]; exact hP⟩, hS.F ht⟩) hS.2.2 dX10_element_84
      · first | exact absurd c66 (by decide) | exact absurd (by decide) c66
  · skip
    have b4 := bo_t q1 c4
    refine lv_aload_n hx hb dX10_element_7 rfl (lv_at hl 0 rfl) ?_
    refine m_get (v := .ref (a 29)) hx hb hts hin hown hK hP 29 (by decide) rfl (hts (.fieldLink RX10 61 "ShadowBenchModel" "shelf" "[I") (by decide +kernel)) rfl dX10_element_8 ?_
    refine lv_iload_n hx hb dX10_element_11 rfl (lv_at hl 1 rfl) ?_
    refine m_iald (w := (r 29)) hx hb hK hP 17 rfl (vp_in_iff.mpr ⟨by omega, by omega⟩) dX10_element_12 ?_
    refine lv_topi (fun v12 e12 => ?_)
    have i12 : v12.toInt = ((r 29) d.toNatClampNeg).toInt := congrArg Int32.toInt e12
    refine lv_iconst (v := 2) hx hb dX10_element_13 (by decide) ?_
    refine lv_icmp_le (tgt := 39) hx hb dX10_element_14 (by decide) (fun c14 => ?_) (fun c14 => ?_)
    · skip
      have d14 := c14
      rw [fa_le] at d14
      refine lv_iconst (v := 0) hx hb dX10_element_39 (by decide) ?_
      refine lv_istore_n (lv' := [(3, .int (0 : Int32)), (0, .ref mo), (1, .int d), (2, .int i0)]) hx hb dX10_element_40 rfl hl (by decide) rfl (fun ls hl => ?_)
      refine lv_aload_n hx hb dX10_element_41 rfl (lv_at hl 1 rfl) ?_
      refine lv_iload_n hx hb dX10_element_42 rfl (lv_at hl 2 rfl) ?_
      refine m_pu (As := [.int d]) (rest := [.ref mo]) ⟨hx, hb, hml, hown, hts⟩ (c_X10_isShelf l d ) (va_cwS 1 hts gX10_element_X10_isShelf rfl rfl rfl (by decide +kernel) ⟨Nat.le_of_ble_eq_true rfl, Nat.le_of_ble_eq_true rfl⟩) hP rfl hl.1 rfl (Nat.le_of_ble_eq_true rfl) dX10_element_43 ⟨Nat.le_of_ble_eq_true rfl, Nat.le_of_ble_eq_true rfl⟩ hS (fun r43 H locs q43 hP hS => ?_)
      refine lv_if_ne (tgt := 53) hx hb dX10_element_46 (by decide) (fun c46 => ?_) (fun c46 => ?_)
      · skip
        have b46 := bo_t q43 c46
        refine lv_iload_n hx hb dX10_element_53 rfl (lv_at hl 0 rfl) ?_
        refine lv_if_eq (tgt := 61) hx hb dX10_element_54 (by decide) (fun c54 => ?_) (fun c54 => ?_)
        · skip
          have d54 := c54
          rw [fa_eq] at d54
          refine lv_iconst (v := 2) hx hb dX10_element_61 (by decide) ?_
          refine m_put (v := .int (2 : Int32)) (ty := .int) hx hb hts hin hown hK hP hD hS 0 (by decide) rfl (hts (.fieldLink RX10 79 "ShadowBenchModel" "thrown" "I") (by decide +kernel)) rfl (by decide +kernel) rfl rfl (upd f 0 (2 : Int32)) g rfl dX10_element_62 (fun H locs hP hS => ?_)
          refine lv_iload_n hx hb dX10_element_65 rfl (lv_at hl 0 rfl) ?_
          refine lv_if_eq (tgt := 83) hx hb dX10_element_66 (by decide) (fun c66 => ?_) (fun c66 => ?_)
          · skip
            have d66 := c66
            rw [fa_eq] at d66
            refine lv_lconst (v := 0) hx hb dX10_element_83 (by decide) ?_
            exact W.lret (v := (0 : Int64)) hx hb hr (fun t ht hW => ⟨⟨_, ((upd f 0 (2 : Int32)), g, r, q), rfl, ⟨(2 : Int32), rfl, trivial⟩, by unfold mB; rw [ht]; exact hP⟩, hS.F ht⟩) hS.2.2 dX10_element_84
          · first | exact absurd c66 (by decide) | exact absurd (by decide) c66
        · first | exact absurd c54 (by decide) | exact absurd (by decide) c54
      · skip
        have b46 := bo_f q43 c46
        refine lv_iconst (v := 1) hx hb dX10_element_49 (by decide) ?_
        refine lv_goto (tgt := 62) hx hb dX10_element_50 (by decide) ?_
        refine m_put (v := .int (1 : Int32)) (ty := .int) hx hb hts hin hown hK hP hD hS 0 (by decide) rfl (hts (.fieldLink RX10 79 "ShadowBenchModel" "thrown" "I") (by decide +kernel)) rfl (by decide +kernel) rfl rfl (upd f 0 (1 : Int32)) g rfl dX10_element_62 (fun H locs hP hS => ?_)
        refine lv_iload_n hx hb dX10_element_65 rfl (lv_at hl 0 rfl) ?_
        refine lv_if_eq (tgt := 83) hx hb dX10_element_66 (by decide) (fun c66 => ?_) (fun c66 => ?_)
        · skip
          have d66 := c66
          rw [fa_eq] at d66
          refine lv_lconst (v := 0) hx hb dX10_element_83 (by decide) ?_
          exact W.lret (v := (0 : Int64)) hx hb hr (fun t ht hW => ⟨⟨_, ((upd f 0 (1 : Int32)), g, r, q), rfl, ⟨(1 : Int32), rfl, trivial⟩, by unfold mB; rw [ht]; exact hP⟩, hS.F ht⟩) hS.2.2 dX10_element_84
        · first | exact absurd c66 (by decide) | exact absurd (by decide) c66
    · skip
      have d14 := c14
      rw [fa_le] at d14
      refine lv_iload_n hx hb dX10_element_17 rfl (lv_at hl 2 rfl) ?_
      refine lv_i2l (v := i0.toInt64) hx hb dX10_element_18 rfl ?_
      refine lv_lconst (v := 0) hx hb dX10_element_19 (by decide) ?_
      refine lv_aload_n hx hb dX10_element_20 rfl (lv_at hl 0 rfl) ?_
      refine m_get (v := .ref (a 30)) hx hb hts hin hown hK hP 30 (by decide) rfl (hts (.fieldLink RX10 64 "ShadowBenchModel" "shelfSize" "[I") (by decide +kernel)) rfl dX10_element_21 ?_
      refine lv_iload_n hx hb dX10_element_24 rfl (lv_at hl 1 rfl) ?_
      refine m_iald (w := (r 30)) hx hb hK hP 18 rfl (vp_in_iff.mpr ⟨by omega, by omega⟩) dX10_element_25 ?_
      refine lv_topi (fun v25 e25 => ?_)
      have i25 : v25.toInt = ((r 30) d.toNatClampNeg).toInt := congrArg Int32.toInt e25
      have z25 := mi_s hI (x := d) (by omega) (by omega) e25
      refine lv_iconst (v := 1) hx hb dX10_element_26 (by decide) ?_
      refine lv_isub hx hb dX10_element_27 ?_
      refine lv_topi (fun v27 e27 => ?_)
      have i27 : v27.toInt = v25.toInt - (1 : Int32).toInt := by rw [e27]; exact fb_subI (by omega) (by omega)
      refine lv_i2l (v := v27.toInt64) hx hb dX10_element_28 rfl ?_
      refine m_pu (As := [.long (i0.toInt64), .long (0 : Int64), .long (v27.toInt64)]) (rest := []) ⟨hx, hb, hml, hown, hts⟩ (c_X10_isIn l i0.toInt64 (0 : Int64) v27.toInt64 ) (va_cwS 3 hts gX10_element_X10_isIn rfl rfl rfl (by decide +kernel) ⟨Nat.le_of_ble_eq_true rfl, Nat.le_of_ble_eq_true rfl⟩) hP rfl hl.1 rfl (Nat.le_of_ble_eq_true rfl) dX10_element_29 ⟨Nat.le_of_ble_eq_true rfl, Nat.le_of_ble_eq_true rfl⟩ hS (fun r29 H locs q29 hP hS => ?_)
      have q29 := q29
      simp only [k64, show (0 : Int64).toInt = 0 from rfl, show (1 : Int64).toInt = 1 from rfl, show (2 : Int64).toInt = 2 from rfl, show (3 : Int64).toInt = 3 from rfl, show (6 : Int64).toInt = 6 from rfl] at q29
      refine lv_if_eq (tgt := 39) hx hb dX10_element_32 (by decide) (fun c32 => ?_) (fun c32 => ?_)
      · skip
        have b32 := bo_f q29 c32
        refine lv_iconst (v := 0) hx hb dX10_element_39 (by decide) ?_
        refine lv_istore_n (lv' := [(3, .int (0 : Int32)), (0, .ref mo), (1, .int d), (2, .int i0)]) hx hb dX10_element_40 rfl hl (by decide) rfl (fun ls hl => ?_)
        refine lv_aload_n hx hb dX10_element_41 rfl (lv_at hl 1 rfl) ?_
        refine lv_iload_n hx hb dX10_element_42 rfl (lv_at hl 2 rfl) ?_
        refine m_pu (As := [.int d]) (rest := [.ref mo]) ⟨hx, hb, hml, hown, hts⟩ (c_X10_isShelf l d ) (va_cwS 1 hts gX10_element_X10_isShelf rfl rfl rfl (by decide +kernel) ⟨Nat.le_of_ble_eq_true rfl, Nat.le_of_ble_eq_true rfl⟩) hP rfl hl.1 rfl (Nat.le_of_ble_eq_true rfl) dX10_element_43 ⟨Nat.le_of_ble_eq_true rfl, Nat.le_of_ble_eq_true rfl⟩ hS (fun r43 H locs q43 hP hS => ?_)
        refine lv_if_ne (tgt := 53) hx hb dX10_element_46 (by decide) (fun c46 => ?_) (fun c46 => ?_)
        · skip
          have b46 := bo_t q43 c46
          refine lv_iload_n hx hb dX10_element_53 rfl (lv_at hl 0 rfl) ?_
          refine lv_if_eq (tgt := 61) hx hb dX10_element_54 (by decide) (fun c54 => ?_) (fun c54 => ?_)
          · skip
            have d54 := c54
            rw [fa_eq] at d54
            refine lv_iconst (v := 2) hx hb dX10_element_61 (by decide) ?_
            refine m_put (v := .int (2 : Int32)) (ty := .int) hx hb hts hin hown hK hP hD hS 0 (by decide) rfl (hts (.fieldLink RX10 79 "ShadowBenchModel" "thrown" "I") (by decide +kernel)) rfl (by decide +kernel) rfl rfl (upd f 0 (2 : Int32)) g rfl dX10_element_62 (fun H locs hP hS => ?_)
            refine lv_iload_n hx hb dX10_element_65 rfl (lv_at hl 0 rfl) ?_
            refine lv_if_eq (tgt := 83) hx hb dX10_element_66 (by decide) (fun c66 => ?_) (fun c66 => ?_)
            · skip
              have d66 := c66
              rw [fa_eq] at d66
              refine lv_lconst (v := 0) hx hb dX10_element_83 (by decide) ?_
              exact W.lret (v := (0 : Int64)) hx hb hr (fun t ht hW => ⟨⟨_, ((upd f 0 (2 : Int32)), g, r, q), rfl, ⟨(2 : Int32), rfl, trivial⟩, by unfold mB; rw [ht]; exact hP⟩, hS.F ht⟩) hS.2.2 dX10_element_84
            · first | exact absurd c66 (by decide) | exact absurd (by decide) c66
          · first | exact absurd c54 (by decide) | exact absurd (by decide) c54
        · skip
          have b46 := bo_f q43 c46
          refine lv_iconst (v := 1) hx hb dX10_element_49 (by decide) ?_
          refine lv_goto (tgt := 62) hx hb dX10_element_50 (by decide) ?_
          refine m_put (v := .int (1 : Int32)) (ty := .int) hx hb hts hin hown hK hP hD hS 0 (by decide) rfl (hts (.fieldLink RX10 79 "ShadowBenchModel" "thrown" "I") (by decide +kernel)) rfl (by decide +kernel) rfl rfl (upd f 0 (1 : Int32)) g rfl dX10_element_62 (fun H locs hP hS => ?_)
          refine lv_iload_n hx hb dX10_element_65 rfl (lv_at hl 0 rfl) ?_
          refine lv_if_eq (tgt := 83) hx hb dX10_element_66 (by decide) (fun c66 => ?_) (fun c66 => ?_)
          · skip
            have d66 := c66
            rw [fa_eq] at d66
            refine lv_lconst (v := 0) hx hb dX10_element_83 (by decide) ?_
            exact W.lret (v := (0 : Int64)) hx hb hr (fun t ht hW => ⟨⟨_, ((upd f 0 (1 : Int32)), g, r, q), rfl, ⟨(1 : Int32), rfl, trivial⟩, by unfold mB; rw [ht]; exact hP⟩, hS.F ht⟩) hS.2.2 dX10_element_84
          · first | exact absurd c66 (by decide) | exact absurd (by decide) c66
      · skip
        have b32 := bo_t q29 c32
        refine lv_iconst (v := 1) hx hb dX10_element_35 (by decide) ?_
        refine lv_goto (tgt := 40) hx hb dX10_element_36 (by decide) ?_
        refine lv_istore_n (lv' := [(3, .int (1 : Int32)), (0, .ref mo), (1, .int d), (2, .int i0)]) hx hb dX10_element_40 rfl hl (by decide) rfl (fun ls hl => ?_)
        refine lv_aload_n hx hb dX10_element_41 rfl (lv_at hl 1 rfl) ?_
        refine lv_iload_n hx hb dX10_element_42 rfl (lv_at hl 2 rfl) ?_
        refine m_pu (As := [.int d]) (rest := [.ref mo]) ⟨hx, hb, hml, hown, hts⟩ (c_X10_isShelf l d ) (va_cwS 1 hts gX10_element_X10_isShelf rfl rfl rfl (by decide +kernel) ⟨Nat.le_of_ble_eq_true rfl, Nat.le_of_ble_eq_true rfl⟩) hP rfl hl.1 rfl (Nat.le_of_ble_eq_true rfl) dX10_element_43 ⟨Nat.le_of_ble_eq_true rfl, Nat.le_of_ble_eq_true rfl⟩ hS (fun r43 H locs q43 hP hS => ?_)
        refine lv_if_ne (tgt := 53) hx hb dX10_element_46 (by decide) (fun c46 => ?_) (fun c46 => ?_)
        · skip
          have b46 := bo_t q43 c46
          refine lv_iload_n hx hb dX10_element_53 rfl (lv_at hl 0 rfl) ?_
          refine lv_if_eq (tgt := 61) hx hb dX10_element_54 (by decide) (fun c54 => ?_) (fun c54 => ?_)
          · first | exact absurd c54 (by decide) | exact absurd (by decide) c54
          · skip
            have d54 := c54
            rw [fa_eq] at d54
            refine lv_iconst (v := 0) hx hb dX10_element_57 (by decide) ?_
            refine lv_goto (tgt := 62) hx hb dX10_element_58 (by decide) ?_
            refine m_put (v := .int (0 : Int32)) (ty := .int) hx hb hts hin hown hK hP hD hS 0 (by decide) rfl (hts (.fieldLink RX10 79 "ShadowBenchModel" "thrown" "I") (by decide +kernel)) rfl (by decide +kernel) rfl rfl (upd f 0 (0 : Int32)) g rfl dX10_element_62 (fun H locs hP hS => ?_)
            refine lv_iload_n hx hb dX10_element_65 rfl (lv_at hl 0 rfl) ?_
            refine lv_if_eq (tgt := 83) hx hb dX10_element_66 (by decide) (fun c66 => ?_) (fun c66 => ?_)
            · first | exact absurd c66 (by decide) | exact absurd (by decide) c66
            · skip
              have d66 := c66
              rw [fa_eq] at d66
              have y32 := b32
              simp only [k64, show (0 : Int64).toInt = 0 from rfl] at y32
              refine lv_aload_n hx hb dX10_element_69 rfl (lv_at hl 1 rfl) ?_
              refine m_get (v := .ref (a 33)) hx hb hts hin hown hK hP 33 (by decide) rfl (hts (.fieldLink RX10 73 "ShadowBenchModel" "shelfRow" "[J") (by decide +kernel)) rfl dX10_element_70 ?_
              refine lv_bipush (v := 60) hx hb dX10_element_73 (by decide) ?_
              refine lv_iload_n hx hb dX10_element_75 rfl (lv_at hl 2 rfl) ?_
              refine lv_imul hx hb dX10_element_76 ?_
              refine lv_topi (fun v76 e76 => ?_)
              have i76 : v76.toInt = 60 * d.toInt := by rw [e76]; exact mulcL rfl (by omega) (by omega)
              refine lv_iload_n hx hb dX10_element_77 rfl (lv_at hl 3 rfl) ?_
              refine lv_iadd hx hb dX10_element_78 ?_
              refine lv_topi (fun v78 e78 => ?_)
              have i78 : v78.toInt = v76.toInt + i0.toInt := by rw [e78]; exact fb_addI (by omega) (by omega)
              refine m_lald (w := (q 33)) hx hb hK hP 21 rfl (vp_in_iff.mpr ⟨by omega, by omega⟩) dX10_element_79 ?_
              refine lv_topl (fun v79 e79 => ?_)
              refine lv_goto (tgt := 84) hx hb dX10_element_80 (by decide) ?_
              exact W.lret (v := v79) hx hb hr (fun t ht hW => ⟨⟨_, ((upd f 0 (0 : Int32)), g, r, q), rfl, ⟨(0 : Int32), rfl, trivial⟩, by unfold mB; rw [ht]; exact hP⟩, hS.F ht⟩) hS.2.2 dX10_element_84
        · skip
          have b46 := bo_f q43 c46
          refine lv_iconst (v := 1) hx hb dX10_element_49 (by decide) ?_
          refine lv_goto (tgt := 62) hx hb dX10_element_50 (by decide) ?_
          refine m_put (v := .int (1 : Int32)) (ty := .int) hx hb hts hin hown hK hP hD hS 0 (by decide) rfl (hts (.fieldLink RX10 79 "ShadowBenchModel" "thrown" "I") (by decide +kernel)) rfl (by decide +kernel) rfl rfl (upd f 0 (1 : Int32)) g rfl dX10_element_62 (fun H locs hP hS => ?_)
          refine lv_iload_n hx hb dX10_element_65 rfl (lv_at hl 0 rfl) ?_
          refine lv_if_eq (tgt := 83) hx hb dX10_element_66 (by decide) (fun c66 => ?_) (fun c66 => ?_)
          · first | exact absurd c66 (by decide) | exact absurd (by decide) c66
          · skip
            have d66 := c66
            rw [fa_eq] at d66
            have y32 := b32
            simp only [k64, show (0 : Int64).toInt = 0 from rfl] at y32
            refine lv_aload_n hx hb dX10_element_69 rfl (lv_at hl 1 rfl) ?_
            refine m_get (v := .ref (a 33)) hx hb hts hin hown hK hP 33 (by decide) rfl (hts (.fieldLink RX10 73 "ShadowBenchModel" "shelfRow" "[J") (by decide +kernel)) rfl dX10_element_70 ?_
            refine lv_bipush (v := 60) hx hb dX10_element_73 (by decide) ?_
            refine lv_iload_n hx hb dX10_element_75 rfl (lv_at hl 2 rfl) ?_
            refine lv_imul hx hb dX10_element_76 ?_
            refine lv_topi (fun v76 e76 => ?_)
            have i76 : v76.toInt = 60 * d.toInt := by rw [e76]; exact mulcL rfl (by omega) (by omega)
            refine lv_iload_n hx hb dX10_element_77 rfl (lv_at hl 3 rfl) ?_
            refine lv_iadd hx hb dX10_element_78 ?_
            refine lv_topi (fun v78 e78 => ?_)
            have i78 : v78.toInt = v76.toInt + i0.toInt := by rw [e78]; exact fb_addI (by omega) (by omega)
            refine m_lald (w := (q 33)) hx hb hK hP 21 rfl (vp_in_iff.mpr ⟨by omega, by omega⟩) dX10_element_79 ?_
            refine lv_topl (fun v79 e79 => ?_)
            refine lv_goto (tgt := 84) hx hb dX10_element_80 (by decide) ?_
            exact W.lret (v := v79) hx hb hr (fun t ht hW => ⟨⟨_, ((upd f 0 (1 : Int32)), g, r, q), rfl, ⟨(1 : Int32), rfl, trivial⟩, by unfold mB; rw [ht]; exact hP⟩, hS.F ht⟩) hS.2.2 dX10_element_84
set_option maxHeartbeats 4000000 in
set_option maxRecDepth 100000 in
theorem c_X10_hasPlaces (l : Launch) (D : va_G) (cy : Nat → ClassId) (mo : Nat) (a : Nat → Nat) (f : Nat → Int32) (g : Nat → Int64) (r : Nat → Nat → Int32) (q : Nat → Nat → Int64) (d : Int32) (i0 : Int32) (n1 : Int32) (hD : DM cy mo a) (hI : MI f r) (hd : 0 ≤ d.toInt ∧ d.toInt < 8) : Mi l D cy mo a yX10_hasPlaces wsX10_hasPlaces ({ frames := 0, cells := 0, slots := 0, locals := 0 }) f g r q [.int d, .int i0, .int n1] (fun r0 u => u = (f, g, r, q) ∧ (Bo r0 ((0 ≤ n1.toInt ∧ 0 ≤ i0.toInt) ∧ i0.toInt + n1.toInt ≤ (r 30 d.toNatClampNeg).toInt))) := by
  refine Met.ofW (cc := cX10_hasPlaces) (maxL := 4) (ret := (some .boolean)) (by decide) rfl ?_
  intro p e s m args below meth c s₁ B hml hv
  obtain ⟨rfl, hP, hK⟩ := hv
  have hx := B.exec
  have hb := B.bytes
  have hr := B.returns
  have hts := atoms_spec (ws := wsX10_hasPlaces) B.pre
  have hin : ∀ w ∈ u_ws RX10 TX10 35, w ∈ wsX10_hasPlaces := by decide +kernel
  have hown : s.vm.findClass RX10 = some m.cls := findClass_of_methodNamed B.named
  have hlocks := B.notSynchronized
  have hS : va_S (AM mo a) s.heap s.heap [] := va_S.rf
  have hl := lv_entry ([.ref mo, .int d, .int i0, .int n1]) (n := 4) (Nat.le_of_ble_eq_true rfl)
  rw [lg_entry_eq]
  generalize (lg_sl ([.ref mo, .int d, .int i0, .int n1]) ++ List.replicate (4 - (lg_sl ([.ref mo, .int d, .int i0, .int n1])).length) Slot.unset).toArray = ls at hl ⊢
  have hl : lv_has ls 4 [(0, .ref mo), (1, .int d), (2, .int i0), (3, .int n1)] := hl
  have k_0 : (0 : Int32).toInt = 0 := by decide
  have k_1 : (1 : Int32).toInt = 1 := by decide
  refine lv_iload_n hx hb dX10_hasPlaces_0 rfl (lv_at hl 3 rfl) ?_
  refine lv_if_lt (tgt := 34) hx hb dX10_hasPlaces_1 (by decide) (fun c1 => ?_) (fun c1 => ?_)
  · skip
    have d1 := c1
    rw [fa_lt] at d1
    refine lv_iconst (v := 0) hx hb dX10_hasPlaces_34 (by decide) ?_
    exact W.zret (v := (0 : Int32)) hx hb hr (by decide) (fun t ht hW => ⟨⟨_, (f, g, r, q), rfl, ⟨rfl, Or.inr ⟨rfl, by first | omega | (rw [← e14]; omega) | (rw [← e14]; have : v24 = v14 := (by rw [e24, e14]); subst this; omega)⟩⟩, by unfold mB; rw [ht]; exact hP⟩, hS.F ht⟩) hS.2.2 dX10_hasPlaces_35
  · skip
    have d1 := c1
    rw [fa_lt] at d1
    refine lv_iload_n hx hb dX10_hasPlaces_4 rfl (lv_at hl 2 rfl) ?_
    refine lv_if_lt (tgt := 34) hx hb dX10_hasPlaces_5 (by decide) (fun c5 => ?_) (fun c5 => ?_)
    · skip
      have d5 := c5
      rw [fa_lt] at d5
      refine lv_iconst (v := 0) hx hb dX10_hasPlaces_34 (by decide) ?_
      exact W.zret (v := (0 : Int32)) hx hb hr (by decide) (fun t ht hW => ⟨⟨_, (f, g, r, q), rfl, ⟨rfl, Or.inr ⟨rfl, by first | omega | (rw [← e14]; omega) | (rw [← e14]; have : v24 = v14 := (by rw [e24, e14]); subst this; omega)⟩⟩, by unfold mB; rw [ht]; exact hP⟩, hS.F ht⟩) hS.2.2 dX10_hasPlaces_35
    · skip
      have d5 := c5
      rw [fa_lt] at d5
      refine lv_iload_n hx hb dX10_hasPlaces_8 rfl (lv_at hl 2 rfl) ?_
      refine lv_aload_n hx hb dX10_hasPlaces_9 rfl (lv_at hl 0 rfl) ?_
      refine m_get (v := .ref (a 30)) hx hb hts hin hown hK hP 30 (by decide) rfl (hts (.fieldLink RX10 64 "ShadowBenchModel" "shelfSize" "[I") (by decide +kernel)) rfl dX10_hasPlaces_10 ?_
      refine lv_iload_n hx hb dX10_hasPlaces_13 rfl (lv_at hl 1 rfl) ?_
      refine m_iald (w := (r 30)) hx hb hK hP 18 rfl (vp_in_iff.mpr ⟨by omega, by omega⟩) dX10_hasPlaces_14 ?_
      refine lv_topi (fun v14 e14 => ?_)
      have i14 : v14.toInt = ((r 30) d.toNatClampNeg).toInt := congrArg Int32.toInt e14
      have z14 := mi_s hI (x := d) (by omega) (by omega) e14
      refine lv_icmp_gt (tgt := 34) hx hb dX10_hasPlaces_15 (by decide) (fun c15 => ?_) (fun c15 => ?_)
      · skip
        have d15 := c15
        rw [fa_lt] at d15
        refine lv_iconst (v := 0) hx hb dX10_hasPlaces_34 (by decide) ?_
        exact W.zret (v := (0 : Int32)) hx hb hr (by decide) (fun t ht hW => ⟨⟨_, (f, g, r, q), rfl, ⟨rfl, Or.inr ⟨rfl, by first | omega | (rw [← e14]; omega) | (rw [← e14]; have : v24 = v14 := (by rw [e24, e14]); subst this; omega)⟩⟩, by unfold mB; rw [ht]; exact hP⟩, hS.F ht⟩) hS.2.2 dX10_hasPlaces_35
      · skip
        have d15 := c15
        rw [fa_lt] at d15
        refine lv_iload_n hx hb dX10_hasPlaces_18 rfl (lv_at hl 3 rfl) ?_
        refine lv_aload_n hx hb dX10_hasPlaces_19 rfl (lv_at hl 0 rfl) ?_
        refine m_get (v := .ref (a 30)) hx hb hts hin hown hK hP 30 (by decide) rfl (hts (.fieldLink RX10 64 "ShadowBenchModel" "shelfSize" "[I") (by decide +kernel)) rfl dX10_hasPlaces_20 ?_
        refine lv_iload_n hx hb dX10_hasPlaces_23 rfl (lv_at hl 1 rfl) ?_
        refine m_iald (w := (r 30)) hx hb hK hP 18 rfl (vp_in_iff.mpr ⟨by omega, by omega⟩) dX10_hasPlaces_24 ?_
        refine lv_topi (fun v24 e24 => ?_)
        have i24 : v24.toInt = ((r 30) d.toNatClampNeg).toInt := congrArg Int32.toInt e24
        have z24 := mi_s hI (x := d) (by omega) (by omega) e24
        refine lv_iload_n hx hb dX10_hasPlaces_25 rfl (lv_at hl 2 rfl) ?_
        refine lv_isub hx hb dX10_hasPlaces_26 ?_
        refine lv_topi (fun v26 e26 => ?_)
        have i26 : v26.toInt = v24.toInt - i0.toInt := by rw [e26]; exact fb_subI (by omega) (by omega)
        refine lv_icmp_gt (tgt := 34) hx hb dX10_hasPlaces_27 (by decide) (fun c27 => ?_) (fun c27 => ?_)
        · skip
          have d27 := c27
          rw [fa_lt] at d27
          refine lv_iconst (v := 0) hx hb dX10_hasPlaces_34 (by decide) ?_
          exact W.zret (v := (0 : Int32)) hx hb hr (by decide) (fun t ht hW => ⟨⟨_, (f, g, r, q), rfl, ⟨rfl, Or.inr ⟨rfl, by first | omega | (rw [← e14]; omega) | (rw [← e14]; have : v24 = v14 := (by rw [e24, e14]); subst this; omega)⟩⟩, by unfold mB; rw [ht]; exact hP⟩, hS.F ht⟩) hS.2.2 dX10_hasPlaces_35
        · skip
          have d27 := c27
          rw [fa_lt] at d27
          refine lv_iconst (v := 1) hx hb dX10_hasPlaces_30 (by decide) ?_
          refine lv_goto (tgt := 35) hx hb dX10_hasPlaces_31 (by decide) ?_
          exact W.zret (v := (1 : Int32)) hx hb hr (by decide) (fun t ht hW => ⟨⟨_, (f, g, r, q), rfl, ⟨rfl, Or.inl ⟨rfl, by rw [← e14]; have : v24 = v14 := (by rw [e24, e14]); subst this; omega⟩⟩, by unfold mB; rw [ht]; exact hP⟩, hS.F ht⟩) hS.2.2 dX10_hasPlaces_35
theorem ec_q___33_34 (f : Nat → Nat → Int64)  : f = (va_up (va_up f 33 (f 33)) 34 (f 34)) := by
  funext j9
  simp only [va_up]
  (repeat' split) <;> simp_all
theorem ec_q_34_33__33_34 (f : Nat → Nat → Int64) (v34 : Nat → Int64) (v33 : Nat → Int64) : (va_up (va_up f 34 v34) 33 v33) = (va_up (va_up f 33 v33) 34 v34) := by
  funext j9
  simp only [va_up]
  (repeat' split) <;> simp_all
theorem ec_q_34__34_33 (f : Nat → Nat → Int64) (v34 : Nat → Int64) : (va_up f 34 v34) = (va_up (va_up f 34 v34) 33 (f 33)) := by
  funext j9
  simp only [va_up]
  (repeat' split) <;> simp_all
theorem ec_q_34__34 (f : Nat → Nat → Int64) (v34 : Nat → Int64) : (va_up f 34 v34) = (va_up f 34 v34) := by
  funext j9
  simp only [va_up]
  (repeat' split) <;> simp_all
theorem ec_q___34 (f : Nat → Nat → Int64)  : f = (va_up f 34 (f 34)) := by
  funext j9
  simp only [va_up]
  (repeat' split) <;> simp_all
set_option maxHeartbeats 4000000 in
set_option maxRecDepth 100000 in
theorem c_X10_copy (l : Launch) (D : va_G) (cy : Nat → ClassId) (mo : Nat) (a : Nat → Nat) (f : Nat → Int32) (g : Nat → Int64) (r : Nat → Nat → Int32) (q : Nat → Nat → Int64) (d : Int32) (i0 : Int32) (e0 : Int32) (j0 : Int32) (n1 : Int32) (hD : DM cy mo a) (hI : MI f r) : Mi l D cy mo a yX10_copy wsX10_copy ({ frames := 1, cells := 0, slots := 0, locals := 23 }) f g r q [.int d, .int i0, .int e0, .int j0, .int n1] (fun r0 u => ∃ (sr : Nat → Int64), ∃ (bt : Nat → Int64), u = ((upd f 0 (0 : Int32)), g, r, (va_up (va_up q 33 sr) 34 bt)) ∧ (True)) := by
  refine Met.ofW (cc := cX10_copy) (maxL := 7) (ret := (some .int)) (by decide) rfl ?_
  intro p e s m args below meth c s₁ B hml hv
  obtain ⟨rfl, hP, hK⟩ := hv
  have hx := B.exec
  have hb := B.bytes
  have hr := B.returns
  have hts := atoms_spec (ws := wsX10_copy) B.pre
  have hin : ∀ w ∈ u_ws RX10 TX10 35, w ∈ wsX10_copy := by decide +kernel
  have hown : s.vm.findClass RX10 = some m.cls := findClass_of_methodNamed B.named
  have hlocks := B.notSynchronized
  have hS : va_S (AM mo a) s.heap s.heap [] := va_S.rf
  have hl := lv_entry ([.ref mo, .int d, .int i0, .int e0, .int j0, .int n1]) (n := 7) (Nat.le_of_ble_eq_true rfl)
  rw [lg_entry_eq]
  generalize (lg_sl ([.ref mo, .int d, .int i0, .int e0, .int j0, .int n1]) ++ List.replicate (7 - (lg_sl ([.ref mo, .int d, .int i0, .int e0, .int j0, .int n1])).length) Slot.unset).toArray = ls at hl ⊢
  have hl : lv_has ls 7 [(0, .ref mo), (1, .int d), (2, .int i0), (3, .int e0), (4, .int j0), (5, .int n1)] := hl
  have k_m13 : (-13 : Int32).toInt = -13 := by decide
  have k_m12 : (-12 : Int32).toInt = -12 := by decide
  have k_m11 : (-11 : Int32).toInt = -11 := by decide
  have k_m1 : (-1 : Int32).toInt = -1 := by decide
  have k_0 : (0 : Int32).toInt = 0 := by decide
  have k_3 : (3 : Int32).toInt = 3 := by decide
  have k_60 : (60 : Int32).toInt = 60 := by decide
  refine lv_aload_n hx hb dX10_copy_0 rfl (lv_at hl 0 rfl) ?_
  refine lv_iconst (v := 0) hx hb dX10_copy_1 (by decide) ?_
  refine m_put (v := .int (0 : Int32)) (ty := .int) hx hb hts hin hown hK hP hD hS 0 (by decide) rfl (hts (.fieldLink RX10 79 "ShadowBenchModel" "thrown" "I") (by decide +kernel)) rfl (by decide +kernel) rfl rfl (upd f 0 (0 : Int32)) g rfl dX10_copy_2 (fun H locs hP hS => ?_)
  refine lv_iload_n hx hb dX10_copy_5 rfl (lv_at hl 1 rfl) ?_
  refine m_pu (As := [.int d]) (rest := []) ⟨hx, hb, hml, hown, hts⟩ (c_X10_isShelf l d ) (va_cwS 1 hts gX10_copy_X10_isShelf rfl rfl rfl (by decide +kernel) ⟨Nat.le_of_ble_eq_true rfl, Nat.le_of_ble_eq_true rfl⟩) hP rfl hl.1 rfl (Nat.le_of_ble_eq_true rfl) dX10_copy_6 ⟨Nat.le_of_ble_eq_true rfl, Nat.le_of_ble_eq_true rfl⟩ hS (fun r6 H locs q6 hP hS => ?_)
  refine lv_if_eq (tgt := 19) hx hb dX10_copy_9 (by decide) (fun c9 => ?_) (fun c9 => ?_)
  · skip
    have b9 := bo_f q6 c9
    refine lv_iconst (v := (-1)) hx hb dX10_copy_19 (by decide) ?_
    have hP := wm_eq rfl rfl rfl (ec_q___33_34 q ) hP
    exact W.iret (v := ((-1) : Int32)) hx hb hr (fun t ht hW => ⟨⟨_, ((upd f 0 (0 : Int32)), g, r, (va_up (va_up q 33 (q 33)) 34 (q 34))), rfl, ⟨(q 33), (q 34), rfl, trivial⟩, by unfold mB; rw [ht]; exact hP⟩, hS.F ht⟩) hS.2.2 dX10_copy_20
  · skip
    have b9 := bo_t q6 c9
    refine lv_iload_n hx hb dX10_copy_12 rfl (lv_at hl 3 rfl) ?_
    refine m_pu (As := [.int e0]) (rest := []) ⟨hx, hb, hml, hown, hts⟩ (c_X10_isShelf l e0 ) (va_cwS 1 hts gX10_copy_X10_isShelf rfl rfl rfl (by decide +kernel) ⟨Nat.le_of_ble_eq_true rfl, Nat.le_of_ble_eq_true rfl⟩) hP rfl hl.1 rfl (Nat.le_of_ble_eq_true rfl) dX10_copy_13 ⟨Nat.le_of_ble_eq_true rfl, Nat.le_of_ble_eq_true rfl⟩ hS (fun r13 H locs q13 hP hS => ?_)
    refine lv_if_ne (tgt := 21) hx hb dX10_copy_16 (by decide) (fun c16 => ?_) (fun c16 => ?_)
    · skip
      have b16 := bo_t q13 c16
      refine lv_aload_n hx hb dX10_copy_21 rfl (lv_at hl 0 rfl) ?_
      refine m_get (v := .ref (a 29)) hx hb hts hin hown hK hP 29 (by decide) rfl (hts (.fieldLink RX10 61 "ShadowBenchModel" "shelf" "[I") (by decide +kernel)) rfl dX10_copy_22 ?_
      refine lv_iload_n hx hb dX10_copy_25 rfl (lv_at hl 1 rfl) ?_
      refine m_iald (w := (r 29)) hx hb hK hP 17 rfl (vp_in_iff.mpr ⟨by omega, by omega⟩) dX10_copy_26 ?_
      refine lv_topi (fun v26 e26 => ?_)
      have i26 : v26.toInt = ((r 29) d.toNatClampNeg).toInt := congrArg Int32.toInt e26
      refine lv_if_eq (tgt := 39) hx hb dX10_copy_27 (by decide) (fun c27 => ?_) (fun c27 => ?_)
      · skip
        have d27 := c27
        rw [fa_eq] at d27
        refine lv_bipush (v := (-11)) hx hb dX10_copy_39 (by decide) ?_
        have hP := wm_eq rfl rfl rfl (ec_q___33_34 q ) hP
        exact W.iret (v := ((-11) : Int32)) hx hb hr (fun t ht hW => ⟨⟨_, ((upd f 0 (0 : Int32)), g, r, (va_up (va_up q 33 (q 33)) 34 (q 34))), rfl, ⟨(q 33), (q 34), rfl, trivial⟩, by unfold mB; rw [ht]; exact hP⟩, hS.F ht⟩) hS.2.2 dX10_copy_41
      · skip
        have d27 := c27
        rw [fa_eq] at d27
        refine lv_aload_n hx hb dX10_copy_30 rfl (lv_at hl 0 rfl) ?_
        refine m_get (v := .ref (a 29)) hx hb hts hin hown hK hP 29 (by decide) rfl (hts (.fieldLink RX10 61 "ShadowBenchModel" "shelf" "[I") (by decide +kernel)) rfl dX10_copy_31 ?_
        refine lv_iload_n hx hb dX10_copy_34 rfl (lv_at hl 3 rfl) ?_
        refine m_iald (w := (r 29)) hx hb hK hP 17 rfl (vp_in_iff.mpr ⟨by omega, by omega⟩) dX10_copy_35 ?_
        refine lv_topi (fun v35 e35 => ?_)
        have i35 : v35.toInt = ((r 29) e0.toNatClampNeg).toInt := congrArg Int32.toInt e35
        refine lv_if_ne (tgt := 42) hx hb dX10_copy_36 (by decide) (fun c36 => ?_) (fun c36 => ?_)
        · skip
          have d36 := c36
          rw [fa_eq] at d36
          refine lv_aload_n hx hb dX10_copy_42 rfl (lv_at hl 0 rfl) ?_
          refine m_get (v := .ref (a 29)) hx hb hts hin hown hK hP 29 (by decide) rfl (hts (.fieldLink RX10 61 "ShadowBenchModel" "shelf" "[I") (by decide +kernel)) rfl dX10_copy_43 ?_
          refine lv_iload_n hx hb dX10_copy_46 rfl (lv_at hl 1 rfl) ?_
          refine m_iald (w := (r 29)) hx hb hK hP 17 rfl (vp_in_iff.mpr ⟨by omega, by omega⟩) dX10_copy_47 ?_
          refine lv_topi (fun v47 e47 => ?_)
          have i47 : v47.toInt = ((r 29) d.toNatClampNeg).toInt := congrArg Int32.toInt e47
          refine lv_iconst (v := 3) hx hb dX10_copy_48 (by decide) ?_
          refine lv_icmp_lt (tgt := 67) hx hb dX10_copy_49 (by decide) (fun c49 => ?_) (fun c49 => ?_)
          · skip
            have d49 := c49
            rw [fa_lt] at d49
            refine lv_bipush (v := (-12)) hx hb dX10_copy_67 (by decide) ?_
            have hP := wm_eq rfl rfl rfl (ec_q___33_34 q ) hP
            exact W.iret (v := ((-12) : Int32)) hx hb hr (fun t ht hW => ⟨⟨_, ((upd f 0 (0 : Int32)), g, r, (va_up (va_up q 33 (q 33)) 34 (q 34))), rfl, ⟨(q 33), (q 34), rfl, trivial⟩, by unfold mB; rw [ht]; exact hP⟩, hS.F ht⟩) hS.2.2 dX10_copy_69
          · skip
            have d49 := c49
            rw [fa_lt] at d49
            refine lv_aload_n hx hb dX10_copy_52 rfl (lv_at hl 0 rfl) ?_
            refine m_get (v := .ref (a 29)) hx hb hts hin hown hK hP 29 (by decide) rfl (hts (.fieldLink RX10 61 "ShadowBenchModel" "shelf" "[I") (by decide +kernel)) rfl dX10_copy_53 ?_
            refine lv_iload_n hx hb dX10_copy_56 rfl (lv_at hl 1 rfl) ?_
            refine m_iald (w := (r 29)) hx hb hK hP 17 rfl (vp_in_iff.mpr ⟨by omega, by omega⟩) dX10_copy_57 ?_
            refine lv_topi (fun v57 e57 => ?_)
            have i57 : v57.toInt = ((r 29) d.toNatClampNeg).toInt := congrArg Int32.toInt e57
            refine lv_aload_n hx hb dX10_copy_58 rfl (lv_at hl 0 rfl) ?_
            refine m_get (v := .ref (a 29)) hx hb hts hin hown hK hP 29 (by decide) rfl (hts (.fieldLink RX10 61 "ShadowBenchModel" "shelf" "[I") (by decide +kernel)) rfl dX10_copy_59 ?_
            refine lv_iload_n hx hb dX10_copy_62 rfl (lv_at hl 3 rfl) ?_
            refine m_iald (w := (r 29)) hx hb hK hP 17 rfl (vp_in_iff.mpr ⟨by omega, by omega⟩) dX10_copy_63 ?_
            refine lv_topi (fun v63 e63 => ?_)
            have i63 : v63.toInt = ((r 29) e0.toNatClampNeg).toInt := congrArg Int32.toInt e63
            refine lv_icmp_eq (tgt := 70) hx hb dX10_copy_64 (by decide) (fun c64 => ?_) (fun c64 => ?_)
            · skip
              have d64 := c64
              rw [fa_eq] at d64
              refine lv_aload_n hx hb dX10_copy_70 rfl (lv_at hl 0 rfl) ?_
              refine lv_iload_n hx hb dX10_copy_71 rfl (lv_at hl 1 rfl) ?_
              refine lv_iload_n hx hb dX10_copy_72 rfl (lv_at hl 2 rfl) ?_
              refine lv_iload hx hb dX10_copy_73 (lv_at hl 5 rfl) ?_
              refine m_calli (As := [.int d, .int i0, .int n1]) (rest := []) ⟨hx, hb, hml, hown, hts⟩ (c_X10_hasPlaces l D cy mo a (upd f 0 (0 : Int32)) g r q d i0 n1 hD hI (show 0 ≤ d.toInt ∧ d.toInt < 8 by omega)) (cwV 3 hts gX10_copy_X10_hasPlaces rfl rfl rfl (by decide +kernel) ⟨Nat.le_of_ble_eq_true rfl, Nat.le_of_ble_eq_true rfl⟩) hK hP rfl hl.1 rfl (Nat.le_of_ble_eq_true rfl) dX10_copy_75 ⟨Nat.le_of_ble_eq_true rfl, Nat.le_of_ble_eq_true rfl⟩ hS (fun r75 u H locs q75 hP hS => ?_)
              obtain ⟨rfl, q75⟩ := q75
              have hP : va_P D vwCl (WM cy mo a (upd f 0 (0 : Int32)) g r q) H := hP
              have q75 : Bo r75 ((0 ≤ n1.toInt ∧ 0 ≤ i0.toInt) ∧ i0.toInt + n1.toInt ≤ ((r 30) d.toNatClampNeg).toInt) := q75
              refine lv_if_eq (tgt := 93) hx hb dX10_copy_78 (by decide) (fun c78 => ?_) (fun c78 => ?_)
              · skip
                have b78 := bo_f q75 c78
                refine lv_bipush (v := (-13)) hx hb dX10_copy_93 (by decide) ?_
                have hP := wm_eq rfl rfl rfl (ec_q___33_34 q ) hP
                exact W.iret (v := ((-13) : Int32)) hx hb hr (fun t ht hW => ⟨⟨_, ((upd f 0 (0 : Int32)), g, r, (va_up (va_up q 33 (q 33)) 34 (q 34))), rfl, ⟨(q 33), (q 34), rfl, trivial⟩, by unfold mB; rw [ht]; exact hP⟩, hS.F ht⟩) hS.2.2 dX10_copy_95
              · skip
                have b78 := bo_t q75 c78
                refine lv_aload_n hx hb dX10_copy_81 rfl (lv_at hl 0 rfl) ?_
                refine lv_iload_n hx hb dX10_copy_82 rfl (lv_at hl 3 rfl) ?_
                refine lv_iload hx hb dX10_copy_83 (lv_at hl 4 rfl) ?_
                refine lv_iload hx hb dX10_copy_85 (lv_at hl 5 rfl) ?_
                refine m_calli (As := [.int e0, .int j0, .int n1]) (rest := []) ⟨hx, hb, hml, hown, hts⟩ (c_X10_hasPlaces l D cy mo a (upd f 0 (0 : Int32)) g r q e0 j0 n1 hD hI (show 0 ≤ e0.toInt ∧ e0.toInt < 8 by omega)) (cwV 3 hts gX10_copy_X10_hasPlaces rfl rfl rfl (by decide +kernel) ⟨Nat.le_of_ble_eq_true rfl, Nat.le_of_ble_eq_true rfl⟩) hK hP rfl hl.1 rfl (Nat.le_of_ble_eq_true rfl) dX10_copy_87 ⟨Nat.le_of_ble_eq_true rfl, Nat.le_of_ble_eq_true rfl⟩ hS (fun r87 u H locs q87 hP hS => ?_)
                obtain ⟨rfl, q87⟩ := q87
                have hP : va_P D vwCl (WM cy mo a (upd f 0 (0 : Int32)) g r q) H := hP
                have q87 : Bo r87 ((0 ≤ n1.toInt ∧ 0 ≤ j0.toInt) ∧ j0.toInt + n1.toInt ≤ ((r 30) e0.toNatClampNeg).toInt) := q87
                refine lv_if_ne (tgt := 96) hx hb dX10_copy_90 (by decide) (fun c90 => ?_) (fun c90 => ?_)
                · skip
                  have b90 := bo_t q87 c90
                  have z1 := hI.2.2.2.2 d (by omega) (by omega)
                  have z2 := hI.2.2.2.2 e0 (by omega) (by omega)
                  refine lv_iconst (v := 0) hx hb dX10_copy_96 (by decide) ?_
                  refine lv_istore (lv' := [(6, .int (0 : Int32)), (0, .ref mo), (1, .int d), (2, .int i0), (3, .int e0), (4, .int j0), (5, .int n1)]) hx hb dX10_copy_97 hl (by decide) rfl (fun ls hl => ?_)
                  have loop_99 : ∀ (n : Nat) (i : Nat) (b1 : Nat → Int64), (i ≤ 60) → 60 - i < n → ∀ (H : Heap) (locs : List Loc), va_P D vwCl (WM cy mo a (upd f 0 (0 : Int32)) g r (va_up q 34 b1)) H → va_S (AM mo a) s.heap H locs → ∀ (ls : Array Slot), lv_has ls 7 [(6, .int (nI i)), (0, .ref mo), (1, .int d), (2, .int i0), (3, .int e0), (4, .int j0), (5, .int n1)] → W p l e (headSpec wsX10_copy ({ frames := 1, cells := 0, slots := 0, locals := 23 })).room s m #[Value.ref mo, Value.int d, Value.int i0, Value.int e0, Value.int j0, Value.int n1] below meth c H locs 0 0 (MQ below (va_Qi (fun r0 u => ∃ (sr : Nat → Int64), ∃ (bt : Nat → Int64), u = ((upd f 0 (0 : Int32)), g, r, (va_up (va_up q 33 sr) 34 bt)) ∧ (True)) (mB D cy mo a) (AM mo a)) #[Value.ref mo, Value.int d, Value.int i0, Value.int e0, Value.int j0, Value.int n1] s 0 0 (AM mo a)) (F0 m 99 ls []) := by
                    intro n
                    induction n with
                    | zero => intro i b1 j99_0 hn; exact absurd hn (Nat.not_lt_zero _)
                    | succ n ih_99 =>
                      intro i b1 j99_0 hn_99 H locs hP hS ls hl
                      have ii : (nI i).toInt = (i : Int) := nI_toInt (by omega)
                      refine lv_iload hx hb dX10_copy_99 (lv_at hl 0 rfl) ?_
                      refine lv_iload hx hb dX10_copy_101 (lv_at hl 6 rfl) ?_
                      refine lv_icmp_ge (tgt := 133) hx hb dX10_copy_103 (by decide) (fun c103 => ?_) (fun c103 => ?_)
                      · skip
                        have d103 := c103
                        rw [fa_le] at d103
                        refine lv_iconst (v := 0) hx hb dX10_copy_133 (by decide) ?_
                        refine lv_istore (lv' := [(6, .int (0 : Int32)), (0, .ref mo), (1, .int d), (2, .int i0), (3, .int e0), (4, .int j0), (5, .int n1)]) hx hb dX10_copy_134 hl (by decide) rfl (fun ls hl => ?_)
                        have loop_136 : ∀ (n : Nat) (i2 : Nat) (s1 : Nat → Int64), (i2 ≤ 60) → 60 - i2 < n → ∀ (H : Heap) (locs : List Loc), va_P D vwCl (WM cy mo a (upd f 0 (0 : Int32)) g r (va_up (va_up q 34 b1) 33 s1)) H → va_S (AM mo a) s.heap H locs → ∀ (ls : Array Slot), lv_has ls 7 [(6, .int (nI i2)), (0, .ref mo), (1, .int d), (2, .int i0), (3, .int e0), (4, .int j0), (5, .int n1)] → W p l e (headSpec wsX10_copy ({ frames := 1, cells := 0, slots := 0, locals := 23 })).room s m #[Value.ref mo, Value.int d, Value.int i0, Value.int e0, Value.int j0, Value.int n1] below meth c H locs 0 0 (MQ below (va_Qi (fun r0 u => ∃ (sr : Nat → Int64), ∃ (bt : Nat → Int64), u = ((upd f 0 (0 : Int32)), g, r, (va_up (va_up q 33 sr) 34 bt)) ∧ (True)) (mB D cy mo a) (AM mo a)) #[Value.ref mo, Value.int d, Value.int i0, Value.int e0, Value.int j0, Value.int n1] s 0 0 (AM mo a)) (F0 m 136 ls []) := by
                          intro n
                          induction n with
                          | zero => intro i2 s1 j136_0 hn; exact absurd hn (Nat.not_lt_zero _)
                          | succ n ih_136 =>
                            intro i2 s1 j136_0 hn_136 H locs hP hS ls hl
                            have ii2 : (nI i2).toInt = (i2 : Int) := nI_toInt (by omega)
                            refine lv_iload hx hb dX10_copy_136 (lv_at hl 0 rfl) ?_
                            refine lv_iload hx hb dX10_copy_138 (lv_at hl 6 rfl) ?_
                            refine lv_icmp_ge (tgt := 171) hx hb dX10_copy_140 (by decide) (fun c140 => ?_) (fun c140 => ?_)
                            · skip
                              have d140 := c140
                              rw [fa_le] at d140
                              refine lv_iload hx hb dX10_copy_171 (lv_at hl 6 rfl) ?_
                              have hP := wm_eq rfl rfl rfl (ec_q_34_33__33_34 q b1 s1) hP
                              exact W.iret (v := n1) hx hb hr (fun t ht hW => ⟨⟨_, ((upd f 0 (0 : Int32)), g, r, (va_up (va_up q 33 s1) 34 b1)), rfl, ⟨s1, b1, rfl, trivial⟩, by unfold mB; rw [ht]; exact hP⟩, hS.F ht⟩) hS.2.2 dX10_copy_173
                            · skip
                              have d140 := c140
                              rw [fa_le] at d140
                              refine lv_aload_n hx hb dX10_copy_143 rfl (lv_at hl 1 rfl) ?_
                              refine m_get (v := .ref (a 33)) hx hb hts hin hown hK hP 33 (by decide) rfl (hts (.fieldLink RX10 73 "ShadowBenchModel" "shelfRow" "[J") (by decide +kernel)) rfl dX10_copy_144 ?_
                              refine lv_bipush (v := 60) hx hb dX10_copy_147 (by decide) ?_
                              refine lv_iload_n hx hb dX10_copy_149 rfl (lv_at hl 4 rfl) ?_
                              refine lv_imul hx hb dX10_copy_150 ?_
                              refine lv_topi (fun v150 e150 => ?_)
                              have i150 : v150.toInt = 60 * e0.toInt := by rw [e150]; exact mulcL rfl (by omega) (by omega)
                              refine lv_iload hx hb dX10_copy_151 (lv_at hl 5 rfl) ?_
                              refine lv_iadd hx hb dX10_copy_153 ?_
                              refine lv_topi (fun v153 e153 => ?_)
                              have i153 : v153.toInt = v150.toInt + j0.toInt := by rw [e153]; exact fb_addI (by omega) (by omega)
                              refine lv_iload hx hb dX10_copy_154 (lv_at hl 0 rfl) ?_
                              refine lv_iadd hx hb dX10_copy_156 ?_
                              refine lv_topi (fun v156 e156 => ?_)
                              have i156 : v156.toInt = v153.toInt + (nI i2).toInt := by rw [e156]; exact fb_addI (by omega) (by omega)
                              refine lv_aload_n hx hb dX10_copy_157 rfl (lv_at hl 1 rfl) ?_
                              refine m_get (v := .ref (a 34)) hx hb hts hin hown hK hP 34 (by decide) rfl (hts (.fieldLink RX10 76 "ShadowBenchModel" "between" "[J") (by decide +kernel)) rfl dX10_copy_158 ?_
                              refine lv_iload hx hb dX10_copy_161 (lv_at hl 0 rfl) ?_
                              refine m_lald (w := b1) hx hb hK hP 22 rfl (vp_in_iff.mpr ⟨by omega, by omega⟩) dX10_copy_163 ?_
                              refine lv_topl (fun v163 e163 => ?_)
                              refine m_last (w := s1) hx hb hK hP hD hS 21 rfl (vp_in_iff.mpr ⟨by omega, by omega⟩) (va_up (va_up q 34 b1) 33 (vp_updL s1 v156.toNatClampNeg v163)) rfl dX10_copy_164 (fun H locs hP hS => ?_)
                              refine lv_iinc (v := (nI (i2 + 1))) (lv' := [(6, .int (nI (i2 + 1))), (0, .ref mo), (1, .int d), (2, .int i0), (3, .int e0), (4, .int j0), (5, .int n1)]) hx hb dX10_copy_165 hl (k := 0) rfl (nI_1 _) (by decide) rfl (fun ls hl => ?_)
                              refine lv_goto (tgt := 136) hx hb dX10_copy_168 (by decide) ?_
                              exact ih_136 (i2 + 1) (vp_updL s1 v156.toNatClampNeg v163) (by omega) (by omega) _ _ hP hS ls (lv_sub hl [0, 1, 2, 3, 4, 5, 6] rfl)
                        have hP := wm_eq rfl rfl rfl (ec_q_34__34_33 q b1) hP
                        exact loop_136 (60 + 1) 0 (q 33) (by omega) (by omega) _ _ hP hS ls (lv_sub hl [0, 1, 2, 3, 4, 5, 6] rfl)
                      · skip
                        have d103 := c103
                        rw [fa_le] at d103
                        refine lv_aload_n hx hb dX10_copy_106 rfl (lv_at hl 1 rfl) ?_
                        refine m_get (v := .ref (a 34)) hx hb hts hin hown hK hP 34 (by decide) rfl (hts (.fieldLink RX10 76 "ShadowBenchModel" "between" "[J") (by decide +kernel)) rfl dX10_copy_107 ?_
                        refine lv_iload hx hb dX10_copy_110 (lv_at hl 0 rfl) ?_
                        refine lv_aload_n hx hb dX10_copy_112 rfl (lv_at hl 1 rfl) ?_
                        refine m_get (v := .ref (a 33)) hx hb hts hin hown hK hP 33 (by decide) rfl (hts (.fieldLink RX10 73 "ShadowBenchModel" "shelfRow" "[J") (by decide +kernel)) rfl dX10_copy_113 ?_
                        refine lv_bipush (v := 60) hx hb dX10_copy_116 (by decide) ?_
                        refine lv_iload_n hx hb dX10_copy_118 rfl (lv_at hl 2 rfl) ?_
                        refine lv_imul hx hb dX10_copy_119 ?_
                        refine lv_topi (fun v119 e119 => ?_)
                        have i119 : v119.toInt = 60 * d.toInt := by rw [e119]; exact mulcL rfl (by omega) (by omega)
                        refine lv_iload_n hx hb dX10_copy_120 rfl (lv_at hl 3 rfl) ?_
                        refine lv_iadd hx hb dX10_copy_121 ?_
                        refine lv_topi (fun v121 e121 => ?_)
                        have i121 : v121.toInt = v119.toInt + i0.toInt := by rw [e121]; exact fb_addI (by omega) (by omega)
                        refine lv_iload hx hb dX10_copy_122 (lv_at hl 0 rfl) ?_
                        refine lv_iadd hx hb dX10_copy_124 ?_
                        refine lv_topi (fun v124 e124 => ?_)
                        have i124 : v124.toInt = v121.toInt + (nI i).toInt := by rw [e124]; exact fb_addI (by omega) (by omega)
                        refine m_lald (w := (q 33)) hx hb hK hP 21 rfl (vp_in_iff.mpr ⟨by omega, by omega⟩) dX10_copy_125 ?_
                        refine lv_topl (fun v125 e125 => ?_)
                        refine m_last (w := b1) hx hb hK hP hD hS 22 rfl (vp_in_iff.mpr ⟨by omega, by omega⟩) (va_up q 34 ((vp_updL b1 (nI i).toNatClampNeg v125))) rfl dX10_copy_126 (fun H locs hP hS => ?_)
                        refine lv_iinc (v := (nI (i + 1))) (lv' := [(6, .int (nI (i + 1))), (0, .ref mo), (1, .int d), (2, .int i0), (3, .int e0), (4, .int j0), (5, .int n1)]) hx hb dX10_copy_127 hl (k := 0) rfl (nI_1 _) (by decide) rfl (fun ls hl => ?_)
                        refine lv_goto (tgt := 99) hx hb dX10_copy_130 (by decide) ?_
                        have hP := wm_eq rfl rfl rfl (ec_q_34__34 q ((vp_updL b1 (nI i).toNatClampNeg v125))) hP
                        exact ih_99 (i + 1) (((vp_updL b1 (nI i).toNatClampNeg v125))) (by omega) (by omega) _ _ hP hS ls (lv_sub hl [0, 1, 2, 3, 4, 5, 6] rfl)
                  have hP := wm_eq rfl rfl rfl (ec_q___34 q ) hP
                  exact loop_99 (60 + 1) 0 (q 34) (by omega) (by omega) _ _ hP hS ls (lv_sub hl [0, 1, 2, 3, 4, 5, 6] rfl)
                · skip
                  have b90 := bo_f q87 c90
                  refine lv_bipush (v := (-13)) hx hb dX10_copy_93 (by decide) ?_
                  have hP := wm_eq rfl rfl rfl (ec_q___33_34 q ) hP
                  exact W.iret (v := ((-13) : Int32)) hx hb hr (fun t ht hW => ⟨⟨_, ((upd f 0 (0 : Int32)), g, r, (va_up (va_up q 33 (q 33)) 34 (q 34))), rfl, ⟨(q 33), (q 34), rfl, trivial⟩, by unfold mB; rw [ht]; exact hP⟩, hS.F ht⟩) hS.2.2 dX10_copy_95
            · skip
              have d64 := c64
              rw [fa_eq] at d64
              refine lv_bipush (v := (-12)) hx hb dX10_copy_67 (by decide) ?_
              have hP := wm_eq rfl rfl rfl (ec_q___33_34 q ) hP
              exact W.iret (v := ((-12) : Int32)) hx hb hr (fun t ht hW => ⟨⟨_, ((upd f 0 (0 : Int32)), g, r, (va_up (va_up q 33 (q 33)) 34 (q 34))), rfl, ⟨(q 33), (q 34), rfl, trivial⟩, by unfold mB; rw [ht]; exact hP⟩, hS.F ht⟩) hS.2.2 dX10_copy_69
        · skip
          have d36 := c36
          rw [fa_eq] at d36
          refine lv_bipush (v := (-11)) hx hb dX10_copy_39 (by decide) ?_
          have hP := wm_eq rfl rfl rfl (ec_q___33_34 q ) hP
          exact W.iret (v := ((-11) : Int32)) hx hb hr (fun t ht hW => ⟨⟨_, ((upd f 0 (0 : Int32)), g, r, (va_up (va_up q 33 (q 33)) 34 (q 34))), rfl, ⟨(q 33), (q 34), rfl, trivial⟩, by unfold mB; rw [ht]; exact hP⟩, hS.F ht⟩) hS.2.2 dX10_copy_41
    · skip
      have b16 := bo_f q13 c16
      refine lv_iconst (v := (-1)) hx hb dX10_copy_19 (by decide) ?_
      have hP := wm_eq rfl rfl rfl (ec_q___33_34 q ) hP
      exact W.iret (v := ((-1) : Int32)) hx hb hr (fun t ht hW => ⟨⟨_, ((upd f 0 (0 : Int32)), g, r, (va_up (va_up q 33 (q 33)) 34 (q 34))), rfl, ⟨(q 33), (q 34), rfl, trivial⟩, by unfold mB; rw [ht]; exact hP⟩, hS.F ht⟩) hS.2.2 dX10_copy_20
set_option maxHeartbeats 4000000 in
set_option maxRecDepth 100000 in
theorem c_X10_layer (l : Launch) (D : va_G) (cy : Nat → ClassId) (mo : Nat) (a : Nat → Nat) (f : Nat → Int32) (g : Nat → Int64) (r : Nat → Nat → Int32) (q : Nat → Nat → Int64) (d : Int32) (k0 : Int32) (hD : DM cy mo a) (hI : MI f r) : Ml l D cy mo a yX10_layer wsX10_layer ({ frames := 1, cells := 0, slots := 0, locals := 25 }) f g r q [.int d, .int k0] (fun r0 u => u = ((upd f 0 (0 : Int32)), g, r, q) ∧ (True)) := by
  refine Met.ofW (cc := cX10_layer) (maxL := 8) (ret := (some .long)) (by decide) rfl ?_
  intro p e s m args below meth c s₁ B hml hv
  obtain ⟨rfl, hP, hK⟩ := hv
  have hx := B.exec
  have hb := B.bytes
  have hr := B.returns
  have hts := atoms_spec (ws := wsX10_layer) B.pre
  have hin : ∀ w ∈ u_ws RX10 TX10 35, w ∈ wsX10_layer := by decide +kernel
  have hown : s.vm.findClass RX10 = some m.cls := findClass_of_methodNamed B.named
  have hlocks := B.notSynchronized
  have hS : va_S (AM mo a) s.heap s.heap [] := va_S.rf
  have hl := lv_entry ([.ref mo, .int d, .int k0]) (n := 8) (Nat.le_of_ble_eq_true rfl)
  rw [lg_entry_eq]
  generalize (lg_sl ([.ref mo, .int d, .int k0]) ++ List.replicate (8 - (lg_sl ([.ref mo, .int d, .int k0])).length) Slot.unset).toArray = ls at hl ⊢
  have hl : lv_has ls 8 [(0, .ref mo), (1, .int d), (2, .int k0)] := hl
  have k_0 : (0 : Int32).toInt = 0 := by decide
  have k_3 : (3 : Int32).toInt = 3 := by decide
  have k_36 : (36 : Int32).toInt = 36 := by decide
  have k_60 : (60 : Int32).toInt = 60 := by decide
  have k_m13L : (-13 : Int64).toInt = -13 := by decide
  have k_m12L : (-12 : Int64).toInt = -12 := by decide
  have k_m11L : (-11 : Int64).toInt = -11 := by decide
  have k_m2L : (-2 : Int64).toInt = -2 := by decide
  have k_m1L : (-1 : Int64).toInt = -1 := by decide
  have k_0L : (0 : Int64).toInt = 0 := by decide
  have k_1L : (1 : Int64).toInt = 1 := by decide
  have k_8L : (8 : Int64).toInt = 8 := by decide
  have k_9L : (9 : Int64).toInt = 9 := by decide
  refine lv_aload_n hx hb dX10_layer_0 rfl (lv_at hl 0 rfl) ?_
  refine lv_iconst (v := 0) hx hb dX10_layer_1 (by decide) ?_
  refine m_put (v := .int (0 : Int32)) (ty := .int) hx hb hts hin hown hK hP hD hS 0 (by decide) rfl (hts (.fieldLink RX10 79 "ShadowBenchModel" "thrown" "I") (by decide +kernel)) rfl (by decide +kernel) rfl rfl (upd f 0 (0 : Int32)) g rfl dX10_layer_2 (fun H locs hP hS => ?_)
  refine lv_iload_n hx hb dX10_layer_5 rfl (lv_at hl 1 rfl) ?_
  refine m_pu (As := [.int d]) (rest := []) ⟨hx, hb, hml, hown, hts⟩ (c_X10_isShelf l d ) (va_cwS 1 hts gX10_layer_X10_isShelf rfl rfl rfl (by decide +kernel) ⟨Nat.le_of_ble_eq_true rfl, Nat.le_of_ble_eq_true rfl⟩) hP rfl hl.1 rfl (Nat.le_of_ble_eq_true rfl) dX10_layer_6 ⟨Nat.le_of_ble_eq_true rfl, Nat.le_of_ble_eq_true rfl⟩ hS (fun r6 H locs q6 hP hS => ?_)
  refine lv_if_eq (tgt := 24) hx hb dX10_layer_9 (by decide) (fun c9 => ?_) (fun c9 => ?_)
  · skip
    have b9 := bo_f q6 c9
    refine lv_ldc2 hx hb hown (hts (.constantLong RX10 185 (-1)) (by decide +kernel)) dX10_layer_24 ?_
    exact W.lret (v := (-1 : Int64)) hx hb hr (fun t ht hW => ⟨⟨_, ((upd f 0 (0 : Int32)), g, r, q), rfl, ⟨rfl, trivial⟩, by unfold mB; rw [ht]; exact hP⟩, hS.F ht⟩) hS.2.2 dX10_layer_27
  · skip
    have b9 := bo_t q6 c9
    refine lv_iload_n hx hb dX10_layer_12 rfl (lv_at hl 2 rfl) ?_
    refine lv_i2l (v := k0.toInt64) hx hb dX10_layer_13 rfl ?_
    refine lv_lconst (v := 0) hx hb dX10_layer_14 (by decide) ?_
    refine lv_ldc2 hx hb hown (hts (.constantLong RX10 250 (8)) (by decide +kernel)) dX10_layer_15 ?_
    refine m_pu (As := [.long (k0.toInt64), .long (0 : Int64), .long (8 : Int64)]) (rest := []) ⟨hx, hb, hml, hown, hts⟩ (c_X10_isIn l k0.toInt64 (0 : Int64) (8 : Int64) ) (va_cwS 3 hts gX10_layer_X10_isIn rfl rfl rfl (by decide +kernel) ⟨Nat.le_of_ble_eq_true rfl, Nat.le_of_ble_eq_true rfl⟩) hP rfl hl.1 rfl (Nat.le_of_ble_eq_true rfl) dX10_layer_18 ⟨Nat.le_of_ble_eq_true rfl, Nat.le_of_ble_eq_true rfl⟩ hS (fun r18 H locs q18 hP hS => ?_)
    have q18 := q18
    simp only [k64, show (0 : Int64).toInt = 0 from rfl, show (1 : Int64).toInt = 1 from rfl, show (2 : Int64).toInt = 2 from rfl, show (3 : Int64).toInt = 3 from rfl, show (6 : Int64).toInt = 6 from rfl] at q18
    refine lv_if_ne (tgt := 28) hx hb dX10_layer_21 (by decide) (fun c21 => ?_) (fun c21 => ?_)
    · skip
      have b21 := bo_t q18 c21
      refine lv_aload_n hx hb dX10_layer_28 rfl (lv_at hl 0 rfl) ?_
      refine m_get (v := .ref (a 29)) hx hb hts hin hown hK hP 29 (by decide) rfl (hts (.fieldLink RX10 61 "ShadowBenchModel" "shelf" "[I") (by decide +kernel)) rfl dX10_layer_29 ?_
      refine lv_iload_n hx hb dX10_layer_32 rfl (lv_at hl 1 rfl) ?_
      refine m_iald (w := (r 29)) hx hb hK hP 17 rfl (vp_in_iff.mpr ⟨by omega, by omega⟩) dX10_layer_33 ?_
      refine lv_topi (fun v33 e33 => ?_)
      have i33 : v33.toInt = ((r 29) d.toNatClampNeg).toInt := congrArg Int32.toInt e33
      refine lv_iconst (v := 3) hx hb dX10_layer_34 (by decide) ?_
      refine lv_icmp_eq (tgt := 57) hx hb dX10_layer_35 (by decide) (fun c35 => ?_) (fun c35 => ?_)
      · skip
        have d35 := c35
        rw [fa_eq] at d35
        refine lv_aload_n hx hb dX10_layer_57 rfl (lv_at hl 0 rfl) ?_
        refine m_get (v := .ref (a 30)) hx hb hts hin hown hK hP 30 (by decide) rfl (hts (.fieldLink RX10 64 "ShadowBenchModel" "shelfSize" "[I") (by decide +kernel)) rfl dX10_layer_58 ?_
        refine lv_iload_n hx hb dX10_layer_61 rfl (lv_at hl 1 rfl) ?_
        refine m_iald (w := (r 30)) hx hb hK hP 18 rfl (vp_in_iff.mpr ⟨by omega, by omega⟩) dX10_layer_62 ?_
        refine lv_topi (fun v62 e62 => ?_)
        have i62 : v62.toInt = ((r 30) d.toNatClampNeg).toInt := congrArg Int32.toInt e62
        have z62 := mi_s hI (x := d) (by omega) (by omega) e62
        refine lv_bipush (v := 36) hx hb dX10_layer_63 (by decide) ?_
        refine lv_icmp_le (tgt := 72) hx hb dX10_layer_65 (by decide) (fun c65 => ?_) (fun c65 => ?_)
        · skip
          have d65 := c65
          rw [fa_le] at d65
          refine lv_lconst (v := 0) hx hb dX10_layer_72 (by decide) ?_
          refine lv_lstore_n (lv' := [(3, .long (0 : Int64)), (0, .ref mo), (1, .int d), (2, .int k0)]) hx hb dX10_layer_73 rfl hl (by decide) rfl (fun ls hl => ?_)
          refine lv_iconst (v := 0) hx hb dX10_layer_74 (by decide) ?_
          refine lv_istore (lv' := [(5, .int (0 : Int32)), (3, .long (0 : Int64)), (0, .ref mo), (1, .int d), (2, .int k0)]) hx hb dX10_layer_75 hl (by decide) rfl (fun ls hl => ?_)
          have loop_77 : ∀ (n : Nat) (i : Nat) (x3 : Int64), (i ≤ 60) → 60 - i < n → ∀ (H : Heap) (locs : List Loc), va_P D vwCl (WM cy mo a (upd f 0 (0 : Int32)) g r q) H → va_S (AM mo a) s.heap H locs → ∀ (ls : Array Slot), lv_has ls 8 [(5, .int (nI i)), (3, .long x3), (0, .ref mo), (1, .int d), (2, .int k0)] → W p l e (headSpec wsX10_layer ({ frames := 1, cells := 0, slots := 0, locals := 25 })).room s m #[Value.ref mo, Value.int d, Value.int k0] below meth c H locs 0 0 (MQ below (va_Ql (fun r0 u => u = ((upd f 0 (0 : Int32)), g, r, q) ∧ (True)) (mB D cy mo a) (AM mo a)) #[Value.ref mo, Value.int d, Value.int k0] s 0 0 (AM mo a)) (F0 m 77 ls []) := by
            intro n
            induction n with
            | zero => intro i x3  j77_0 hn; exact absurd hn (Nat.not_lt_zero _)
            | succ n ih_77 =>
              intro i x3  j77_0 hn_77 H locs hP hS ls hl
              have ii : (nI i).toInt = (i : Int) := nI_toInt (by omega)
              refine lv_iload hx hb dX10_layer_77 (lv_at hl 0 rfl) ?_
              refine lv_aload_n hx hb dX10_layer_79 rfl (lv_at hl 2 rfl) ?_
              refine m_get (v := .ref (a 30)) hx hb hts hin hown hK hP 30 (by decide) rfl (hts (.fieldLink RX10 64 "ShadowBenchModel" "shelfSize" "[I") (by decide +kernel)) rfl dX10_layer_80 ?_
              refine lv_iload_n hx hb dX10_layer_83 rfl (lv_at hl 3 rfl) ?_
              refine m_iald (w := (r 30)) hx hb hK hP 18 rfl (vp_in_iff.mpr ⟨by omega, by omega⟩) dX10_layer_84 ?_
              refine lv_topi (fun v84 e84 => ?_)
              have i84 : v84.toInt = ((r 30) d.toNatClampNeg).toInt := congrArg Int32.toInt e84
              have z84 := mi_s hI (x := d) (by omega) (by omega) e84
              refine lv_icmp_ge (tgt := 143) hx hb dX10_layer_85 (by decide) (fun c85 => ?_) (fun c85 => ?_)
              · skip
                have d85 := c85
                rw [fa_le] at d85
                refine lv_lload_n hx hb dX10_layer_143 rfl (lv_at hl 1 rfl) ?_
                exact W.lret (v := x3) hx hb hr (fun t ht hW => ⟨⟨_, ((upd f 0 (0 : Int32)), g, r, q), rfl, ⟨rfl, trivial⟩, by unfold mB; rw [ht]; exact hP⟩, hS.F ht⟩) hS.2.2 dX10_layer_144
              · skip
                have d85 := c85
                rw [fa_le] at d85
                refine lv_aload_n hx hb dX10_layer_88 rfl (lv_at hl 2 rfl) ?_
                refine m_get (v := .ref (a 33)) hx hb hts hin hown hK hP 33 (by decide) rfl (hts (.fieldLink RX10 73 "ShadowBenchModel" "shelfRow" "[J") (by decide +kernel)) rfl dX10_layer_89 ?_
                refine lv_bipush (v := 60) hx hb dX10_layer_92 (by decide) ?_
                refine lv_iload_n hx hb dX10_layer_94 rfl (lv_at hl 3 rfl) ?_
                refine lv_imul hx hb dX10_layer_95 ?_
                refine lv_topi (fun v95 e95 => ?_)
                have i95 : v95.toInt = 60 * d.toInt := by rw [e95]; exact mulcL rfl (by omega) (by omega)
                refine lv_iload hx hb dX10_layer_96 (lv_at hl 0 rfl) ?_
                refine lv_iadd hx hb dX10_layer_98 ?_
                refine lv_topi (fun v98 e98 => ?_)
                have i98 : v98.toInt = v95.toInt + (nI i).toInt := by rw [e98]; exact fb_addI (by omega) (by omega)
                refine m_lald (w := (q 33)) hx hb hK hP 21 rfl (vp_in_iff.mpr ⟨by omega, by omega⟩) dX10_layer_99 ?_
                refine lv_topl (fun v99 e99 => ?_)
                refine lv_lstore (lv' := [(6, .long v99), (5, .int (nI i)), (3, .long x3), (0, .ref mo), (1, .int d), (2, .int k0)]) hx hb dX10_layer_100 hl (by decide) rfl (fun ls hl => ?_)
                refine lv_lload hx hb dX10_layer_102 (lv_at hl 0 rfl) ?_
                refine lv_lconst (v := 0) hx hb dX10_layer_104 (by decide) ?_
                refine lv_ldc2 hx hb hown (hts (.constantLong RX10 276 (9)) (by decide +kernel)) dX10_layer_105 ?_
                refine m_pu (As := [.long v99, .long (0 : Int64), .long (9 : Int64)]) (rest := []) ⟨hx, hb, hml, hown, hts⟩ (c_X10_isIn l v99 (0 : Int64) (9 : Int64) ) (va_cwS 3 hts gX10_layer_X10_isIn rfl rfl rfl (by decide +kernel) ⟨Nat.le_of_ble_eq_true rfl, Nat.le_of_ble_eq_true rfl⟩) hP rfl hl.1 rfl (Nat.le_of_ble_eq_true rfl) dX10_layer_108 ⟨Nat.le_of_ble_eq_true rfl, Nat.le_of_ble_eq_true rfl⟩ hS (fun r108 H locs q108 hP hS => ?_)
                have q108 := q108
                simp only [k64, show (0 : Int64).toInt = 0 from rfl, show (1 : Int64).toInt = 1 from rfl, show (2 : Int64).toInt = 2 from rfl, show (3 : Int64).toInt = 3 from rfl, show (6 : Int64).toInt = 6 from rfl] at q108
                refine lv_if_ne (tgt := 118) hx hb dX10_layer_111 (by decide) (fun c111 => ?_) (fun c111 => ?_)
                · skip
                  have b111 := bo_t q108 c111
                  refine lv_lload_n hx hb dX10_layer_118 rfl (lv_at hl 2 rfl) ?_
                  refine lv_lload hx hb dX10_layer_119 (lv_at hl 0 rfl) ?_
                  refine lv_iload_n hx hb dX10_layer_121 rfl (lv_at hl 5 rfl) ?_
                  refine lv_i2l (v := k0.toInt64) hx hb dX10_layer_122 rfl ?_
                  refine W.lcmp hx hb dX10_layer_123 ?_
                  refine lv_if_le (tgt := 134) hx hb dX10_layer_124 (by decide) (fun c124 => ?_) (fun c124 => ?_)
                  · skip
                    have d124 := c124
                    rw [lg_cmp_le, fa_le64] at d124
                    refine lv_lconst (v := 0) hx hb dX10_layer_134 (by decide) ?_
                    refine lv_lor hx hb dX10_layer_135 ?_
                    refine lv_topl (fun v135 e135 => ?_)
                    refine lv_lstore_n (lv' := [(3, .long v135), (6, .long v99), (5, .int (nI i)), (0, .ref mo), (1, .int d), (2, .int k0)]) hx hb dX10_layer_136 rfl hl (by decide) rfl (fun ls hl => ?_)
                    refine lv_iinc (v := (nI (i + 1))) (lv' := [(5, .int (nI (i + 1))), (3, .long v135), (6, .long v99), (0, .ref mo), (1, .int d), (2, .int k0)]) hx hb dX10_layer_137 hl (k := 2) rfl (nI_1 _) (by decide) rfl (fun ls hl => ?_)
                    refine lv_goto (tgt := 77) hx hb dX10_layer_140 (by decide) ?_
                    exact ih_77 (i + 1) v135 (by omega) (by omega) _ _ hP hS ls (lv_sub hl [0, 1, 3, 4, 5] rfl)
                  · skip
                    have d124 := c124
                    rw [lg_cmp_le, fa_le64] at d124
                    refine lv_lconst (v := 1) hx hb dX10_layer_127 (by decide) ?_
                    refine lv_iload hx hb dX10_layer_128 (lv_at hl 1 rfl) ?_
                    refine lv_lshl (v := (1 : Int64) <<< ((nI i).toInt64 &&& 63)) hx hb dX10_layer_130 rfl ?_
                    refine lv_goto (tgt := 135) hx hb dX10_layer_131 (by decide) ?_
                    refine lv_lor hx hb dX10_layer_135 ?_
                    refine lv_topl (fun v135 e135 => ?_)
                    refine lv_lstore_n (lv' := [(3, .long v135), (6, .long v99), (5, .int (nI i)), (0, .ref mo), (1, .int d), (2, .int k0)]) hx hb dX10_layer_136 rfl hl (by decide) rfl (fun ls hl => ?_)
                    refine lv_iinc (v := (nI (i + 1))) (lv' := [(5, .int (nI (i + 1))), (3, .long v135), (6, .long v99), (0, .ref mo), (1, .int d), (2, .int k0)]) hx hb dX10_layer_137 hl (k := 2) rfl (nI_1 _) (by decide) rfl (fun ls hl => ?_)
                    refine lv_goto (tgt := 77) hx hb dX10_layer_140 (by decide) ?_
                    exact ih_77 (i + 1) v135 (by omega) (by omega) _ _ hP hS ls (lv_sub hl [0, 1, 3, 4, 5] rfl)
                · skip
                  have b111 := bo_f q108 c111
                  refine lv_ldc2 hx hb hown (hts (.constantLong RX10 189 (-2)) (by decide +kernel)) dX10_layer_114 ?_
                  exact W.lret (v := (-2 : Int64)) hx hb hr (fun t ht hW => ⟨⟨_, ((upd f 0 (0 : Int32)), g, r, q), rfl, ⟨rfl, trivial⟩, by unfold mB; rw [ht]; exact hP⟩, hS.F ht⟩) hS.2.2 dX10_layer_117
          exact loop_77 (60 + 1) 0 (0 : Int64) (by omega) (by omega) _ _ hP hS ls (lv_sub hl [0, 1, 2, 3, 4] rfl)
        · skip
          have d65 := c65
          rw [fa_le] at d65
          refine lv_ldc2 hx hb hown (hts (.constantLong RX10 274 (-13)) (by decide +kernel)) dX10_layer_68 ?_
          exact W.lret (v := (-13 : Int64)) hx hb hr (fun t ht hW => ⟨⟨_, ((upd f 0 (0 : Int32)), g, r, q), rfl, ⟨rfl, trivial⟩, by unfold mB; rw [ht]; exact hP⟩, hS.F ht⟩) hS.2.2 dX10_layer_71
      · skip
        have d35 := c35
        rw [fa_eq] at d35
        refine lv_aload_n hx hb dX10_layer_38 rfl (lv_at hl 0 rfl) ?_
        refine m_get (v := .ref (a 29)) hx hb hts hin hown hK hP 29 (by decide) rfl (hts (.fieldLink RX10 61 "ShadowBenchModel" "shelf" "[I") (by decide +kernel)) rfl dX10_layer_39 ?_
        refine lv_iload_n hx hb dX10_layer_42 rfl (lv_at hl 1 rfl) ?_
        refine m_iald (w := (r 29)) hx hb hK hP 17 rfl (vp_in_iff.mpr ⟨by omega, by omega⟩) dX10_layer_43 ?_
        refine lv_topi (fun v43 e43 => ?_)
        have i43 : v43.toInt = ((r 29) d.toNatClampNeg).toInt := congrArg Int32.toInt e43
        refine lv_if_ne (tgt := 53) hx hb dX10_layer_44 (by decide) (fun c44 => ?_) (fun c44 => ?_)
        · skip
          have d44 := c44
          rw [fa_eq] at d44
          refine lv_ldc2 hx hb hown (hts (.constantLong RX10 272 (-12)) (by decide +kernel)) dX10_layer_53 ?_
          exact W.lret (v := (-12 : Int64)) hx hb hr (fun t ht hW => ⟨⟨_, ((upd f 0 (0 : Int32)), g, r, q), rfl, ⟨rfl, trivial⟩, by unfold mB; rw [ht]; exact hP⟩, hS.F ht⟩) hS.2.2 dX10_layer_56
        · skip
          have d44 := c44
          rw [fa_eq] at d44
          refine lv_ldc2 hx hb hown (hts (.constantLong RX10 270 (-11)) (by decide +kernel)) dX10_layer_47 ?_
          refine lv_goto (tgt := 56) hx hb dX10_layer_50 (by decide) ?_
          exact W.lret (v := (-11 : Int64)) hx hb hr (fun t ht hW => ⟨⟨_, ((upd f 0 (0 : Int32)), g, r, q), rfl, ⟨rfl, trivial⟩, by unfold mB; rw [ht]; exact hP⟩, hS.F ht⟩) hS.2.2 dX10_layer_56
    · skip
      have b21 := bo_f q18 c21
      refine lv_ldc2 hx hb hown (hts (.constantLong RX10 185 (-1)) (by decide +kernel)) dX10_layer_24 ?_
      exact W.lret (v := (-1 : Int64)) hx hb hr (fun t ht hW => ⟨⟨_, ((upd f 0 (0 : Int32)), g, r, q), rfl, ⟨rfl, trivial⟩, by unfold mB; rw [ht]; exact hP⟩, hS.F ht⟩) hS.2.2 dX10_layer_27
set_option maxHeartbeats 4000000 in
set_option maxRecDepth 100000 in
theorem c_X10_weight (l : Launch) (D : va_G) (cy : Nat → ClassId) (mo : Nat) (a : Nat → Nat) (f : Nat → Int32) (g : Nat → Int64) (r : Nat → Nat → Int32) (q : Nat → Nat → Int64) (d : Int32) (hD : DM cy mo a)  : Mi l D cy mo a yX10_weight wsX10_weight ({ frames := 1, cells := 0, slots := 0, locals := 20 }) f g r q [.int d] (fun r0 u => ∃ (th : Int32), u = ((upd f 0 th), g, r, q) ∧ (True)) := by
  refine Met.ofW (cc := cX10_weight) (maxL := 2) (ret := (some .int)) (by decide) rfl ?_
  intro p e s m args below meth c s₁ B hml hv
  obtain ⟨rfl, hP, hK⟩ := hv
  have hx := B.exec
  have hb := B.bytes
  have hr := B.returns
  have hts := atoms_spec (ws := wsX10_weight) B.pre
  have hin : ∀ w ∈ u_ws RX10 TX10 35, w ∈ wsX10_weight := by decide +kernel
  have hown : s.vm.findClass RX10 = some m.cls := findClass_of_methodNamed B.named
  have hlocks := B.notSynchronized
  have hS : va_S (AM mo a) s.heap s.heap [] := va_S.rf
  have hl := lv_entry ([.ref mo, .int d]) (n := 2) (Nat.le_of_ble_eq_true rfl)
  rw [lg_entry_eq]
  generalize (lg_sl ([.ref mo, .int d]) ++ List.replicate (2 - (lg_sl ([.ref mo, .int d])).length) Slot.unset).toArray = ls at hl ⊢
  have hl : lv_has ls 2 [(0, .ref mo), (1, .int d)] := hl
  have k_0 : (0 : Int32).toInt = 0 := by decide
  have k_1 : (1 : Int32).toInt = 1 := by decide
  have k_2 : (2 : Int32).toInt = 2 := by decide
  refine lv_aload_n hx hb dX10_weight_0 rfl (lv_at hl 0 rfl) ?_
  refine lv_iload_n hx hb dX10_weight_1 rfl (lv_at hl 1 rfl) ?_
  refine m_pu (As := [.int d]) (rest := [.ref mo]) ⟨hx, hb, hml, hown, hts⟩ (c_X10_isShelf l d ) (va_cwS 1 hts gX10_weight_X10_isShelf rfl rfl rfl (by decide +kernel) ⟨Nat.le_of_ble_eq_true rfl, Nat.le_of_ble_eq_true rfl⟩) hP rfl hl.1 rfl (Nat.le_of_ble_eq_true rfl) dX10_weight_2 ⟨Nat.le_of_ble_eq_true rfl, Nat.le_of_ble_eq_true rfl⟩ hS (fun r2 H locs q2 hP hS => ?_)
  refine lv_if_ne (tgt := 12) hx hb dX10_weight_5 (by decide) (fun c5 => ?_) (fun c5 => ?_)
  · skip
    have b5 := bo_t q2 c5
    refine lv_aload_n hx hb dX10_weight_12 rfl (lv_at hl 0 rfl) ?_
    refine m_get (v := .ref (a 29)) hx hb hts hin hown hK hP 29 (by decide) rfl (hts (.fieldLink RX10 61 "ShadowBenchModel" "shelf" "[I") (by decide +kernel)) rfl dX10_weight_13 ?_
    refine lv_iload_n hx hb dX10_weight_16 rfl (lv_at hl 1 rfl) ?_
    refine m_iald (w := (r 29)) hx hb hK hP 17 rfl (vp_in_iff.mpr ⟨by omega, by omega⟩) dX10_weight_17 ?_
    refine lv_topi (fun v17 e17 => ?_)
    have i17 : v17.toInt = ((r 29) d.toNatClampNeg).toInt := congrArg Int32.toInt e17
    refine lv_iconst (v := 1) hx hb dX10_weight_18 (by decide) ?_
    refine lv_icmp_eq (tgt := 26) hx hb dX10_weight_19 (by decide) (fun c19 => ?_) (fun c19 => ?_)
    · skip
      have d19 := c19
      rw [fa_eq] at d19
      refine lv_iconst (v := 0) hx hb dX10_weight_26 (by decide) ?_
      refine m_put (v := .int (0 : Int32)) (ty := .int) hx hb hts hin hown hK hP hD hS 0 (by decide) rfl (hts (.fieldLink RX10 79 "ShadowBenchModel" "thrown" "I") (by decide +kernel)) rfl (by decide +kernel) rfl rfl (upd f 0 (0 : Int32)) g rfl dX10_weight_27 (fun H locs hP hS => ?_)
      refine lv_aload_n hx hb dX10_weight_30 rfl (lv_at hl 0 rfl) ?_
      refine m_get (v := .int (0 : Int32)) hx hb hts hin hown hK hP 0 (by decide) rfl (hts (.fieldLink RX10 79 "ShadowBenchModel" "thrown" "I") (by decide +kernel)) rfl dX10_weight_31 ?_
      refine lv_if_le (tgt := 41) hx hb dX10_weight_34 (by decide) (fun c34 => ?_) (fun c34 => ?_)
      · skip
        have d34 := c34
        rw [fa_le] at d34
        refine lv_aload_n hx hb dX10_weight_41 rfl (lv_at hl 0 rfl) ?_
        refine m_get (v := .ref (a 31)) hx hb hts hin hown hK hP 31 (by decide) rfl (hts (.fieldLink RX10 67 "ShadowBenchModel" "shelfWeight" "[I") (by decide +kernel)) rfl dX10_weight_42 ?_
        refine lv_iload_n hx hb dX10_weight_45 rfl (lv_at hl 1 rfl) ?_
        refine m_iald (w := (r 31)) hx hb hK hP 19 rfl (vp_in_iff.mpr ⟨by omega, by omega⟩) dX10_weight_46 ?_
        refine lv_topi (fun v46 e46 => ?_)
        have i46 : v46.toInt = ((r 31) d.toNatClampNeg).toInt := congrArg Int32.toInt e46
        exact W.iret (v := v46) hx hb hr (fun t ht hW => ⟨⟨_, ((upd f 0 (0 : Int32)), g, r, q), rfl, ⟨(0 : Int32), rfl, trivial⟩, by unfold mB; rw [ht]; exact hP⟩, hS.F ht⟩) hS.2.2 dX10_weight_47
      · skip
        have d34 := c34
        rw [fa_le] at d34
        refine lv_iconst (v := 0) hx hb dX10_weight_37 (by decide) ?_
        refine lv_goto (tgt := 47) hx hb dX10_weight_38 (by decide) ?_
        exact W.iret (v := (0 : Int32)) hx hb hr (fun t ht hW => ⟨⟨_, ((upd f 0 (0 : Int32)), g, r, q), rfl, ⟨(0 : Int32), rfl, trivial⟩, by unfold mB; rw [ht]; exact hP⟩, hS.F ht⟩) hS.2.2 dX10_weight_47
    · skip
      have d19 := c19
      rw [fa_eq] at d19
      refine lv_iconst (v := 2) hx hb dX10_weight_22 (by decide) ?_
      refine lv_goto (tgt := 27) hx hb dX10_weight_23 (by decide) ?_
      refine m_put (v := .int (2 : Int32)) (ty := .int) hx hb hts hin hown hK hP hD hS 0 (by decide) rfl (hts (.fieldLink RX10 79 "ShadowBenchModel" "thrown" "I") (by decide +kernel)) rfl (by decide +kernel) rfl rfl (upd f 0 (2 : Int32)) g rfl dX10_weight_27 (fun H locs hP hS => ?_)
      refine lv_aload_n hx hb dX10_weight_30 rfl (lv_at hl 0 rfl) ?_
      refine m_get (v := .int (2 : Int32)) hx hb hts hin hown hK hP 0 (by decide) rfl (hts (.fieldLink RX10 79 "ShadowBenchModel" "thrown" "I") (by decide +kernel)) rfl dX10_weight_31 ?_
      refine lv_if_le (tgt := 41) hx hb dX10_weight_34 (by decide) (fun c34 => ?_) (fun c34 => ?_)
      · skip
        have d34 := c34
        rw [fa_le] at d34
        refine lv_aload_n hx hb dX10_weight_41 rfl (lv_at hl 0 rfl) ?_
        refine m_get (v := .ref (a 31)) hx hb hts hin hown hK hP 31 (by decide) rfl (hts (.fieldLink RX10 67 "ShadowBenchModel" "shelfWeight" "[I") (by decide +kernel)) rfl dX10_weight_42 ?_
        refine lv_iload_n hx hb dX10_weight_45 rfl (lv_at hl 1 rfl) ?_
        refine m_iald (w := (r 31)) hx hb hK hP 19 rfl (vp_in_iff.mpr ⟨by omega, by omega⟩) dX10_weight_46 ?_
        refine lv_topi (fun v46 e46 => ?_)
        have i46 : v46.toInt = ((r 31) d.toNatClampNeg).toInt := congrArg Int32.toInt e46
        exact W.iret (v := v46) hx hb hr (fun t ht hW => ⟨⟨_, ((upd f 0 (2 : Int32)), g, r, q), rfl, ⟨(2 : Int32), rfl, trivial⟩, by unfold mB; rw [ht]; exact hP⟩, hS.F ht⟩) hS.2.2 dX10_weight_47
      · skip
        have d34 := c34
        rw [fa_le] at d34
        refine lv_iconst (v := 0) hx hb dX10_weight_37 (by decide) ?_
        refine lv_goto (tgt := 47) hx hb dX10_weight_38 (by decide) ?_
        exact W.iret (v := (0 : Int32)) hx hb hr (fun t ht hW => ⟨⟨_, ((upd f 0 (2 : Int32)), g, r, q), rfl, ⟨(2 : Int32), rfl, trivial⟩, by unfold mB; rw [ht]; exact hP⟩, hS.F ht⟩) hS.2.2 dX10_weight_47
  · skip
    have b5 := bo_f q2 c5
    refine lv_iconst (v := 1) hx hb dX10_weight_8 (by decide) ?_
    refine lv_goto (tgt := 27) hx hb dX10_weight_9 (by decide) ?_
    refine m_put (v := .int (1 : Int32)) (ty := .int) hx hb hts hin hown hK hP hD hS 0 (by decide) rfl (hts (.fieldLink RX10 79 "ShadowBenchModel" "thrown" "I") (by decide +kernel)) rfl (by decide +kernel) rfl rfl (upd f 0 (1 : Int32)) g rfl dX10_weight_27 (fun H locs hP hS => ?_)
    refine lv_aload_n hx hb dX10_weight_30 rfl (lv_at hl 0 rfl) ?_
    refine m_get (v := .int (1 : Int32)) hx hb hts hin hown hK hP 0 (by decide) rfl (hts (.fieldLink RX10 79 "ShadowBenchModel" "thrown" "I") (by decide +kernel)) rfl dX10_weight_31 ?_
    refine lv_if_le (tgt := 41) hx hb dX10_weight_34 (by decide) (fun c34 => ?_) (fun c34 => ?_)
    · skip
      have d34 := c34
      rw [fa_le] at d34
      refine lv_aload_n hx hb dX10_weight_41 rfl (lv_at hl 0 rfl) ?_
      refine m_get (v := .ref (a 31)) hx hb hts hin hown hK hP 31 (by decide) rfl (hts (.fieldLink RX10 67 "ShadowBenchModel" "shelfWeight" "[I") (by decide +kernel)) rfl dX10_weight_42 ?_
      refine lv_iload_n hx hb dX10_weight_45 rfl (lv_at hl 1 rfl) ?_
      refine m_iald (w := (r 31)) hx hb hK hP 19 rfl (vp_in_iff.mpr ⟨by omega, by omega⟩) dX10_weight_46 ?_
      refine lv_topi (fun v46 e46 => ?_)
      have i46 : v46.toInt = ((r 31) d.toNatClampNeg).toInt := congrArg Int32.toInt e46
      exact W.iret (v := v46) hx hb hr (fun t ht hW => ⟨⟨_, ((upd f 0 (1 : Int32)), g, r, q), rfl, ⟨(1 : Int32), rfl, trivial⟩, by unfold mB; rw [ht]; exact hP⟩, hS.F ht⟩) hS.2.2 dX10_weight_47
    · skip
      have d34 := c34
      rw [fa_le] at d34
      refine lv_iconst (v := 0) hx hb dX10_weight_37 (by decide) ?_
      refine lv_goto (tgt := 47) hx hb dX10_weight_38 (by decide) ?_
      exact W.iret (v := (0 : Int32)) hx hb hr (fun t ht hW => ⟨⟨_, ((upd f 0 (1 : Int32)), g, r, q), rfl, ⟨(1 : Int32), rfl, trivial⟩, by unfold mB; rw [ht]; exact hP⟩, hS.F ht⟩) hS.2.2 dX10_weight_47
set_option maxHeartbeats 4000000 in
set_option maxRecDepth 100000 in
theorem c_X10_toss (l : Launch) (D : va_G) (cy : Nat → ClassId) (mo : Nat) (a : Nat → Nat) (f : Nat → Int32) (g : Nat → Int64) (r : Nat → Nat → Int32) (q : Nat → Nat → Int64) (d : Int32) (hD : DM cy mo a)  : Mi l D cy mo a yX10_toss wsX10_toss ({ frames := 1, cells := 0, slots := 0, locals := 20 }) f g r q [.int d] (fun r0 u => u = ((upd f 0 (0 : Int32)), g, r, q) ∧ (True)) := by
  refine Met.ofW (cc := cX10_toss) (maxL := 2) (ret := (some .int)) (by decide) rfl ?_
  intro p e s m args below meth c s₁ B hml hv
  obtain ⟨rfl, hP, hK⟩ := hv
  have hx := B.exec
  have hb := B.bytes
  have hr := B.returns
  have hts := atoms_spec (ws := wsX10_toss) B.pre
  have hin : ∀ w ∈ u_ws RX10 TX10 35, w ∈ wsX10_toss := by decide +kernel
  have hown : s.vm.findClass RX10 = some m.cls := findClass_of_methodNamed B.named
  have hlocks := B.notSynchronized
  have hS : va_S (AM mo a) s.heap s.heap [] := va_S.rf
  have hl := lv_entry ([.ref mo, .int d]) (n := 2) (Nat.le_of_ble_eq_true rfl)
  rw [lg_entry_eq]
  generalize (lg_sl ([.ref mo, .int d]) ++ List.replicate (2 - (lg_sl ([.ref mo, .int d])).length) Slot.unset).toArray = ls at hl ⊢
  have hl : lv_has ls 2 [(0, .ref mo), (1, .int d)] := hl
  have k_m12 : (-12 : Int32).toInt = -12 := by decide
  have k_m11 : (-11 : Int32).toInt = -11 := by decide
  have k_m1 : (-1 : Int32).toInt = -1 := by decide
  have k_0 : (0 : Int32).toInt = 0 := by decide
  have k_1 : (1 : Int32).toInt = 1 := by decide
  refine lv_aload_n hx hb dX10_toss_0 rfl (lv_at hl 0 rfl) ?_
  refine lv_iconst (v := 0) hx hb dX10_toss_1 (by decide) ?_
  refine m_put (v := .int (0 : Int32)) (ty := .int) hx hb hts hin hown hK hP hD hS 0 (by decide) rfl (hts (.fieldLink RX10 79 "ShadowBenchModel" "thrown" "I") (by decide +kernel)) rfl (by decide +kernel) rfl rfl (upd f 0 (0 : Int32)) g rfl dX10_toss_2 (fun H locs hP hS => ?_)
  refine lv_iload_n hx hb dX10_toss_5 rfl (lv_at hl 1 rfl) ?_
  refine m_pu (As := [.int d]) (rest := []) ⟨hx, hb, hml, hown, hts⟩ (c_X10_isShelf l d ) (va_cwS 1 hts gX10_toss_X10_isShelf rfl rfl rfl (by decide +kernel) ⟨Nat.le_of_ble_eq_true rfl, Nat.le_of_ble_eq_true rfl⟩) hP rfl hl.1 rfl (Nat.le_of_ble_eq_true rfl) dX10_toss_6 ⟨Nat.le_of_ble_eq_true rfl, Nat.le_of_ble_eq_true rfl⟩ hS (fun r6 H locs q6 hP hS => ?_)
  refine lv_if_ne (tgt := 16) hx hb dX10_toss_9 (by decide) (fun c9 => ?_) (fun c9 => ?_)
  · skip
    have b9 := bo_t q6 c9
    refine lv_aload_n hx hb dX10_toss_16 rfl (lv_at hl 0 rfl) ?_
    refine m_get (v := .ref (a 29)) hx hb hts hin hown hK hP 29 (by decide) rfl (hts (.fieldLink RX10 61 "ShadowBenchModel" "shelf" "[I") (by decide +kernel)) rfl dX10_toss_17 ?_
    refine lv_iload_n hx hb dX10_toss_20 rfl (lv_at hl 1 rfl) ?_
    refine m_iald (w := (r 29)) hx hb hK hP 17 rfl (vp_in_iff.mpr ⟨by omega, by omega⟩) dX10_toss_21 ?_
    refine lv_topi (fun v21 e21 => ?_)
    have i21 : v21.toInt = ((r 29) d.toNatClampNeg).toInt := congrArg Int32.toInt e21
    refine lv_if_ne (tgt := 30) hx hb dX10_toss_22 (by decide) (fun c22 => ?_) (fun c22 => ?_)
    · skip
      have d22 := c22
      rw [fa_eq] at d22
      refine lv_aload_n hx hb dX10_toss_30 rfl (lv_at hl 0 rfl) ?_
      refine m_get (v := .ref (a 29)) hx hb hts hin hown hK hP 29 (by decide) rfl (hts (.fieldLink RX10 61 "ShadowBenchModel" "shelf" "[I") (by decide +kernel)) rfl dX10_toss_31 ?_
      refine lv_iload_n hx hb dX10_toss_34 rfl (lv_at hl 1 rfl) ?_
      refine m_iald (w := (r 29)) hx hb hK hP 17 rfl (vp_in_iff.mpr ⟨by omega, by omega⟩) dX10_toss_35 ?_
      refine lv_topi (fun v35 e35 => ?_)
      have i35 : v35.toInt = ((r 29) d.toNatClampNeg).toInt := congrArg Int32.toInt e35
      refine lv_iconst (v := 1) hx hb dX10_toss_36 (by decide) ?_
      refine lv_icmp_le (tgt := 45) hx hb dX10_toss_37 (by decide) (fun c37 => ?_) (fun c37 => ?_)
      · skip
        have d37 := c37
        rw [fa_le] at d37
        refine lv_aload_n hx hb dX10_toss_45 rfl (lv_at hl 0 rfl) ?_
        refine m_get (v := .ref (a 32)) hx hb hts hin hown hK hP 32 (by decide) rfl (hts (.fieldLink RX10 70 "ShadowBenchModel" "shelfFailure" "[I") (by decide +kernel)) rfl dX10_toss_46 ?_
        refine lv_iload_n hx hb dX10_toss_49 rfl (lv_at hl 1 rfl) ?_
        refine m_iald (w := (r 32)) hx hb hK hP 20 rfl (vp_in_iff.mpr ⟨by omega, by omega⟩) dX10_toss_50 ?_
        refine lv_topi (fun v50 e50 => ?_)
        have i50 : v50.toInt = ((r 32) d.toNatClampNeg).toInt := congrArg Int32.toInt e50
        exact W.iret (v := v50) hx hb hr (fun t ht hW => ⟨⟨_, ((upd f 0 (0 : Int32)), g, r, q), rfl, ⟨rfl, trivial⟩, by unfold mB; rw [ht]; exact hP⟩, hS.F ht⟩) hS.2.2 dX10_toss_51
      · skip
        have d37 := c37
        rw [fa_le] at d37
        refine lv_bipush (v := (-12)) hx hb dX10_toss_40 (by decide) ?_
        refine lv_goto (tgt := 51) hx hb dX10_toss_42 (by decide) ?_
        exact W.iret (v := ((-12) : Int32)) hx hb hr (fun t ht hW => ⟨⟨_, ((upd f 0 (0 : Int32)), g, r, q), rfl, ⟨rfl, trivial⟩, by unfold mB; rw [ht]; exact hP⟩, hS.F ht⟩) hS.2.2 dX10_toss_51
    · skip
      have d22 := c22
      rw [fa_eq] at d22
      refine lv_bipush (v := (-11)) hx hb dX10_toss_25 (by decide) ?_
      refine lv_goto (tgt := 51) hx hb dX10_toss_27 (by decide) ?_
      exact W.iret (v := ((-11) : Int32)) hx hb hr (fun t ht hW => ⟨⟨_, ((upd f 0 (0 : Int32)), g, r, q), rfl, ⟨rfl, trivial⟩, by unfold mB; rw [ht]; exact hP⟩, hS.F ht⟩) hS.2.2 dX10_toss_51
  · skip
    have b9 := bo_f q6 c9
    refine lv_iconst (v := (-1)) hx hb dX10_toss_12 (by decide) ?_
    refine lv_goto (tgt := 51) hx hb dX10_toss_13 (by decide) ?_
    exact W.iret (v := ((-1) : Int32)) hx hb hr (fun t ht hW => ⟨⟨_, ((upd f 0 (0 : Int32)), g, r, q), rfl, ⟨rfl, trivial⟩, by unfold mB; rw [ht]; exact hP⟩, hS.F ht⟩) hS.2.2 dX10_toss_51
