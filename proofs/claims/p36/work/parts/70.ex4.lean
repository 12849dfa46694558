
/-- a job's heft by the reference's numbers -/
def heR (kd : Int32) (w h : Nat) (s : Int32) : Int32 := if kd = 0 then nI (10 + w * h) else if kd = 1 then nI (10 + w * h) + 100 else if kd = 2 then 2 * (nI (10 + w * h) + 100) else nI (10 + w * h) + s
theorem heR_eq {kd : Int32} {w h : Nat} {s : Int32} (hk : 0 ≤ kd.toInt ∧ kd.toInt ≤ 3) : heR kd w h s = heV (kcl kd) w h s := by
  have c : ∀ {v : Int32}, kd.toInt = v.toInt → kd = v := fun e => Int32.toInt_inj.mp e
  have h4 : kd.toInt = 0 ∨ kd.toInt = 1 ∨ kd.toInt = 2 ∨ kd.toInt = 3 := by omega
  rcases h4 with y | y | y | y
  · rw [c (v := 0) y]; rfl
  · rw [c (v := 1) y]; rfl
  · rw [c (v := 2) y]; rfl
  · rw [c (v := 3) y]; rfl
def wtA (k t d th x : Int32) : Prop := (¬ okSh d ∧ th = 1) ∨ (okSh d ∧ ((k = 1 ∧ th = 0 ∧ x = t) ∨ (¬ k = 1 ∧ th = 2)))
theorem wt_law {kc tc d k th x : Int32} {P : (Nat → Int64) → Prop} (hx : (k = 1 ∧ ¬ okSh d) ∨ (k = 2 ∧ okSh d ∧ ¬ kc = 1) ∨ (k = 0 ∧ okSh d ∧ kc = 1 ∧ ∃ w : Nat → Int64, P w ∧ w 0 = tc.toInt64)) (hy : wtA kc tc d th x) : th = k ∧ (k = 0 → ∃ w, P w ∧ w 0 = x.toInt64) := by
  rcases hx with ⟨a, b⟩ | ⟨a, b, c⟩ | ⟨a, b, c, w, h1, h2⟩ <;> rcases hy with ⟨e, f⟩ | ⟨e, ⟨f, g, h⟩ | ⟨f, g⟩⟩
  · exact ⟨f.trans a.symm, fun y => absurd (a.symm.trans y) (by decide)⟩
  · exact absurd e b
  · exact absurd e b
  · exact absurd b e
  · exact absurd f c
  · exact ⟨g.trans a.symm, fun y => absurd (a.symm.trans y) (by decide)⟩
  · exact absurd b e
  · exact ⟨g.trans a.symm, fun _ => ⟨w, h1, by rw [h2, h]⟩⟩
  · exact absurd c f

set_option maxHeartbeats 4000000 in
set_option maxRecDepth 100000 in
theorem c_X10_weightOf_x (l : Launch) (D : va_G) (cy : Nat → ClassId) (mo : Nat) (a : Nat → Nat) (f : Nat → Int32) (g : Nat → Int64) (r : Nat → Nat → Int32) (q : Nat → Nat → Int64) (j : Int32) (hD : DM cy mo a) (hI : MI f r) (hj : 0 ≤ j.toInt ∧ j.toInt < (f 1).toInt) : Mi l D cy mo a yX10_weightOf wsX10_weightOf ({ frames := 0, cells := 0, slots := 0, locals := 0 }) f g r q [.int j] (fun r0 u => u = (f, g, r, q) ∧ (r0 = (heR (r 2 j.toNatClampNeg) (r 3 j.toNatClampNeg).toNatClampNeg (r 4 j.toNatClampNeg).toNatClampNeg (smN (fun s9 => r 8 (36 * j.toNatClampNeg + s9)) 36)))) := by
  refine Met.ofW (cc := cX10_weightOf) (maxL := 5) (ret := (some .int)) (by decide) rfl ?_
  intro p e s m args below meth c s₁ B hml hv
  obtain ⟨rfl, hP, hK⟩ := hv
  have hx := B.exec
  have hb := B.bytes
  have hr := B.returns
  have hts := atoms_spec (ws := wsX10_weightOf) B.pre
  have hin : ∀ w ∈ u_ws RX10 TX10 35, w ∈ wsX10_weightOf := by decide +kernel
  have hown : s.vm.findClass RX10 = some m.cls := findClass_of_methodNamed B.named
  have hlocks := B.notSynchronized
  have hS : va_S (AM mo a) s.heap s.heap [] := va_S.rf
  have hl := lv_entry ([.ref mo, .int j]) (n := 5) (Nat.le_of_ble_eq_true rfl)
  rw [lg_entry_eq]
  generalize (lg_sl ([.ref mo, .int j]) ++ List.replicate (5 - (lg_sl ([.ref mo, .int j])).length) Slot.unset).toArray = ls at hl ⊢
  have hl : lv_has ls 5 [(0, .ref mo), (1, .int j)] := hl
  have k_0 : (0 : Int32).toInt = 0 := by decide
  have k_1 : (1 : Int32).toInt = 1 := by decide
  have k_2 : (2 : Int32).toInt = 2 := by decide
  have k_10 : (10 : Int32).toInt = 10 := by decide
  have k_36 : (36 : Int32).toInt = 36 := by decide
  have k_100 : (100 : Int32).toInt = 100 := by decide
  have hI1 := hI.1
  refine lv_bipush (v := 10) hx hb dX10_weightOf_0 (by decide) ?_
  refine lv_aload_n hx hb dX10_weightOf_2 rfl (lv_at hl 0 rfl) ?_
  refine m_get (v := .ref (a 3)) hx hb hts hin hown hK hP 3 (by decide) rfl (hts (.fieldLink RX10 13 "ShadowBenchModel" "wide" "[I") (by decide +kernel)) rfl dX10_weightOf_3 ?_
  refine lv_iload_n hx hb dX10_weightOf_6 rfl (lv_at hl 1 rfl) ?_
  refine m_iald (w := (r 3)) hx hb hK hP 2 rfl (vp_in_iff.mpr ⟨by omega, by omega⟩) dX10_weightOf_7 ?_
  refine lv_topi (fun v7 e7 => ?_)
  have i7 : v7.toInt = ((r 3) j.toNatClampNeg).toInt := congrArg Int32.toInt e7
  have w7 := mi_w hI (x := j) (by omega) (by omega) e7
  refine lv_aload_n hx hb dX10_weightOf_8 rfl (lv_at hl 0 rfl) ?_
  refine m_get (v := .ref (a 4)) hx hb hts hin hown hK hP 4 (by decide) rfl (hts (.fieldLink RX10 16 "ShadowBenchModel" "high" "[I") (by decide +kernel)) rfl dX10_weightOf_9 ?_
  refine lv_iload_n hx hb dX10_weightOf_12 rfl (lv_at hl 1 rfl) ?_
  refine m_iald (w := (r 4)) hx hb hK hP 3 rfl (vp_in_iff.mpr ⟨by omega, by omega⟩) dX10_weightOf_13 ?_
  refine lv_topi (fun v13 e13 => ?_)
  have i13 : v13.toInt = ((r 4) j.toNatClampNeg).toInt := congrArg Int32.toInt e13
  have w13 := mi_h hI (x := j) (by omega) (by omega) e13
  have m14 := mul66 w7 w13
  refine lv_imul hx hb dX10_weightOf_14 ?_
  refine lv_topi (fun v14 e14 => ?_)
  have i14 : v14.toInt = v7.toInt * v13.toInt := by rw [e14]; exact fb_mulI (by omega) (by omega)
  have sq9 := sq_eq hI (j := j) (by omega) (by omega)
  have e7_ := congrArg Int32.toInt e7
  have e13_ := congrArg Int32.toInt e13
  have p14 : v7.toInt * v13.toInt = (r 3 j.toNatClampNeg).toInt * (r 4 j.toNatClampNeg).toInt := by rw [e7_, e13_]
  refine lv_iadd hx hb dX10_weightOf_15 ?_
  refine lv_topi (fun v15 e15 => ?_)
  have i15 : v15.toInt = (10 : Int32).toInt + v14.toInt := by rw [e15]; exact fb_addI (by omega) (by omega)
  refine lv_istore_n (lv' := [(2, .int v15), (0, .ref mo), (1, .int j)]) hx hb dX10_weightOf_16 rfl hl (by decide) rfl (fun ls hl => ?_)
  refine lv_iconst (v := 0) hx hb dX10_weightOf_17 (by decide) ?_
  refine lv_istore_n (lv' := [(3, .int (0 : Int32)), (2, .int v15), (0, .ref mo), (1, .int j)]) hx hb dX10_weightOf_18 rfl hl (by decide) rfl (fun ls hl => ?_)
  refine lv_iconst (v := 0) hx hb dX10_weightOf_19 (by decide) ?_
  refine lv_istore (lv' := [(4, .int (0 : Int32)), (3, .int (0 : Int32)), (2, .int v15), (0, .ref mo), (1, .int j)]) hx hb dX10_weightOf_20 hl (by decide) rfl (fun ls hl => ?_)
  have loop_22 : ∀ (n : Nat) (k : Nat) (x3 : Int32), (k ≤ 36) → (x3 = smN (fun s9 => r 8 (36 * j.toNatClampNeg + s9)) k) → 36 - k < n → ∀ (H : Heap) (locs : List Loc), va_P D vwCl (WM cy mo a f g r q) H → va_S (AM mo a) s.heap H locs → ∀ (ls : Array Slot), lv_has ls 5 [(4, .int (nI k)), (3, .int x3), (2, .int v15), (0, .ref mo), (1, .int j)] → W p l e (headSpec wsX10_weightOf ({ frames := 0, cells := 0, slots := 0, locals := 0 })).room s m #[Value.ref mo, Value.int j] below meth c H locs 0 0 (MQ below (va_Qi (fun r0 u => u = (f, g, r, q) ∧ (r0 = (heR (r 2 j.toNatClampNeg) (r 3 j.toNatClampNeg).toNatClampNeg (r 4 j.toNatClampNeg).toNatClampNeg (smN (fun s9 => r 8 (36 * j.toNatClampNeg + s9)) 36)))) (mB D cy mo a) (AM mo a)) #[Value.ref mo, Value.int j] s 0 0 (AM mo a)) (F0 m 22 ls []) := by
    intro n
    induction n with
    | zero => intro k x3  j22_0 j22_1 hn; exact absurd hn (Nat.not_lt_zero _)
    | succ n ih_22 =>
      intro k x3  j22_0 j22_1 hn_22 H locs hP hS ls hl
      have ik : (nI k).toInt = (k : Int) := nI_toInt (by omega)
      refine lv_iload hx hb dX10_weightOf_22 (lv_at hl 0 rfl) ?_
      refine lv_bipush (v := 36) hx hb dX10_weightOf_24 (by decide) ?_
      refine lv_icmp_ge (tgt := 50) hx hb dX10_weightOf_26 (by decide) (fun c26 => ?_) (fun c26 => ?_)
      · skip
        have d26 := c26
        rw [fa_le] at d26
        refine lv_aload_n hx hb dX10_weightOf_50 rfl (lv_at hl 3 rfl) ?_
        refine m_get (v := .ref (a 2)) hx hb hts hin hown hK hP 2 (by decide) rfl (hts (.fieldLink RX10 7 "ShadowBenchModel" "kind" "[I") (by decide +kernel)) rfl dX10_weightOf_51 ?_
        refine lv_iload_n hx hb dX10_weightOf_54 rfl (lv_at hl 4 rfl) ?_
        refine m_iald (w := (r 2)) hx hb hK hP 1 rfl (vp_in_iff.mpr ⟨by omega, by omega⟩) dX10_weightOf_55 ?_
        refine lv_topi (fun v55 e55 => ?_)
        have i55 : v55.toInt = ((r 2) j.toNatClampNeg).toInt := congrArg Int32.toInt e55
        refine lv_if_ne (tgt := 63) hx hb dX10_weightOf_56 (by decide) (fun c56 => ?_) (fun c56 => ?_)
        · skip
          have d56 := c56
          rw [fa_eq] at d56
          refine lv_aload_n hx hb dX10_weightOf_63 rfl (lv_at hl 3 rfl) ?_
          refine m_get (v := .ref (a 2)) hx hb hts hin hown hK hP 2 (by decide) rfl (hts (.fieldLink RX10 7 "ShadowBenchModel" "kind" "[I") (by decide +kernel)) rfl dX10_weightOf_64 ?_
          refine lv_iload_n hx hb dX10_weightOf_67 rfl (lv_at hl 4 rfl) ?_
          refine m_iald (w := (r 2)) hx hb hK hP 1 rfl (vp_in_iff.mpr ⟨by omega, by omega⟩) dX10_weightOf_68 ?_
          refine lv_topi (fun v68 e68 => ?_)
          have i68 : v68.toInt = ((r 2) j.toNatClampNeg).toInt := congrArg Int32.toInt e68
          refine lv_iconst (v := 1) hx hb dX10_weightOf_69 (by decide) ?_
          refine lv_icmp_ne (tgt := 80) hx hb dX10_weightOf_70 (by decide) (fun c70 => ?_) (fun c70 => ?_)
          · skip
            have d70 := c70
            rw [fa_eq] at d70
            refine lv_aload_n hx hb dX10_weightOf_80 rfl (lv_at hl 3 rfl) ?_
            refine m_get (v := .ref (a 2)) hx hb hts hin hown hK hP 2 (by decide) rfl (hts (.fieldLink RX10 7 "ShadowBenchModel" "kind" "[I") (by decide +kernel)) rfl dX10_weightOf_81 ?_
            refine lv_iload_n hx hb dX10_weightOf_84 rfl (lv_at hl 4 rfl) ?_
            refine m_iald (w := (r 2)) hx hb hK hP 1 rfl (vp_in_iff.mpr ⟨by omega, by omega⟩) dX10_weightOf_85 ?_
            refine lv_topi (fun v85 e85 => ?_)
            have i85 : v85.toInt = ((r 2) j.toNatClampNeg).toInt := congrArg Int32.toInt e85
            refine lv_iconst (v := 2) hx hb dX10_weightOf_86 (by decide) ?_
            refine lv_icmp_ne (tgt := 99) hx hb dX10_weightOf_87 (by decide) (fun c87 => ?_) (fun c87 => ?_)
            · skip
              have d87 := c87
              rw [fa_eq] at d87
              refine lv_iload_n hx hb dX10_weightOf_99 rfl (lv_at hl 2 rfl) ?_
              refine lv_iload_n hx hb dX10_weightOf_100 rfl (lv_at hl 1 rfl) ?_
              refine lv_iadd hx hb dX10_weightOf_101 ?_
              refine lv_topi (fun v101 e101 => ?_)
              exact W.iret (v := v101) hx hb hr (fun t ht hW => ⟨⟨_, (f, g, r, q), rfl, ⟨rfl, (by have z15 : v15 = nI (10 + (r 3 j.toNatClampNeg).toNatClampNeg * (r 4 j.toNatClampNeg).toNatClampNeg) := Int32.toInt_inj.mp (by rw [nI_toInt (by omega)]; omega); unfold heR; first | (rw [if_pos (e55.symm.trans c56)]; exact z15) | (rw [if_neg (fun z => c56 (e55.trans z)), if_pos (e68.symm.trans c70), e76, z15]; done) | (rw [if_neg (fun z => c56 (e55.trans z)), if_neg (fun z => c70 (e68.trans z)), if_pos (e85.symm.trans c87), e95, e94, z15]; done) | (rw [if_neg (fun z => c56 (e55.trans z)), if_neg (fun z => c70 (e68.trans z)), if_neg (fun z => c87 (e85.trans z)), e101, z15, j22_1, show k = 36 by omega]; done))⟩, by unfold mB; rw [ht]; exact hP⟩, hS.F ht⟩) hS.2.2 dX10_weightOf_102
            · skip
              have d87 := c87
              rw [fa_eq] at d87
              refine lv_iconst (v := 2) hx hb dX10_weightOf_90 (by decide) ?_
              refine lv_iload_n hx hb dX10_weightOf_91 rfl (lv_at hl 2 rfl) ?_
              refine lv_bipush (v := 100) hx hb dX10_weightOf_92 (by decide) ?_
              refine lv_iadd hx hb dX10_weightOf_94 ?_
              refine lv_topi (fun v94 e94 => ?_)
              refine lv_imul hx hb dX10_weightOf_95 ?_
              refine lv_topi (fun v95 e95 => ?_)
              refine lv_goto (tgt := 102) hx hb dX10_weightOf_96 (by decide) ?_
              exact W.iret (v := v95) hx hb hr (fun t ht hW => ⟨⟨_, (f, g, r, q), rfl, ⟨rfl, (by have z15 : v15 = nI (10 + (r 3 j.toNatClampNeg).toNatClampNeg * (r 4 j.toNatClampNeg).toNatClampNeg) := Int32.toInt_inj.mp (by rw [nI_toInt (by omega)]; omega); unfold heR; first | (rw [if_pos (e55.symm.trans c56)]; exact z15) | (rw [if_neg (fun z => c56 (e55.trans z)), if_pos (e68.symm.trans c70), e76, z15]; done) | (rw [if_neg (fun z => c56 (e55.trans z)), if_neg (fun z => c70 (e68.trans z)), if_pos (e85.symm.trans c87), e95, e94, z15]; done) | (rw [if_neg (fun z => c56 (e55.trans z)), if_neg (fun z => c70 (e68.trans z)), if_neg (fun z => c87 (e85.trans z)), e101, z15, j22_1, show k = 36 by omega]; done))⟩, by unfold mB; rw [ht]; exact hP⟩, hS.F ht⟩) hS.2.2 dX10_weightOf_102
          · skip
            have d70 := c70
            rw [fa_eq] at d70
            refine lv_iload_n hx hb dX10_weightOf_73 rfl (lv_at hl 2 rfl) ?_
            refine lv_bipush (v := 100) hx hb dX10_weightOf_74 (by decide) ?_
            refine lv_iadd hx hb dX10_weightOf_76 ?_
            refine lv_topi (fun v76 e76 => ?_)
            refine lv_goto (tgt := 102) hx hb dX10_weightOf_77 (by decide) ?_
            exact W.iret (v := v76) hx hb hr (fun t ht hW => ⟨⟨_, (f, g, r, q), rfl, ⟨rfl, (by have z15 : v15 = nI (10 + (r 3 j.toNatClampNeg).toNatClampNeg * (r 4 j.toNatClampNeg).toNatClampNeg) := Int32.toInt_inj.mp (by rw [nI_toInt (by omega)]; omega); unfold heR; first | (rw [if_pos (e55.symm.trans c56)]; exact z15) | (rw [if_neg (fun z => c56 (e55.trans z)), if_pos (e68.symm.trans c70), e76, z15]; done) | (rw [if_neg (fun z => c56 (e55.trans z)), if_neg (fun z => c70 (e68.trans z)), if_pos (e85.symm.trans c87), e95, e94, z15]; done) | (rw [if_neg (fun z => c56 (e55.trans z)), if_neg (fun z => c70 (e68.trans z)), if_neg (fun z => c87 (e85.trans z)), e101, z15, j22_1, show k = 36 by omega]; done))⟩, by unfold mB; rw [ht]; exact hP⟩, hS.F ht⟩) hS.2.2 dX10_weightOf_102
        · skip
          have d56 := c56
          rw [fa_eq] at d56
          refine lv_iload_n hx hb dX10_weightOf_59 rfl (lv_at hl 2 rfl) ?_
          refine lv_goto (tgt := 102) hx hb dX10_weightOf_60 (by decide) ?_
          exact W.iret (v := v15) hx hb hr (fun t ht hW => ⟨⟨_, (f, g, r, q), rfl, ⟨rfl, (by have z15 : v15 = nI (10 + (r 3 j.toNatClampNeg).toNatClampNeg * (r 4 j.toNatClampNeg).toNatClampNeg) := Int32.toInt_inj.mp (by rw [nI_toInt (by omega)]; omega); unfold heR; first | (rw [if_pos (e55.symm.trans c56)]; exact z15) | (rw [if_neg (fun z => c56 (e55.trans z)), if_pos (e68.symm.trans c70), e76, z15]; done) | (rw [if_neg (fun z => c56 (e55.trans z)), if_neg (fun z => c70 (e68.trans z)), if_pos (e85.symm.trans c87), e95, e94, z15]; done) | (rw [if_neg (fun z => c56 (e55.trans z)), if_neg (fun z => c70 (e68.trans z)), if_neg (fun z => c87 (e85.trans z)), e101, z15, j22_1, show k = 36 by omega]; done))⟩, by unfold mB; rw [ht]; exact hP⟩, hS.F ht⟩) hS.2.2 dX10_weightOf_102
      · skip
        have d26 := c26
        rw [fa_le] at d26
        refine lv_iload_n hx hb dX10_weightOf_29 rfl (lv_at hl 1 rfl) ?_
        refine lv_aload_n hx hb dX10_weightOf_30 rfl (lv_at hl 3 rfl) ?_
        refine m_get (v := .ref (a 8)) hx hb hts hin hown hK hP 8 (by decide) rfl (hts (.fieldLink RX10 29 "ShadowBenchModel" "weight" "[I") (by decide +kernel)) rfl dX10_weightOf_31 ?_
        refine lv_bipush (v := 36) hx hb dX10_weightOf_34 (by decide) ?_
        refine lv_iload_n hx hb dX10_weightOf_36 rfl (lv_at hl 4 rfl) ?_
        refine lv_imul hx hb dX10_weightOf_37 ?_
        refine lv_topi (fun v37 e37 => ?_)
        have i37 : v37.toInt = 36 * j.toInt := by rw [e37]; exact mulcL rfl (by omega) (by omega)
        refine lv_iload hx hb dX10_weightOf_38 (lv_at hl 0 rfl) ?_
        refine lv_iadd hx hb dX10_weightOf_40 ?_
        refine lv_topi (fun v40 e40 => ?_)
        have i40 : v40.toInt = v37.toInt + (nI k).toInt := by rw [e40]; exact fb_addI (by omega) (by omega)
        have cj9 := m_cl (x := j) (by omega)
        have cv9 := m_cl (x := v40) (by omega)
        have f40 : v40.toNatClampNeg = 36 * j.toNatClampNeg + k := by omega
        refine m_iald (w := (r 8)) hx hb hK hP 7 rfl (vp_in_iff.mpr ⟨by omega, by omega⟩) dX10_weightOf_41 ?_
        refine lv_topi (fun v41 e41 => ?_)
        have i41 : v41.toInt = ((r 8) v40.toNatClampNeg).toInt := congrArg Int32.toInt e41
        refine lv_iadd hx hb dX10_weightOf_42 ?_
        refine lv_topi (fun v42 e42 => ?_)
        refine lv_istore_n (lv' := [(3, .int v42), (4, .int (nI k)), (2, .int v15), (0, .ref mo), (1, .int j)]) hx hb dX10_weightOf_43 rfl hl (by decide) rfl (fun ls hl => ?_)
        refine lv_iinc (v := (nI (k + 1))) (lv' := [(4, .int (nI (k + 1))), (3, .int v42), (2, .int v15), (0, .ref mo), (1, .int j)]) hx hb dX10_weightOf_44 hl (k := 1) rfl (nI_1 _) (by decide) rfl (fun ls hl => ?_)
        refine lv_goto (tgt := 22) hx hb dX10_weightOf_47 (by decide) ?_
        exact ih_22 (k + 1) v42 (by omega) (by simp only [smN]; rw [e42, j22_1, e41, f40]) (by omega) _ _ hP hS ls (lv_sub hl [0, 1, 2, 3, 4] rfl)
  exact loop_22 (36 + 1) 0 (0 : Int32) (by omega) (rfl) (by omega) _ _ hP hS ls (lv_sub hl [0, 1, 2, 3, 4] rfl)
set_option maxHeartbeats 4000000 in
set_option maxRecDepth 100000 in
theorem c_X10_keep_q (l : Launch) (D : va_G) (cy : Nat → ClassId) (mo : Nat) (a : Nat → Nat) (f : Nat → Int32) (g : Nat → Int64) (r : Nat → Nat → Int32) (q : Nat → Nat → Int64) (d : Int32) (what : Int32) (k0 : Int32) (p0 : Int64) (hD : DM cy mo a) (hI : MI f r) : Mi l D cy mo a yX10_keep wsX10_keep ({ frames := 3, cells := 0, slots := 0, locals := 69 }) f g r q [.int d, .int what, .int k0, .long p0] (fun r0 u => ∃ (sh : Nat → Int32), ∃ (sz : Nat → Int32), ∃ (sw : Nat → Int32), ∃ (sf : Nat → Int32), ∃ (sr : Nat → Int64), u = ((upd f 0 (0 : Int32)), g, (va_up (va_up (va_up (va_up r 29 sh) 30 sz) 31 sw) 32 sf), (va_up q 33 sr)) ∧ (yesNo (okKeep (f 1) (fun j9 => (r 3 j9).toNatClampNeg) (fun j9 => (r 4 j9).toNatClampNeg) d what k0 p0) 0 (-1) r0 ∧ ((okKeep (f 1) (fun j9 => (r 3 j9).toNatClampNeg) (fun j9 => (r 4 j9).toNatClampNeg) d what k0 p0 ∧ sh = upd (r 29) d.toNatClampNeg what ∧ (what.toInt = 1 → sw = upd (r 31) d.toNatClampNeg (heR (r 2 k0.toNatClampNeg) (r 3 k0.toNatClampNeg).toNatClampNeg (r 4 k0.toNatClampNeg).toNatClampNeg (smN (fun s9 => r 8 (36 * k0.toNatClampNeg + s9)) 36))) ∧ (¬ what.toInt = 1 → sw = r 31)) ∨ (¬ okKeep (f 1) (fun j9 => (r 3 j9).toNatClampNeg) (fun j9 => (r 4 j9).toNatClampNeg) d what k0 p0 ∧ sh = r 29 ∧ sw = r 31)) ∧ MI (upd f 0 (0 : Int32)) (va_up (va_up (va_up (va_up r 29 sh) 30 sz) 31 sw) 32 sf))) := by
  refine Met.ofW (cc := cX10_keep) (maxL := 8) (ret := (some .int)) (by decide) rfl ?_
  intro p e s m args below meth c s₁ B hml hv
  obtain ⟨rfl, hP, hK⟩ := hv
  have hx := B.exec
  have hb := B.bytes
  have hr := B.returns
  have hts := atoms_spec (ws := wsX10_keep) B.pre
  have hin : ∀ w ∈ u_ws RX10 TX10 35, w ∈ wsX10_keep := by decide +kernel
  have hown : s.vm.findClass RX10 = some m.cls := findClass_of_methodNamed B.named
  have hlocks := B.notSynchronized
  have hS : va_S (AM mo a) s.heap s.heap [] := va_S.rf
  have hl := lv_entry ([.ref mo, .int d, .int what, .int k0, .long p0]) (n := 8) (Nat.le_of_ble_eq_true rfl)
  rw [lg_entry_eq]
  generalize (lg_sl ([.ref mo, .int d, .int what, .int k0, .long p0]) ++ List.replicate (8 - (lg_sl ([.ref mo, .int d, .int what, .int k0, .long p0])).length) Slot.unset).toArray = ls at hl ⊢
  have hl : lv_has ls 8 [(0, .ref mo), (1, .int d), (2, .int what), (3, .int k0), (4, .long p0)] := hl
  have k_m15 : (-15 : Int32).toInt = -15 := by decide
  have k_m1 : (-1 : Int32).toInt = -1 := by decide
  have k_0 : (0 : Int32).toInt = 0 := by decide
  have k_1 : (1 : Int32).toInt = 1 := by decide
  have k_3 : (3 : Int32).toInt = 3 := by decide
  have k_4 : (4 : Int32).toInt = 4 := by decide
  have k_11 : (11 : Int32).toInt = 11 := by decide
  have k_44 : (44 : Int32).toInt = 44 := by decide
  have k_60 : (60 : Int32).toInt = 60 := by decide
  have hI1 := hI.1
  refine lv_aload_n hx hb dX10_keep_0 rfl (lv_at hl 0 rfl) ?_
  refine lv_iconst (v := 0) hx hb dX10_keep_1 (by decide) ?_
  refine m_put (v := .int (0 : Int32)) (ty := .int) hx hb hts hin hown hK hP hD hS 0 (by decide) rfl (hts (.fieldLink RX10 79 "ShadowBenchModel" "thrown" "I") (by decide +kernel)) rfl (by decide +kernel) rfl rfl (upd f 0 (0 : Int32)) g rfl dX10_keep_2 (fun H locs hP hS => ?_)
  refine lv_iload_n hx hb dX10_keep_5 rfl (lv_at hl 1 rfl) ?_
  refine m_pu (As := [.int d]) (rest := []) ⟨hx, hb, hml, hown, hts⟩ (c_X10_isShelf l d ) (va_cwS 1 hts gX10_keep_X10_isShelf rfl rfl rfl (by decide +kernel) ⟨Nat.le_of_ble_eq_true rfl, Nat.le_of_ble_eq_true rfl⟩) hP rfl hl.1 rfl (Nat.le_of_ble_eq_true rfl) dX10_keep_6 ⟨Nat.le_of_ble_eq_true rfl, Nat.le_of_ble_eq_true rfl⟩ hS (fun r6 H locs q6 hP hS => ?_)
  refine lv_if_eq (tgt := 71) hx hb dX10_keep_9 (by decide) (fun c9 => ?_) (fun c9 => ?_)
  · skip
    have b9 := bo_f q6 c9
    refine lv_iconst (v := 0) hx hb dX10_keep_71 (by decide) ?_
    refine lv_istore (lv' := [(6, .int (0 : Int32)), (0, .ref mo), (1, .int d), (2, .int what), (3, .int k0), (4, .long p0)]) hx hb dX10_keep_72 hl (by decide) rfl (fun ls hl => ?_)
    refine lv_iload hx hb dX10_keep_74 (lv_at hl 0 rfl) ?_
    refine lv_if_ne (tgt := 81) hx hb dX10_keep_76 (by decide) (fun c76 => ?_) (fun c76 => ?_)
    · first | exact absurd c76 (by decide) | exact absurd (by decide) c76
    · skip
      have d76 := c76
      rw [fa_eq] at d76
      refine lv_iconst (v := (-1)) hx hb dX10_keep_79 (by decide) ?_
      have hP := wm_eq rfl rfl (ec_r___29_30_31_32 r ) (ec_q___33 q ) hP
      exact W.iret (v := ((-1) : Int32)) hx hb hr (fun t ht hW => ⟨⟨_, ((upd f 0 (0 : Int32)), g, (va_up (va_up (va_up (va_up r 29 (r 29)) 30 (r 30)) 31 (r 31)) 32 (r 32)), (va_up q 33 (q 33))), rfl, ⟨(r 29), (r 30), (r 31), (r 32), (q 33), rfl, ⟨(Or.inr ⟨(fun z9 => by unfold okKeep okJob at z9; rcases z9.2 with z8 | ⟨z8, z7⟩ | ⟨z8, z7, z6⟩; (first | exact b9 z9.1 | omega); (first | exact b9 z9.1 | exact b31 z7 | omega); (first | exact b9 z9.1 | exact b44 z7 | (have szw := mi_w hI (x := k0) (by omega) (by omega) rfl; have szh := mi_h hI (x := k0) (by omega) (by omega) rfl; subst e52; subst e58; exact goodP_no b64 ⟨⟨szw, szh⟩, z6⟩) | omega)), rfl⟩), (Or.inr ⟨(fun z9 => by unfold okKeep okJob at z9; rcases z9.2 with z8 | ⟨z8, z7⟩ | ⟨z8, z7, z6⟩; (first | exact b9 z9.1 | omega); (first | exact b9 z9.1 | exact b31 z7 | omega); (first | exact b9 z9.1 | exact b44 z7 | (have szw := mi_w hI (x := k0) (by omega) (by omega) rfl; have szh := mi_h hI (x := k0) (by omega) (by omega) rfl; subst e52; subst e58; exact goodP_no b64 ⟨⟨szw, szh⟩, z6⟩) | omega)), rfl, rfl⟩), by first | exact hI | exact mi_sz (d := d) hI (v := v110) (by omega) rfl rfl rfl rfl rfl rfl rfl rfl | exact mi_sz (d := d) hI (v := v131) (by omega) rfl rfl rfl rfl rfl rfl rfl rfl | exact mi_sz (d := d) hI (v := 0) (by decide) rfl rfl rfl rfl rfl rfl rfl rfl⟩⟩, by unfold mB; rw [ht]; exact hP⟩, hS.F ht⟩) hS.2.2 dX10_keep_80
  · skip
    have b9 := bo_t q6 c9
    refine lv_iload_n hx hb dX10_keep_12 rfl (lv_at hl 2 rfl) ?_
    refine lv_if_eq (tgt := 67) hx hb dX10_keep_13 (by decide) (fun c13 => ?_) (fun c13 => ?_)
    · skip
      have d13 := c13
      rw [fa_eq] at d13
      refine lv_iconst (v := 1) hx hb dX10_keep_67 (by decide) ?_
      refine lv_goto (tgt := 72) hx hb dX10_keep_68 (by decide) ?_
      refine lv_istore (lv' := [(6, .int (1 : Int32)), (0, .ref mo), (1, .int d), (2, .int what), (3, .int k0), (4, .long p0)]) hx hb dX10_keep_72 hl (by decide) rfl (fun ls hl => ?_)
      refine lv_iload hx hb dX10_keep_74 (lv_at hl 0 rfl) ?_
      refine lv_if_ne (tgt := 81) hx hb dX10_keep_76 (by decide) (fun c76 => ?_) (fun c76 => ?_)
      · skip
        have d76 := c76
        rw [fa_eq] at d76
        refine lv_aload_n hx hb dX10_keep_81 rfl (lv_at hl 1 rfl) ?_
        refine m_get (v := .ref (a 29)) hx hb hts hin hown hK hP 29 (by decide) rfl (hts (.fieldLink RX10 61 "ShadowBenchModel" "shelf" "[I") (by decide +kernel)) rfl dX10_keep_82 ?_
        refine lv_iload_n hx hb dX10_keep_85 rfl (lv_at hl 2 rfl) ?_
        refine lv_iload_n hx hb dX10_keep_86 rfl (lv_at hl 3 rfl) ?_
        refine m_iast (w := (r 29)) hx hb hK hP hD hS 17 rfl (vp_in_iff.mpr ⟨by omega, by omega⟩) (va_up r 29 (upd (r 29) d.toNatClampNeg what)) (ms_29 cy mo a _ _ _ _ _) dX10_keep_87 (fun H locs hP hS => ?_)
        refine lv_aload_n hx hb dX10_keep_88 rfl (lv_at hl 1 rfl) ?_
        refine m_get (v := .ref (a 30)) hx hb hts hin hown hK hP 30 (by decide) rfl (hts (.fieldLink RX10 64 "ShadowBenchModel" "shelfSize" "[I") (by decide +kernel)) rfl dX10_keep_89 ?_
        refine lv_iload_n hx hb dX10_keep_92 rfl (lv_at hl 2 rfl) ?_
        refine lv_iload_n hx hb dX10_keep_93 rfl (lv_at hl 3 rfl) ?_
        refine lv_iconst (v := 3) hx hb dX10_keep_94 (by decide) ?_
        refine lv_icmp_ne (tgt := 114) hx hb dX10_keep_95 (by decide) (fun c95 => ?_) (fun c95 => ?_)
        · skip
          have d95 := c95
          rw [fa_eq] at d95
          refine lv_iload_n hx hb dX10_keep_114 rfl (lv_at hl 3 rfl) ?_
          refine lv_iconst (v := 4) hx hb dX10_keep_115 (by decide) ?_
          refine lv_icmp_ne (tgt := 135) hx hb dX10_keep_116 (by decide) (fun c116 => ?_) (fun c116 => ?_)
          · skip
            have d116 := c116
            rw [fa_eq] at d116
            refine lv_iconst (v := 0) hx hb dX10_keep_135 (by decide) ?_
            refine m_iast (w := (r 30)) hx hb hK hP hD hS 18 rfl (vp_in_iff.mpr ⟨by omega, by omega⟩) (va_up (va_up r 29 ((upd (r 29) d.toNatClampNeg what))) 30 (upd (r 30) d.toNatClampNeg (0 : Int32))) (ms_30 cy mo a _ _ _ _ _) dX10_keep_136 (fun H locs hP hS => ?_)
            refine lv_iload_n hx hb dX10_keep_137 rfl (lv_at hl 3 rfl) ?_
            refine lv_iconst (v := 1) hx hb dX10_keep_138 (by decide) ?_
            refine lv_icmp_ne (tgt := 174) hx hb dX10_keep_139 (by decide) (fun c139 => ?_) (fun c139 => ?_)
            · skip
              have d139 := c139
              rw [fa_eq] at d139
              refine lv_iconst (v := 0) hx hb dX10_keep_174 (by decide) ?_
              refine lv_istore (lv' := [(7, .int (0 : Int32)), (6, .int (1 : Int32)), (0, .ref mo), (1, .int d), (2, .int what), (3, .int k0), (4, .long p0)]) hx hb dX10_keep_175 hl (by decide) rfl (fun ls hl => ?_)
              have loop_177 : ∀ (n : Nat) (i : Nat) (s3 : Nat → Int64), (i ≤ 60) → 60 - i < n → ∀ (H : Heap) (locs : List Loc), va_P D vwCl (WM cy mo a (upd f 0 (0 : Int32)) g (va_up (va_up r 29 ((upd (r 29) d.toNatClampNeg what))) 30 ((upd (r 30) d.toNatClampNeg (0 : Int32)))) (va_up q 33 s3)) H → va_S (AM mo a) s.heap H locs → ∀ (ls : Array Slot), lv_has ls 8 [(7, .int (nI i)), (6, .int (1 : Int32)), (0, .ref mo), (1, .int d), (2, .int what), (3, .int k0), (4, .long p0)] → W p l e (headSpec wsX10_keep ({ frames := 3, cells := 0, slots := 0, locals := 69 })).room s m #[Value.ref mo, Value.int d, Value.int what, Value.int k0, Value.long p0] below meth c H locs 0 0 (MQ below (va_Qi (fun r0 u => ∃ (sh : Nat → Int32), ∃ (sz : Nat → Int32), ∃ (sw : Nat → Int32), ∃ (sf : Nat → Int32), ∃ (sr : Nat → Int64), u = ((upd f 0 (0 : Int32)), g, (va_up (va_up (va_up (va_up r 29 sh) 30 sz) 31 sw) 32 sf), (va_up q 33 sr)) ∧ (yesNo (okKeep (f 1) (fun j9 => (r 3 j9).toNatClampNeg) (fun j9 => (r 4 j9).toNatClampNeg) d what k0 p0) 0 (-1) r0 ∧ ((okKeep (f 1) (fun j9 => (r 3 j9).toNatClampNeg) (fun j9 => (r 4 j9).toNatClampNeg) d what k0 p0 ∧ sh = upd (r 29) d.toNatClampNeg what ∧ (what.toInt = 1 → sw = upd (r 31) d.toNatClampNeg (heR (r 2 k0.toNatClampNeg) (r 3 k0.toNatClampNeg).toNatClampNeg (r 4 k0.toNatClampNeg).toNatClampNeg (smN (fun s9 => r 8 (36 * k0.toNatClampNeg + s9)) 36))) ∧ (¬ what.toInt = 1 → sw = r 31)) ∨ (¬ okKeep (f 1) (fun j9 => (r 3 j9).toNatClampNeg) (fun j9 => (r 4 j9).toNatClampNeg) d what k0 p0 ∧ sh = r 29 ∧ sw = r 31)) ∧ MI (upd f 0 (0 : Int32)) (va_up (va_up (va_up (va_up r 29 sh) 30 sz) 31 sw) 32 sf))) (mB D cy mo a) (AM mo a)) #[Value.ref mo, Value.int d, Value.int what, Value.int k0, Value.long p0] s 0 0 (AM mo a)) (F0 m 177 ls []) := by
                intro n
                induction n with
                | zero => intro i s3 j177_0 hn; exact absurd hn (Nat.not_lt_zero _)
                | succ n ih_177 =>
                  intro i s3 j177_0 hn_177 H locs hP hS ls hl
                  have ii : (nI i).toInt = (i : Int) := nI_toInt (by omega)
                  refine lv_iload hx hb dX10_keep_177 (lv_at hl 0 rfl) ?_
                  refine lv_aload_n hx hb dX10_keep_179 rfl (lv_at hl 2 rfl) ?_
                  refine m_get (v := .ref (a 30)) hx hb hts hin hown hK hP 30 (by decide) rfl (hts (.fieldLink RX10 64 "ShadowBenchModel" "shelfSize" "[I") (by decide +kernel)) rfl dX10_keep_180 ?_
                  refine lv_iload_n hx hb dX10_keep_183 rfl (lv_at hl 3 rfl) ?_
                  refine m_iald (w := ((upd (r 30) d.toNatClampNeg (0 : Int32)))) hx hb hK hP 18 rfl (vp_in_iff.mpr ⟨by omega, by omega⟩) dX10_keep_184 ?_
                  refine lv_topi (fun v184 e184 => ?_)
                  have i184 : v184.toInt = (((upd (r 30) d.toNatClampNeg (0 : Int32))) d.toNatClampNeg).toInt := congrArg Int32.toInt e184
                  have z184 := e184
                  simp only [upd, if_true] at z184
                  have y184 := congrArg Int32.toInt z184
                  refine lv_icmp_ge (tgt := 272) hx hb dX10_keep_185 (by decide) (fun c185 => ?_) (fun c185 => ?_)
                  · skip
                    have d185 := c185
                    rw [fa_le] at d185
                    refine lv_iconst (v := 0) hx hb dX10_keep_272 (by decide) ?_
                    have hP := wm_eq rfl rfl (ec_r_29_30__29_30_31_32 r ((upd (r 29) d.toNatClampNeg what)) ((upd (r 30) d.toNatClampNeg (0 : Int32)))) rfl hP
                    exact W.iret (v := (0 : Int32)) hx hb hr (fun t ht hW => ⟨⟨_, ((upd f 0 (0 : Int32)), g, (va_up (va_up (va_up (va_up r 29 (((upd (r 29) d.toNatClampNeg what)))) 30 (((upd (r 30) d.toNatClampNeg (0 : Int32))))) 31 (r 31)) 32 (r 32)), (va_up q 33 s3)), rfl, ⟨((upd (r 29) d.toNatClampNeg what)), ((upd (r 30) d.toNatClampNeg (0 : Int32))), (r 31), (r 32), s3, rfl, ⟨(Or.inl ⟨⟨b9, (by unfold okJob; first | exact Or.inl (by omega) | exact Or.inr (Or.inl ⟨by omega, b31⟩) | (have z9 := goodP_of b64; subst e52; subst e58; exact Or.inr (Or.inr ⟨by omega, b44, z9.2⟩)))⟩, rfl⟩), (Or.inl ⟨⟨b9, (by unfold okJob; first | exact Or.inl (by omega) | exact Or.inr (Or.inl ⟨by omega, b31⟩) | (have z9 := goodP_of b64; subst e52; subst e58; exact Or.inr (Or.inr ⟨by omega, b44, z9.2⟩)))⟩, rfl, (by first | exact ⟨fun _ => congrArg (fun z9 => upd (r 31) d.toNatClampNeg z9) q149, fun z9 => by exfalso; omega⟩ | exact ⟨fun z9 => by exfalso; omega, fun _ => rfl⟩)⟩), by first | exact hI | exact mi_sz (d := d) hI (v := v110) (by omega) rfl rfl rfl rfl rfl rfl rfl rfl | exact mi_sz (d := d) hI (v := v131) (by omega) rfl rfl rfl rfl rfl rfl rfl rfl | exact mi_sz (d := d) hI (v := 0) (by decide) rfl rfl rfl rfl rfl rfl rfl rfl⟩⟩, by unfold mB; rw [ht]; exact hP⟩, hS.F ht⟩) hS.2.2 dX10_keep_273
                  · skip
                    have d185 := c185
                    rw [fa_le] at d185
                    refine lv_aload_n hx hb dX10_keep_188 rfl (lv_at hl 2 rfl) ?_
                    refine m_get (v := .ref (a 33)) hx hb hts hin hown hK hP 33 (by decide) rfl (hts (.fieldLink RX10 73 "ShadowBenchModel" "shelfRow" "[J") (by decide +kernel)) rfl dX10_keep_189 ?_
                    refine lv_bipush (v := 60) hx hb dX10_keep_192 (by decide) ?_
                    refine lv_iload_n hx hb dX10_keep_194 rfl (lv_at hl 3 rfl) ?_
                    refine lv_imul hx hb dX10_keep_195 ?_
                    refine lv_topi (fun v195 e195 => ?_)
                    have i195 : v195.toInt = 60 * d.toInt := by rw [e195]; exact mulcL rfl (by omega) (by omega)
                    refine lv_iload hx hb dX10_keep_196 (lv_at hl 0 rfl) ?_
                    refine lv_iadd hx hb dX10_keep_198 ?_
                    refine lv_topi (fun v198 e198 => ?_)
                    have i198 : v198.toInt = v195.toInt + (nI i).toInt := by rw [e198]; exact fb_addI (by omega) (by omega)
                    refine lv_iload_n hx hb dX10_keep_199 rfl (lv_at hl 4 rfl) ?_
                    refine lv_iconst (v := 3) hx hb dX10_keep_200 (by decide) ?_
                    refine lv_icmp_ne (tgt := 215) hx hb dX10_keep_201 (by decide) (fun c201 => ?_) (fun c201 => ?_)
                    · skip
                      have d201 := c201
                      rw [fa_eq] at d201
                      refine lv_iload hx hb dX10_keep_215 (lv_at hl 0 rfl) ?_
                      refine lv_aload_n hx hb dX10_keep_217 rfl (lv_at hl 2 rfl) ?_
                      refine m_get (v := .ref (a 4)) hx hb hts hin hown hK hP 4 (by decide) rfl (hts (.fieldLink RX10 16 "ShadowBenchModel" "high" "[I") (by decide +kernel)) rfl dX10_keep_218 ?_
                      refine lv_iload_n hx hb dX10_keep_221 rfl (lv_at hl 5 rfl) ?_
                      refine m_iald (w := (r 4)) hx hb hK hP 3 rfl (vp_in_iff.mpr ⟨by omega, by omega⟩) dX10_keep_222 ?_
                      refine lv_topi (fun v222 e222 => ?_)
                      have i222 : v222.toInt = ((r 4) k0.toNatClampNeg).toInt := congrArg Int32.toInt e222
                      have w222 := mi_h hI (x := k0) (by omega) (by omega) e222
                      refine lv_icmp_ge (tgt := 242) hx hb dX10_keep_223 (by decide) (fun c223 => ?_) (fun c223 => ?_)
                      · skip
                        have d223 := c223
                        rw [fa_le] at d223
                        refine lv_aload_n hx hb dX10_keep_242 rfl (lv_at hl 2 rfl) ?_
                        refine m_get (v := .ref (a 5)) hx hb hts hin hown hK hP 5 (by decide) rfl (hts (.fieldLink RX10 19 "ShadowBenchModel" "sums" "[I") (by decide +kernel)) rfl dX10_keep_243 ?_
                        refine lv_bipush (v := 44) hx hb dX10_keep_246 (by decide) ?_
                        refine lv_iload_n hx hb dX10_keep_248 rfl (lv_at hl 5 rfl) ?_
                        refine lv_imul hx hb dX10_keep_249 ?_
                        refine lv_topi (fun v249 e249 => ?_)
                        have i249 : v249.toInt = 44 * k0.toInt := by rw [e249]; exact mulcL rfl (by omega) (by omega)
                        refine lv_bipush (v := 11) hx hb dX10_keep_250 (by decide) ?_
                        refine lv_iadd hx hb dX10_keep_252 ?_
                        refine lv_topi (fun v252 e252 => ?_)
                        have i252 : v252.toInt = v249.toInt + (11 : Int32).toInt := by rw [e252]; exact fb_addI (by omega) (by omega)
                        refine lv_iload hx hb dX10_keep_253 (lv_at hl 0 rfl) ?_
                        refine lv_iadd hx hb dX10_keep_255 ?_
                        refine lv_topi (fun v255 e255 => ?_)
                        have i255 : v255.toInt = v252.toInt + (nI i).toInt := by rw [e255]; exact fb_addI (by omega) (by omega)
                        refine lv_aload_n hx hb dX10_keep_256 rfl (lv_at hl 2 rfl) ?_
                        refine m_get (v := .ref (a 4)) hx hb hts hin hown hK hP 4 (by decide) rfl (hts (.fieldLink RX10 16 "ShadowBenchModel" "high" "[I") (by decide +kernel)) rfl dX10_keep_257 ?_
                        refine lv_iload_n hx hb dX10_keep_260 rfl (lv_at hl 5 rfl) ?_
                        refine m_iald (w := (r 4)) hx hb hK hP 3 rfl (vp_in_iff.mpr ⟨by omega, by omega⟩) dX10_keep_261 ?_
                        refine lv_topi (fun v261 e261 => ?_)
                        have i261 : v261.toInt = ((r 4) k0.toNatClampNeg).toInt := congrArg Int32.toInt e261
                        have w261 := mi_h hI (x := k0) (by omega) (by omega) e261
                        refine lv_isub hx hb dX10_keep_262 ?_
                        refine lv_topi (fun v262 e262 => ?_)
                        have i262 : v262.toInt = v255.toInt - v261.toInt := by rw [e262]; exact fb_subI (by omega) (by omega)
                        refine m_iald (w := (r 5)) hx hb hK hP 4 rfl (vp_in_iff.mpr ⟨by omega, by omega⟩) dX10_keep_263 ?_
                        refine lv_topi (fun v263 e263 => ?_)
                        have i263 : v263.toInt = ((r 5) v262.toNatClampNeg).toInt := congrArg Int32.toInt e263
                        refine lv_i2l (v := v263.toInt64) hx hb dX10_keep_264 rfl ?_
                        refine m_last (w := s3) hx hb hK hP hD hS 21 rfl (vp_in_iff.mpr ⟨by omega, by omega⟩) (va_up (va_up q 33 s3) 33 (vp_updL s3 v198.toNatClampNeg v263.toInt64)) (ms_33 cy mo a _ _ _ _ _) dX10_keep_265 (fun H locs hP hS => ?_)
                        have hP := wm_eq rfl rfl rfl (es_q_33__33 q s3 (vp_updL s3 v198.toNatClampNeg v263.toInt64)) hP
                        refine lv_iinc (v := (nI (i + 1))) (lv' := [(7, .int (nI (i + 1))), (6, .int (1 : Int32)), (0, .ref mo), (1, .int d), (2, .int what), (3, .int k0), (4, .long p0)]) hx hb dX10_keep_266 hl (k := 0) rfl (nI_1 _) (by decide) rfl (fun ls hl => ?_)
                        refine lv_goto (tgt := 177) hx hb dX10_keep_269 (by decide) ?_
                        have hP := wm_eq rfl rfl (ec_r_29_30__29_30 r ((upd (r 29) d.toNatClampNeg what)) ((upd (r 30) d.toNatClampNeg (0 : Int32)))) rfl hP
                        exact ih_177 (i + 1) (vp_updL s3 v198.toNatClampNeg v263.toInt64) (by omega) (by omega) _ _ hP hS ls (lv_sub hl [0, 1, 2, 3, 4, 5, 6] rfl)
                      · skip
                        have d223 := c223
                        rw [fa_le] at d223
                        refine lv_aload_n hx hb dX10_keep_226 rfl (lv_at hl 2 rfl) ?_
                        refine m_get (v := .ref (a 5)) hx hb hts hin hown hK hP 5 (by decide) rfl (hts (.fieldLink RX10 19 "ShadowBenchModel" "sums" "[I") (by decide +kernel)) rfl dX10_keep_227 ?_
                        refine lv_bipush (v := 44) hx hb dX10_keep_230 (by decide) ?_
                        refine lv_iload_n hx hb dX10_keep_232 rfl (lv_at hl 5 rfl) ?_
                        refine lv_imul hx hb dX10_keep_233 ?_
                        refine lv_topi (fun v233 e233 => ?_)
                        have i233 : v233.toInt = 44 * k0.toInt := by rw [e233]; exact mulcL rfl (by omega) (by omega)
                        refine lv_iload hx hb dX10_keep_234 (lv_at hl 0 rfl) ?_
                        refine lv_iadd hx hb dX10_keep_236 ?_
                        refine lv_topi (fun v236 e236 => ?_)
                        have i236 : v236.toInt = v233.toInt + (nI i).toInt := by rw [e236]; exact fb_addI (by omega) (by omega)
                        refine m_iald (w := (r 5)) hx hb hK hP 4 rfl (vp_in_iff.mpr ⟨by omega, by omega⟩) dX10_keep_237 ?_
                        refine lv_topi (fun v237 e237 => ?_)
                        have i237 : v237.toInt = ((r 5) v236.toNatClampNeg).toInt := congrArg Int32.toInt e237
                        refine lv_i2l (v := v237.toInt64) hx hb dX10_keep_238 rfl ?_
                        refine lv_goto (tgt := 265) hx hb dX10_keep_239 (by decide) ?_
                        refine m_last (w := s3) hx hb hK hP hD hS 21 rfl (vp_in_iff.mpr ⟨by omega, by omega⟩) (va_up (va_up q 33 s3) 33 (vp_updL s3 v198.toNatClampNeg v237.toInt64)) (ms_33 cy mo a _ _ _ _ _) dX10_keep_265 (fun H locs hP hS => ?_)
                        have hP := wm_eq rfl rfl rfl (es_q_33__33 q s3 (vp_updL s3 v198.toNatClampNeg v237.toInt64)) hP
                        refine lv_iinc (v := (nI (i + 1))) (lv' := [(7, .int (nI (i + 1))), (6, .int (1 : Int32)), (0, .ref mo), (1, .int d), (2, .int what), (3, .int k0), (4, .long p0)]) hx hb dX10_keep_266 hl (k := 0) rfl (nI_1 _) (by decide) rfl (fun ls hl => ?_)
                        refine lv_goto (tgt := 177) hx hb dX10_keep_269 (by decide) ?_
                        have hP := wm_eq rfl rfl (ec_r_29_30__29_30 r ((upd (r 29) d.toNatClampNeg what)) ((upd (r 30) d.toNatClampNeg (0 : Int32)))) rfl hP
                        exact ih_177 (i + 1) (vp_updL s3 v198.toNatClampNeg v237.toInt64) (by omega) (by omega) _ _ hP hS ls (lv_sub hl [0, 1, 2, 3, 4, 5, 6] rfl)
                    · first | exact absurd c201 c95 | exact absurd c95 c201
              have hP := wm_eq rfl rfl (ec_r_29_30__29_30 r ((upd (r 29) d.toNatClampNeg what)) ((upd (r 30) d.toNatClampNeg (0 : Int32)))) (ec_q___33 q ) hP
              exact loop_177 (60 + 1) 0 (q 33) (by omega) (by omega) _ _ hP hS ls (lv_sub hl [0, 1, 2, 3, 4, 5, 6] rfl)
            · skip
              have d139 := c139
              rw [fa_eq] at d139
              refine lv_aload_n hx hb dX10_keep_142 rfl (lv_at hl 1 rfl) ?_
              refine m_get (v := .ref (a 31)) hx hb hts hin hown hK hP 31 (by decide) rfl (hts (.fieldLink RX10 67 "ShadowBenchModel" "shelfWeight" "[I") (by decide +kernel)) rfl dX10_keep_143 ?_
              refine lv_iload_n hx hb dX10_keep_146 rfl (lv_at hl 2 rfl) ?_
              refine lv_aload_n hx hb dX10_keep_147 rfl (lv_at hl 1 rfl) ?_
              refine lv_iload_n hx hb dX10_keep_148 rfl (lv_at hl 4 rfl) ?_
              refine m_calli (As := [.int k0]) (rest := [.int d, .ref (a 31)]) ⟨hx, hb, hml, hown, hts⟩ (c_X10_weightOf_x l D cy mo a (upd f 0 (0 : Int32)) g (va_up (va_up r 29 ((upd (r 29) d.toNatClampNeg what))) 30 ((upd (r 30) d.toNatClampNeg (0 : Int32)))) q k0 hD (by first | exact hI | exact mi_sz (d := d) hI (v := 0) (by first | omega | decide) rfl rfl rfl rfl rfl rfl rfl rfl | exact mi_sz (d := d) hI (v := v131) (by first | omega | decide) rfl rfl rfl rfl rfl rfl rfl rfl | exact mi_sz (d := d) hI (v := v110) (by first | omega | decide) rfl rfl rfl rfl rfl rfl rfl rfl) (show 0 ≤ k0.toInt ∧ k0.toInt < (f 1).toInt by omega)) (cwV 1 hts gX10_keep_X10_weightOf rfl rfl rfl (by decide +kernel) ⟨Nat.le_of_ble_eq_true rfl, Nat.le_of_ble_eq_true rfl⟩) hK hP rfl hl.1 rfl (Nat.le_of_ble_eq_true rfl) dX10_keep_149 ⟨Nat.le_of_ble_eq_true rfl, Nat.le_of_ble_eq_true rfl⟩ hS (fun r149 u H locs q149 hP hS => ?_)
              obtain ⟨rfl, q149⟩ := q149
              have hP : va_P D vwCl (WM cy mo a (upd f 0 (0 : Int32)) g (va_up (va_up r 29 ((upd (r 29) d.toNatClampNeg what))) 30 ((upd (r 30) d.toNatClampNeg (0 : Int32)))) q) H := hP
              have q149 : r149 = (heR ((r 2) k0.toNatClampNeg) ((r 3) k0.toNatClampNeg).toNatClampNeg ((r 4) k0.toNatClampNeg).toNatClampNeg (smN (fun s9 => (va_up (va_up r 29 ((upd (r 29) d.toNatClampNeg what))) 30 ((upd (r 30) d.toNatClampNeg (0 : Int32)))) 8 (36 * k0.toNatClampNeg + s9)) 36)) := q149
              refine m_iast (w := (r 31)) hx hb hK hP hD hS 19 rfl (vp_in_iff.mpr ⟨by omega, by omega⟩) (va_up (va_up (va_up r 29 ((upd (r 29) d.toNatClampNeg what))) 30 ((upd (r 30) d.toNatClampNeg (0 : Int32)))) 31 (upd (r 31) d.toNatClampNeg r149)) (ms_31 cy mo a _ _ _ _ _) dX10_keep_152 (fun H locs hP hS => ?_)
              refine lv_aload_n hx hb dX10_keep_153 rfl (lv_at hl 1 rfl) ?_
              refine m_get (v := .ref (a 32)) hx hb hts hin hown hK hP 32 (by decide) rfl (hts (.fieldLink RX10 70 "ShadowBenchModel" "shelfFailure" "[I") (by decide +kernel)) rfl dX10_keep_154 ?_
              refine lv_iload_n hx hb dX10_keep_157 rfl (lv_at hl 2 rfl) ?_
              refine lv_aload_n hx hb dX10_keep_158 rfl (lv_at hl 1 rfl) ?_
              refine m_get (v := .ref (a 2)) hx hb hts hin hown hK hP 2 (by decide) rfl (hts (.fieldLink RX10 7 "ShadowBenchModel" "kind" "[I") (by decide +kernel)) rfl dX10_keep_159 ?_
              refine lv_iload_n hx hb dX10_keep_162 rfl (lv_at hl 4 rfl) ?_
              refine m_iald (w := (r 2)) hx hb hK hP 1 rfl (vp_in_iff.mpr ⟨by omega, by omega⟩) dX10_keep_163 ?_
              refine lv_topi (fun v163 e163 => ?_)
              have i163 : v163.toInt = ((r 2) k0.toNatClampNeg).toInt := congrArg Int32.toInt e163
              refine lv_if_ne (tgt := 172) hx hb dX10_keep_164 (by decide) (fun c164 => ?_) (fun c164 => ?_)
              · skip
                have d164 := c164
                rw [fa_eq] at d164
                refine lv_iload_n hx hb dX10_keep_172 rfl (lv_at hl 4 rfl) ?_
                refine m_iast (w := (r 32)) hx hb hK hP hD hS 20 rfl (vp_in_iff.mpr ⟨by omega, by omega⟩) (va_up (va_up (va_up (va_up r 29 ((upd (r 29) d.toNatClampNeg what))) 30 ((upd (r 30) d.toNatClampNeg (0 : Int32)))) 31 ((upd (r 31) d.toNatClampNeg r149))) 32 (upd (r 32) d.toNatClampNeg k0)) (ms_32 cy mo a _ _ _ _ _) dX10_keep_173 (fun H locs hP hS => ?_)
                refine lv_iconst (v := 0) hx hb dX10_keep_174 (by decide) ?_
                refine lv_istore (lv' := [(7, .int (0 : Int32)), (6, .int (1 : Int32)), (0, .ref mo), (1, .int d), (2, .int what), (3, .int k0), (4, .long p0)]) hx hb dX10_keep_175 hl (by decide) rfl (fun ls hl => ?_)
                have loop_177 : ∀ (n : Nat) (i : Nat) (s3 : Nat → Int64), (i ≤ 60) → 60 - i < n → ∀ (H : Heap) (locs : List Loc), va_P D vwCl (WM cy mo a (upd f 0 (0 : Int32)) g (va_up (va_up (va_up (va_up r 29 ((upd (r 29) d.toNatClampNeg what))) 30 ((upd (r 30) d.toNatClampNeg (0 : Int32)))) 31 ((upd (r 31) d.toNatClampNeg r149))) 32 ((upd (r 32) d.toNatClampNeg k0))) (va_up q 33 s3)) H → va_S (AM mo a) s.heap H locs → ∀ (ls : Array Slot), lv_has ls 8 [(7, .int (nI i)), (6, .int (1 : Int32)), (0, .ref mo), (1, .int d), (2, .int what), (3, .int k0), (4, .long p0)] → W p l e (headSpec wsX10_keep ({ frames := 3, cells := 0, slots := 0, locals := 69 })).room s m #[Value.ref mo, Value.int d, Value.int what, Value.int k0, Value.long p0] below meth c H locs 0 0 (MQ below (va_Qi (fun r0 u => ∃ (sh : Nat → Int32), ∃ (sz : Nat → Int32), ∃ (sw : Nat → Int32), ∃ (sf : Nat → Int32), ∃ (sr : Nat → Int64), u = ((upd f 0 (0 : Int32)), g, (va_up (va_up (va_up (va_up r 29 sh) 30 sz) 31 sw) 32 sf), (va_up q 33 sr)) ∧ (yesNo (okKeep (f 1) (fun j9 => (r 3 j9).toNatClampNeg) (fun j9 => (r 4 j9).toNatClampNeg) d what k0 p0) 0 (-1) r0 ∧ ((okKeep (f 1) (fun j9 => (r 3 j9).toNatClampNeg) (fun j9 => (r 4 j9).toNatClampNeg) d what k0 p0 ∧ sh = upd (r 29) d.toNatClampNeg what ∧ (what.toInt = 1 → sw = upd (r 31) d.toNatClampNeg (heR (r 2 k0.toNatClampNeg) (r 3 k0.toNatClampNeg).toNatClampNeg (r 4 k0.toNatClampNeg).toNatClampNeg (smN (fun s9 => r 8 (36 * k0.toNatClampNeg + s9)) 36))) ∧ (¬ what.toInt = 1 → sw = r 31)) ∨ (¬ okKeep (f 1) (fun j9 => (r 3 j9).toNatClampNeg) (fun j9 => (r 4 j9).toNatClampNeg) d what k0 p0 ∧ sh = r 29 ∧ sw = r 31)) ∧ MI (upd f 0 (0 : Int32)) (va_up (va_up (va_up (va_up r 29 sh) 30 sz) 31 sw) 32 sf))) (mB D cy mo a) (AM mo a)) #[Value.ref mo, Value.int d, Value.int what, Value.int k0, Value.long p0] s 0 0 (AM mo a)) (F0 m 177 ls []) := by
                  intro n
                  induction n with
                  | zero => intro i s3 j177_0 hn; exact absurd hn (Nat.not_lt_zero _)
                  | succ n ih_177 =>
                    intro i s3 j177_0 hn_177 H locs hP hS ls hl
                    have ii : (nI i).toInt = (i : Int) := nI_toInt (by omega)
                    refine lv_iload hx hb dX10_keep_177 (lv_at hl 0 rfl) ?_
                    refine lv_aload_n hx hb dX10_keep_179 rfl (lv_at hl 2 rfl) ?_
                    refine m_get (v := .ref (a 30)) hx hb hts hin hown hK hP 30 (by decide) rfl (hts (.fieldLink RX10 64 "ShadowBenchModel" "shelfSize" "[I") (by decide +kernel)) rfl dX10_keep_180 ?_
                    refine lv_iload_n hx hb dX10_keep_183 rfl (lv_at hl 3 rfl) ?_
                    refine m_iald (w := ((upd (r 30) d.toNatClampNeg (0 : Int32)))) hx hb hK hP 18 rfl (vp_in_iff.mpr ⟨by omega, by omega⟩) dX10_keep_184 ?_
                    refine lv_topi (fun v184 e184 => ?_)
                    have i184 : v184.toInt = (((upd (r 30) d.toNatClampNeg (0 : Int32))) d.toNatClampNeg).toInt := congrArg Int32.toInt e184
                    have z184 := e184
                    simp only [upd, if_true] at z184
                    have y184 := congrArg Int32.toInt z184
                    refine lv_icmp_ge (tgt := 272) hx hb dX10_keep_185 (by decide) (fun c185 => ?_) (fun c185 => ?_)
                    · skip
                      have d185 := c185
                      rw [fa_le] at d185
                      refine lv_iconst (v := 0) hx hb dX10_keep_272 (by decide) ?_
                      have hP := wm_eq rfl rfl (ec_r_29_30_31_32__29_30_31_32 r ((upd (r 29) d.toNatClampNeg what)) ((upd (r 30) d.toNatClampNeg (0 : Int32))) ((upd (r 31) d.toNatClampNeg r149)) ((upd (r 32) d.toNatClampNeg k0))) rfl hP
                      exact W.iret (v := (0 : Int32)) hx hb hr (fun t ht hW => ⟨⟨_, ((upd f 0 (0 : Int32)), g, (va_up (va_up (va_up (va_up r 29 (((upd (r 29) d.toNatClampNeg what)))) 30 (((upd (r 30) d.toNatClampNeg (0 : Int32))))) 31 (((upd (r 31) d.toNatClampNeg r149)))) 32 (((upd (r 32) d.toNatClampNeg k0)))), (va_up q 33 s3)), rfl, ⟨((upd (r 29) d.toNatClampNeg what)), ((upd (r 30) d.toNatClampNeg (0 : Int32))), ((upd (r 31) d.toNatClampNeg r149)), ((upd (r 32) d.toNatClampNeg k0)), s3, rfl, ⟨(Or.inl ⟨⟨b9, (by unfold okJob; first | exact Or.inl (by omega) | exact Or.inr (Or.inl ⟨by omega, b31⟩) | (have z9 := goodP_of b64; subst e52; subst e58; exact Or.inr (Or.inr ⟨by omega, b44, z9.2⟩)))⟩, rfl⟩), (Or.inl ⟨⟨b9, (by unfold okJob; first | exact Or.inl (by omega) | exact Or.inr (Or.inl ⟨by omega, b31⟩) | (have z9 := goodP_of b64; subst e52; subst e58; exact Or.inr (Or.inr ⟨by omega, b44, z9.2⟩)))⟩, rfl, (by first | exact ⟨fun _ => congrArg (fun z9 => upd (r 31) d.toNatClampNeg z9) q149, fun z9 => by exfalso; omega⟩ | exact ⟨fun z9 => by exfalso; omega, fun _ => rfl⟩)⟩), by first | exact hI | exact mi_sz (d := d) hI (v := v110) (by omega) rfl rfl rfl rfl rfl rfl rfl rfl | exact mi_sz (d := d) hI (v := v131) (by omega) rfl rfl rfl rfl rfl rfl rfl rfl | exact mi_sz (d := d) hI (v := 0) (by decide) rfl rfl rfl rfl rfl rfl rfl rfl⟩⟩, by unfold mB; rw [ht]; exact hP⟩, hS.F ht⟩) hS.2.2 dX10_keep_273
                    · skip
                      have d185 := c185
                      rw [fa_le] at d185
                      refine lv_aload_n hx hb dX10_keep_188 rfl (lv_at hl 2 rfl) ?_
                      refine m_get (v := .ref (a 33)) hx hb hts hin hown hK hP 33 (by decide) rfl (hts (.fieldLink RX10 73 "ShadowBenchModel" "shelfRow" "[J") (by decide +kernel)) rfl dX10_keep_189 ?_
                      refine lv_bipush (v := 60) hx hb dX10_keep_192 (by decide) ?_
                      refine lv_iload_n hx hb dX10_keep_194 rfl (lv_at hl 3 rfl) ?_
                      refine lv_imul hx hb dX10_keep_195 ?_
                      refine lv_topi (fun v195 e195 => ?_)
                      have i195 : v195.toInt = 60 * d.toInt := by rw [e195]; exact mulcL rfl (by omega) (by omega)
                      refine lv_iload hx hb dX10_keep_196 (lv_at hl 0 rfl) ?_
                      refine lv_iadd hx hb dX10_keep_198 ?_
                      refine lv_topi (fun v198 e198 => ?_)
                      have i198 : v198.toInt = v195.toInt + (nI i).toInt := by rw [e198]; exact fb_addI (by omega) (by omega)
                      refine lv_iload_n hx hb dX10_keep_199 rfl (lv_at hl 4 rfl) ?_
                      refine lv_iconst (v := 3) hx hb dX10_keep_200 (by decide) ?_
                      refine lv_icmp_ne (tgt := 215) hx hb dX10_keep_201 (by decide) (fun c201 => ?_) (fun c201 => ?_)
                      · skip
                        have d201 := c201
                        rw [fa_eq] at d201
                        refine lv_iload hx hb dX10_keep_215 (lv_at hl 0 rfl) ?_
                        refine lv_aload_n hx hb dX10_keep_217 rfl (lv_at hl 2 rfl) ?_
                        refine m_get (v := .ref (a 4)) hx hb hts hin hown hK hP 4 (by decide) rfl (hts (.fieldLink RX10 16 "ShadowBenchModel" "high" "[I") (by decide +kernel)) rfl dX10_keep_218 ?_
                        refine lv_iload_n hx hb dX10_keep_221 rfl (lv_at hl 5 rfl) ?_
                        refine m_iald (w := (r 4)) hx hb hK hP 3 rfl (vp_in_iff.mpr ⟨by omega, by omega⟩) dX10_keep_222 ?_
                        refine lv_topi (fun v222 e222 => ?_)
                        have i222 : v222.toInt = ((r 4) k0.toNatClampNeg).toInt := congrArg Int32.toInt e222
                        have w222 := mi_h hI (x := k0) (by omega) (by omega) e222
                        refine lv_icmp_ge (tgt := 242) hx hb dX10_keep_223 (by decide) (fun c223 => ?_) (fun c223 => ?_)
                        · skip
                          have d223 := c223
                          rw [fa_le] at d223
                          refine lv_aload_n hx hb dX10_keep_242 rfl (lv_at hl 2 rfl) ?_
                          refine m_get (v := .ref (a 5)) hx hb hts hin hown hK hP 5 (by decide) rfl (hts (.fieldLink RX10 19 "ShadowBenchModel" "sums" "[I") (by decide +kernel)) rfl dX10_keep_243 ?_
                          refine lv_bipush (v := 44) hx hb dX10_keep_246 (by decide) ?_
                          refine lv_iload_n hx hb dX10_keep_248 rfl (lv_at hl 5 rfl) ?_
                          refine lv_imul hx hb dX10_keep_249 ?_
                          refine lv_topi (fun v249 e249 => ?_)
                          have i249 : v249.toInt = 44 * k0.toInt := by rw [e249]; exact mulcL rfl (by omega) (by omega)
                          refine lv_bipush (v := 11) hx hb dX10_keep_250 (by decide) ?_
                          refine lv_iadd hx hb dX10_keep_252 ?_
                          refine lv_topi (fun v252 e252 => ?_)
                          have i252 : v252.toInt = v249.toInt + (11 : Int32).toInt := by rw [e252]; exact fb_addI (by omega) (by omega)
                          refine lv_iload hx hb dX10_keep_253 (lv_at hl 0 rfl) ?_
                          refine lv_iadd hx hb dX10_keep_255 ?_
                          refine lv_topi (fun v255 e255 => ?_)
                          have i255 : v255.toInt = v252.toInt + (nI i).toInt := by rw [e255]; exact fb_addI (by omega) (by omega)
                          refine lv_aload_n hx hb dX10_keep_256 rfl (lv_at hl 2 rfl) ?_
                          refine m_get (v := .ref (a 4)) hx hb hts hin hown hK hP 4 (by decide) rfl (hts (.fieldLink RX10 16 "ShadowBenchModel" "high" "[I") (by decide +kernel)) rfl dX10_keep_257 ?_
                          refine lv_iload_n hx hb dX10_keep_260 rfl (lv_at hl 5 rfl) ?_
                          refine m_iald (w := (r 4)) hx hb hK hP 3 rfl (vp_in_iff.mpr ⟨by omega, by omega⟩) dX10_keep_261 ?_
                          refine lv_topi (fun v261 e261 => ?_)
                          have i261 : v261.toInt = ((r 4) k0.toNatClampNeg).toInt := congrArg Int32.toInt e261
                          have w261 := mi_h hI (x := k0) (by omega) (by omega) e261
                          refine lv_isub hx hb dX10_keep_262 ?_
                          refine lv_topi (fun v262 e262 => ?_)
                          have i262 : v262.toInt = v255.toInt - v261.toInt := by rw [e262]; exact fb_subI (by omega) (by omega)
                          refine m_iald (w := (r 5)) hx hb hK hP 4 rfl (vp_in_iff.mpr ⟨by omega, by omega⟩) dX10_keep_263 ?_
                          refine lv_topi (fun v263 e263 => ?_)
                          have i263 : v263.toInt = ((r 5) v262.toNatClampNeg).toInt := congrArg Int32.toInt e263
                          refine lv_i2l (v := v263.toInt64) hx hb dX10_keep_264 rfl ?_
                          refine m_last (w := s3) hx hb hK hP hD hS 21 rfl (vp_in_iff.mpr ⟨by omega, by omega⟩) (va_up (va_up q 33 s3) 33 (vp_updL s3 v198.toNatClampNeg v263.toInt64)) (ms_33 cy mo a _ _ _ _ _) dX10_keep_265 (fun H locs hP hS => ?_)
                          have hP := wm_eq rfl rfl rfl (es_q_33__33 q s3 (vp_updL s3 v198.toNatClampNeg v263.toInt64)) hP
                          refine lv_iinc (v := (nI (i + 1))) (lv' := [(7, .int (nI (i + 1))), (6, .int (1 : Int32)), (0, .ref mo), (1, .int d), (2, .int what), (3, .int k0), (4, .long p0)]) hx hb dX10_keep_266 hl (k := 0) rfl (nI_1 _) (by decide) rfl (fun ls hl => ?_)
                          refine lv_goto (tgt := 177) hx hb dX10_keep_269 (by decide) ?_
                          have hP := wm_eq rfl rfl (ec_r_29_30_31_32__29_30_31_32 r ((upd (r 29) d.toNatClampNeg what)) ((upd (r 30) d.toNatClampNeg (0 : Int32))) ((upd (r 31) d.toNatClampNeg r149)) ((upd (r 32) d.toNatClampNeg k0))) rfl hP
                          exact ih_177 (i + 1) (vp_updL s3 v198.toNatClampNeg v263.toInt64) (by omega) (by omega) _ _ hP hS ls (lv_sub hl [0, 1, 2, 3, 4, 5, 6] rfl)
                        · skip
                          have d223 := c223
                          rw [fa_le] at d223
                          refine lv_aload_n hx hb dX10_keep_226 rfl (lv_at hl 2 rfl) ?_
                          refine m_get (v := .ref (a 5)) hx hb hts hin hown hK hP 5 (by decide) rfl (hts (.fieldLink RX10 19 "ShadowBenchModel" "sums" "[I") (by decide +kernel)) rfl dX10_keep_227 ?_
                          refine lv_bipush (v := 44) hx hb dX10_keep_230 (by decide) ?_
                          refine lv_iload_n hx hb dX10_keep_232 rfl (lv_at hl 5 rfl) ?_
                          refine lv_imul hx hb dX10_keep_233 ?_
                          refine lv_topi (fun v233 e233 => ?_)
                          have i233 : v233.toInt = 44 * k0.toInt := by rw [e233]; exact mulcL rfl (by omega) (by omega)
                          refine lv_iload hx hb dX10_keep_234 (lv_at hl 0 rfl) ?_
                          refine lv_iadd hx hb dX10_keep_236 ?_
                          refine lv_topi (fun v236 e236 => ?_)
                          have i236 : v236.toInt = v233.toInt + (nI i).toInt := by rw [e236]; exact fb_addI (by omega) (by omega)
                          refine m_iald (w := (r 5)) hx hb hK hP 4 rfl (vp_in_iff.mpr ⟨by omega, by omega⟩) dX10_keep_237 ?_
                          refine lv_topi (fun v237 e237 => ?_)
                          have i237 : v237.toInt = ((r 5) v236.toNatClampNeg).toInt := congrArg Int32.toInt e237
                          refine lv_i2l (v := v237.toInt64) hx hb dX10_keep_238 rfl ?_
                          refine lv_goto (tgt := 265) hx hb dX10_keep_239 (by decide) ?_
                          refine m_last (w := s3) hx hb hK hP hD hS 21 rfl (vp_in_iff.mpr ⟨by omega, by omega⟩) (va_up (va_up q 33 s3) 33 (vp_updL s3 v198.toNatClampNeg v237.toInt64)) (ms_33 cy mo a _ _ _ _ _) dX10_keep_265 (fun H locs hP hS => ?_)
                          have hP := wm_eq rfl rfl rfl (es_q_33__33 q s3 (vp_updL s3 v198.toNatClampNeg v237.toInt64)) hP
                          refine lv_iinc (v := (nI (i + 1))) (lv' := [(7, .int (nI (i + 1))), (6, .int (1 : Int32)), (0, .ref mo), (1, .int d), (2, .int what), (3, .int k0), (4, .long p0)]) hx hb dX10_keep_266 hl (k := 0) rfl (nI_1 _) (by decide) rfl (fun ls hl => ?_)
                          refine lv_goto (tgt := 177) hx hb dX10_keep_269 (by decide) ?_
                          have hP := wm_eq rfl rfl (ec_r_29_30_31_32__29_30_31_32 r ((upd (r 29) d.toNatClampNeg what)) ((upd (r 30) d.toNatClampNeg (0 : Int32))) ((upd (r 31) d.toNatClampNeg r149)) ((upd (r 32) d.toNatClampNeg k0))) rfl hP
                          exact ih_177 (i + 1) (vp_updL s3 v198.toNatClampNeg v237.toInt64) (by omega) (by omega) _ _ hP hS ls (lv_sub hl [0, 1, 2, 3, 4, 5, 6] rfl)
                      · first | exact absurd c201 c95 | exact absurd c95 c201
                have hP := wm_eq rfl rfl (ec_r_29_30_31_32__29_30_31_32 r ((upd (r 29) d.toNatClampNeg what)) ((upd (r 30) d.toNatClampNeg (0 : Int32))) ((upd (r 31) d.toNatClampNeg r149)) ((upd (r 32) d.toNatClampNeg k0))) (ec_q___33 q ) hP
                exact loop_177 (60 + 1) 0 (q 33) (by omega) (by omega) _ _ hP hS ls (lv_sub hl [0, 1, 2, 3, 4, 5, 6] rfl)
              · skip
                have d164 := c164
                rw [fa_eq] at d164
                refine lv_bipush (v := (-15)) hx hb dX10_keep_167 (by decide) ?_
                refine lv_goto (tgt := 173) hx hb dX10_keep_169 (by decide) ?_
                refine m_iast (w := (r 32)) hx hb hK hP hD hS 20 rfl (vp_in_iff.mpr ⟨by omega, by omega⟩) (va_up (va_up (va_up (va_up r 29 ((upd (r 29) d.toNatClampNeg what))) 30 ((upd (r 30) d.toNatClampNeg (0 : Int32)))) 31 ((upd (r 31) d.toNatClampNeg r149))) 32 (upd (r 32) d.toNatClampNeg (((-15) : Int32)))) (ms_32 cy mo a _ _ _ _ _) dX10_keep_173 (fun H locs hP hS => ?_)
                refine lv_iconst (v := 0) hx hb dX10_keep_174 (by decide) ?_
                refine lv_istore (lv' := [(7, .int (0 : Int32)), (6, .int (1 : Int32)), (0, .ref mo), (1, .int d), (2, .int what), (3, .int k0), (4, .long p0)]) hx hb dX10_keep_175 hl (by decide) rfl (fun ls hl => ?_)
                have loop_177 : ∀ (n : Nat) (i : Nat) (s3 : Nat → Int64), (i ≤ 60) → 60 - i < n → ∀ (H : Heap) (locs : List Loc), va_P D vwCl (WM cy mo a (upd f 0 (0 : Int32)) g (va_up (va_up (va_up (va_up r 29 ((upd (r 29) d.toNatClampNeg what))) 30 ((upd (r 30) d.toNatClampNeg (0 : Int32)))) 31 ((upd (r 31) d.toNatClampNeg r149))) 32 ((upd (r 32) d.toNatClampNeg (((-15) : Int32))))) (va_up q 33 s3)) H → va_S (AM mo a) s.heap H locs → ∀ (ls : Array Slot), lv_has ls 8 [(7, .int (nI i)), (6, .int (1 : Int32)), (0, .ref mo), (1, .int d), (2, .int what), (3, .int k0), (4, .long p0)] → W p l e (headSpec wsX10_keep ({ frames := 3, cells := 0, slots := 0, locals := 69 })).room s m #[Value.ref mo, Value.int d, Value.int what, Value.int k0, Value.long p0] below meth c H locs 0 0 (MQ below (va_Qi (fun r0 u => ∃ (sh : Nat → Int32), ∃ (sz : Nat → Int32), ∃ (sw : Nat → Int32), ∃ (sf : Nat → Int32), ∃ (sr : Nat → Int64), u = ((upd f 0 (0 : Int32)), g, (va_up (va_up (va_up (va_up r 29 sh) 30 sz) 31 sw) 32 sf), (va_up q 33 sr)) ∧ (yesNo (okKeep (f 1) (fun j9 => (r 3 j9).toNatClampNeg) (fun j9 => (r 4 j9).toNatClampNeg) d what k0 p0) 0 (-1) r0 ∧ ((okKeep (f 1) (fun j9 => (r 3 j9).toNatClampNeg) (fun j9 => (r 4 j9).toNatClampNeg) d what k0 p0 ∧ sh = upd (r 29) d.toNatClampNeg what ∧ (what.toInt = 1 → sw = upd (r 31) d.toNatClampNeg (heR (r 2 k0.toNatClampNeg) (r 3 k0.toNatClampNeg).toNatClampNeg (r 4 k0.toNatClampNeg).toNatClampNeg (smN (fun s9 => r 8 (36 * k0.toNatClampNeg + s9)) 36))) ∧ (¬ what.toInt = 1 → sw = r 31)) ∨ (¬ okKeep (f 1) (fun j9 => (r 3 j9).toNatClampNeg) (fun j9 => (r 4 j9).toNatClampNeg) d what k0 p0 ∧ sh = r 29 ∧ sw = r 31)) ∧ MI (upd f 0 (0 : Int32)) (va_up (va_up (va_up (va_up r 29 sh) 30 sz) 31 sw) 32 sf))) (mB D cy mo a) (AM mo a)) #[Value.ref mo, Value.int d, Value.int what, Value.int k0, Value.long p0] s 0 0 (AM mo a)) (F0 m 177 ls []) := by
                  intro n
                  induction n with
                  | zero => intro i s3 j177_0 hn; exact absurd hn (Nat.not_lt_zero _)
                  | succ n ih_177 =>
                    intro i s3 j177_0 hn_177 H locs hP hS ls hl
                    have ii : (nI i).toInt = (i : Int) := nI_toInt (by omega)
                    refine lv_iload hx hb dX10_keep_177 (lv_at hl 0 rfl) ?_
                    refine lv_aload_n hx hb dX10_keep_179 rfl (lv_at hl 2 rfl) ?_
                    refine m_get (v := .ref (a 30)) hx hb hts hin hown hK hP 30 (by decide) rfl (hts (.fieldLink RX10 64 "ShadowBenchModel" "shelfSize" "[I") (by decide +kernel)) rfl dX10_keep_180 ?_
                    refine lv_iload_n hx hb dX10_keep_183 rfl (lv_at hl 3 rfl) ?_
                    refine m_iald (w := ((upd (r 30) d.toNatClampNeg (0 : Int32)))) hx hb hK hP 18 rfl (vp_in_iff.mpr ⟨by omega, by omega⟩) dX10_keep_184 ?_
                    refine lv_topi (fun v184 e184 => ?_)
                    have i184 : v184.toInt = (((upd (r 30) d.toNatClampNeg (0 : Int32))) d.toNatClampNeg).toInt := congrArg Int32.toInt e184
                    have z184 := e184
                    simp only [upd, if_true] at z184
                    have y184 := congrArg Int32.toInt z184
                    refine lv_icmp_ge (tgt := 272) hx hb dX10_keep_185 (by decide) (fun c185 => ?_) (fun c185 => ?_)
                    · skip
                      have d185 := c185
                      rw [fa_le] at d185
                      refine lv_iconst (v := 0) hx hb dX10_keep_272 (by decide) ?_
                      have hP := wm_eq rfl rfl (ec_r_29_30_31_32__29_30_31_32 r ((upd (r 29) d.toNatClampNeg what)) ((upd (r 30) d.toNatClampNeg (0 : Int32))) ((upd (r 31) d.toNatClampNeg r149)) ((upd (r 32) d.toNatClampNeg (((-15) : Int32))))) rfl hP
                      exact W.iret (v := (0 : Int32)) hx hb hr (fun t ht hW => ⟨⟨_, ((upd f 0 (0 : Int32)), g, (va_up (va_up (va_up (va_up r 29 (((upd (r 29) d.toNatClampNeg what)))) 30 (((upd (r 30) d.toNatClampNeg (0 : Int32))))) 31 (((upd (r 31) d.toNatClampNeg r149)))) 32 (((upd (r 32) d.toNatClampNeg (((-15) : Int32)))))), (va_up q 33 s3)), rfl, ⟨((upd (r 29) d.toNatClampNeg what)), ((upd (r 30) d.toNatClampNeg (0 : Int32))), ((upd (r 31) d.toNatClampNeg r149)), ((upd (r 32) d.toNatClampNeg (((-15) : Int32)))), s3, rfl, ⟨(Or.inl ⟨⟨b9, (by unfold okJob; first | exact Or.inl (by omega) | exact Or.inr (Or.inl ⟨by omega, b31⟩) | (have z9 := goodP_of b64; subst e52; subst e58; exact Or.inr (Or.inr ⟨by omega, b44, z9.2⟩)))⟩, rfl⟩), (Or.inl ⟨⟨b9, (by unfold okJob; first | exact Or.inl (by omega) | exact Or.inr (Or.inl ⟨by omega, b31⟩) | (have z9 := goodP_of b64; subst e52; subst e58; exact Or.inr (Or.inr ⟨by omega, b44, z9.2⟩)))⟩, rfl, (by first | exact ⟨fun _ => congrArg (fun z9 => upd (r 31) d.toNatClampNeg z9) q149, fun z9 => by exfalso; omega⟩ | exact ⟨fun z9 => by exfalso; omega, fun _ => rfl⟩)⟩), by first | exact hI | exact mi_sz (d := d) hI (v := v110) (by omega) rfl rfl rfl rfl rfl rfl rfl rfl | exact mi_sz (d := d) hI (v := v131) (by omega) rfl rfl rfl rfl rfl rfl rfl rfl | exact mi_sz (d := d) hI (v := 0) (by decide) rfl rfl rfl rfl rfl rfl rfl rfl⟩⟩, by unfold mB; rw [ht]; exact hP⟩, hS.F ht⟩) hS.2.2 dX10_keep_273
                    · skip
                      have d185 := c185
                      rw [fa_le] at d185
                      refine lv_aload_n hx hb dX10_keep_188 rfl (lv_at hl 2 rfl) ?_
                      refine m_get (v := .ref (a 33)) hx hb hts hin hown hK hP 33 (by decide) rfl (hts (.fieldLink RX10 73 "ShadowBenchModel" "shelfRow" "[J") (by decide +kernel)) rfl dX10_keep_189 ?_
                      refine lv_bipush (v := 60) hx hb dX10_keep_192 (by decide) ?_
                      refine lv_iload_n hx hb dX10_keep_194 rfl (lv_at hl 3 rfl) ?_
                      refine lv_imul hx hb dX10_keep_195 ?_
                      refine lv_topi (fun v195 e195 => ?_)
                      have i195 : v195.toInt = 60 * d.toInt := by rw [e195]; exact mulcL rfl (by omega) (by omega)
                      refine lv_iload hx hb dX10_keep_196 (lv_at hl 0 rfl) ?_
                      refine lv_iadd hx hb dX10_keep_198 ?_
                      refine lv_topi (fun v198 e198 => ?_)
                      have i198 : v198.toInt = v195.toInt + (nI i).toInt := by rw [e198]; exact fb_addI (by omega) (by omega)
                      refine lv_iload_n hx hb dX10_keep_199 rfl (lv_at hl 4 rfl) ?_
                      refine lv_iconst (v := 3) hx hb dX10_keep_200 (by decide) ?_
                      refine lv_icmp_ne (tgt := 215) hx hb dX10_keep_201 (by decide) (fun c201 => ?_) (fun c201 => ?_)
                      · skip
                        have d201 := c201
                        rw [fa_eq] at d201
                        refine lv_iload hx hb dX10_keep_215 (lv_at hl 0 rfl) ?_
                        refine lv_aload_n hx hb dX10_keep_217 rfl (lv_at hl 2 rfl) ?_
                        refine m_get (v := .ref (a 4)) hx hb hts hin hown hK hP 4 (by decide) rfl (hts (.fieldLink RX10 16 "ShadowBenchModel" "high" "[I") (by decide +kernel)) rfl dX10_keep_218 ?_
                        refine lv_iload_n hx hb dX10_keep_221 rfl (lv_at hl 5 rfl) ?_
                        refine m_iald (w := (r 4)) hx hb hK hP 3 rfl (vp_in_iff.mpr ⟨by omega, by omega⟩) dX10_keep_222 ?_
                        refine lv_topi (fun v222 e222 => ?_)
                        have i222 : v222.toInt = ((r 4) k0.toNatClampNeg).toInt := congrArg Int32.toInt e222
                        have w222 := mi_h hI (x := k0) (by omega) (by omega) e222
                        refine lv_icmp_ge (tgt := 242) hx hb dX10_keep_223 (by decide) (fun c223 => ?_) (fun c223 => ?_)
                        · skip
                          have d223 := c223
                          rw [fa_le] at d223
                          refine lv_aload_n hx hb dX10_keep_242 rfl (lv_at hl 2 rfl) ?_
                          refine m_get (v := .ref (a 5)) hx hb hts hin hown hK hP 5 (by decide) rfl (hts (.fieldLink RX10 19 "ShadowBenchModel" "sums" "[I") (by decide +kernel)) rfl dX10_keep_243 ?_
                          refine lv_bipush (v := 44) hx hb dX10_keep_246 (by decide) ?_
                          refine lv_iload_n hx hb dX10_keep_248 rfl (lv_at hl 5 rfl) ?_
                          refine lv_imul hx hb dX10_keep_249 ?_
                          refine lv_topi (fun v249 e249 => ?_)
                          have i249 : v249.toInt = 44 * k0.toInt := by rw [e249]; exact mulcL rfl (by omega) (by omega)
                          refine lv_bipush (v := 11) hx hb dX10_keep_250 (by decide) ?_
                          refine lv_iadd hx hb dX10_keep_252 ?_
                          refine lv_topi (fun v252 e252 => ?_)
                          have i252 : v252.toInt = v249.toInt + (11 : Int32).toInt := by rw [e252]; exact fb_addI (by omega) (by omega)
                          refine lv_iload hx hb dX10_keep_253 (lv_at hl 0 rfl) ?_
                          refine lv_iadd hx hb dX10_keep_255 ?_
                          refine lv_topi (fun v255 e255 => ?_)
                          have i255 : v255.toInt = v252.toInt + (nI i).toInt := by rw [e255]; exact fb_addI (by omega) (by omega)
                          refine lv_aload_n hx hb dX10_keep_256 rfl (lv_at hl 2 rfl) ?_
                          refine m_get (v := .ref (a 4)) hx hb hts hin hown hK hP 4 (by decide) rfl (hts (.fieldLink RX10 16 "ShadowBenchModel" "high" "[I") (by decide +kernel)) rfl dX10_keep_257 ?_
                          refine lv_iload_n hx hb dX10_keep_260 rfl (lv_at hl 5 rfl) ?_
                          refine m_iald (w := (r 4)) hx hb hK hP 3 rfl (vp_in_iff.mpr ⟨by omega, by omega⟩) dX10_keep_261 ?_
                          refine lv_topi (fun v261 e261 => ?_)
                          have i261 : v261.toInt = ((r 4) k0.toNatClampNeg).toInt := congrArg Int32.toInt e261
                          have w261 := mi_h hI (x := k0) (by omega) (by omega) e261
                          refine lv_isub hx hb dX10_keep_262 ?_
                          refine lv_topi (fun v262 e262 => ?_)
                          have i262 : v262.toInt = v255.toInt - v261.toInt := by rw [e262]; exact fb_subI (by omega) (by omega)
                          refine m_iald (w := (r 5)) hx hb hK hP 4 rfl (vp_in_iff.mpr ⟨by omega, by omega⟩) dX10_keep_263 ?_
                          refine lv_topi (fun v263 e263 => ?_)
                          have i263 : v263.toInt = ((r 5) v262.toNatClampNeg).toInt := congrArg Int32.toInt e263
                          refine lv_i2l (v := v263.toInt64) hx hb dX10_keep_264 rfl ?_
                          refine m_last (w := s3) hx hb hK hP hD hS 21 rfl (vp_in_iff.mpr ⟨by omega, by omega⟩) (va_up (va_up q 33 s3) 33 (vp_updL s3 v198.toNatClampNeg v263.toInt64)) (ms_33 cy mo a _ _ _ _ _) dX10_keep_265 (fun H locs hP hS => ?_)
                          have hP := wm_eq rfl rfl rfl (es_q_33__33 q s3 (vp_updL s3 v198.toNatClampNeg v263.toInt64)) hP
                          refine lv_iinc (v := (nI (i + 1))) (lv' := [(7, .int (nI (i + 1))), (6, .int (1 : Int32)), (0, .ref mo), (1, .int d), (2, .int what), (3, .int k0), (4, .long p0)]) hx hb dX10_keep_266 hl (k := 0) rfl (nI_1 _) (by decide) rfl (fun ls hl => ?_)
                          refine lv_goto (tgt := 177) hx hb dX10_keep_269 (by decide) ?_
                          have hP := wm_eq rfl rfl (ec_r_29_30_31_32__29_30_31_32 r ((upd (r 29) d.toNatClampNeg what)) ((upd (r 30) d.toNatClampNeg (0 : Int32))) ((upd (r 31) d.toNatClampNeg r149)) ((upd (r 32) d.toNatClampNeg (((-15) : Int32))))) rfl hP
                          exact ih_177 (i + 1) (vp_updL s3 v198.toNatClampNeg v263.toInt64) (by omega) (by omega) _ _ hP hS ls (lv_sub hl [0, 1, 2, 3, 4, 5, 6] rfl)
                        · skip
                          have d223 := c223
                          rw [fa_le] at d223
                          refine lv_aload_n hx hb dX10_keep_226 rfl (lv_at hl 2 rfl) ?_
                          refine m_get (v := .ref (a 5)) hx hb hts hin hown hK hP 5 (by decide) rfl (hts (.fieldLink RX10 19 "ShadowBenchModel" "sums" "[I") (by decide +kernel)) rfl dX10_keep_227 ?_
                          refine lv_bipush (v := 44) hx hb dX10_keep_230 (by decide) ?_
                          refine lv_iload_n hx hb dX10_keep_232 rfl (lv_at hl 5 rfl) ?_
                          refine lv_imul hx hb dX10_keep_233 ?_
                          refine lv_topi (fun v233 e233 => ?_)
                          have i233 : v233.toInt = 44 * k0.toInt := by rw [e233]; exact mulcL rfl (by omega) (by omega)
                          refine lv_iload hx hb dX10_keep_234 (lv_at hl 0 rfl) ?_
                          refine lv_iadd hx hb dX10_keep_236 ?_
                          refine lv_topi (fun v236 e236 => ?_)
                          have i236 : v236.toInt = v233.toInt + (nI i).toInt := by rw [e236]; exact fb_addI (by omega) (by omega)
                          refine m_iald (w := (r 5)) hx hb hK hP 4 rfl (vp_in_iff.mpr ⟨by omega, by omega⟩) dX10_keep_237 ?_
                          refine lv_topi (fun v237 e237 => ?_)
                          have i237 : v237.toInt = ((r 5) v236.toNatClampNeg).toInt := congrArg Int32.toInt e237
                          refine lv_i2l (v := v237.toInt64) hx hb dX10_keep_238 rfl ?_
                          refine lv_goto (tgt := 265) hx hb dX10_keep_239 (by decide) ?_
                          refine m_last (w := s3) hx hb hK hP hD hS 21 rfl (vp_in_iff.mpr ⟨by omega, by omega⟩) (va_up (va_up q 33 s3) 33 (vp_updL s3 v198.toNatClampNeg v237.toInt64)) (ms_33 cy mo a _ _ _ _ _) dX10_keep_265 (fun H locs hP hS => ?_)
                          have hP := wm_eq rfl rfl rfl (es_q_33__33 q s3 (vp_updL s3 v198.toNatClampNeg v237.toInt64)) hP
                          refine lv_iinc (v := (nI (i + 1))) (lv' := [(7, .int (nI (i + 1))), (6, .int (1 : Int32)), (0, .ref mo), (1, .int d), (2, .int what), (3, .int k0), (4, .long p0)]) hx hb dX10_keep_266 hl (k := 0) rfl (nI_1 _) (by decide) rfl (fun ls hl => ?_)
                          refine lv_goto (tgt := 177) hx hb dX10_keep_269 (by decide) ?_
                          have hP := wm_eq rfl rfl (ec_r_29_30_31_32__29_30_31_32 r ((upd (r 29) d.toNatClampNeg what)) ((upd (r 30) d.toNatClampNeg (0 : Int32))) ((upd (r 31) d.toNatClampNeg r149)) ((upd (r 32) d.toNatClampNeg (((-15) : Int32))))) rfl hP
                          exact ih_177 (i + 1) (vp_updL s3 v198.toNatClampNeg v237.toInt64) (by omega) (by omega) _ _ hP hS ls (lv_sub hl [0, 1, 2, 3, 4, 5, 6] rfl)
                      · first | exact absurd c201 c95 | exact absurd c95 c201
                have hP := wm_eq rfl rfl (ec_r_29_30_31_32__29_30_31_32 r ((upd (r 29) d.toNatClampNeg what)) ((upd (r 30) d.toNatClampNeg (0 : Int32))) ((upd (r 31) d.toNatClampNeg r149)) ((upd (r 32) d.toNatClampNeg (((-15) : Int32))))) (ec_q___33 q ) hP
                exact loop_177 (60 + 1) 0 (q 33) (by omega) (by omega) _ _ hP hS ls (lv_sub hl [0, 1, 2, 3, 4, 5, 6] rfl)
          · skip
            have d116 := c116
            rw [fa_eq] at d116
            refine lv_aload_n hx hb dX10_keep_119 rfl (lv_at hl 1 rfl) ?_
            refine m_get (v := .ref (a 4)) hx hb hts hin hown hK hP 4 (by decide) rfl (hts (.fieldLink RX10 16 "ShadowBenchModel" "high" "[I") (by decide +kernel)) rfl dX10_keep_120 ?_
            refine lv_iload_n hx hb dX10_keep_123 rfl (lv_at hl 4 rfl) ?_
            refine m_iald (w := (r 4)) hx hb hK hP 3 rfl (vp_in_iff.mpr ⟨by omega, by omega⟩) dX10_keep_124 ?_
            refine lv_topi (fun v124 e124 => ?_)
            have i124 : v124.toInt = ((r 4) k0.toNatClampNeg).toInt := congrArg Int32.toInt e124
            have w124 := mi_h hI (x := k0) (by omega) (by omega) e124
            refine lv_aload_n hx hb dX10_keep_125 rfl (lv_at hl 1 rfl) ?_
            refine m_get (v := .ref (a 3)) hx hb hts hin hown hK hP 3 (by decide) rfl (hts (.fieldLink RX10 13 "ShadowBenchModel" "wide" "[I") (by decide +kernel)) rfl dX10_keep_126 ?_
            refine lv_iload_n hx hb dX10_keep_129 rfl (lv_at hl 4 rfl) ?_
            refine m_iald (w := (r 3)) hx hb hK hP 2 rfl (vp_in_iff.mpr ⟨by omega, by omega⟩) dX10_keep_130 ?_
            refine lv_topi (fun v130 e130 => ?_)
            have i130 : v130.toInt = ((r 3) k0.toNatClampNeg).toInt := congrArg Int32.toInt e130
            have w130 := mi_w hI (x := k0) (by omega) (by omega) e130
            refine lv_iadd hx hb dX10_keep_131 ?_
            refine lv_topi (fun v131 e131 => ?_)
            have i131 : v131.toInt = v124.toInt + v130.toInt := by rw [e131]; exact fb_addI (by omega) (by omega)
            refine lv_goto (tgt := 136) hx hb dX10_keep_132 (by decide) ?_
            refine m_iast (w := (r 30)) hx hb hK hP hD hS 18 rfl (vp_in_iff.mpr ⟨by omega, by omega⟩) (va_up (va_up r 29 ((upd (r 29) d.toNatClampNeg what))) 30 (upd (r 30) d.toNatClampNeg v131)) (ms_30 cy mo a _ _ _ _ _) dX10_keep_136 (fun H locs hP hS => ?_)
            refine lv_iload_n hx hb dX10_keep_137 rfl (lv_at hl 3 rfl) ?_
            refine lv_iconst (v := 1) hx hb dX10_keep_138 (by decide) ?_
            refine lv_icmp_ne (tgt := 174) hx hb dX10_keep_139 (by decide) (fun c139 => ?_) (fun c139 => ?_)
            · skip
              have d139 := c139
              rw [fa_eq] at d139
              refine lv_iconst (v := 0) hx hb dX10_keep_174 (by decide) ?_
              refine lv_istore (lv' := [(7, .int (0 : Int32)), (6, .int (1 : Int32)), (0, .ref mo), (1, .int d), (2, .int what), (3, .int k0), (4, .long p0)]) hx hb dX10_keep_175 hl (by decide) rfl (fun ls hl => ?_)
              have loop_177 : ∀ (n : Nat) (i : Nat) (s3 : Nat → Int64), (i ≤ 60) → 60 - i < n → ∀ (H : Heap) (locs : List Loc), va_P D vwCl (WM cy mo a (upd f 0 (0 : Int32)) g (va_up (va_up r 29 ((upd (r 29) d.toNatClampNeg what))) 30 ((upd (r 30) d.toNatClampNeg v131))) (va_up q 33 s3)) H → va_S (AM mo a) s.heap H locs → ∀ (ls : Array Slot), lv_has ls 8 [(7, .int (nI i)), (6, .int (1 : Int32)), (0, .ref mo), (1, .int d), (2, .int what), (3, .int k0), (4, .long p0)] → W p l e (headSpec wsX10_keep ({ frames := 3, cells := 0, slots := 0, locals := 69 })).room s m #[Value.ref mo, Value.int d, Value.int what, Value.int k0, Value.long p0] below meth c H locs 0 0 (MQ below (va_Qi (fun r0 u => ∃ (sh : Nat → Int32), ∃ (sz : Nat → Int32), ∃ (sw : Nat → Int32), ∃ (sf : Nat → Int32), ∃ (sr : Nat → Int64), u = ((upd f 0 (0 : Int32)), g, (va_up (va_up (va_up (va_up r 29 sh) 30 sz) 31 sw) 32 sf), (va_up q 33 sr)) ∧ (yesNo (okKeep (f 1) (fun j9 => (r 3 j9).toNatClampNeg) (fun j9 => (r 4 j9).toNatClampNeg) d what k0 p0) 0 (-1) r0 ∧ ((okKeep (f 1) (fun j9 => (r 3 j9).toNatClampNeg) (fun j9 => (r 4 j9).toNatClampNeg) d what k0 p0 ∧ sh = upd (r 29) d.toNatClampNeg what ∧ (what.toInt = 1 → sw = upd (r 31) d.toNatClampNeg (heR (r 2 k0.toNatClampNeg) (r 3 k0.toNatClampNeg).toNatClampNeg (r 4 k0.toNatClampNeg).toNatClampNeg (smN (fun s9 => r 8 (36 * k0.toNatClampNeg + s9)) 36))) ∧ (¬ what.toInt = 1 → sw = r 31)) ∨ (¬ okKeep (f 1) (fun j9 => (r 3 j9).toNatClampNeg) (fun j9 => (r 4 j9).toNatClampNeg) d what k0 p0 ∧ sh = r 29 ∧ sw = r 31)) ∧ MI (upd f 0 (0 : Int32)) (va_up (va_up (va_up (va_up r 29 sh) 30 sz) 31 sw) 32 sf))) (mB D cy mo a) (AM mo a)) #[Value.ref mo, Value.int d, Value.int what, Value.int k0, Value.long p0] s 0 0 (AM mo a)) (F0 m 177 ls []) := by
                intro n
                induction n with
                | zero => intro i s3 j177_0 hn; exact absurd hn (Nat.not_lt_zero _)
                | succ n ih_177 =>
                  intro i s3 j177_0 hn_177 H locs hP hS ls hl
                  have ii : (nI i).toInt = (i : Int) := nI_toInt (by omega)
                  refine lv_iload hx hb dX10_keep_177 (lv_at hl 0 rfl) ?_
                  refine lv_aload_n hx hb dX10_keep_179 rfl (lv_at hl 2 rfl) ?_
                  refine m_get (v := .ref (a 30)) hx hb hts hin hown hK hP 30 (by decide) rfl (hts (.fieldLink RX10 64 "ShadowBenchModel" "shelfSize" "[I") (by decide +kernel)) rfl dX10_keep_180 ?_
                  refine lv_iload_n hx hb dX10_keep_183 rfl (lv_at hl 3 rfl) ?_
                  refine m_iald (w := ((upd (r 30) d.toNatClampNeg v131))) hx hb hK hP 18 rfl (vp_in_iff.mpr ⟨by omega, by omega⟩) dX10_keep_184 ?_
                  refine lv_topi (fun v184 e184 => ?_)
                  have i184 : v184.toInt = (((upd (r 30) d.toNatClampNeg v131)) d.toNatClampNeg).toInt := congrArg Int32.toInt e184
                  have z184 := e184
                  simp only [upd, if_true] at z184
                  have y184 := congrArg Int32.toInt z184
                  refine lv_icmp_ge (tgt := 272) hx hb dX10_keep_185 (by decide) (fun c185 => ?_) (fun c185 => ?_)
                  · skip
                    have d185 := c185
                    rw [fa_le] at d185
                    refine lv_iconst (v := 0) hx hb dX10_keep_272 (by decide) ?_
                    have hP := wm_eq rfl rfl (ec_r_29_30__29_30_31_32 r ((upd (r 29) d.toNatClampNeg what)) ((upd (r 30) d.toNatClampNeg v131))) rfl hP
                    exact W.iret (v := (0 : Int32)) hx hb hr (fun t ht hW => ⟨⟨_, ((upd f 0 (0 : Int32)), g, (va_up (va_up (va_up (va_up r 29 (((upd (r 29) d.toNatClampNeg what)))) 30 (((upd (r 30) d.toNatClampNeg v131)))) 31 (r 31)) 32 (r 32)), (va_up q 33 s3)), rfl, ⟨((upd (r 29) d.toNatClampNeg what)), ((upd (r 30) d.toNatClampNeg v131)), (r 31), (r 32), s3, rfl, ⟨(Or.inl ⟨⟨b9, (by unfold okJob; first | exact Or.inl (by omega) | exact Or.inr (Or.inl ⟨by omega, b31⟩) | (have z9 := goodP_of b64; subst e52; subst e58; exact Or.inr (Or.inr ⟨by omega, b44, z9.2⟩)))⟩, rfl⟩), (Or.inl ⟨⟨b9, (by unfold okJob; first | exact Or.inl (by omega) | exact Or.inr (Or.inl ⟨by omega, b31⟩) | (have z9 := goodP_of b64; subst e52; subst e58; exact Or.inr (Or.inr ⟨by omega, b44, z9.2⟩)))⟩, rfl, (by first | exact ⟨fun _ => congrArg (fun z9 => upd (r 31) d.toNatClampNeg z9) q149, fun z9 => by exfalso; omega⟩ | exact ⟨fun z9 => by exfalso; omega, fun _ => rfl⟩)⟩), by first | exact hI | exact mi_sz (d := d) hI (v := v110) (by omega) rfl rfl rfl rfl rfl rfl rfl rfl | exact mi_sz (d := d) hI (v := v131) (by omega) rfl rfl rfl rfl rfl rfl rfl rfl | exact mi_sz (d := d) hI (v := 0) (by decide) rfl rfl rfl rfl rfl rfl rfl rfl⟩⟩, by unfold mB; rw [ht]; exact hP⟩, hS.F ht⟩) hS.2.2 dX10_keep_273
                  · skip
                    have d185 := c185
                    rw [fa_le] at d185
                    refine lv_aload_n hx hb dX10_keep_188 rfl (lv_at hl 2 rfl) ?_
                    refine m_get (v := .ref (a 33)) hx hb hts hin hown hK hP 33 (by decide) rfl (hts (.fieldLink RX10 73 "ShadowBenchModel" "shelfRow" "[J") (by decide +kernel)) rfl dX10_keep_189 ?_
                    refine lv_bipush (v := 60) hx hb dX10_keep_192 (by decide) ?_
                    refine lv_iload_n hx hb dX10_keep_194 rfl (lv_at hl 3 rfl) ?_
                    refine lv_imul hx hb dX10_keep_195 ?_
                    refine lv_topi (fun v195 e195 => ?_)
                    have i195 : v195.toInt = 60 * d.toInt := by rw [e195]; exact mulcL rfl (by omega) (by omega)
                    refine lv_iload hx hb dX10_keep_196 (lv_at hl 0 rfl) ?_
                    refine lv_iadd hx hb dX10_keep_198 ?_
                    refine lv_topi (fun v198 e198 => ?_)
                    have i198 : v198.toInt = v195.toInt + (nI i).toInt := by rw [e198]; exact fb_addI (by omega) (by omega)
                    refine lv_iload_n hx hb dX10_keep_199 rfl (lv_at hl 4 rfl) ?_
                    refine lv_iconst (v := 3) hx hb dX10_keep_200 (by decide) ?_
                    refine lv_icmp_ne (tgt := 215) hx hb dX10_keep_201 (by decide) (fun c201 => ?_) (fun c201 => ?_)
                    · skip
                      have d201 := c201
                      rw [fa_eq] at d201
                      refine lv_iload hx hb dX10_keep_215 (lv_at hl 0 rfl) ?_
                      refine lv_aload_n hx hb dX10_keep_217 rfl (lv_at hl 2 rfl) ?_
                      refine m_get (v := .ref (a 4)) hx hb hts hin hown hK hP 4 (by decide) rfl (hts (.fieldLink RX10 16 "ShadowBenchModel" "high" "[I") (by decide +kernel)) rfl dX10_keep_218 ?_
                      refine lv_iload_n hx hb dX10_keep_221 rfl (lv_at hl 5 rfl) ?_
                      refine m_iald (w := (r 4)) hx hb hK hP 3 rfl (vp_in_iff.mpr ⟨by omega, by omega⟩) dX10_keep_222 ?_
                      refine lv_topi (fun v222 e222 => ?_)
                      have i222 : v222.toInt = ((r 4) k0.toNatClampNeg).toInt := congrArg Int32.toInt e222
                      have w222 := mi_h hI (x := k0) (by omega) (by omega) e222
                      refine lv_icmp_ge (tgt := 242) hx hb dX10_keep_223 (by decide) (fun c223 => ?_) (fun c223 => ?_)
                      · skip
                        have d223 := c223
                        rw [fa_le] at d223
                        refine lv_aload_n hx hb dX10_keep_242 rfl (lv_at hl 2 rfl) ?_
                        refine m_get (v := .ref (a 5)) hx hb hts hin hown hK hP 5 (by decide) rfl (hts (.fieldLink RX10 19 "ShadowBenchModel" "sums" "[I") (by decide +kernel)) rfl dX10_keep_243 ?_
                        refine lv_bipush (v := 44) hx hb dX10_keep_246 (by decide) ?_
                        refine lv_iload_n hx hb dX10_keep_248 rfl (lv_at hl 5 rfl) ?_
                        refine lv_imul hx hb dX10_keep_249 ?_
                        refine lv_topi (fun v249 e249 => ?_)
                        have i249 : v249.toInt = 44 * k0.toInt := by rw [e249]; exact mulcL rfl (by omega) (by omega)
                        refine lv_bipush (v := 11) hx hb dX10_keep_250 (by decide) ?_
                        refine lv_iadd hx hb dX10_keep_252 ?_
                        refine lv_topi (fun v252 e252 => ?_)
                        have i252 : v252.toInt = v249.toInt + (11 : Int32).toInt := by rw [e252]; exact fb_addI (by omega) (by omega)
                        refine lv_iload hx hb dX10_keep_253 (lv_at hl 0 rfl) ?_
                        refine lv_iadd hx hb dX10_keep_255 ?_
                        refine lv_topi (fun v255 e255 => ?_)
                        have i255 : v255.toInt = v252.toInt + (nI i).toInt := by rw [e255]; exact fb_addI (by omega) (by omega)
                        refine lv_aload_n hx hb dX10_keep_256 rfl (lv_at hl 2 rfl) ?_
                        refine m_get (v := .ref (a 4)) hx hb hts hin hown hK hP 4 (by decide) rfl (hts (.fieldLink RX10 16 "ShadowBenchModel" "high" "[I") (by decide +kernel)) rfl dX10_keep_257 ?_
                        refine lv_iload_n hx hb dX10_keep_260 rfl (lv_at hl 5 rfl) ?_
                        refine m_iald (w := (r 4)) hx hb hK hP 3 rfl (vp_in_iff.mpr ⟨by omega, by omega⟩) dX10_keep_261 ?_
                        refine lv_topi (fun v261 e261 => ?_)
                        have i261 : v261.toInt = ((r 4) k0.toNatClampNeg).toInt := congrArg Int32.toInt e261
                        have w261 := mi_h hI (x := k0) (by omega) (by omega) e261
                        refine lv_isub hx hb dX10_keep_262 ?_
                        refine lv_topi (fun v262 e262 => ?_)
                        have i262 : v262.toInt = v255.toInt - v261.toInt := by rw [e262]; exact fb_subI (by omega) (by omega)
                        refine m_iald (w := (r 5)) hx hb hK hP 4 rfl (vp_in_iff.mpr ⟨by omega, by omega⟩) dX10_keep_263 ?_
                        refine lv_topi (fun v263 e263 => ?_)
                        have i263 : v263.toInt = ((r 5) v262.toNatClampNeg).toInt := congrArg Int32.toInt e263
                        refine lv_i2l (v := v263.toInt64) hx hb dX10_keep_264 rfl ?_
                        refine m_last (w := s3) hx hb hK hP hD hS 21 rfl (vp_in_iff.mpr ⟨by omega, by omega⟩) (va_up (va_up q 33 s3) 33 (vp_updL s3 v198.toNatClampNeg v263.toInt64)) (ms_33 cy mo a _ _ _ _ _) dX10_keep_265 (fun H locs hP hS => ?_)
                        have hP := wm_eq rfl rfl rfl (es_q_33__33 q s3 (vp_updL s3 v198.toNatClampNeg v263.toInt64)) hP
                        refine lv_iinc (v := (nI (i + 1))) (lv' := [(7, .int (nI (i + 1))), (6, .int (1 : Int32)), (0, .ref mo), (1, .int d), (2, .int what), (3, .int k0), (4, .long p0)]) hx hb dX10_keep_266 hl (k := 0) rfl (nI_1 _) (by decide) rfl (fun ls hl => ?_)
                        refine lv_goto (tgt := 177) hx hb dX10_keep_269 (by decide) ?_
                        have hP := wm_eq rfl rfl (ec_r_29_30__29_30 r ((upd (r 29) d.toNatClampNeg what)) ((upd (r 30) d.toNatClampNeg v131))) rfl hP
                        exact ih_177 (i + 1) (vp_updL s3 v198.toNatClampNeg v263.toInt64) (by omega) (by omega) _ _ hP hS ls (lv_sub hl [0, 1, 2, 3, 4, 5, 6] rfl)
                      · skip
                        have d223 := c223
                        rw [fa_le] at d223
                        refine lv_aload_n hx hb dX10_keep_226 rfl (lv_at hl 2 rfl) ?_
                        refine m_get (v := .ref (a 5)) hx hb hts hin hown hK hP 5 (by decide) rfl (hts (.fieldLink RX10 19 "ShadowBenchModel" "sums" "[I") (by decide +kernel)) rfl dX10_keep_227 ?_
                        refine lv_bipush (v := 44) hx hb dX10_keep_230 (by decide) ?_
                        refine lv_iload_n hx hb dX10_keep_232 rfl (lv_at hl 5 rfl) ?_
                        refine lv_imul hx hb dX10_keep_233 ?_
                        refine lv_topi (fun v233 e233 => ?_)
                        have i233 : v233.toInt = 44 * k0.toInt := by rw [e233]; exact mulcL rfl (by omega) (by omega)
                        refine lv_iload hx hb dX10_keep_234 (lv_at hl 0 rfl) ?_
                        refine lv_iadd hx hb dX10_keep_236 ?_
                        refine lv_topi (fun v236 e236 => ?_)
                        have i236 : v236.toInt = v233.toInt + (nI i).toInt := by rw [e236]; exact fb_addI (by omega) (by omega)
                        refine m_iald (w := (r 5)) hx hb hK hP 4 rfl (vp_in_iff.mpr ⟨by omega, by omega⟩) dX10_keep_237 ?_
                        refine lv_topi (fun v237 e237 => ?_)
                        have i237 : v237.toInt = ((r 5) v236.toNatClampNeg).toInt := congrArg Int32.toInt e237
                        refine lv_i2l (v := v237.toInt64) hx hb dX10_keep_238 rfl ?_
                        refine lv_goto (tgt := 265) hx hb dX10_keep_239 (by decide) ?_
                        refine m_last (w := s3) hx hb hK hP hD hS 21 rfl (vp_in_iff.mpr ⟨by omega, by omega⟩) (va_up (va_up q 33 s3) 33 (vp_updL s3 v198.toNatClampNeg v237.toInt64)) (ms_33 cy mo a _ _ _ _ _) dX10_keep_265 (fun H locs hP hS => ?_)
                        have hP := wm_eq rfl rfl rfl (es_q_33__33 q s3 (vp_updL s3 v198.toNatClampNeg v237.toInt64)) hP
                        refine lv_iinc (v := (nI (i + 1))) (lv' := [(7, .int (nI (i + 1))), (6, .int (1 : Int32)), (0, .ref mo), (1, .int d), (2, .int what), (3, .int k0), (4, .long p0)]) hx hb dX10_keep_266 hl (k := 0) rfl (nI_1 _) (by decide) rfl (fun ls hl => ?_)
                        refine lv_goto (tgt := 177) hx hb dX10_keep_269 (by decide) ?_
                        have hP := wm_eq rfl rfl (ec_r_29_30__29_30 r ((upd (r 29) d.toNatClampNeg what)) ((upd (r 30) d.toNatClampNeg v131))) rfl hP
                        exact ih_177 (i + 1) (vp_updL s3 v198.toNatClampNeg v237.toInt64) (by omega) (by omega) _ _ hP hS ls (lv_sub hl [0, 1, 2, 3, 4, 5, 6] rfl)
                    · first | exact absurd c201 c95 | exact absurd c95 c201
              have hP := wm_eq rfl rfl (ec_r_29_30__29_30 r ((upd (r 29) d.toNatClampNeg what)) ((upd (r 30) d.toNatClampNeg v131))) (ec_q___33 q ) hP
              exact loop_177 (60 + 1) 0 (q 33) (by omega) (by omega) _ _ hP hS ls (lv_sub hl [0, 1, 2, 3, 4, 5, 6] rfl)
            · skip
              have d139 := c139
              rw [fa_eq] at d139
              refine lv_aload_n hx hb dX10_keep_142 rfl (lv_at hl 1 rfl) ?_
              refine m_get (v := .ref (a 31)) hx hb hts hin hown hK hP 31 (by decide) rfl (hts (.fieldLink RX10 67 "ShadowBenchModel" "shelfWeight" "[I") (by decide +kernel)) rfl dX10_keep_143 ?_
              refine lv_iload_n hx hb dX10_keep_146 rfl (lv_at hl 2 rfl) ?_
              refine lv_aload_n hx hb dX10_keep_147 rfl (lv_at hl 1 rfl) ?_
              refine lv_iload_n hx hb dX10_keep_148 rfl (lv_at hl 4 rfl) ?_
              refine m_calli (As := [.int k0]) (rest := [.int d, .ref (a 31)]) ⟨hx, hb, hml, hown, hts⟩ (c_X10_weightOf_x l D cy mo a (upd f 0 (0 : Int32)) g (va_up (va_up r 29 ((upd (r 29) d.toNatClampNeg what))) 30 ((upd (r 30) d.toNatClampNeg v131))) q k0 hD (by first | exact hI | exact mi_sz (d := d) hI (v := 0) (by first | omega | decide) rfl rfl rfl rfl rfl rfl rfl rfl | exact mi_sz (d := d) hI (v := v131) (by first | omega | decide) rfl rfl rfl rfl rfl rfl rfl rfl | exact mi_sz (d := d) hI (v := v110) (by first | omega | decide) rfl rfl rfl rfl rfl rfl rfl rfl) (show 0 ≤ k0.toInt ∧ k0.toInt < (f 1).toInt by omega)) (cwV 1 hts gX10_keep_X10_weightOf rfl rfl rfl (by decide +kernel) ⟨Nat.le_of_ble_eq_true rfl, Nat.le_of_ble_eq_true rfl⟩) hK hP rfl hl.1 rfl (Nat.le_of_ble_eq_true rfl) dX10_keep_149 ⟨Nat.le_of_ble_eq_true rfl, Nat.le_of_ble_eq_true rfl⟩ hS (fun r149 u H locs q149 hP hS => ?_)
              obtain ⟨rfl, q149⟩ := q149
              have hP : va_P D vwCl (WM cy mo a (upd f 0 (0 : Int32)) g (va_up (va_up r 29 ((upd (r 29) d.toNatClampNeg what))) 30 ((upd (r 30) d.toNatClampNeg v131))) q) H := hP
              have q149 : r149 = (heR ((r 2) k0.toNatClampNeg) ((r 3) k0.toNatClampNeg).toNatClampNeg ((r 4) k0.toNatClampNeg).toNatClampNeg (smN (fun s9 => (va_up (va_up r 29 ((upd (r 29) d.toNatClampNeg what))) 30 ((upd (r 30) d.toNatClampNeg v131))) 8 (36 * k0.toNatClampNeg + s9)) 36)) := q149
              refine m_iast (w := (r 31)) hx hb hK hP hD hS 19 rfl (vp_in_iff.mpr ⟨by omega, by omega⟩) (va_up (va_up (va_up r 29 ((upd (r 29) d.toNatClampNeg what))) 30 ((upd (r 30) d.toNatClampNeg v131))) 31 (upd (r 31) d.toNatClampNeg r149)) (ms_31 cy mo a _ _ _ _ _) dX10_keep_152 (fun H locs hP hS => ?_)
              refine lv_aload_n hx hb dX10_keep_153 rfl (lv_at hl 1 rfl) ?_
              refine m_get (v := .ref (a 32)) hx hb hts hin hown hK hP 32 (by decide) rfl (hts (.fieldLink RX10 70 "ShadowBenchModel" "shelfFailure" "[I") (by decide +kernel)) rfl dX10_keep_154 ?_
              refine lv_iload_n hx hb dX10_keep_157 rfl (lv_at hl 2 rfl) ?_
              refine lv_aload_n hx hb dX10_keep_158 rfl (lv_at hl 1 rfl) ?_
              refine m_get (v := .ref (a 2)) hx hb hts hin hown hK hP 2 (by decide) rfl (hts (.fieldLink RX10 7 "ShadowBenchModel" "kind" "[I") (by decide +kernel)) rfl dX10_keep_159 ?_
              refine lv_iload_n hx hb dX10_keep_162 rfl (lv_at hl 4 rfl) ?_
              refine m_iald (w := (r 2)) hx hb hK hP 1 rfl (vp_in_iff.mpr ⟨by omega, by omega⟩) dX10_keep_163 ?_
              refine lv_topi (fun v163 e163 => ?_)
              have i163 : v163.toInt = ((r 2) k0.toNatClampNeg).toInt := congrArg Int32.toInt e163
              refine lv_if_ne (tgt := 172) hx hb dX10_keep_164 (by decide) (fun c164 => ?_) (fun c164 => ?_)
              · skip
                have d164 := c164
                rw [fa_eq] at d164
                refine lv_iload_n hx hb dX10_keep_172 rfl (lv_at hl 4 rfl) ?_
                refine m_iast (w := (r 32)) hx hb hK hP hD hS 20 rfl (vp_in_iff.mpr ⟨by omega, by omega⟩) (va_up (va_up (va_up (va_up r 29 ((upd (r 29) d.toNatClampNeg what))) 30 ((upd (r 30) d.toNatClampNeg v131))) 31 ((upd (r 31) d.toNatClampNeg r149))) 32 (upd (r 32) d.toNatClampNeg k0)) (ms_32 cy mo a _ _ _ _ _) dX10_keep_173 (fun H locs hP hS => ?_)
                refine lv_iconst (v := 0) hx hb dX10_keep_174 (by decide) ?_
                refine lv_istore (lv' := [(7, .int (0 : Int32)), (6, .int (1 : Int32)), (0, .ref mo), (1, .int d), (2, .int what), (3, .int k0), (4, .long p0)]) hx hb dX10_keep_175 hl (by decide) rfl (fun ls hl => ?_)
                have loop_177 : ∀ (n : Nat) (i : Nat) (s3 : Nat → Int64), (i ≤ 60) → 60 - i < n → ∀ (H : Heap) (locs : List Loc), va_P D vwCl (WM cy mo a (upd f 0 (0 : Int32)) g (va_up (va_up (va_up (va_up r 29 ((upd (r 29) d.toNatClampNeg what))) 30 ((upd (r 30) d.toNatClampNeg v131))) 31 ((upd (r 31) d.toNatClampNeg r149))) 32 ((upd (r 32) d.toNatClampNeg k0))) (va_up q 33 s3)) H → va_S (AM mo a) s.heap H locs → ∀ (ls : Array Slot), lv_has ls 8 [(7, .int (nI i)), (6, .int (1 : Int32)), (0, .ref mo), (1, .int d), (2, .int what), (3, .int k0), (4, .long p0)] → W p l e (headSpec wsX10_keep ({ frames := 3, cells := 0, slots := 0, locals := 69 })).room s m #[Value.ref mo, Value.int d, Value.int what, Value.int k0, Value.long p0] below meth c H locs 0 0 (MQ below (va_Qi (fun r0 u => ∃ (sh : Nat → Int32), ∃ (sz : Nat → Int32), ∃ (sw : Nat → Int32), ∃ (sf : Nat → Int32), ∃ (sr : Nat → Int64), u = ((upd f 0 (0 : Int32)), g, (va_up (va_up (va_up (va_up r 29 sh) 30 sz) 31 sw) 32 sf), (va_up q 33 sr)) ∧ (yesNo (okKeep (f 1) (fun j9 => (r 3 j9).toNatClampNeg) (fun j9 => (r 4 j9).toNatClampNeg) d what k0 p0) 0 (-1) r0 ∧ ((okKeep (f 1) (fun j9 => (r 3 j9).toNatClampNeg) (fun j9 => (r 4 j9).toNatClampNeg) d what k0 p0 ∧ sh = upd (r 29) d.toNatClampNeg what ∧ (what.toInt = 1 → sw = upd (r 31) d.toNatClampNeg (heR (r 2 k0.toNatClampNeg) (r 3 k0.toNatClampNeg).toNatClampNeg (r 4 k0.toNatClampNeg).toNatClampNeg (smN (fun s9 => r 8 (36 * k0.toNatClampNeg + s9)) 36))) ∧ (¬ what.toInt = 1 → sw = r 31)) ∨ (¬ okKeep (f 1) (fun j9 => (r 3 j9).toNatClampNeg) (fun j9 => (r 4 j9).toNatClampNeg) d what k0 p0 ∧ sh = r 29 ∧ sw = r 31)) ∧ MI (upd f 0 (0 : Int32)) (va_up (va_up (va_up (va_up r 29 sh) 30 sz) 31 sw) 32 sf))) (mB D cy mo a) (AM mo a)) #[Value.ref mo, Value.int d, Value.int what, Value.int k0, Value.long p0] s 0 0 (AM mo a)) (F0 m 177 ls []) := by
                  intro n
                  induction n with
                  | zero => intro i s3 j177_0 hn; exact absurd hn (Nat.not_lt_zero _)
                  | succ n ih_177 =>
                    intro i s3 j177_0 hn_177 H locs hP hS ls hl
                    have ii : (nI i).toInt = (i : Int) := nI_toInt (by omega)
                    refine lv_iload hx hb dX10_keep_177 (lv_at hl 0 rfl) ?_
                    refine lv_aload_n hx hb dX10_keep_179 rfl (lv_at hl 2 rfl) ?_
                    refine m_get (v := .ref (a 30)) hx hb hts hin hown hK hP 30 (by decide) rfl (hts (.fieldLink RX10 64 "ShadowBenchModel" "shelfSize" "[I") (by decide +kernel)) rfl dX10_keep_180 ?_
                    refine lv_iload_n hx hb dX10_keep_183 rfl (lv_at hl 3 rfl) ?_
                    refine m_iald (w := ((upd (r 30) d.toNatClampNeg v131))) hx hb hK hP 18 rfl (vp_in_iff.mpr ⟨by omega, by omega⟩) dX10_keep_184 ?_
                    refine lv_topi (fun v184 e184 => ?_)
                    have i184 : v184.toInt = (((upd (r 30) d.toNatClampNeg v131)) d.toNatClampNeg).toInt := congrArg Int32.toInt e184
                    have z184 := e184
                    simp only [upd, if_true] at z184
                    have y184 := congrArg Int32.toInt z184
                    refine lv_icmp_ge (tgt := 272) hx hb dX10_keep_185 (by decide) (fun c185 => ?_) (fun c185 => ?_)
                    · skip
                      have d185 := c185
                      rw [fa_le] at d185
                      refine lv_iconst (v := 0) hx hb dX10_keep_272 (by decide) ?_
                      have hP := wm_eq rfl rfl (ec_r_29_30_31_32__29_30_31_32 r ((upd (r 29) d.toNatClampNeg what)) ((upd (r 30) d.toNatClampNeg v131)) ((upd (r 31) d.toNatClampNeg r149)) ((upd (r 32) d.toNatClampNeg k0))) rfl hP
                      exact W.iret (v := (0 : Int32)) hx hb hr (fun t ht hW => ⟨⟨_, ((upd f 0 (0 : Int32)), g, (va_up (va_up (va_up (va_up r 29 (((upd (r 29) d.toNatClampNeg what)))) 30 (((upd (r 30) d.toNatClampNeg v131)))) 31 (((upd (r 31) d.toNatClampNeg r149)))) 32 (((upd (r 32) d.toNatClampNeg k0)))), (va_up q 33 s3)), rfl, ⟨((upd (r 29) d.toNatClampNeg what)), ((upd (r 30) d.toNatClampNeg v131)), ((upd (r 31) d.toNatClampNeg r149)), ((upd (r 32) d.toNatClampNeg k0)), s3, rfl, ⟨(Or.inl ⟨⟨b9, (by unfold okJob; first | exact Or.inl (by omega) | exact Or.inr (Or.inl ⟨by omega, b31⟩) | (have z9 := goodP_of b64; subst e52; subst e58; exact Or.inr (Or.inr ⟨by omega, b44, z9.2⟩)))⟩, rfl⟩), (Or.inl ⟨⟨b9, (by unfold okJob; first | exact Or.inl (by omega) | exact Or.inr (Or.inl ⟨by omega, b31⟩) | (have z9 := goodP_of b64; subst e52; subst e58; exact Or.inr (Or.inr ⟨by omega, b44, z9.2⟩)))⟩, rfl, (by first | exact ⟨fun _ => congrArg (fun z9 => upd (r 31) d.toNatClampNeg z9) q149, fun z9 => by exfalso; omega⟩ | exact ⟨fun z9 => by exfalso; omega, fun _ => rfl⟩)⟩), by first | exact hI | exact mi_sz (d := d) hI (v := v110) (by omega) rfl rfl rfl rfl rfl rfl rfl rfl | exact mi_sz (d := d) hI (v := v131) (by omega) rfl rfl rfl rfl rfl rfl rfl rfl | exact mi_sz (d := d) hI (v := 0) (by decide) rfl rfl rfl rfl rfl rfl rfl rfl⟩⟩, by unfold mB; rw [ht]; exact hP⟩, hS.F ht⟩) hS.2.2 dX10_keep_273
                    · skip
                      have d185 := c185
                      rw [fa_le] at d185
                      refine lv_aload_n hx hb dX10_keep_188 rfl (lv_at hl 2 rfl) ?_
                      refine m_get (v := .ref (a 33)) hx hb hts hin hown hK hP 33 (by decide) rfl (hts (.fieldLink RX10 73 "ShadowBenchModel" "shelfRow" "[J") (by decide +kernel)) rfl dX10_keep_189 ?_
                      refine lv_bipush (v := 60) hx hb dX10_keep_192 (by decide) ?_
                      refine lv_iload_n hx hb dX10_keep_194 rfl (lv_at hl 3 rfl) ?_
                      refine lv_imul hx hb dX10_keep_195 ?_
                      refine lv_topi (fun v195 e195 => ?_)
                      have i195 : v195.toInt = 60 * d.toInt := by rw [e195]; exact mulcL rfl (by omega) (by omega)
                      refine lv_iload hx hb dX10_keep_196 (lv_at hl 0 rfl) ?_
                      refine lv_iadd hx hb dX10_keep_198 ?_
                      refine lv_topi (fun v198 e198 => ?_)
                      have i198 : v198.toInt = v195.toInt + (nI i).toInt := by rw [e198]; exact fb_addI (by omega) (by omega)
                      refine lv_iload_n hx hb dX10_keep_199 rfl (lv_at hl 4 rfl) ?_
                      refine lv_iconst (v := 3) hx hb dX10_keep_200 (by decide) ?_
                      refine lv_icmp_ne (tgt := 215) hx hb dX10_keep_201 (by decide) (fun c201 => ?_) (fun c201 => ?_)
                      · skip
                        have d201 := c201
                        rw [fa_eq] at d201
                        refine lv_iload hx hb dX10_keep_215 (lv_at hl 0 rfl) ?_
                        refine lv_aload_n hx hb dX10_keep_217 rfl (lv_at hl 2 rfl) ?_
                        refine m_get (v := .ref (a 4)) hx hb hts hin hown hK hP 4 (by decide) rfl (hts (.fieldLink RX10 16 "ShadowBenchModel" "high" "[I") (by decide +kernel)) rfl dX10_keep_218 ?_
                        refine lv_iload_n hx hb dX10_keep_221 rfl (lv_at hl 5 rfl) ?_
                        refine m_iald (w := (r 4)) hx hb hK hP 3 rfl (vp_in_iff.mpr ⟨by omega, by omega⟩) dX10_keep_222 ?_
                        refine lv_topi (fun v222 e222 => ?_)
                        have i222 : v222.toInt = ((r 4) k0.toNatClampNeg).toInt := congrArg Int32.toInt e222
                        have w222 := mi_h hI (x := k0) (by omega) (by omega) e222
                        refine lv_icmp_ge (tgt := 242) hx hb dX10_keep_223 (by decide) (fun c223 => ?_) (fun c223 => ?_)
                        · skip
                          have d223 := c223
                          rw [fa_le] at d223
                          refine lv_aload_n hx hb dX10_keep_242 rfl (lv_at hl 2 rfl) ?_
                          refine m_get (v := .ref (a 5)) hx hb hts hin hown hK hP 5 (by decide) rfl (hts (.fieldLink RX10 19 "ShadowBenchModel" "sums" "[I") (by decide +kernel)) rfl dX10_keep_243 ?_
                          refine lv_bipush (v := 44) hx hb dX10_keep_246 (by decide) ?_
                          refine lv_iload_n hx hb dX10_keep_248 rfl (lv_at hl 5 rfl) ?_
                          refine lv_imul hx hb dX10_keep_249 ?_
                          refine lv_topi (fun v249 e249 => ?_)
                          have i249 : v249.toInt = 44 * k0.toInt := by rw [e249]; exact mulcL rfl (by omega) (by omega)
                          refine lv_bipush (v := 11) hx hb dX10_keep_250 (by decide) ?_
                          refine lv_iadd hx hb dX10_keep_252 ?_
                          refine lv_topi (fun v252 e252 => ?_)
                          have i252 : v252.toInt = v249.toInt + (11 : Int32).toInt := by rw [e252]; exact fb_addI (by omega) (by omega)
                          refine lv_iload hx hb dX10_keep_253 (lv_at hl 0 rfl) ?_
                          refine lv_iadd hx hb dX10_keep_255 ?_
                          refine lv_topi (fun v255 e255 => ?_)
                          have i255 : v255.toInt = v252.toInt + (nI i).toInt := by rw [e255]; exact fb_addI (by omega) (by omega)
                          refine lv_aload_n hx hb dX10_keep_256 rfl (lv_at hl 2 rfl) ?_
                          refine m_get (v := .ref (a 4)) hx hb hts hin hown hK hP 4 (by decide) rfl (hts (.fieldLink RX10 16 "ShadowBenchModel" "high" "[I") (by decide +kernel)) rfl dX10_keep_257 ?_
                          refine lv_iload_n hx hb dX10_keep_260 rfl (lv_at hl 5 rfl) ?_
                          refine m_iald (w := (r 4)) hx hb hK hP 3 rfl (vp_in_iff.mpr ⟨by omega, by omega⟩) dX10_keep_261 ?_
                          refine lv_topi (fun v261 e261 => ?_)
                          have i261 : v261.toInt = ((r 4) k0.toNatClampNeg).toInt := congrArg Int32.toInt e261
                          have w261 := mi_h hI (x := k0) (by omega) (by omega) e261
                          refine lv_isub hx hb dX10_keep_262 ?_
                          refine lv_topi (fun v262 e262 => ?_)
                          have i262 : v262.toInt = v255.toInt - v261.toInt := by rw [e262]; exact fb_subI (by omega) (by omega)
                          refine m_iald (w := (r 5)) hx hb hK hP 4 rfl (vp_in_iff.mpr ⟨by omega, by omega⟩) dX10_keep_263 ?_
                          refine lv_topi (fun v263 e263 => ?_)
                          have i263 : v263.toInt = ((r 5) v262.toNatClampNeg).toInt := congrArg Int32.toInt e263
                          refine lv_i2l (v := v263.toInt64) hx hb dX10_keep_264 rfl ?_
                          refine m_last (w := s3) hx hb hK hP hD hS 21 rfl (vp_in_iff.mpr ⟨by omega, by omega⟩) (va_up (va_up q 33 s3) 33 (vp_updL s3 v198.toNatClampNeg v263.toInt64)) (ms_33 cy mo a _ _ _ _ _) dX10_keep_265 (fun H locs hP hS => ?_)
                          have hP := wm_eq rfl rfl rfl (es_q_33__33 q s3 (vp_updL s3 v198.toNatClampNeg v263.toInt64)) hP
                          refine lv_iinc (v := (nI (i + 1))) (lv' := [(7, .int (nI (i + 1))), (6, .int (1 : Int32)), (0, .ref mo), (1, .int d), (2, .int what), (3, .int k0), (4, .long p0)]) hx hb dX10_keep_266 hl (k := 0) rfl (nI_1 _) (by decide) rfl (fun ls hl => ?_)
                          refine lv_goto (tgt := 177) hx hb dX10_keep_269 (by decide) ?_
                          have hP := wm_eq rfl rfl (ec_r_29_30_31_32__29_30_31_32 r ((upd (r 29) d.toNatClampNeg what)) ((upd (r 30) d.toNatClampNeg v131)) ((upd (r 31) d.toNatClampNeg r149)) ((upd (r 32) d.toNatClampNeg k0))) rfl hP
                          exact ih_177 (i + 1) (vp_updL s3 v198.toNatClampNeg v263.toInt64) (by omega) (by omega) _ _ hP hS ls (lv_sub hl [0, 1, 2, 3, 4, 5, 6] rfl)
                        · skip
                          have d223 := c223
                          rw [fa_le] at d223
                          refine lv_aload_n hx hb dX10_keep_226 rfl (lv_at hl 2 rfl) ?_
                          refine m_get (v := .ref (a 5)) hx hb hts hin hown hK hP 5 (by decide) rfl (hts (.fieldLink RX10 19 "ShadowBenchModel" "sums" "[I") (by decide +kernel)) rfl dX10_keep_227 ?_
                          refine lv_bipush (v := 44) hx hb dX10_keep_230 (by decide) ?_
                          refine lv_iload_n hx hb dX10_keep_232 rfl (lv_at hl 5 rfl) ?_
                          refine lv_imul hx hb dX10_keep_233 ?_
                          refine lv_topi (fun v233 e233 => ?_)
                          have i233 : v233.toInt = 44 * k0.toInt := by rw [e233]; exact mulcL rfl (by omega) (by omega)
                          refine lv_iload hx hb dX10_keep_234 (lv_at hl 0 rfl) ?_
                          refine lv_iadd hx hb dX10_keep_236 ?_
                          refine lv_topi (fun v236 e236 => ?_)
                          have i236 : v236.toInt = v233.toInt + (nI i).toInt := by rw [e236]; exact fb_addI (by omega) (by omega)
                          refine m_iald (w := (r 5)) hx hb hK hP 4 rfl (vp_in_iff.mpr ⟨by omega, by omega⟩) dX10_keep_237 ?_
                          refine lv_topi (fun v237 e237 => ?_)
                          have i237 : v237.toInt = ((r 5) v236.toNatClampNeg).toInt := congrArg Int32.toInt e237
                          refine lv_i2l (v := v237.toInt64) hx hb dX10_keep_238 rfl ?_
                          refine lv_goto (tgt := 265) hx hb dX10_keep_239 (by decide) ?_
                          refine m_last (w := s3) hx hb hK hP hD hS 21 rfl (vp_in_iff.mpr ⟨by omega, by omega⟩) (va_up (va_up q 33 s3) 33 (vp_updL s3 v198.toNatClampNeg v237.toInt64)) (ms_33 cy mo a _ _ _ _ _) dX10_keep_265 (fun H locs hP hS => ?_)
                          have hP := wm_eq rfl rfl rfl (es_q_33__33 q s3 (vp_updL s3 v198.toNatClampNeg v237.toInt64)) hP
                          refine lv_iinc (v := (nI (i + 1))) (lv' := [(7, .int (nI (i + 1))), (6, .int (1 : Int32)), (0, .ref mo), (1, .int d), (2, .int what), (3, .int k0), (4, .long p0)]) hx hb dX10_keep_266 hl (k := 0) rfl (nI_1 _) (by decide) rfl (fun ls hl => ?_)
                          refine lv_goto (tgt := 177) hx hb dX10_keep_269 (by decide) ?_
                          have hP := wm_eq rfl rfl (ec_r_29_30_31_32__29_30_31_32 r ((upd (r 29) d.toNatClampNeg what)) ((upd (r 30) d.toNatClampNeg v131)) ((upd (r 31) d.toNatClampNeg r149)) ((upd (r 32) d.toNatClampNeg k0))) rfl hP
                          exact ih_177 (i + 1) (vp_updL s3 v198.toNatClampNeg v237.toInt64) (by omega) (by omega) _ _ hP hS ls (lv_sub hl [0, 1, 2, 3, 4, 5, 6] rfl)
                      · first | exact absurd c201 c95 | exact absurd c95 c201
                have hP := wm_eq rfl rfl (ec_r_29_30_31_32__29_30_31_32 r ((upd (r 29) d.toNatClampNeg what)) ((upd (r 30) d.toNatClampNeg v131)) ((upd (r 31) d.toNatClampNeg r149)) ((upd (r 32) d.toNatClampNeg k0))) (ec_q___33 q ) hP
                exact loop_177 (60 + 1) 0 (q 33) (by omega) (by omega) _ _ hP hS ls (lv_sub hl [0, 1, 2, 3, 4, 5, 6] rfl)
              · skip
                have d164 := c164
                rw [fa_eq] at d164
                refine lv_bipush (v := (-15)) hx hb dX10_keep_167 (by decide) ?_
                refine lv_goto (tgt := 173) hx hb dX10_keep_169 (by decide) ?_
                refine m_iast (w := (r 32)) hx hb hK hP hD hS 20 rfl (vp_in_iff.mpr ⟨by omega, by omega⟩) (va_up (va_up (va_up (va_up r 29 ((upd (r 29) d.toNatClampNeg what))) 30 ((upd (r 30) d.toNatClampNeg v131))) 31 ((upd (r 31) d.toNatClampNeg r149))) 32 (upd (r 32) d.toNatClampNeg (((-15) : Int32)))) (ms_32 cy mo a _ _ _ _ _) dX10_keep_173 (fun H locs hP hS => ?_)
                refine lv_iconst (v := 0) hx hb dX10_keep_174 (by decide) ?_
                refine lv_istore (lv' := [(7, .int (0 : Int32)), (6, .int (1 : Int32)), (0, .ref mo), (1, .int d), (2, .int what), (3, .int k0), (4, .long p0)]) hx hb dX10_keep_175 hl (by decide) rfl (fun ls hl => ?_)
                have loop_177 : ∀ (n : Nat) (i : Nat) (s3 : Nat → Int64), (i ≤ 60) → 60 - i < n → ∀ (H : Heap) (locs : List Loc), va_P D vwCl (WM cy mo a (upd f 0 (0 : Int32)) g (va_up (va_up (va_up (va_up r 29 ((upd (r 29) d.toNatClampNeg what))) 30 ((upd (r 30) d.toNatClampNeg v131))) 31 ((upd (r 31) d.toNatClampNeg r149))) 32 ((upd (r 32) d.toNatClampNeg (((-15) : Int32))))) (va_up q 33 s3)) H → va_S (AM mo a) s.heap H locs → ∀ (ls : Array Slot), lv_has ls 8 [(7, .int (nI i)), (6, .int (1 : Int32)), (0, .ref mo), (1, .int d), (2, .int what), (3, .int k0), (4, .long p0)] → W p l e (headSpec wsX10_keep ({ frames := 3, cells := 0, slots := 0, locals := 69 })).room s m #[Value.ref mo, Value.int d, Value.int what, Value.int k0, Value.long p0] below meth c H locs 0 0 (MQ below (va_Qi (fun r0 u => ∃ (sh : Nat → Int32), ∃ (sz : Nat → Int32), ∃ (sw : Nat → Int32), ∃ (sf : Nat → Int32), ∃ (sr : Nat → Int64), u = ((upd f 0 (0 : Int32)), g, (va_up (va_up (va_up (va_up r 29 sh) 30 sz) 31 sw) 32 sf), (va_up q 33 sr)) ∧ (yesNo (okKeep (f 1) (fun j9 => (r 3 j9).toNatClampNeg) (fun j9 => (r 4 j9).toNatClampNeg) d what k0 p0) 0 (-1) r0 ∧ ((okKeep (f 1) (fun j9 => (r 3 j9).toNatClampNeg) (fun j9 => (r 4 j9).toNatClampNeg) d what k0 p0 ∧ sh = upd (r 29) d.toNatClampNeg what ∧ (what.toInt = 1 → sw = upd (r 31) d.toNatClampNeg (heR (r 2 k0.toNatClampNeg) (r 3 k0.toNatClampNeg).toNatClampNeg (r 4 k0.toNatClampNeg).toNatClampNeg (smN (fun s9 => r 8 (36 * k0.toNatClampNeg + s9)) 36))) ∧ (¬ what.toInt = 1 → sw = r 31)) ∨ (¬ okKeep (f 1) (fun j9 => (r 3 j9).toNatClampNeg) (fun j9 => (r 4 j9).toNatClampNeg) d what k0 p0 ∧ sh = r 29 ∧ sw = r 31)) ∧ MI (upd f 0 (0 : Int32)) (va_up (va_up (va_up (va_up r 29 sh) 30 sz) 31 sw) 32 sf))) (mB D cy mo a) (AM mo a)) #[Value.ref mo, Value.int d, Value.int what, Value.int k0, Value.long p0] s 0 0 (AM mo a)) (F0 m 177 ls []) := by
                  intro n
                  induction n with
                  | zero => intro i s3 j177_0 hn; exact absurd hn (Nat.not_lt_zero _)
                  | succ n ih_177 =>
                    intro i s3 j177_0 hn_177 H locs hP hS ls hl
                    have ii : (nI i).toInt = (i : Int) := nI_toInt (by omega)
                    refine lv_iload hx hb dX10_keep_177 (lv_at hl 0 rfl) ?_
                    refine lv_aload_n hx hb dX10_keep_179 rfl (lv_at hl 2 rfl) ?_
                    refine m_get (v := .ref (a 30)) hx hb hts hin hown hK hP 30 (by decide) rfl (hts (.fieldLink RX10 64 "ShadowBenchModel" "shelfSize" "[I") (by decide +kernel)) rfl dX10_keep_180 ?_
                    refine lv_iload_n hx hb dX10_keep_183 rfl (lv_at hl 3 rfl) ?_
                    refine m_iald (w := ((upd (r 30) d.toNatClampNeg v131))) hx hb hK hP 18 rfl (vp_in_iff.mpr ⟨by omega, by omega⟩) dX10_keep_184 ?_
                    refine lv_topi (fun v184 e184 => ?_)
                    have i184 : v184.toInt = (((upd (r 30) d.toNatClampNeg v131)) d.toNatClampNeg).toInt := congrArg Int32.toInt e184
                    have z184 := e184
                    simp only [upd, if_true] at z184
                    have y184 := congrArg Int32.toInt z184
                    refine lv_icmp_ge (tgt := 272) hx hb dX10_keep_185 (by decide) (fun c185 => ?_) (fun c185 => ?_)
                    · skip
                      have d185 := c185
                      rw [fa_le] at d185
                      refine lv_iconst (v := 0) hx hb dX10_keep_272 (by decide) ?_
                      have hP := wm_eq rfl rfl (ec_r_29_30_31_32__29_30_31_32 r ((upd (r 29) d.toNatClampNeg what)) ((upd (r 30) d.toNatClampNeg v131)) ((upd (r 31) d.toNatClampNeg r149)) ((upd (r 32) d.toNatClampNeg (((-15) : Int32))))) rfl hP
                      exact W.iret (v := (0 : Int32)) hx hb hr (fun t ht hW => ⟨⟨_, ((upd f 0 (0 : Int32)), g, (va_up (va_up (va_up (va_up r 29 (((upd (r 29) d.toNatClampNeg what)))) 30 (((upd (r 30) d.toNatClampNeg v131)))) 31 (((upd (r 31) d.toNatClampNeg r149)))) 32 (((upd (r 32) d.toNatClampNeg (((-15) : Int32)))))), (va_up q 33 s3)), rfl, ⟨((upd (r 29) d.toNatClampNeg what)), ((upd (r 30) d.toNatClampNeg v131)), ((upd (r 31) d.toNatClampNeg r149)), ((upd (r 32) d.toNatClampNeg (((-15) : Int32)))), s3, rfl, ⟨(Or.inl ⟨⟨b9, (by unfold okJob; first | exact Or.inl (by omega) | exact Or.inr (Or.inl ⟨by omega, b31⟩) | (have z9 := goodP_of b64; subst e52; subst e58; exact Or.inr (Or.inr ⟨by omega, b44, z9.2⟩)))⟩, rfl⟩), (Or.inl ⟨⟨b9, (by unfold okJob; first | exact Or.inl (by omega) | exact Or.inr (Or.inl ⟨by omega, b31⟩) | (have z9 := goodP_of b64; subst e52; subst e58; exact Or.inr (Or.inr ⟨by omega, b44, z9.2⟩)))⟩, rfl, (by first | exact ⟨fun _ => congrArg (fun z9 => upd (r 31) d.toNatClampNeg z9) q149, fun z9 => by exfalso; omega⟩ | exact ⟨fun z9 => by exfalso; omega, fun _ => rfl⟩)⟩), by first | exact hI | exact mi_sz (d := d) hI (v := v110) (by omega) rfl rfl rfl rfl rfl rfl rfl rfl | exact mi_sz (d := d) hI (v := v131) (by omega) rfl rfl rfl rfl rfl rfl rfl rfl | exact mi_sz (d := d) hI (v := 0) (by decide) rfl rfl rfl rfl rfl rfl rfl rfl⟩⟩, by unfold mB; rw [ht]; exact hP⟩, hS.F ht⟩) hS.2.2 dX10_keep_273
                    · skip
                      have d185 := c185
                      rw [fa_le] at d185
                      refine lv_aload_n hx hb dX10_keep_188 rfl (lv_at hl 2 rfl) ?_
                      refine m_get (v := .ref (a 33)) hx hb hts hin hown hK hP 33 (by decide) rfl (hts (.fieldLink RX10 73 "ShadowBenchModel" "shelfRow" "[J") (by decide +kernel)) rfl dX10_keep_189 ?_
                      refine lv_bipush (v := 60) hx hb dX10_keep_192 (by decide) ?_
                      refine lv_iload_n hx hb dX10_keep_194 rfl (lv_at hl 3 rfl) ?_
                      refine lv_imul hx hb dX10_keep_195 ?_
                      refine lv_topi (fun v195 e195 => ?_)
                      have i195 : v195.toInt = 60 * d.toInt := by rw [e195]; exact mulcL rfl (by omega) (by omega)
                      refine lv_iload hx hb dX10_keep_196 (lv_at hl 0 rfl) ?_
                      refine lv_iadd hx hb dX10_keep_198 ?_
                      refine lv_topi (fun v198 e198 => ?_)
                      have i198 : v198.toInt = v195.toInt + (nI i).toInt := by rw [e198]; exact fb_addI (by omega) (by omega)
                      refine lv_iload_n hx hb dX10_keep_199 rfl (lv_at hl 4 rfl) ?_
                      refine lv_iconst (v := 3) hx hb dX10_keep_200 (by decide) ?_
                      refine lv_icmp_ne (tgt := 215) hx hb dX10_keep_201 (by decide) (fun c201 => ?_) (fun c201 => ?_)
                      · skip
                        have d201 := c201
                        rw [fa_eq] at d201
                        refine lv_iload hx hb dX10_keep_215 (lv_at hl 0 rfl) ?_
                        refine lv_aload_n hx hb dX10_keep_217 rfl (lv_at hl 2 rfl) ?_
                        refine m_get (v := .ref (a 4)) hx hb hts hin hown hK hP 4 (by decide) rfl (hts (.fieldLink RX10 16 "ShadowBenchModel" "high" "[I") (by decide +kernel)) rfl dX10_keep_218 ?_
                        refine lv_iload_n hx hb dX10_keep_221 rfl (lv_at hl 5 rfl) ?_
                        refine m_iald (w := (r 4)) hx hb hK hP 3 rfl (vp_in_iff.mpr ⟨by omega, by omega⟩) dX10_keep_222 ?_
                        refine lv_topi (fun v222 e222 => ?_)
                        have i222 : v222.toInt = ((r 4) k0.toNatClampNeg).toInt := congrArg Int32.toInt e222
                        have w222 := mi_h hI (x := k0) (by omega) (by omega) e222
                        refine lv_icmp_ge (tgt := 242) hx hb dX10_keep_223 (by decide) (fun c223 => ?_) (fun c223 => ?_)
                        · skip
                          have d223 := c223
                          rw [fa_le] at d223
                          refine lv_aload_n hx hb dX10_keep_242 rfl (lv_at hl 2 rfl) ?_
                          refine m_get (v := .ref (a 5)) hx hb hts hin hown hK hP 5 (by decide) rfl (hts (.fieldLink RX10 19 "ShadowBenchModel" "sums" "[I") (by decide +kernel)) rfl dX10_keep_243 ?_
                          refine lv_bipush (v := 44) hx hb dX10_keep_246 (by decide) ?_
                          refine lv_iload_n hx hb dX10_keep_248 rfl (lv_at hl 5 rfl) ?_
                          refine lv_imul hx hb dX10_keep_249 ?_
                          refine lv_topi (fun v249 e249 => ?_)
                          have i249 : v249.toInt = 44 * k0.toInt := by rw [e249]; exact mulcL rfl (by omega) (by omega)
                          refine lv_bipush (v := 11) hx hb dX10_keep_250 (by decide) ?_
                          refine lv_iadd hx hb dX10_keep_252 ?_
                          refine lv_topi (fun v252 e252 => ?_)
                          have i252 : v252.toInt = v249.toInt + (11 : Int32).toInt := by rw [e252]; exact fb_addI (by omega) (by omega)
                          refine lv_iload hx hb dX10_keep_253 (lv_at hl 0 rfl) ?_
                          refine lv_iadd hx hb dX10_keep_255 ?_
                          refine lv_topi (fun v255 e255 => ?_)
                          have i255 : v255.toInt = v252.toInt + (nI i).toInt := by rw [e255]; exact fb_addI (by omega) (by omega)
                          refine lv_aload_n hx hb dX10_keep_256 rfl (lv_at hl 2 rfl) ?_
                          refine m_get (v := .ref (a 4)) hx hb hts hin hown hK hP 4 (by decide) rfl (hts (.fieldLink RX10 16 "ShadowBenchModel" "high" "[I") (by decide +kernel)) rfl dX10_keep_257 ?_
                          refine lv_iload_n hx hb dX10_keep_260 rfl (lv_at hl 5 rfl) ?_
                          refine m_iald (w := (r 4)) hx hb hK hP 3 rfl (vp_in_iff.mpr ⟨by omega, by omega⟩) dX10_keep_261 ?_
                          refine lv_topi (fun v261 e261 => ?_)
                          have i261 : v261.toInt = ((r 4) k0.toNatClampNeg).toInt := congrArg Int32.toInt e261
                          have w261 := mi_h hI (x := k0) (by omega) (by omega) e261
                          refine lv_isub hx hb dX10_keep_262 ?_
                          refine lv_topi (fun v262 e262 => ?_)
                          have i262 : v262.toInt = v255.toInt - v261.toInt := by rw [e262]; exact fb_subI (by omega) (by omega)
                          refine m_iald (w := (r 5)) hx hb hK hP 4 rfl (vp_in_iff.mpr ⟨by omega, by omega⟩) dX10_keep_263 ?_
                          refine lv_topi (fun v263 e263 => ?_)
                          have i263 : v263.toInt = ((r 5) v262.toNatClampNeg).toInt := congrArg Int32.toInt e263
                          refine lv_i2l (v := v263.toInt64) hx hb dX10_keep_264 rfl ?_
                          refine m_last (w := s3) hx hb hK hP hD hS 21 rfl (vp_in_iff.mpr ⟨by omega, by omega⟩) (va_up (va_up q 33 s3) 33 (vp_updL s3 v198.toNatClampNeg v263.toInt64)) (ms_33 cy mo a _ _ _ _ _) dX10_keep_265 (fun H locs hP hS => ?_)
                          have hP := wm_eq rfl rfl rfl (es_q_33__33 q s3 (vp_updL s3 v198.toNatClampNeg v263.toInt64)) hP
                          refine lv_iinc (v := (nI (i + 1))) (lv' := [(7, .int (nI (i + 1))), (6, .int (1 : Int32)), (0, .ref mo), (1, .int d), (2, .int what), (3, .int k0), (4, .long p0)]) hx hb dX10_keep_266 hl (k := 0) rfl (nI_1 _) (by decide) rfl (fun ls hl => ?_)
                          refine lv_goto (tgt := 177) hx hb dX10_keep_269 (by decide) ?_
                          have hP := wm_eq rfl rfl (ec_r_29_30_31_32__29_30_31_32 r ((upd (r 29) d.toNatClampNeg what)) ((upd (r 30) d.toNatClampNeg v131)) ((upd (r 31) d.toNatClampNeg r149)) ((upd (r 32) d.toNatClampNeg (((-15) : Int32))))) rfl hP
                          exact ih_177 (i + 1) (vp_updL s3 v198.toNatClampNeg v263.toInt64) (by omega) (by omega) _ _ hP hS ls (lv_sub hl [0, 1, 2, 3, 4, 5, 6] rfl)
                        · skip
                          have d223 := c223
                          rw [fa_le] at d223
                          refine lv_aload_n hx hb dX10_keep_226 rfl (lv_at hl 2 rfl) ?_
                          refine m_get (v := .ref (a 5)) hx hb hts hin hown hK hP 5 (by decide) rfl (hts (.fieldLink RX10 19 "ShadowBenchModel" "sums" "[I") (by decide +kernel)) rfl dX10_keep_227 ?_
                          refine lv_bipush (v := 44) hx hb dX10_keep_230 (by decide) ?_
                          refine lv_iload_n hx hb dX10_keep_232 rfl (lv_at hl 5 rfl) ?_
                          refine lv_imul hx hb dX10_keep_233 ?_
                          refine lv_topi (fun v233 e233 => ?_)
                          have i233 : v233.toInt = 44 * k0.toInt := by rw [e233]; exact mulcL rfl (by omega) (by omega)
                          refine lv_iload hx hb dX10_keep_234 (lv_at hl 0 rfl) ?_
                          refine lv_iadd hx hb dX10_keep_236 ?_
                          refine lv_topi (fun v236 e236 => ?_)
                          have i236 : v236.toInt = v233.toInt + (nI i).toInt := by rw [e236]; exact fb_addI (by omega) (by omega)
                          refine m_iald (w := (r 5)) hx hb hK hP 4 rfl (vp_in_iff.mpr ⟨by omega, by omega⟩) dX10_keep_237 ?_
                          refine lv_topi (fun v237 e237 => ?_)
                          have i237 : v237.toInt = ((r 5) v236.toNatClampNeg).toInt := congrArg Int32.toInt e237
                          refine lv_i2l (v := v237.toInt64) hx hb dX10_keep_238 rfl ?_
                          refine lv_goto (tgt := 265) hx hb dX10_keep_239 (by decide) ?_
                          refine m_last (w := s3) hx hb hK hP hD hS 21 rfl (vp_in_iff.mpr ⟨by omega, by omega⟩) (va_up (va_up q 33 s3) 33 (vp_updL s3 v198.toNatClampNeg v237.toInt64)) (ms_33 cy mo a _ _ _ _ _) dX10_keep_265 (fun H locs hP hS => ?_)
                          have hP := wm_eq rfl rfl rfl (es_q_33__33 q s3 (vp_updL s3 v198.toNatClampNeg v237.toInt64)) hP
                          refine lv_iinc (v := (nI (i + 1))) (lv' := [(7, .int (nI (i + 1))), (6, .int (1 : Int32)), (0, .ref mo), (1, .int d), (2, .int what), (3, .int k0), (4, .long p0)]) hx hb dX10_keep_266 hl (k := 0) rfl (nI_1 _) (by decide) rfl (fun ls hl => ?_)
                          refine lv_goto (tgt := 177) hx hb dX10_keep_269 (by decide) ?_
                          have hP := wm_eq rfl rfl (ec_r_29_30_31_32__29_30_31_32 r ((upd (r 29) d.toNatClampNeg what)) ((upd (r 30) d.toNatClampNeg v131)) ((upd (r 31) d.toNatClampNeg r149)) ((upd (r 32) d.toNatClampNeg (((-15) : Int32))))) rfl hP
                          exact ih_177 (i + 1) (vp_updL s3 v198.toNatClampNeg v237.toInt64) (by omega) (by omega) _ _ hP hS ls (lv_sub hl [0, 1, 2, 3, 4, 5, 6] rfl)
                      · first | exact absurd c201 c95 | exact absurd c95 c201
                have hP := wm_eq rfl rfl (ec_r_29_30_31_32__29_30_31_32 r ((upd (r 29) d.toNatClampNeg what)) ((upd (r 30) d.toNatClampNeg v131)) ((upd (r 31) d.toNatClampNeg r149)) ((upd (r 32) d.toNatClampNeg (((-15) : Int32))))) (ec_q___33 q ) hP
                exact loop_177 (60 + 1) 0 (q 33) (by omega) (by omega) _ _ hP hS ls (lv_sub hl [0, 1, 2, 3, 4, 5, 6] rfl)
        · skip
          have d95 := c95
          rw [fa_eq] at d95
          refine lv_aload_n hx hb dX10_keep_98 rfl (lv_at hl 1 rfl) ?_
          refine m_get (v := .ref (a 3)) hx hb hts hin hown hK hP 3 (by decide) rfl (hts (.fieldLink RX10 13 "ShadowBenchModel" "wide" "[I") (by decide +kernel)) rfl dX10_keep_99 ?_
          refine lv_iload_n hx hb dX10_keep_102 rfl (lv_at hl 4 rfl) ?_
          refine m_iald (w := (r 3)) hx hb hK hP 2 rfl (vp_in_iff.mpr ⟨by omega, by omega⟩) dX10_keep_103 ?_
          refine lv_topi (fun v103 e103 => ?_)
          have i103 : v103.toInt = ((r 3) k0.toNatClampNeg).toInt := congrArg Int32.toInt e103
          have w103 := mi_w hI (x := k0) (by omega) (by omega) e103
          refine lv_aload_n hx hb dX10_keep_104 rfl (lv_at hl 1 rfl) ?_
          refine m_get (v := .ref (a 4)) hx hb hts hin hown hK hP 4 (by decide) rfl (hts (.fieldLink RX10 16 "ShadowBenchModel" "high" "[I") (by decide +kernel)) rfl dX10_keep_105 ?_
          refine lv_iload_n hx hb dX10_keep_108 rfl (lv_at hl 4 rfl) ?_
          refine m_iald (w := (r 4)) hx hb hK hP 3 rfl (vp_in_iff.mpr ⟨by omega, by omega⟩) dX10_keep_109 ?_
          refine lv_topi (fun v109 e109 => ?_)
          have i109 : v109.toInt = ((r 4) k0.toNatClampNeg).toInt := congrArg Int32.toInt e109
          have w109 := mi_h hI (x := k0) (by omega) (by omega) e109
          have m110 := mul66 w103 w109
          refine lv_imul hx hb dX10_keep_110 ?_
          refine lv_topi (fun v110 e110 => ?_)
          have i110 : v110.toInt = v103.toInt * v109.toInt := by rw [e110]; exact fb_mulI (by omega) (by omega)
          refine lv_goto (tgt := 136) hx hb dX10_keep_111 (by decide) ?_
          refine m_iast (w := (r 30)) hx hb hK hP hD hS 18 rfl (vp_in_iff.mpr ⟨by omega, by omega⟩) (va_up (va_up r 29 ((upd (r 29) d.toNatClampNeg what))) 30 (upd (r 30) d.toNatClampNeg v110)) (ms_30 cy mo a _ _ _ _ _) dX10_keep_136 (fun H locs hP hS => ?_)
          refine lv_iload_n hx hb dX10_keep_137 rfl (lv_at hl 3 rfl) ?_
          refine lv_iconst (v := 1) hx hb dX10_keep_138 (by decide) ?_
          refine lv_icmp_ne (tgt := 174) hx hb dX10_keep_139 (by decide) (fun c139 => ?_) (fun c139 => ?_)
          · skip
            have d139 := c139
            rw [fa_eq] at d139
            refine lv_iconst (v := 0) hx hb dX10_keep_174 (by decide) ?_
            refine lv_istore (lv' := [(7, .int (0 : Int32)), (6, .int (1 : Int32)), (0, .ref mo), (1, .int d), (2, .int what), (3, .int k0), (4, .long p0)]) hx hb dX10_keep_175 hl (by decide) rfl (fun ls hl => ?_)
            have loop_177 : ∀ (n : Nat) (i : Nat) (s3 : Nat → Int64), (i ≤ 60) → 60 - i < n → ∀ (H : Heap) (locs : List Loc), va_P D vwCl (WM cy mo a (upd f 0 (0 : Int32)) g (va_up (va_up r 29 ((upd (r 29) d.toNatClampNeg what))) 30 ((upd (r 30) d.toNatClampNeg v110))) (va_up q 33 s3)) H → va_S (AM mo a) s.heap H locs → ∀ (ls : Array Slot), lv_has ls 8 [(7, .int (nI i)), (6, .int (1 : Int32)), (0, .ref mo), (1, .int d), (2, .int what), (3, .int k0), (4, .long p0)] → W p l e (headSpec wsX10_keep ({ frames := 3, cells := 0, slots := 0, locals := 69 })).room s m #[Value.ref mo, Value.int d, Value.int what, Value.int k0, Value.long p0] below meth c H locs 0 0 (MQ below (va_Qi (fun r0 u => ∃ (sh : Nat → Int32), ∃ (sz : Nat → Int32), ∃ (sw : Nat → Int32), ∃ (sf : Nat → Int32), ∃ (sr : Nat → Int64), u = ((upd f 0 (0 : Int32)), g, (va_up (va_up (va_up (va_up r 29 sh) 30 sz) 31 sw) 32 sf), (va_up q 33 sr)) ∧ (yesNo (okKeep (f 1) (fun j9 => (r 3 j9).toNatClampNeg) (fun j9 => (r 4 j9).toNatClampNeg) d what k0 p0) 0 (-1) r0 ∧ ((okKeep (f 1) (fun j9 => (r 3 j9).toNatClampNeg) (fun j9 => (r 4 j9).toNatClampNeg) d what k0 p0 ∧ sh = upd (r 29) d.toNatClampNeg what ∧ (what.toInt = 1 → sw = upd (r 31) d.toNatClampNeg (heR (r 2 k0.toNatClampNeg) (r 3 k0.toNatClampNeg).toNatClampNeg (r 4 k0.toNatClampNeg).toNatClampNeg (smN (fun s9 => r 8 (36 * k0.toNatClampNeg + s9)) 36))) ∧ (¬ what.toInt = 1 → sw = r 31)) ∨ (¬ okKeep (f 1) (fun j9 => (r 3 j9).toNatClampNeg) (fun j9 => (r 4 j9).toNatClampNeg) d what k0 p0 ∧ sh = r 29 ∧ sw = r 31)) ∧ MI (upd f 0 (0 : Int32)) (va_up (va_up (va_up (va_up r 29 sh) 30 sz) 31 sw) 32 sf))) (mB D cy mo a) (AM mo a)) #[Value.ref mo, Value.int d, Value.int what, Value.int k0, Value.long p0] s 0 0 (AM mo a)) (F0 m 177 ls []) := by
              intro n
              induction n with
              | zero => intro i s3 j177_0 hn; exact absurd hn (Nat.not_lt_zero _)
              | succ n ih_177 =>
                intro i s3 j177_0 hn_177 H locs hP hS ls hl
                have ii : (nI i).toInt = (i : Int) := nI_toInt (by omega)
                refine lv_iload hx hb dX10_keep_177 (lv_at hl 0 rfl) ?_
                refine lv_aload_n hx hb dX10_keep_179 rfl (lv_at hl 2 rfl) ?_
                refine m_get (v := .ref (a 30)) hx hb hts hin hown hK hP 30 (by decide) rfl (hts (.fieldLink RX10 64 "ShadowBenchModel" "shelfSize" "[I") (by decide +kernel)) rfl dX10_keep_180 ?_
                refine lv_iload_n hx hb dX10_keep_183 rfl (lv_at hl 3 rfl) ?_
                refine m_iald (w := ((upd (r 30) d.toNatClampNeg v110))) hx hb hK hP 18 rfl (vp_in_iff.mpr ⟨by omega, by omega⟩) dX10_keep_184 ?_
                refine lv_topi (fun v184 e184 => ?_)
                have i184 : v184.toInt = (((upd (r 30) d.toNatClampNeg v110)) d.toNatClampNeg).toInt := congrArg Int32.toInt e184
                have z184 := e184
                simp only [upd, if_true] at z184
                have y184 := congrArg Int32.toInt z184
                refine lv_icmp_ge (tgt := 272) hx hb dX10_keep_185 (by decide) (fun c185 => ?_) (fun c185 => ?_)
                · skip
                  have d185 := c185
                  rw [fa_le] at d185
                  refine lv_iconst (v := 0) hx hb dX10_keep_272 (by decide) ?_
                  have hP := wm_eq rfl rfl (ec_r_29_30__29_30_31_32 r ((upd (r 29) d.toNatClampNeg what)) ((upd (r 30) d.toNatClampNeg v110))) rfl hP
                  exact W.iret (v := (0 : Int32)) hx hb hr (fun t ht hW => ⟨⟨_, ((upd f 0 (0 : Int32)), g, (va_up (va_up (va_up (va_up r 29 (((upd (r 29) d.toNatClampNeg what)))) 30 (((upd (r 30) d.toNatClampNeg v110)))) 31 (r 31)) 32 (r 32)), (va_up q 33 s3)), rfl, ⟨((upd (r 29) d.toNatClampNeg what)), ((upd (r 30) d.toNatClampNeg v110)), (r 31), (r 32), s3, rfl, ⟨(Or.inl ⟨⟨b9, (by unfold okJob; first | exact Or.inl (by omega) | exact Or.inr (Or.inl ⟨by omega, b31⟩) | (have z9 := goodP_of b64; subst e52; subst e58; exact Or.inr (Or.inr ⟨by omega, b44, z9.2⟩)))⟩, rfl⟩), (Or.inl ⟨⟨b9, (by unfold okJob; first | exact Or.inl (by omega) | exact Or.inr (Or.inl ⟨by omega, b31⟩) | (have z9 := goodP_of b64; subst e52; subst e58; exact Or.inr (Or.inr ⟨by omega, b44, z9.2⟩)))⟩, rfl, (by first | exact ⟨fun _ => congrArg (fun z9 => upd (r 31) d.toNatClampNeg z9) q149, fun z9 => by exfalso; omega⟩ | exact ⟨fun z9 => by exfalso; omega, fun _ => rfl⟩)⟩), by first | exact hI | exact mi_sz (d := d) hI (v := v110) (by omega) rfl rfl rfl rfl rfl rfl rfl rfl | exact mi_sz (d := d) hI (v := v131) (by omega) rfl rfl rfl rfl rfl rfl rfl rfl | exact mi_sz (d := d) hI (v := 0) (by decide) rfl rfl rfl rfl rfl rfl rfl rfl⟩⟩, by unfold mB; rw [ht]; exact hP⟩, hS.F ht⟩) hS.2.2 dX10_keep_273
                · skip
                  have d185 := c185
                  rw [fa_le] at d185
                  refine lv_aload_n hx hb dX10_keep_188 rfl (lv_at hl 2 rfl) ?_
                  refine m_get (v := .ref (a 33)) hx hb hts hin hown hK hP 33 (by decide) rfl (hts (.fieldLink RX10 73 "ShadowBenchModel" "shelfRow" "[J") (by decide +kernel)) rfl dX10_keep_189 ?_
                  refine lv_bipush (v := 60) hx hb dX10_keep_192 (by decide) ?_
                  refine lv_iload_n hx hb dX10_keep_194 rfl (lv_at hl 3 rfl) ?_
                  refine lv_imul hx hb dX10_keep_195 ?_
                  refine lv_topi (fun v195 e195 => ?_)
                  have i195 : v195.toInt = 60 * d.toInt := by rw [e195]; exact mulcL rfl (by omega) (by omega)
                  refine lv_iload hx hb dX10_keep_196 (lv_at hl 0 rfl) ?_
                  refine lv_iadd hx hb dX10_keep_198 ?_
                  refine lv_topi (fun v198 e198 => ?_)
                  have i198 : v198.toInt = v195.toInt + (nI i).toInt := by rw [e198]; exact fb_addI (by omega) (by omega)
                  refine lv_iload_n hx hb dX10_keep_199 rfl (lv_at hl 4 rfl) ?_
                  refine lv_iconst (v := 3) hx hb dX10_keep_200 (by decide) ?_
                  refine lv_icmp_ne (tgt := 215) hx hb dX10_keep_201 (by decide) (fun c201 => ?_) (fun c201 => ?_)
                  · first | exact absurd c201 c95 | exact absurd c95 c201
                  · skip
                    have d201 := c201
                    rw [fa_eq] at d201
                    refine lv_lload hx hb dX10_keep_204 (lv_at hl 6 rfl) ?_
                    refine lv_iload hx hb dX10_keep_206 (lv_at hl 0 rfl) ?_
                    refine m_pu (As := [.long p0, .int (nI i)]) (rest := [.int v198, .ref (a 33)]) ⟨hx, hb, hml, hown, hts⟩ (c_X10_one l p0 (nI i) ) (va_cwS 2 hts gX10_keep_X10_one rfl rfl rfl (by decide +kernel) ⟨Nat.le_of_ble_eq_true rfl, Nat.le_of_ble_eq_true rfl⟩) hP rfl hl.1 rfl (Nat.le_of_ble_eq_true rfl) dX10_keep_208 ⟨Nat.le_of_ble_eq_true rfl, Nat.le_of_ble_eq_true rfl⟩ hS (fun r208 H locs q208 hP hS => ?_)
                    have i208 : r208.toInt = (r_one p0 (nI i)).toInt := congrArg Int32.toInt q208
                    refine lv_i2l (v := r208.toInt64) hx hb dX10_keep_211 rfl ?_
                    refine lv_goto (tgt := 265) hx hb dX10_keep_212 (by decide) ?_
                    refine m_last (w := s3) hx hb hK hP hD hS 21 rfl (vp_in_iff.mpr ⟨by omega, by omega⟩) (va_up (va_up q 33 s3) 33 (vp_updL s3 v198.toNatClampNeg r208.toInt64)) (ms_33 cy mo a _ _ _ _ _) dX10_keep_265 (fun H locs hP hS => ?_)
                    have hP := wm_eq rfl rfl rfl (es_q_33__33 q s3 (vp_updL s3 v198.toNatClampNeg r208.toInt64)) hP
                    refine lv_iinc (v := (nI (i + 1))) (lv' := [(7, .int (nI (i + 1))), (6, .int (1 : Int32)), (0, .ref mo), (1, .int d), (2, .int what), (3, .int k0), (4, .long p0)]) hx hb dX10_keep_266 hl (k := 0) rfl (nI_1 _) (by decide) rfl (fun ls hl => ?_)
                    refine lv_goto (tgt := 177) hx hb dX10_keep_269 (by decide) ?_
                    have hP := wm_eq rfl rfl (ec_r_29_30__29_30 r ((upd (r 29) d.toNatClampNeg what)) ((upd (r 30) d.toNatClampNeg v110))) rfl hP
                    exact ih_177 (i + 1) (vp_updL s3 v198.toNatClampNeg r208.toInt64) (by omega) (by omega) _ _ hP hS ls (lv_sub hl [0, 1, 2, 3, 4, 5, 6] rfl)
            have hP := wm_eq rfl rfl (ec_r_29_30__29_30 r ((upd (r 29) d.toNatClampNeg what)) ((upd (r 30) d.toNatClampNeg v110))) (ec_q___33 q ) hP
            exact loop_177 (60 + 1) 0 (q 33) (by omega) (by omega) _ _ hP hS ls (lv_sub hl [0, 1, 2, 3, 4, 5, 6] rfl)
          · skip
            have d139 := c139
            rw [fa_eq] at d139
            refine lv_aload_n hx hb dX10_keep_142 rfl (lv_at hl 1 rfl) ?_
            refine m_get (v := .ref (a 31)) hx hb hts hin hown hK hP 31 (by decide) rfl (hts (.fieldLink RX10 67 "ShadowBenchModel" "shelfWeight" "[I") (by decide +kernel)) rfl dX10_keep_143 ?_
            refine lv_iload_n hx hb dX10_keep_146 rfl (lv_at hl 2 rfl) ?_
            refine lv_aload_n hx hb dX10_keep_147 rfl (lv_at hl 1 rfl) ?_
            refine lv_iload_n hx hb dX10_keep_148 rfl (lv_at hl 4 rfl) ?_
            refine m_calli (As := [.int k0]) (rest := [.int d, .ref (a 31)]) ⟨hx, hb, hml, hown, hts⟩ (c_X10_weightOf_x l D cy mo a (upd f 0 (0 : Int32)) g (va_up (va_up r 29 ((upd (r 29) d.toNatClampNeg what))) 30 ((upd (r 30) d.toNatClampNeg v110))) q k0 hD (by first | exact hI | exact mi_sz (d := d) hI (v := 0) (by first | omega | decide) rfl rfl rfl rfl rfl rfl rfl rfl | exact mi_sz (d := d) hI (v := v131) (by first | omega | decide) rfl rfl rfl rfl rfl rfl rfl rfl | exact mi_sz (d := d) hI (v := v110) (by first | omega | decide) rfl rfl rfl rfl rfl rfl rfl rfl) (show 0 ≤ k0.toInt ∧ k0.toInt < (f 1).toInt by omega)) (cwV 1 hts gX10_keep_X10_weightOf rfl rfl rfl (by decide +kernel) ⟨Nat.le_of_ble_eq_true rfl, Nat.le_of_ble_eq_true rfl⟩) hK hP rfl hl.1 rfl (Nat.le_of_ble_eq_true rfl) dX10_keep_149 ⟨Nat.le_of_ble_eq_true rfl, Nat.le_of_ble_eq_true rfl⟩ hS (fun r149 u H locs q149 hP hS => ?_)
            obtain ⟨rfl, q149⟩ := q149
            have hP : va_P D vwCl (WM cy mo a (upd f 0 (0 : Int32)) g (va_up (va_up r 29 ((upd (r 29) d.toNatClampNeg what))) 30 ((upd (r 30) d.toNatClampNeg v110))) q) H := hP
            have q149 : r149 = (heR ((r 2) k0.toNatClampNeg) ((r 3) k0.toNatClampNeg).toNatClampNeg ((r 4) k0.toNatClampNeg).toNatClampNeg (smN (fun s9 => (va_up (va_up r 29 ((upd (r 29) d.toNatClampNeg what))) 30 ((upd (r 30) d.toNatClampNeg v110))) 8 (36 * k0.toNatClampNeg + s9)) 36)) := q149
            refine m_iast (w := (r 31)) hx hb hK hP hD hS 19 rfl (vp_in_iff.mpr ⟨by omega, by omega⟩) (va_up (va_up (va_up r 29 ((upd (r 29) d.toNatClampNeg what))) 30 ((upd (r 30) d.toNatClampNeg v110))) 31 (upd (r 31) d.toNatClampNeg r149)) (ms_31 cy mo a _ _ _ _ _) dX10_keep_152 (fun H locs hP hS => ?_)
            refine lv_aload_n hx hb dX10_keep_153 rfl (lv_at hl 1 rfl) ?_
            refine m_get (v := .ref (a 32)) hx hb hts hin hown hK hP 32 (by decide) rfl (hts (.fieldLink RX10 70 "ShadowBenchModel" "shelfFailure" "[I") (by decide +kernel)) rfl dX10_keep_154 ?_
            refine lv_iload_n hx hb dX10_keep_157 rfl (lv_at hl 2 rfl) ?_
            refine lv_aload_n hx hb dX10_keep_158 rfl (lv_at hl 1 rfl) ?_
            refine m_get (v := .ref (a 2)) hx hb hts hin hown hK hP 2 (by decide) rfl (hts (.fieldLink RX10 7 "ShadowBenchModel" "kind" "[I") (by decide +kernel)) rfl dX10_keep_159 ?_
            refine lv_iload_n hx hb dX10_keep_162 rfl (lv_at hl 4 rfl) ?_
            refine m_iald (w := (r 2)) hx hb hK hP 1 rfl (vp_in_iff.mpr ⟨by omega, by omega⟩) dX10_keep_163 ?_
            refine lv_topi (fun v163 e163 => ?_)
            have i163 : v163.toInt = ((r 2) k0.toNatClampNeg).toInt := congrArg Int32.toInt e163
            refine lv_if_ne (tgt := 172) hx hb dX10_keep_164 (by decide) (fun c164 => ?_) (fun c164 => ?_)
            · skip
              have d164 := c164
              rw [fa_eq] at d164
              refine lv_iload_n hx hb dX10_keep_172 rfl (lv_at hl 4 rfl) ?_
              refine m_iast (w := (r 32)) hx hb hK hP hD hS 20 rfl (vp_in_iff.mpr ⟨by omega, by omega⟩) (va_up (va_up (va_up (va_up r 29 ((upd (r 29) d.toNatClampNeg what))) 30 ((upd (r 30) d.toNatClampNeg v110))) 31 ((upd (r 31) d.toNatClampNeg r149))) 32 (upd (r 32) d.toNatClampNeg k0)) (ms_32 cy mo a _ _ _ _ _) dX10_keep_173 (fun H locs hP hS => ?_)
              refine lv_iconst (v := 0) hx hb dX10_keep_174 (by decide) ?_
              refine lv_istore (lv' := [(7, .int (0 : Int32)), (6, .int (1 : Int32)), (0, .ref mo), (1, .int d), (2, .int what), (3, .int k0), (4, .long p0)]) hx hb dX10_keep_175 hl (by decide) rfl (fun ls hl => ?_)
              have loop_177 : ∀ (n : Nat) (i : Nat) (s3 : Nat → Int64), (i ≤ 60) → 60 - i < n → ∀ (H : Heap) (locs : List Loc), va_P D vwCl (WM cy mo a (upd f 0 (0 : Int32)) g (va_up (va_up (va_up (va_up r 29 ((upd (r 29) d.toNatClampNeg what))) 30 ((upd (r 30) d.toNatClampNeg v110))) 31 ((upd (r 31) d.toNatClampNeg r149))) 32 ((upd (r 32) d.toNatClampNeg k0))) (va_up q 33 s3)) H → va_S (AM mo a) s.heap H locs → ∀ (ls : Array Slot), lv_has ls 8 [(7, .int (nI i)), (6, .int (1 : Int32)), (0, .ref mo), (1, .int d), (2, .int what), (3, .int k0), (4, .long p0)] → W p l e (headSpec wsX10_keep ({ frames := 3, cells := 0, slots := 0, locals := 69 })).room s m #[Value.ref mo, Value.int d, Value.int what, Value.int k0, Value.long p0] below meth c H locs 0 0 (MQ below (va_Qi (fun r0 u => ∃ (sh : Nat → Int32), ∃ (sz : Nat → Int32), ∃ (sw : Nat → Int32), ∃ (sf : Nat → Int32), ∃ (sr : Nat → Int64), u = ((upd f 0 (0 : Int32)), g, (va_up (va_up (va_up (va_up r 29 sh) 30 sz) 31 sw) 32 sf), (va_up q 33 sr)) ∧ (yesNo (okKeep (f 1) (fun j9 => (r 3 j9).toNatClampNeg) (fun j9 => (r 4 j9).toNatClampNeg) d what k0 p0) 0 (-1) r0 ∧ ((okKeep (f 1) (fun j9 => (r 3 j9).toNatClampNeg) (fun j9 => (r 4 j9).toNatClampNeg) d what k0 p0 ∧ sh = upd (r 29) d.toNatClampNeg what ∧ (what.toInt = 1 → sw = upd (r 31) d.toNatClampNeg (heR (r 2 k0.toNatClampNeg) (r 3 k0.toNatClampNeg).toNatClampNeg (r 4 k0.toNatClampNeg).toNatClampNeg (smN (fun s9 => r 8 (36 * k0.toNatClampNeg + s9)) 36))) ∧ (¬ what.toInt = 1 → sw = r 31)) ∨ (¬ okKeep (f 1) (fun j9 => (r 3 j9).toNatClampNeg) (fun j9 => (r 4 j9).toNatClampNeg) d what k0 p0 ∧ sh = r 29 ∧ sw = r 31)) ∧ MI (upd f 0 (0 : Int32)) (va_up (va_up (va_up (va_up r 29 sh) 30 sz) 31 sw) 32 sf))) (mB D cy mo a) (AM mo a)) #[Value.ref mo, Value.int d, Value.int what, Value.int k0, Value.long p0] s 0 0 (AM mo a)) (F0 m 177 ls []) := by
                intro n
                induction n with
                | zero => intro i s3 j177_0 hn; exact absurd hn (Nat.not_lt_zero _)
                | succ n ih_177 =>
                  intro i s3 j177_0 hn_177 H locs hP hS ls hl
                  have ii : (nI i).toInt = (i : Int) := nI_toInt (by omega)
                  refine lv_iload hx hb dX10_keep_177 (lv_at hl 0 rfl) ?_
                  refine lv_aload_n hx hb dX10_keep_179 rfl (lv_at hl 2 rfl) ?_
                  refine m_get (v := .ref (a 30)) hx hb hts hin hown hK hP 30 (by decide) rfl (hts (.fieldLink RX10 64 "ShadowBenchModel" "shelfSize" "[I") (by decide +kernel)) rfl dX10_keep_180 ?_
                  refine lv_iload_n hx hb dX10_keep_183 rfl (lv_at hl 3 rfl) ?_
                  refine m_iald (w := ((upd (r 30) d.toNatClampNeg v110))) hx hb hK hP 18 rfl (vp_in_iff.mpr ⟨by omega, by omega⟩) dX10_keep_184 ?_
                  refine lv_topi (fun v184 e184 => ?_)
                  have i184 : v184.toInt = (((upd (r 30) d.toNatClampNeg v110)) d.toNatClampNeg).toInt := congrArg Int32.toInt e184
                  have z184 := e184
                  simp only [upd, if_true] at z184
                  have y184 := congrArg Int32.toInt z184
                  refine lv_icmp_ge (tgt := 272) hx hb dX10_keep_185 (by decide) (fun c185 => ?_) (fun c185 => ?_)
                  · skip
                    have d185 := c185
                    rw [fa_le] at d185
                    refine lv_iconst (v := 0) hx hb dX10_keep_272 (by decide) ?_
                    have hP := wm_eq rfl rfl (ec_r_29_30_31_32__29_30_31_32 r ((upd (r 29) d.toNatClampNeg what)) ((upd (r 30) d.toNatClampNeg v110)) ((upd (r 31) d.toNatClampNeg r149)) ((upd (r 32) d.toNatClampNeg k0))) rfl hP
                    exact W.iret (v := (0 : Int32)) hx hb hr (fun t ht hW => ⟨⟨_, ((upd f 0 (0 : Int32)), g, (va_up (va_up (va_up (va_up r 29 (((upd (r 29) d.toNatClampNeg what)))) 30 (((upd (r 30) d.toNatClampNeg v110)))) 31 (((upd (r 31) d.toNatClampNeg r149)))) 32 (((upd (r 32) d.toNatClampNeg k0)))), (va_up q 33 s3)), rfl, ⟨((upd (r 29) d.toNatClampNeg what)), ((upd (r 30) d.toNatClampNeg v110)), ((upd (r 31) d.toNatClampNeg r149)), ((upd (r 32) d.toNatClampNeg k0)), s3, rfl, ⟨(Or.inl ⟨⟨b9, (by unfold okJob; first | exact Or.inl (by omega) | exact Or.inr (Or.inl ⟨by omega, b31⟩) | (have z9 := goodP_of b64; subst e52; subst e58; exact Or.inr (Or.inr ⟨by omega, b44, z9.2⟩)))⟩, rfl⟩), (Or.inl ⟨⟨b9, (by unfold okJob; first | exact Or.inl (by omega) | exact Or.inr (Or.inl ⟨by omega, b31⟩) | (have z9 := goodP_of b64; subst e52; subst e58; exact Or.inr (Or.inr ⟨by omega, b44, z9.2⟩)))⟩, rfl, (by first | exact ⟨fun _ => congrArg (fun z9 => upd (r 31) d.toNatClampNeg z9) q149, fun z9 => by exfalso; omega⟩ | exact ⟨fun z9 => by exfalso; omega, fun _ => rfl⟩)⟩), by first | exact hI | exact mi_sz (d := d) hI (v := v110) (by omega) rfl rfl rfl rfl rfl rfl rfl rfl | exact mi_sz (d := d) hI (v := v131) (by omega) rfl rfl rfl rfl rfl rfl rfl rfl | exact mi_sz (d := d) hI (v := 0) (by decide) rfl rfl rfl rfl rfl rfl rfl rfl⟩⟩, by unfold mB; rw [ht]; exact hP⟩, hS.F ht⟩) hS.2.2 dX10_keep_273
                  · skip
                    have d185 := c185
                    rw [fa_le] at d185
                    refine lv_aload_n hx hb dX10_keep_188 rfl (lv_at hl 2 rfl) ?_
                    refine m_get (v := .ref (a 33)) hx hb hts hin hown hK hP 33 (by decide) rfl (hts (.fieldLink RX10 73 "ShadowBenchModel" "shelfRow" "[J") (by decide +kernel)) rfl dX10_keep_189 ?_
                    refine lv_bipush (v := 60) hx hb dX10_keep_192 (by decide) ?_
                    refine lv_iload_n hx hb dX10_keep_194 rfl (lv_at hl 3 rfl) ?_
                    refine lv_imul hx hb dX10_keep_195 ?_
                    refine lv_topi (fun v195 e195 => ?_)
                    have i195 : v195.toInt = 60 * d.toInt := by rw [e195]; exact mulcL rfl (by omega) (by omega)
                    refine lv_iload hx hb dX10_keep_196 (lv_at hl 0 rfl) ?_
                    refine lv_iadd hx hb dX10_keep_198 ?_
                    refine lv_topi (fun v198 e198 => ?_)
                    have i198 : v198.toInt = v195.toInt + (nI i).toInt := by rw [e198]; exact fb_addI (by omega) (by omega)
                    refine lv_iload_n hx hb dX10_keep_199 rfl (lv_at hl 4 rfl) ?_
                    refine lv_iconst (v := 3) hx hb dX10_keep_200 (by decide) ?_
                    refine lv_icmp_ne (tgt := 215) hx hb dX10_keep_201 (by decide) (fun c201 => ?_) (fun c201 => ?_)
                    · first | exact absurd c201 c95 | exact absurd c95 c201
                    · skip
                      have d201 := c201
                      rw [fa_eq] at d201
                      refine lv_lload hx hb dX10_keep_204 (lv_at hl 6 rfl) ?_
                      refine lv_iload hx hb dX10_keep_206 (lv_at hl 0 rfl) ?_
                      refine m_pu (As := [.long p0, .int (nI i)]) (rest := [.int v198, .ref (a 33)]) ⟨hx, hb, hml, hown, hts⟩ (c_X10_one l p0 (nI i) ) (va_cwS 2 hts gX10_keep_X10_one rfl rfl rfl (by decide +kernel) ⟨Nat.le_of_ble_eq_true rfl, Nat.le_of_ble_eq_true rfl⟩) hP rfl hl.1 rfl (Nat.le_of_ble_eq_true rfl) dX10_keep_208 ⟨Nat.le_of_ble_eq_true rfl, Nat.le_of_ble_eq_true rfl⟩ hS (fun r208 H locs q208 hP hS => ?_)
                      have i208 : r208.toInt = (r_one p0 (nI i)).toInt := congrArg Int32.toInt q208
                      refine lv_i2l (v := r208.toInt64) hx hb dX10_keep_211 rfl ?_
                      refine lv_goto (tgt := 265) hx hb dX10_keep_212 (by decide) ?_
                      refine m_last (w := s3) hx hb hK hP hD hS 21 rfl (vp_in_iff.mpr ⟨by omega, by omega⟩) (va_up (va_up q 33 s3) 33 (vp_updL s3 v198.toNatClampNeg r208.toInt64)) (ms_33 cy mo a _ _ _ _ _) dX10_keep_265 (fun H locs hP hS => ?_)
                      have hP := wm_eq rfl rfl rfl (es_q_33__33 q s3 (vp_updL s3 v198.toNatClampNeg r208.toInt64)) hP
                      refine lv_iinc (v := (nI (i + 1))) (lv' := [(7, .int (nI (i + 1))), (6, .int (1 : Int32)), (0, .ref mo), (1, .int d), (2, .int what), (3, .int k0), (4, .long p0)]) hx hb dX10_keep_266 hl (k := 0) rfl (nI_1 _) (by decide) rfl (fun ls hl => ?_)
                      refine lv_goto (tgt := 177) hx hb dX10_keep_269 (by decide) ?_
                      have hP := wm_eq rfl rfl (ec_r_29_30_31_32__29_30_31_32 r ((upd (r 29) d.toNatClampNeg what)) ((upd (r 30) d.toNatClampNeg v110)) ((upd (r 31) d.toNatClampNeg r149)) ((upd (r 32) d.toNatClampNeg k0))) rfl hP
                      exact ih_177 (i + 1) (vp_updL s3 v198.toNatClampNeg r208.toInt64) (by omega) (by omega) _ _ hP hS ls (lv_sub hl [0, 1, 2, 3, 4, 5, 6] rfl)
              have hP := wm_eq rfl rfl (ec_r_29_30_31_32__29_30_31_32 r ((upd (r 29) d.toNatClampNeg what)) ((upd (r 30) d.toNatClampNeg v110)) ((upd (r 31) d.toNatClampNeg r149)) ((upd (r 32) d.toNatClampNeg k0))) (ec_q___33 q ) hP
              exact loop_177 (60 + 1) 0 (q 33) (by omega) (by omega) _ _ hP hS ls (lv_sub hl [0, 1, 2, 3, 4, 5, 6] rfl)
            · skip
              have d164 := c164
              rw [fa_eq] at d164
              refine lv_bipush (v := (-15)) hx hb dX10_keep_167 (by decide) ?_
              refine lv_goto (tgt := 173) hx hb dX10_keep_169 (by decide) ?_
              refine m_iast (w := (r 32)) hx hb hK hP hD hS 20 rfl (vp_in_iff.mpr ⟨by omega, by omega⟩) (va_up (va_up (va_up (va_up r 29 ((upd (r 29) d.toNatClampNeg what))) 30 ((upd (r 30) d.toNatClampNeg v110))) 31 ((upd (r 31) d.toNatClampNeg r149))) 32 (upd (r 32) d.toNatClampNeg (((-15) : Int32)))) (ms_32 cy mo a _ _ _ _ _) dX10_keep_173 (fun H locs hP hS => ?_)
              refine lv_iconst (v := 0) hx hb dX10_keep_174 (by decide) ?_
              refine lv_istore (lv' := [(7, .int (0 : Int32)), (6, .int (1 : Int32)), (0, .ref mo), (1, .int d), (2, .int what), (3, .int k0), (4, .long p0)]) hx hb dX10_keep_175 hl (by decide) rfl (fun ls hl => ?_)
              have loop_177 : ∀ (n : Nat) (i : Nat) (s3 : Nat → Int64), (i ≤ 60) → 60 - i < n → ∀ (H : Heap) (locs : List Loc), va_P D vwCl (WM cy mo a (upd f 0 (0 : Int32)) g (va_up (va_up (va_up (va_up r 29 ((upd (r 29) d.toNatClampNeg what))) 30 ((upd (r 30) d.toNatClampNeg v110))) 31 ((upd (r 31) d.toNatClampNeg r149))) 32 ((upd (r 32) d.toNatClampNeg (((-15) : Int32))))) (va_up q 33 s3)) H → va_S (AM mo a) s.heap H locs → ∀ (ls : Array Slot), lv_has ls 8 [(7, .int (nI i)), (6, .int (1 : Int32)), (0, .ref mo), (1, .int d), (2, .int what), (3, .int k0), (4, .long p0)] → W p l e (headSpec wsX10_keep ({ frames := 3, cells := 0, slots := 0, locals := 69 })).room s m #[Value.ref mo, Value.int d, Value.int what, Value.int k0, Value.long p0] below meth c H locs 0 0 (MQ below (va_Qi (fun r0 u => ∃ (sh : Nat → Int32), ∃ (sz : Nat → Int32), ∃ (sw : Nat → Int32), ∃ (sf : Nat → Int32), ∃ (sr : Nat → Int64), u = ((upd f 0 (0 : Int32)), g, (va_up (va_up (va_up (va_up r 29 sh) 30 sz) 31 sw) 32 sf), (va_up q 33 sr)) ∧ (yesNo (okKeep (f 1) (fun j9 => (r 3 j9).toNatClampNeg) (fun j9 => (r 4 j9).toNatClampNeg) d what k0 p0) 0 (-1) r0 ∧ ((okKeep (f 1) (fun j9 => (r 3 j9).toNatClampNeg) (fun j9 => (r 4 j9).toNatClampNeg) d what k0 p0 ∧ sh = upd (r 29) d.toNatClampNeg what ∧ (what.toInt = 1 → sw = upd (r 31) d.toNatClampNeg (heR (r 2 k0.toNatClampNeg) (r 3 k0.toNatClampNeg).toNatClampNeg (r 4 k0.toNatClampNeg).toNatClampNeg (smN (fun s9 => r 8 (36 * k0.toNatClampNeg + s9)) 36))) ∧ (¬ what.toInt = 1 → sw = r 31)) ∨ (¬ okKeep (f 1) (fun j9 => (r 3 j9).toNatClampNeg) (fun j9 => (r 4 j9).toNatClampNeg) d what k0 p0 ∧ sh = r 29 ∧ sw = r 31)) ∧ MI (upd f 0 (0 : Int32)) (va_up (va_up (va_up (va_up r 29 sh) 30 sz) 31 sw) 32 sf))) (mB D cy mo a) (AM mo a)) #[Value.ref mo, Value.int d, Value.int what, Value.int k0, Value.long p0] s 0 0 (AM mo a)) (F0 m 177 ls []) := by
                intro n
                induction n with
                | zero => intro i s3 j177_0 hn; exact absurd hn (Nat.not_lt_zero _)
                | succ n ih_177 =>
                  intro i s3 j177_0 hn_177 H locs hP hS ls hl
                  have ii : (nI i).toInt = (i : Int) := nI_toInt (by omega)
                  refine lv_iload hx hb dX10_keep_177 (lv_at hl 0 rfl) ?_
                  refine lv_aload_n hx hb dX10_keep_179 rfl (lv_at hl 2 rfl) ?_
                  refine m_get (v := .ref (a 30)) hx hb hts hin hown hK hP 30 (by decide) rfl (hts (.fieldLink RX10 64 "ShadowBenchModel" "shelfSize" "[I") (by decide +kernel)) rfl dX10_keep_180 ?_
                  refine lv_iload_n hx hb dX10_keep_183 rfl (lv_at hl 3 rfl) ?_
                  refine m_iald (w := ((upd (r 30) d.toNatClampNeg v110))) hx hb hK hP 18 rfl (vp_in_iff.mpr ⟨by omega, by omega⟩) dX10_keep_184 ?_
                  refine lv_topi (fun v184 e184 => ?_)
                  have i184 : v184.toInt = (((upd (r 30) d.toNatClampNeg v110)) d.toNatClampNeg).toInt := congrArg Int32.toInt e184
                  have z184 := e184
                  simp only [upd, if_true] at z184
                  have y184 := congrArg Int32.toInt z184
                  refine lv_icmp_ge (tgt := 272) hx hb dX10_keep_185 (by decide) (fun c185 => ?_) (fun c185 => ?_)
                  · skip
                    have d185 := c185
                    rw [fa_le] at d185
                    refine lv_iconst (v := 0) hx hb dX10_keep_272 (by decide) ?_
                    have hP := wm_eq rfl rfl (ec_r_29_30_31_32__29_30_31_32 r ((upd (r 29) d.toNatClampNeg what)) ((upd (r 30) d.toNatClampNeg v110)) ((upd (r 31) d.toNatClampNeg r149)) ((upd (r 32) d.toNatClampNeg (((-15) : Int32))))) rfl hP
                    exact W.iret (v := (0 : Int32)) hx hb hr (fun t ht hW => ⟨⟨_, ((upd f 0 (0 : Int32)), g, (va_up (va_up (va_up (va_up r 29 (((upd (r 29) d.toNatClampNeg what)))) 30 (((upd (r 30) d.toNatClampNeg v110)))) 31 (((upd (r 31) d.toNatClampNeg r149)))) 32 (((upd (r 32) d.toNatClampNeg (((-15) : Int32)))))), (va_up q 33 s3)), rfl, ⟨((upd (r 29) d.toNatClampNeg what)), ((upd (r 30) d.toNatClampNeg v110)), ((upd (r 31) d.toNatClampNeg r149)), ((upd (r 32) d.toNatClampNeg (((-15) : Int32)))), s3, rfl, ⟨(Or.inl ⟨⟨b9, (by unfold okJob; first | exact Or.inl (by omega) | exact Or.inr (Or.inl ⟨by omega, b31⟩) | (have z9 := goodP_of b64; subst e52; subst e58; exact Or.inr (Or.inr ⟨by omega, b44, z9.2⟩)))⟩, rfl⟩), (Or.inl ⟨⟨b9, (by unfold okJob; first | exact Or.inl (by omega) | exact Or.inr (Or.inl ⟨by omega, b31⟩) | (have z9 := goodP_of b64; subst e52; subst e58; exact Or.inr (Or.inr ⟨by omega, b44, z9.2⟩)))⟩, rfl, (by first | exact ⟨fun _ => congrArg (fun z9 => upd (r 31) d.toNatClampNeg z9) q149, fun z9 => by exfalso; omega⟩ | exact ⟨fun z9 => by exfalso; omega, fun _ => rfl⟩)⟩), by first | exact hI | exact mi_sz (d := d) hI (v := v110) (by omega) rfl rfl rfl rfl rfl rfl rfl rfl | exact mi_sz (d := d) hI (v := v131) (by omega) rfl rfl rfl rfl rfl rfl rfl rfl | exact mi_sz (d := d) hI (v := 0) (by decide) rfl rfl rfl rfl rfl rfl rfl rfl⟩⟩, by unfold mB; rw [ht]; exact hP⟩, hS.F ht⟩) hS.2.2 dX10_keep_273
                  · skip
                    have d185 := c185
                    rw [fa_le] at d185
                    refine lv_aload_n hx hb dX10_keep_188 rfl (lv_at hl 2 rfl) ?_
                    refine m_get (v := .ref (a 33)) hx hb hts hin hown hK hP 33 (by decide) rfl (hts (.fieldLink RX10 73 "ShadowBenchModel" "shelfRow" "[J") (by decide +kernel)) rfl dX10_keep_189 ?_
                    refine lv_bipush (v := 60) hx hb dX10_keep_192 (by decide) ?_
                    refine lv_iload_n hx hb dX10_keep_194 rfl (lv_at hl 3 rfl) ?_
                    refine lv_imul hx hb dX10_keep_195 ?_
                    refine lv_topi (fun v195 e195 => ?_)
                    have i195 : v195.toInt = 60 * d.toInt := by rw [e195]; exact mulcL rfl (by omega) (by omega)
                    refine lv_iload hx hb dX10_keep_196 (lv_at hl 0 rfl) ?_
                    refine lv_iadd hx hb dX10_keep_198 ?_
                    refine lv_topi (fun v198 e198 => ?_)
                    have i198 : v198.toInt = v195.toInt + (nI i).toInt := by rw [e198]; exact fb_addI (by omega) (by omega)
                    refine lv_iload_n hx hb dX10_keep_199 rfl (lv_at hl 4 rfl) ?_
                    refine lv_iconst (v := 3) hx hb dX10_keep_200 (by decide) ?_
                    refine lv_icmp_ne (tgt := 215) hx hb dX10_keep_201 (by decide) (fun c201 => ?_) (fun c201 => ?_)
                    · first | exact absurd c201 c95 | exact absurd c95 c201
                    · skip
                      have d201 := c201
                      rw [fa_eq] at d201
                      refine lv_lload hx hb dX10_keep_204 (lv_at hl 6 rfl) ?_
                      refine lv_iload hx hb dX10_keep_206 (lv_at hl 0 rfl) ?_
                      refine m_pu (As := [.long p0, .int (nI i)]) (rest := [.int v198, .ref (a 33)]) ⟨hx, hb, hml, hown, hts⟩ (c_X10_one l p0 (nI i) ) (va_cwS 2 hts gX10_keep_X10_one rfl rfl rfl (by decide +kernel) ⟨Nat.le_of_ble_eq_true rfl, Nat.le_of_ble_eq_true rfl⟩) hP rfl hl.1 rfl (Nat.le_of_ble_eq_true rfl) dX10_keep_208 ⟨Nat.le_of_ble_eq_true rfl, Nat.le_of_ble_eq_true rfl⟩ hS (fun r208 H locs q208 hP hS => ?_)
                      have i208 : r208.toInt = (r_one p0 (nI i)).toInt := congrArg Int32.toInt q208
                      refine lv_i2l (v := r208.toInt64) hx hb dX10_keep_211 rfl ?_
                      refine lv_goto (tgt := 265) hx hb dX10_keep_212 (by decide) ?_
                      refine m_last (w := s3) hx hb hK hP hD hS 21 rfl (vp_in_iff.mpr ⟨by omega, by omega⟩) (va_up (va_up q 33 s3) 33 (vp_updL s3 v198.toNatClampNeg r208.toInt64)) (ms_33 cy mo a _ _ _ _ _) dX10_keep_265 (fun H locs hP hS => ?_)
                      have hP := wm_eq rfl rfl rfl (es_q_33__33 q s3 (vp_updL s3 v198.toNatClampNeg r208.toInt64)) hP
                      refine lv_iinc (v := (nI (i + 1))) (lv' := [(7, .int (nI (i + 1))), (6, .int (1 : Int32)), (0, .ref mo), (1, .int d), (2, .int what), (3, .int k0), (4, .long p0)]) hx hb dX10_keep_266 hl (k := 0) rfl (nI_1 _) (by decide) rfl (fun ls hl => ?_)
                      refine lv_goto (tgt := 177) hx hb dX10_keep_269 (by decide) ?_
                      have hP := wm_eq rfl rfl (ec_r_29_30_31_32__29_30_31_32 r ((upd (r 29) d.toNatClampNeg what)) ((upd (r 30) d.toNatClampNeg v110)) ((upd (r 31) d.toNatClampNeg r149)) ((upd (r 32) d.toNatClampNeg (((-15) : Int32))))) rfl hP
                      exact ih_177 (i + 1) (vp_updL s3 v198.toNatClampNeg r208.toInt64) (by omega) (by omega) _ _ hP hS ls (lv_sub hl [0, 1, 2, 3, 4, 5, 6] rfl)
              have hP := wm_eq rfl rfl (ec_r_29_30_31_32__29_30_31_32 r ((upd (r 29) d.toNatClampNeg what)) ((upd (r 30) d.toNatClampNeg v110)) ((upd (r 31) d.toNatClampNeg r149)) ((upd (r 32) d.toNatClampNeg (((-15) : Int32))))) (ec_q___33 q ) hP
              exact loop_177 (60 + 1) 0 (q 33) (by omega) (by omega) _ _ hP hS ls (lv_sub hl [0, 1, 2, 3, 4, 5, 6] rfl)
      · first | exact absurd c76 (by decide) | exact absurd (by decide) c76
    · skip
      have d13 := c13
      rw [fa_eq] at d13
      refine lv_iload_n hx hb dX10_keep_16 rfl (lv_at hl 2 rfl) ?_
      refine lv_iconst (v := 1) hx hb dX10_keep_17 (by decide) ?_
      refine lv_icmp_eq (tgt := 26) hx hb dX10_keep_18 (by decide) (fun c18 => ?_) (fun c18 => ?_)
      · skip
        have d18 := c18
        rw [fa_eq] at d18
        refine lv_aload_n hx hb dX10_keep_26 rfl (lv_at hl 0 rfl) ?_
        refine lv_iload_n hx hb dX10_keep_27 rfl (lv_at hl 3 rfl) ?_
        refine m_calli (As := [.int k0]) (rest := []) ⟨hx, hb, hml, hown, hts⟩ (c_X10_isJob l D cy mo a (upd f 0 (0 : Int32)) g r q k0 hD) (cwV 1 hts gX10_keep_X10_isJob rfl rfl rfl (by decide +kernel) ⟨Nat.le_of_ble_eq_true rfl, Nat.le_of_ble_eq_true rfl⟩) hK hP rfl hl.1 rfl (Nat.le_of_ble_eq_true rfl) dX10_keep_28 ⟨Nat.le_of_ble_eq_true rfl, Nat.le_of_ble_eq_true rfl⟩ hS (fun r28 u H locs q28 hP hS => ?_)
        obtain ⟨rfl, q28⟩ := q28
        have hP : va_P D vwCl (WM cy mo a (upd f 0 (0 : Int32)) g r q) H := hP
        have q28 : Bo r28 (0 ≤ k0.toInt ∧ k0.toInt < ((f 1)).toInt) := q28
        refine lv_if_ne (tgt := 67) hx hb dX10_keep_31 (by decide) (fun c31 => ?_) (fun c31 => ?_)
        · skip
          have b31 := bo_t q28 c31
          refine lv_iconst (v := 1) hx hb dX10_keep_67 (by decide) ?_
          refine lv_goto (tgt := 72) hx hb dX10_keep_68 (by decide) ?_
          refine lv_istore (lv' := [(6, .int (1 : Int32)), (0, .ref mo), (1, .int d), (2, .int what), (3, .int k0), (4, .long p0)]) hx hb dX10_keep_72 hl (by decide) rfl (fun ls hl => ?_)
          refine lv_iload hx hb dX10_keep_74 (lv_at hl 0 rfl) ?_
          refine lv_if_ne (tgt := 81) hx hb dX10_keep_76 (by decide) (fun c76 => ?_) (fun c76 => ?_)
          · skip
            have d76 := c76
            rw [fa_eq] at d76
            refine lv_aload_n hx hb dX10_keep_81 rfl (lv_at hl 1 rfl) ?_
            refine m_get (v := .ref (a 29)) hx hb hts hin hown hK hP 29 (by decide) rfl (hts (.fieldLink RX10 61 "ShadowBenchModel" "shelf" "[I") (by decide +kernel)) rfl dX10_keep_82 ?_
            refine lv_iload_n hx hb dX10_keep_85 rfl (lv_at hl 2 rfl) ?_
            refine lv_iload_n hx hb dX10_keep_86 rfl (lv_at hl 3 rfl) ?_
            refine m_iast (w := (r 29)) hx hb hK hP hD hS 17 rfl (vp_in_iff.mpr ⟨by omega, by omega⟩) (va_up r 29 (upd (r 29) d.toNatClampNeg what)) (ms_29 cy mo a _ _ _ _ _) dX10_keep_87 (fun H locs hP hS => ?_)
            refine lv_aload_n hx hb dX10_keep_88 rfl (lv_at hl 1 rfl) ?_
            refine m_get (v := .ref (a 30)) hx hb hts hin hown hK hP 30 (by decide) rfl (hts (.fieldLink RX10 64 "ShadowBenchModel" "shelfSize" "[I") (by decide +kernel)) rfl dX10_keep_89 ?_
            refine lv_iload_n hx hb dX10_keep_92 rfl (lv_at hl 2 rfl) ?_
            refine lv_iload_n hx hb dX10_keep_93 rfl (lv_at hl 3 rfl) ?_
            refine lv_iconst (v := 3) hx hb dX10_keep_94 (by decide) ?_
            refine lv_icmp_ne (tgt := 114) hx hb dX10_keep_95 (by decide) (fun c95 => ?_) (fun c95 => ?_)
            · skip
              have d95 := c95
              rw [fa_eq] at d95
              refine lv_iload_n hx hb dX10_keep_114 rfl (lv_at hl 3 rfl) ?_
              refine lv_iconst (v := 4) hx hb dX10_keep_115 (by decide) ?_
              refine lv_icmp_ne (tgt := 135) hx hb dX10_keep_116 (by decide) (fun c116 => ?_) (fun c116 => ?_)
              · skip
                have d116 := c116
                rw [fa_eq] at d116
                refine lv_iconst (v := 0) hx hb dX10_keep_135 (by decide) ?_
                refine m_iast (w := (r 30)) hx hb hK hP hD hS 18 rfl (vp_in_iff.mpr ⟨by omega, by omega⟩) (va_up (va_up r 29 ((upd (r 29) d.toNatClampNeg what))) 30 (upd (r 30) d.toNatClampNeg (0 : Int32))) (ms_30 cy mo a _ _ _ _ _) dX10_keep_136 (fun H locs hP hS => ?_)
                refine lv_iload_n hx hb dX10_keep_137 rfl (lv_at hl 3 rfl) ?_
                refine lv_iconst (v := 1) hx hb dX10_keep_138 (by decide) ?_
                refine lv_icmp_ne (tgt := 174) hx hb dX10_keep_139 (by decide) (fun c139 => ?_) (fun c139 => ?_)
                · skip
                  have d139 := c139
                  rw [fa_eq] at d139
                  refine lv_iconst (v := 0) hx hb dX10_keep_174 (by decide) ?_
                  refine lv_istore (lv' := [(7, .int (0 : Int32)), (6, .int (1 : Int32)), (0, .ref mo), (1, .int d), (2, .int what), (3, .int k0), (4, .long p0)]) hx hb dX10_keep_175 hl (by decide) rfl (fun ls hl => ?_)
                  have loop_177 : ∀ (n : Nat) (i : Nat) (s3 : Nat → Int64), (i ≤ 60) → 60 - i < n → ∀ (H : Heap) (locs : List Loc), va_P D vwCl (WM cy mo a (upd f 0 (0 : Int32)) g (va_up (va_up r 29 ((upd (r 29) d.toNatClampNeg what))) 30 ((upd (r 30) d.toNatClampNeg (0 : Int32)))) (va_up q 33 s3)) H → va_S (AM mo a) s.heap H locs → ∀ (ls : Array Slot), lv_has ls 8 [(7, .int (nI i)), (6, .int (1 : Int32)), (0, .ref mo), (1, .int d), (2, .int what), (3, .int k0), (4, .long p0)] → W p l e (headSpec wsX10_keep ({ frames := 3, cells := 0, slots := 0, locals := 69 })).room s m #[Value.ref mo, Value.int d, Value.int what, Value.int k0, Value.long p0] below meth c H locs 0 0 (MQ below (va_Qi (fun r0 u => ∃ (sh : Nat → Int32), ∃ (sz : Nat → Int32), ∃ (sw : Nat → Int32), ∃ (sf : Nat → Int32), ∃ (sr : Nat → Int64), u = ((upd f 0 (0 : Int32)), g, (va_up (va_up (va_up (va_up r 29 sh) 30 sz) 31 sw) 32 sf), (va_up q 33 sr)) ∧ (yesNo (okKeep (f 1) (fun j9 => (r 3 j9).toNatClampNeg) (fun j9 => (r 4 j9).toNatClampNeg) d what k0 p0) 0 (-1) r0 ∧ ((okKeep (f 1) (fun j9 => (r 3 j9).toNatClampNeg) (fun j9 => (r 4 j9).toNatClampNeg) d what k0 p0 ∧ sh = upd (r 29) d.toNatClampNeg what ∧ (what.toInt = 1 → sw = upd (r 31) d.toNatClampNeg (heR (r 2 k0.toNatClampNeg) (r 3 k0.toNatClampNeg).toNatClampNeg (r 4 k0.toNatClampNeg).toNatClampNeg (smN (fun s9 => r 8 (36 * k0.toNatClampNeg + s9)) 36))) ∧ (¬ what.toInt = 1 → sw = r 31)) ∨ (¬ okKeep (f 1) (fun j9 => (r 3 j9).toNatClampNeg) (fun j9 => (r 4 j9).toNatClampNeg) d what k0 p0 ∧ sh = r 29 ∧ sw = r 31)) ∧ MI (upd f 0 (0 : Int32)) (va_up (va_up (va_up (va_up r 29 sh) 30 sz) 31 sw) 32 sf))) (mB D cy mo a) (AM mo a)) #[Value.ref mo, Value.int d, Value.int what, Value.int k0, Value.long p0] s 0 0 (AM mo a)) (F0 m 177 ls []) := by
                    intro n
                    induction n with
                    | zero => intro i s3 j177_0 hn; exact absurd hn (Nat.not_lt_zero _)
                    | succ n ih_177 =>
                      intro i s3 j177_0 hn_177 H locs hP hS ls hl
                      have ii : (nI i).toInt = (i : Int) := nI_toInt (by omega)
                      refine lv_iload hx hb dX10_keep_177 (lv_at hl 0 rfl) ?_
                      refine lv_aload_n hx hb dX10_keep_179 rfl (lv_at hl 2 rfl) ?_
                      refine m_get (v := .ref (a 30)) hx hb hts hin hown hK hP 30 (by decide) rfl (hts (.fieldLink RX10 64 "ShadowBenchModel" "shelfSize" "[I") (by decide +kernel)) rfl dX10_keep_180 ?_
                      refine lv_iload_n hx hb dX10_keep_183 rfl (lv_at hl 3 rfl) ?_
                      refine m_iald (w := ((upd (r 30) d.toNatClampNeg (0 : Int32)))) hx hb hK hP 18 rfl (vp_in_iff.mpr ⟨by omega, by omega⟩) dX10_keep_184 ?_
                      refine lv_topi (fun v184 e184 => ?_)
                      have i184 : v184.toInt = (((upd (r 30) d.toNatClampNeg (0 : Int32))) d.toNatClampNeg).toInt := congrArg Int32.toInt e184
                      have z184 := e184
                      simp only [upd, if_true] at z184
                      have y184 := congrArg Int32.toInt z184
                      refine lv_icmp_ge (tgt := 272) hx hb dX10_keep_185 (by decide) (fun c185 => ?_) (fun c185 => ?_)
                      · skip
                        have d185 := c185
                        rw [fa_le] at d185
                        refine lv_iconst (v := 0) hx hb dX10_keep_272 (by decide) ?_
                        have hP := wm_eq rfl rfl (ec_r_29_30__29_30_31_32 r ((upd (r 29) d.toNatClampNeg what)) ((upd (r 30) d.toNatClampNeg (0 : Int32)))) rfl hP
                        exact W.iret (v := (0 : Int32)) hx hb hr (fun t ht hW => ⟨⟨_, ((upd f 0 (0 : Int32)), g, (va_up (va_up (va_up (va_up r 29 (((upd (r 29) d.toNatClampNeg what)))) 30 (((upd (r 30) d.toNatClampNeg (0 : Int32))))) 31 (r 31)) 32 (r 32)), (va_up q 33 s3)), rfl, ⟨((upd (r 29) d.toNatClampNeg what)), ((upd (r 30) d.toNatClampNeg (0 : Int32))), (r 31), (r 32), s3, rfl, ⟨(Or.inl ⟨⟨b9, (by unfold okJob; first | exact Or.inl (by omega) | exact Or.inr (Or.inl ⟨by omega, b31⟩) | (have z9 := goodP_of b64; subst e52; subst e58; exact Or.inr (Or.inr ⟨by omega, b44, z9.2⟩)))⟩, rfl⟩), (Or.inl ⟨⟨b9, (by unfold okJob; first | exact Or.inl (by omega) | exact Or.inr (Or.inl ⟨by omega, b31⟩) | (have z9 := goodP_of b64; subst e52; subst e58; exact Or.inr (Or.inr ⟨by omega, b44, z9.2⟩)))⟩, rfl, (by first | exact ⟨fun _ => congrArg (fun z9 => upd (r 31) d.toNatClampNeg z9) q149, fun z9 => by exfalso; omega⟩ | exact ⟨fun z9 => by exfalso; omega, fun _ => rfl⟩)⟩), by first | exact hI | exact mi_sz (d := d) hI (v := v110) (by omega) rfl rfl rfl rfl rfl rfl rfl rfl | exact mi_sz (d := d) hI (v := v131) (by omega) rfl rfl rfl rfl rfl rfl rfl rfl | exact mi_sz (d := d) hI (v := 0) (by decide) rfl rfl rfl rfl rfl rfl rfl rfl⟩⟩, by unfold mB; rw [ht]; exact hP⟩, hS.F ht⟩) hS.2.2 dX10_keep_273
                      · skip
                        have d185 := c185
                        rw [fa_le] at d185
                        refine lv_aload_n hx hb dX10_keep_188 rfl (lv_at hl 2 rfl) ?_
                        refine m_get (v := .ref (a 33)) hx hb hts hin hown hK hP 33 (by decide) rfl (hts (.fieldLink RX10 73 "ShadowBenchModel" "shelfRow" "[J") (by decide +kernel)) rfl dX10_keep_189 ?_
                        refine lv_bipush (v := 60) hx hb dX10_keep_192 (by decide) ?_
                        refine lv_iload_n hx hb dX10_keep_194 rfl (lv_at hl 3 rfl) ?_
                        refine lv_imul hx hb dX10_keep_195 ?_
                        refine lv_topi (fun v195 e195 => ?_)
                        have i195 : v195.toInt = 60 * d.toInt := by rw [e195]; exact mulcL rfl (by omega) (by omega)
                        refine lv_iload hx hb dX10_keep_196 (lv_at hl 0 rfl) ?_
                        refine lv_iadd hx hb dX10_keep_198 ?_
                        refine lv_topi (fun v198 e198 => ?_)
                        have i198 : v198.toInt = v195.toInt + (nI i).toInt := by rw [e198]; exact fb_addI (by omega) (by omega)
                        refine lv_iload_n hx hb dX10_keep_199 rfl (lv_at hl 4 rfl) ?_
                        refine lv_iconst (v := 3) hx hb dX10_keep_200 (by decide) ?_
                        refine lv_icmp_ne (tgt := 215) hx hb dX10_keep_201 (by decide) (fun c201 => ?_) (fun c201 => ?_)
                        · skip
                          have d201 := c201
                          rw [fa_eq] at d201
                          refine lv_iload hx hb dX10_keep_215 (lv_at hl 0 rfl) ?_
                          refine lv_aload_n hx hb dX10_keep_217 rfl (lv_at hl 2 rfl) ?_
                          refine m_get (v := .ref (a 4)) hx hb hts hin hown hK hP 4 (by decide) rfl (hts (.fieldLink RX10 16 "ShadowBenchModel" "high" "[I") (by decide +kernel)) rfl dX10_keep_218 ?_
                          refine lv_iload_n hx hb dX10_keep_221 rfl (lv_at hl 5 rfl) ?_
                          refine m_iald (w := (r 4)) hx hb hK hP 3 rfl (vp_in_iff.mpr ⟨by omega, by omega⟩) dX10_keep_222 ?_
                          refine lv_topi (fun v222 e222 => ?_)
                          have i222 : v222.toInt = ((r 4) k0.toNatClampNeg).toInt := congrArg Int32.toInt e222
                          have w222 := mi_h hI (x := k0) (by omega) (by omega) e222
                          refine lv_icmp_ge (tgt := 242) hx hb dX10_keep_223 (by decide) (fun c223 => ?_) (fun c223 => ?_)
                          · skip
                            have d223 := c223
                            rw [fa_le] at d223
                            refine lv_aload_n hx hb dX10_keep_242 rfl (lv_at hl 2 rfl) ?_
                            refine m_get (v := .ref (a 5)) hx hb hts hin hown hK hP 5 (by decide) rfl (hts (.fieldLink RX10 19 "ShadowBenchModel" "sums" "[I") (by decide +kernel)) rfl dX10_keep_243 ?_
                            refine lv_bipush (v := 44) hx hb dX10_keep_246 (by decide) ?_
                            refine lv_iload_n hx hb dX10_keep_248 rfl (lv_at hl 5 rfl) ?_
                            refine lv_imul hx hb dX10_keep_249 ?_
                            refine lv_topi (fun v249 e249 => ?_)
                            have i249 : v249.toInt = 44 * k0.toInt := by rw [e249]; exact mulcL rfl (by omega) (by omega)
                            refine lv_bipush (v := 11) hx hb dX10_keep_250 (by decide) ?_
                            refine lv_iadd hx hb dX10_keep_252 ?_
                            refine lv_topi (fun v252 e252 => ?_)
                            have i252 : v252.toInt = v249.toInt + (11 : Int32).toInt := by rw [e252]; exact fb_addI (by omega) (by omega)
                            refine lv_iload hx hb dX10_keep_253 (lv_at hl 0 rfl) ?_
                            refine lv_iadd hx hb dX10_keep_255 ?_
                            refine lv_topi (fun v255 e255 => ?_)
                            have i255 : v255.toInt = v252.toInt + (nI i).toInt := by rw [e255]; exact fb_addI (by omega) (by omega)
                            refine lv_aload_n hx hb dX10_keep_256 rfl (lv_at hl 2 rfl) ?_
                            refine m_get (v := .ref (a 4)) hx hb hts hin hown hK hP 4 (by decide) rfl (hts (.fieldLink RX10 16 "ShadowBenchModel" "high" "[I") (by decide +kernel)) rfl dX10_keep_257 ?_
                            refine lv_iload_n hx hb dX10_keep_260 rfl (lv_at hl 5 rfl) ?_
                            refine m_iald (w := (r 4)) hx hb hK hP 3 rfl (vp_in_iff.mpr ⟨by omega, by omega⟩) dX10_keep_261 ?_
                            refine lv_topi (fun v261 e261 => ?_)
                            have i261 : v261.toInt = ((r 4) k0.toNatClampNeg).toInt := congrArg Int32.toInt e261
                            have w261 := mi_h hI (x := k0) (by omega) (by omega) e261
                            refine lv_isub hx hb dX10_keep_262 ?_
                            refine lv_topi (fun v262 e262 => ?_)
                            have i262 : v262.toInt = v255.toInt - v261.toInt := by rw [e262]; exact fb_subI (by omega) (by omega)
                            refine m_iald (w := (r 5)) hx hb hK hP 4 rfl (vp_in_iff.mpr ⟨by omega, by omega⟩) dX10_keep_263 ?_
                            refine lv_topi (fun v263 e263 => ?_)
                            have i263 : v263.toInt = ((r 5) v262.toNatClampNeg).toInt := congrArg Int32.toInt e263
                            refine lv_i2l (v := v263.toInt64) hx hb dX10_keep_264 rfl ?_
                            refine m_last (w := s3) hx hb hK hP hD hS 21 rfl (vp_in_iff.mpr ⟨by omega, by omega⟩) (va_up (va_up q 33 s3) 33 (vp_updL s3 v198.toNatClampNeg v263.toInt64)) (ms_33 cy mo a _ _ _ _ _) dX10_keep_265 (fun H locs hP hS => ?_)
                            have hP := wm_eq rfl rfl rfl (es_q_33__33 q s3 (vp_updL s3 v198.toNatClampNeg v263.toInt64)) hP
                            refine lv_iinc (v := (nI (i + 1))) (lv' := [(7, .int (nI (i + 1))), (6, .int (1 : Int32)), (0, .ref mo), (1, .int d), (2, .int what), (3, .int k0), (4, .long p0)]) hx hb dX10_keep_266 hl (k := 0) rfl (nI_1 _) (by decide) rfl (fun ls hl => ?_)
                            refine lv_goto (tgt := 177) hx hb dX10_keep_269 (by decide) ?_
                            have hP := wm_eq rfl rfl (ec_r_29_30__29_30 r ((upd (r 29) d.toNatClampNeg what)) ((upd (r 30) d.toNatClampNeg (0 : Int32)))) rfl hP
                            exact ih_177 (i + 1) (vp_updL s3 v198.toNatClampNeg v263.toInt64) (by omega) (by omega) _ _ hP hS ls (lv_sub hl [0, 1, 2, 3, 4, 5, 6] rfl)
                          · skip
                            have d223 := c223
                            rw [fa_le] at d223
                            refine lv_aload_n hx hb dX10_keep_226 rfl (lv_at hl 2 rfl) ?_
                            refine m_get (v := .ref (a 5)) hx hb hts hin hown hK hP 5 (by decide) rfl (hts (.fieldLink RX10 19 "ShadowBenchModel" "sums" "[I") (by decide +kernel)) rfl dX10_keep_227 ?_
                            refine lv_bipush (v := 44) hx hb dX10_keep_230 (by decide) ?_
                            refine lv_iload_n hx hb dX10_keep_232 rfl (lv_at hl 5 rfl) ?_
                            refine lv_imul hx hb dX10_keep_233 ?_
                            refine lv_topi (fun v233 e233 => ?_)
                            have i233 : v233.toInt = 44 * k0.toInt := by rw [e233]; exact mulcL rfl (by omega) (by omega)
                            refine lv_iload hx hb dX10_keep_234 (lv_at hl 0 rfl) ?_
                            refine lv_iadd hx hb dX10_keep_236 ?_
                            refine lv_topi (fun v236 e236 => ?_)
                            have i236 : v236.toInt = v233.toInt + (nI i).toInt := by rw [e236]; exact fb_addI (by omega) (by omega)
                            refine m_iald (w := (r 5)) hx hb hK hP 4 rfl (vp_in_iff.mpr ⟨by omega, by omega⟩) dX10_keep_237 ?_
                            refine lv_topi (fun v237 e237 => ?_)
                            have i237 : v237.toInt = ((r 5) v236.toNatClampNeg).toInt := congrArg Int32.toInt e237
                            refine lv_i2l (v := v237.toInt64) hx hb dX10_keep_238 rfl ?_
                            refine lv_goto (tgt := 265) hx hb dX10_keep_239 (by decide) ?_
                            refine m_last (w := s3) hx hb hK hP hD hS 21 rfl (vp_in_iff.mpr ⟨by omega, by omega⟩) (va_up (va_up q 33 s3) 33 (vp_updL s3 v198.toNatClampNeg v237.toInt64)) (ms_33 cy mo a _ _ _ _ _) dX10_keep_265 (fun H locs hP hS => ?_)
                            have hP := wm_eq rfl rfl rfl (es_q_33__33 q s3 (vp_updL s3 v198.toNatClampNeg v237.toInt64)) hP
                            refine lv_iinc (v := (nI (i + 1))) (lv' := [(7, .int (nI (i + 1))), (6, .int (1 : Int32)), (0, .ref mo), (1, .int d), (2, .int what), (3, .int k0), (4, .long p0)]) hx hb dX10_keep_266 hl (k := 0) rfl (nI_1 _) (by decide) rfl (fun ls hl => ?_)
                            refine lv_goto (tgt := 177) hx hb dX10_keep_269 (by decide) ?_
                            have hP := wm_eq rfl rfl (ec_r_29_30__29_30 r ((upd (r 29) d.toNatClampNeg what)) ((upd (r 30) d.toNatClampNeg (0 : Int32)))) rfl hP
                            exact ih_177 (i + 1) (vp_updL s3 v198.toNatClampNeg v237.toInt64) (by omega) (by omega) _ _ hP hS ls (lv_sub hl [0, 1, 2, 3, 4, 5, 6] rfl)
                        · first | exact absurd c201 c95 | exact absurd c95 c201
                  have hP := wm_eq rfl rfl (ec_r_29_30__29_30 r ((upd (r 29) d.toNatClampNeg what)) ((upd (r 30) d.toNatClampNeg (0 : Int32)))) (ec_q___33 q ) hP
                  exact loop_177 (60 + 1) 0 (q 33) (by omega) (by omega) _ _ hP hS ls (lv_sub hl [0, 1, 2, 3, 4, 5, 6] rfl)
                · skip
                  have d139 := c139
                  rw [fa_eq] at d139
                  refine lv_aload_n hx hb dX10_keep_142 rfl (lv_at hl 1 rfl) ?_
                  refine m_get (v := .ref (a 31)) hx hb hts hin hown hK hP 31 (by decide) rfl (hts (.fieldLink RX10 67 "ShadowBenchModel" "shelfWeight" "[I") (by decide +kernel)) rfl dX10_keep_143 ?_
                  refine lv_iload_n hx hb dX10_keep_146 rfl (lv_at hl 2 rfl) ?_
                  refine lv_aload_n hx hb dX10_keep_147 rfl (lv_at hl 1 rfl) ?_
                  refine lv_iload_n hx hb dX10_keep_148 rfl (lv_at hl 4 rfl) ?_
                  refine m_calli (As := [.int k0]) (rest := [.int d, .ref (a 31)]) ⟨hx, hb, hml, hown, hts⟩ (c_X10_weightOf_x l D cy mo a (upd f 0 (0 : Int32)) g (va_up (va_up r 29 ((upd (r 29) d.toNatClampNeg what))) 30 ((upd (r 30) d.toNatClampNeg (0 : Int32)))) q k0 hD (by first | exact hI | exact mi_sz (d := d) hI (v := 0) (by first | omega | decide) rfl rfl rfl rfl rfl rfl rfl rfl | exact mi_sz (d := d) hI (v := v131) (by first | omega | decide) rfl rfl rfl rfl rfl rfl rfl rfl | exact mi_sz (d := d) hI (v := v110) (by first | omega | decide) rfl rfl rfl rfl rfl rfl rfl rfl) (show 0 ≤ k0.toInt ∧ k0.toInt < (f 1).toInt by omega)) (cwV 1 hts gX10_keep_X10_weightOf rfl rfl rfl (by decide +kernel) ⟨Nat.le_of_ble_eq_true rfl, Nat.le_of_ble_eq_true rfl⟩) hK hP rfl hl.1 rfl (Nat.le_of_ble_eq_true rfl) dX10_keep_149 ⟨Nat.le_of_ble_eq_true rfl, Nat.le_of_ble_eq_true rfl⟩ hS (fun r149 u H locs q149 hP hS => ?_)
                  obtain ⟨rfl, q149⟩ := q149
                  have hP : va_P D vwCl (WM cy mo a (upd f 0 (0 : Int32)) g (va_up (va_up r 29 ((upd (r 29) d.toNatClampNeg what))) 30 ((upd (r 30) d.toNatClampNeg (0 : Int32)))) q) H := hP
                  have q149 : r149 = (heR ((r 2) k0.toNatClampNeg) ((r 3) k0.toNatClampNeg).toNatClampNeg ((r 4) k0.toNatClampNeg).toNatClampNeg (smN (fun s9 => (va_up (va_up r 29 ((upd (r 29) d.toNatClampNeg what))) 30 ((upd (r 30) d.toNatClampNeg (0 : Int32)))) 8 (36 * k0.toNatClampNeg + s9)) 36)) := q149
                  refine m_iast (w := (r 31)) hx hb hK hP hD hS 19 rfl (vp_in_iff.mpr ⟨by omega, by omega⟩) (va_up (va_up (va_up r 29 ((upd (r 29) d.toNatClampNeg what))) 30 ((upd (r 30) d.toNatClampNeg (0 : Int32)))) 31 (upd (r 31) d.toNatClampNeg r149)) (ms_31 cy mo a _ _ _ _ _) dX10_keep_152 (fun H locs hP hS => ?_)
                  refine lv_aload_n hx hb dX10_keep_153 rfl (lv_at hl 1 rfl) ?_
                  refine m_get (v := .ref (a 32)) hx hb hts hin hown hK hP 32 (by decide) rfl (hts (.fieldLink RX10 70 "ShadowBenchModel" "shelfFailure" "[I") (by decide +kernel)) rfl dX10_keep_154 ?_
                  refine lv_iload_n hx hb dX10_keep_157 rfl (lv_at hl 2 rfl) ?_
                  refine lv_aload_n hx hb dX10_keep_158 rfl (lv_at hl 1 rfl) ?_
                  refine m_get (v := .ref (a 2)) hx hb hts hin hown hK hP 2 (by decide) rfl (hts (.fieldLink RX10 7 "ShadowBenchModel" "kind" "[I") (by decide +kernel)) rfl dX10_keep_159 ?_
                  refine lv_iload_n hx hb dX10_keep_162 rfl (lv_at hl 4 rfl) ?_
                  refine m_iald (w := (r 2)) hx hb hK hP 1 rfl (vp_in_iff.mpr ⟨by omega, by omega⟩) dX10_keep_163 ?_
                  refine lv_topi (fun v163 e163 => ?_)
                  have i163 : v163.toInt = ((r 2) k0.toNatClampNeg).toInt := congrArg Int32.toInt e163
                  refine lv_if_ne (tgt := 172) hx hb dX10_keep_164 (by decide) (fun c164 => ?_) (fun c164 => ?_)
                  · skip
                    have d164 := c164
                    rw [fa_eq] at d164
                    refine lv_iload_n hx hb dX10_keep_172 rfl (lv_at hl 4 rfl) ?_
                    refine m_iast (w := (r 32)) hx hb hK hP hD hS 20 rfl (vp_in_iff.mpr ⟨by omega, by omega⟩) (va_up (va_up (va_up (va_up r 29 ((upd (r 29) d.toNatClampNeg what))) 30 ((upd (r 30) d.toNatClampNeg (0 : Int32)))) 31 ((upd (r 31) d.toNatClampNeg r149))) 32 (upd (r 32) d.toNatClampNeg k0)) (ms_32 cy mo a _ _ _ _ _) dX10_keep_173 (fun H locs hP hS => ?_)
                    refine lv_iconst (v := 0) hx hb dX10_keep_174 (by decide) ?_
                    refine lv_istore (lv' := [(7, .int (0 : Int32)), (6, .int (1 : Int32)), (0, .ref mo), (1, .int d), (2, .int what), (3, .int k0), (4, .long p0)]) hx hb dX10_keep_175 hl (by decide) rfl (fun ls hl => ?_)
                    have loop_177 : ∀ (n : Nat) (i : Nat) (s3 : Nat → Int64), (i ≤ 60) → 60 - i < n → ∀ (H : Heap) (locs : List Loc), va_P D vwCl (WM cy mo a (upd f 0 (0 : Int32)) g (va_up (va_up (va_up (va_up r 29 ((upd (r 29) d.toNatClampNeg what))) 30 ((upd (r 30) d.toNatClampNeg (0 : Int32)))) 31 ((upd (r 31) d.toNatClampNeg r149))) 32 ((upd (r 32) d.toNatClampNeg k0))) (va_up q 33 s3)) H → va_S (AM mo a) s.heap H locs → ∀ (ls : Array Slot), lv_has ls 8 [(7, .int (nI i)), (6, .int (1 : Int32)), (0, .ref mo), (1, .int d), (2, .int what), (3, .int k0), (4, .long p0)] → W p l e (headSpec wsX10_keep ({ frames := 3, cells := 0, slots := 0, locals := 69 })).room s m #[Value.ref mo, Value.int d, Value.int what, Value.int k0, Value.long p0] below meth c H locs 0 0 (MQ below (va_Qi (fun r0 u => ∃ (sh : Nat → Int32), ∃ (sz : Nat → Int32), ∃ (sw : Nat → Int32), ∃ (sf : Nat → Int32), ∃ (sr : Nat → Int64), u = ((upd f 0 (0 : Int32)), g, (va_up (va_up (va_up (va_up r 29 sh) 30 sz) 31 sw) 32 sf), (va_up q 33 sr)) ∧ (yesNo (okKeep (f 1) (fun j9 => (r 3 j9).toNatClampNeg) (fun j9 => (r 4 j9).toNatClampNeg) d what k0 p0) 0 (-1) r0 ∧ ((okKeep (f 1) (fun j9 => (r 3 j9).toNatClampNeg) (fun j9 => (r 4 j9).toNatClampNeg) d what k0 p0 ∧ sh = upd (r 29) d.toNatClampNeg what ∧ (what.toInt = 1 → sw = upd (r 31) d.toNatClampNeg (heR (r 2 k0.toNatClampNeg) (r 3 k0.toNatClampNeg).toNatClampNeg (r 4 k0.toNatClampNeg).toNatClampNeg (smN (fun s9 => r 8 (36 * k0.toNatClampNeg + s9)) 36))) ∧ (¬ what.toInt = 1 → sw = r 31)) ∨ (¬ okKeep (f 1) (fun j9 => (r 3 j9).toNatClampNeg) (fun j9 => (r 4 j9).toNatClampNeg) d what k0 p0 ∧ sh = r 29 ∧ sw = r 31)) ∧ MI (upd f 0 (0 : Int32)) (va_up (va_up (va_up (va_up r 29 sh) 30 sz) 31 sw) 32 sf))) (mB D cy mo a) (AM mo a)) #[Value.ref mo, Value.int d, Value.int what, Value.int k0, Value.long p0] s 0 0 (AM mo a)) (F0 m 177 ls []) := by
                      intro n
                      induction n with
                      | zero => intro i s3 j177_0 hn; exact absurd hn (Nat.not_lt_zero _)
                      | succ n ih_177 =>
                        intro i s3 j177_0 hn_177 H locs hP hS ls hl
                        have ii : (nI i).toInt = (i : Int) := nI_toInt (by omega)
                        refine lv_iload hx hb dX10_keep_177 (lv_at hl 0 rfl) ?_
                        refine lv_aload_n hx hb dX10_keep_179 rfl (lv_at hl 2 rfl) ?_
                        refine m_get (v := .ref (a 30)) hx hb hts hin hown hK hP 30 (by decide) rfl (hts (.fieldLink RX10 64 "ShadowBenchModel" "shelfSize" "[I") (by decide +kernel)) rfl dX10_keep_180 ?_
                        refine lv_iload_n hx hb dX10_keep_183 rfl (lv_at hl 3 rfl) ?_
                        refine m_iald (w := ((upd (r 30) d.toNatClampNeg (0 : Int32)))) hx hb hK hP 18 rfl (vp_in_iff.mpr ⟨by omega, by omega⟩) dX10_keep_184 ?_
                        refine lv_topi (fun v184 e184 => ?_)
                        have i184 : v184.toInt = (((upd (r 30) d.toNatClampNeg (0 : Int32))) d.toNatClampNeg).toInt := congrArg Int32.toInt e184
                        have z184 := e184
                        simp only [upd, if_true] at z184
                        have y184 := congrArg Int32.toInt z184
                        refine lv_icmp_ge (tgt := 272) hx hb dX10_keep_185 (by decide) (fun c185 => ?_) (fun c185 => ?_)
                        · skip
                          have d185 := c185
                          rw [fa_le] at d185
                          refine lv_iconst (v := 0) hx hb dX10_keep_272 (by decide) ?_
                          have hP := wm_eq rfl rfl (ec_r_29_30_31_32__29_30_31_32 r ((upd (r 29) d.toNatClampNeg what)) ((upd (r 30) d.toNatClampNeg (0 : Int32))) ((upd (r 31) d.toNatClampNeg r149)) ((upd (r 32) d.toNatClampNeg k0))) rfl hP
                          exact W.iret (v := (0 : Int32)) hx hb hr (fun t ht hW => ⟨⟨_, ((upd f 0 (0 : Int32)), g, (va_up (va_up (va_up (va_up r 29 (((upd (r 29) d.toNatClampNeg what)))) 30 (((upd (r 30) d.toNatClampNeg (0 : Int32))))) 31 (((upd (r 31) d.toNatClampNeg r149)))) 32 (((upd (r 32) d.toNatClampNeg k0)))), (va_up q 33 s3)), rfl, ⟨((upd (r 29) d.toNatClampNeg what)), ((upd (r 30) d.toNatClampNeg (0 : Int32))), ((upd (r 31) d.toNatClampNeg r149)), ((upd (r 32) d.toNatClampNeg k0)), s3, rfl, ⟨(Or.inl ⟨⟨b9, (by unfold okJob; first | exact Or.inl (by omega) | exact Or.inr (Or.inl ⟨by omega, b31⟩) | (have z9 := goodP_of b64; subst e52; subst e58; exact Or.inr (Or.inr ⟨by omega, b44, z9.2⟩)))⟩, rfl⟩), (Or.inl ⟨⟨b9, (by unfold okJob; first | exact Or.inl (by omega) | exact Or.inr (Or.inl ⟨by omega, b31⟩) | (have z9 := goodP_of b64; subst e52; subst e58; exact Or.inr (Or.inr ⟨by omega, b44, z9.2⟩)))⟩, rfl, (by first | exact ⟨fun _ => congrArg (fun z9 => upd (r 31) d.toNatClampNeg z9) q149, fun z9 => by exfalso; omega⟩ | exact ⟨fun z9 => by exfalso; omega, fun _ => rfl⟩)⟩), by first | exact hI | exact mi_sz (d := d) hI (v := v110) (by omega) rfl rfl rfl rfl rfl rfl rfl rfl | exact mi_sz (d := d) hI (v := v131) (by omega) rfl rfl rfl rfl rfl rfl rfl rfl | exact mi_sz (d := d) hI (v := 0) (by decide) rfl rfl rfl rfl rfl rfl rfl rfl⟩⟩, by unfold mB; rw [ht]; exact hP⟩, hS.F ht⟩) hS.2.2 dX10_keep_273
                        · skip
                          have d185 := c185
                          rw [fa_le] at d185
                          refine lv_aload_n hx hb dX10_keep_188 rfl (lv_at hl 2 rfl) ?_
                          refine m_get (v := .ref (a 33)) hx hb hts hin hown hK hP 33 (by decide) rfl (hts (.fieldLink RX10 73 "ShadowBenchModel" "shelfRow" "[J") (by decide +kernel)) rfl dX10_keep_189 ?_
                          refine lv_bipush (v := 60) hx hb dX10_keep_192 (by decide) ?_
                          refine lv_iload_n hx hb dX10_keep_194 rfl (lv_at hl 3 rfl) ?_
                          refine lv_imul hx hb dX10_keep_195 ?_
                          refine lv_topi (fun v195 e195 => ?_)
                          have i195 : v195.toInt = 60 * d.toInt := by rw [e195]; exact mulcL rfl (by omega) (by omega)
                          refine lv_iload hx hb dX10_keep_196 (lv_at hl 0 rfl) ?_
                          refine lv_iadd hx hb dX10_keep_198 ?_
                          refine lv_topi (fun v198 e198 => ?_)
                          have i198 : v198.toInt = v195.toInt + (nI i).toInt := by rw [e198]; exact fb_addI (by omega) (by omega)
                          refine lv_iload_n hx hb dX10_keep_199 rfl (lv_at hl 4 rfl) ?_
                          refine lv_iconst (v := 3) hx hb dX10_keep_200 (by decide) ?_
                          refine lv_icmp_ne (tgt := 215) hx hb dX10_keep_201 (by decide) (fun c201 => ?_) (fun c201 => ?_)
                          · skip
                            have d201 := c201
                            rw [fa_eq] at d201
                            refine lv_iload hx hb dX10_keep_215 (lv_at hl 0 rfl) ?_
                            refine lv_aload_n hx hb dX10_keep_217 rfl (lv_at hl 2 rfl) ?_
                            refine m_get (v := .ref (a 4)) hx hb hts hin hown hK hP 4 (by decide) rfl (hts (.fieldLink RX10 16 "ShadowBenchModel" "high" "[I") (by decide +kernel)) rfl dX10_keep_218 ?_
                            refine lv_iload_n hx hb dX10_keep_221 rfl (lv_at hl 5 rfl) ?_
                            refine m_iald (w := (r 4)) hx hb hK hP 3 rfl (vp_in_iff.mpr ⟨by omega, by omega⟩) dX10_keep_222 ?_
                            refine lv_topi (fun v222 e222 => ?_)
                            have i222 : v222.toInt = ((r 4) k0.toNatClampNeg).toInt := congrArg Int32.toInt e222
                            have w222 := mi_h hI (x := k0) (by omega) (by omega) e222
                            refine lv_icmp_ge (tgt := 242) hx hb dX10_keep_223 (by decide) (fun c223 => ?_) (fun c223 => ?_)
                            · skip
                              have d223 := c223
                              rw [fa_le] at d223
                              refine lv_aload_n hx hb dX10_keep_242 rfl (lv_at hl 2 rfl) ?_
                              refine m_get (v := .ref (a 5)) hx hb hts hin hown hK hP 5 (by decide) rfl (hts (.fieldLink RX10 19 "ShadowBenchModel" "sums" "[I") (by decide +kernel)) rfl dX10_keep_243 ?_
                              refine lv_bipush (v := 44) hx hb dX10_keep_246 (by decide) ?_
                              refine lv_iload_n hx hb dX10_keep_248 rfl (lv_at hl 5 rfl) ?_
                              refine lv_imul hx hb dX10_keep_249 ?_
                              refine lv_topi (fun v249 e249 => ?_)
                              have i249 : v249.toInt = 44 * k0.toInt := by rw [e249]; exact mulcL rfl (by omega) (by omega)
                              refine lv_bipush (v := 11) hx hb dX10_keep_250 (by decide) ?_
                              refine lv_iadd hx hb dX10_keep_252 ?_
                              refine lv_topi (fun v252 e252 => ?_)
                              have i252 : v252.toInt = v249.toInt + (11 : Int32).toInt := by rw [e252]; exact fb_addI (by omega) (by omega)
                              refine lv_iload hx hb dX10_keep_253 (lv_at hl 0 rfl) ?_
                              refine lv_iadd hx hb dX10_keep_255 ?_
                              refine lv_topi (fun v255 e255 => ?_)
                              have i255 : v255.toInt = v252.toInt + (nI i).toInt := by rw [e255]; exact fb_addI (by omega) (by omega)
                              refine lv_aload_n hx hb dX10_keep_256 rfl (lv_at hl 2 rfl) ?_
                              refine m_get (v := .ref (a 4)) hx hb hts hin hown hK hP 4 (by decide) rfl (hts (.fieldLink RX10 16 "ShadowBenchModel" "high" "[I") (by decide +kernel)) rfl dX10_keep_257 ?_
                              refine lv_iload_n hx hb dX10_keep_260 rfl (lv_at hl 5 rfl) ?_
                              refine m_iald (w := (r 4)) hx hb hK hP 3 rfl (vp_in_iff.mpr ⟨by omega, by omega⟩) dX10_keep_261 ?_
                              refine lv_topi (fun v261 e261 => ?_)
                              have i261 : v261.toInt = ((r 4) k0.toNatClampNeg).toInt := congrArg Int32.toInt e261
                              have w261 := mi_h hI (x := k0) (by omega) (by omega) e261
                              refine lv_isub hx hb dX10_keep_262 ?_
                              refine lv_topi (fun v262 e262 => ?_)
                              have i262 : v262.toInt = v255.toInt - v261.toInt := by rw [e262]; exact fb_subI (by omega) (by omega)
                              refine m_iald (w := (r 5)) hx hb hK hP 4 rfl (vp_in_iff.mpr ⟨by omega, by omega⟩) dX10_keep_263 ?_
                              refine lv_topi (fun v263 e263 => ?_)
                              have i263 : v263.toInt = ((r 5) v262.toNatClampNeg).toInt := congrArg Int32.toInt e263
                              refine lv_i2l (v := v263.toInt64) hx hb dX10_keep_264 rfl ?_
                              refine m_last (w := s3) hx hb hK hP hD hS 21 rfl (vp_in_iff.mpr ⟨by omega, by omega⟩) (va_up (va_up q 33 s3) 33 (vp_updL s3 v198.toNatClampNeg v263.toInt64)) (ms_33 cy mo a _ _ _ _ _) dX10_keep_265 (fun H locs hP hS => ?_)
                              have hP := wm_eq rfl rfl rfl (es_q_33__33 q s3 (vp_updL s3 v198.toNatClampNeg v263.toInt64)) hP
                              refine lv_iinc (v := (nI (i + 1))) (lv' := [(7, .int (nI (i + 1))), (6, .int (1 : Int32)), (0, .ref mo), (1, .int d), (2, .int what), (3, .int k0), (4, .long p0)]) hx hb dX10_keep_266 hl (k := 0) rfl (nI_1 _) (by decide) rfl (fun ls hl => ?_)
                              refine lv_goto (tgt := 177) hx hb dX10_keep_269 (by decide) ?_
                              have hP := wm_eq rfl rfl (ec_r_29_30_31_32__29_30_31_32 r ((upd (r 29) d.toNatClampNeg what)) ((upd (r 30) d.toNatClampNeg (0 : Int32))) ((upd (r 31) d.toNatClampNeg r149)) ((upd (r 32) d.toNatClampNeg k0))) rfl hP
                              exact ih_177 (i + 1) (vp_updL s3 v198.toNatClampNeg v263.toInt64) (by omega) (by omega) _ _ hP hS ls (lv_sub hl [0, 1, 2, 3, 4, 5, 6] rfl)
                            · skip
                              have d223 := c223
                              rw [fa_le] at d223
                              refine lv_aload_n hx hb dX10_keep_226 rfl (lv_at hl 2 rfl) ?_
                              refine m_get (v := .ref (a 5)) hx hb hts hin hown hK hP 5 (by decide) rfl (hts (.fieldLink RX10 19 "ShadowBenchModel" "sums" "[I") (by decide +kernel)) rfl dX10_keep_227 ?_
                              refine lv_bipush (v := 44) hx hb dX10_keep_230 (by decide) ?_
                              refine lv_iload_n hx hb dX10_keep_232 rfl (lv_at hl 5 rfl) ?_
                              refine lv_imul hx hb dX10_keep_233 ?_
                              refine lv_topi (fun v233 e233 => ?_)
                              have i233 : v233.toInt = 44 * k0.toInt := by rw [e233]; exact mulcL rfl (by omega) (by omega)
                              refine lv_iload hx hb dX10_keep_234 (lv_at hl 0 rfl) ?_
                              refine lv_iadd hx hb dX10_keep_236 ?_
                              refine lv_topi (fun v236 e236 => ?_)
                              have i236 : v236.toInt = v233.toInt + (nI i).toInt := by rw [e236]; exact fb_addI (by omega) (by omega)
                              refine m_iald (w := (r 5)) hx hb hK hP 4 rfl (vp_in_iff.mpr ⟨by omega, by omega⟩) dX10_keep_237 ?_
                              refine lv_topi (fun v237 e237 => ?_)
                              have i237 : v237.toInt = ((r 5) v236.toNatClampNeg).toInt := congrArg Int32.toInt e237
                              refine lv_i2l (v := v237.toInt64) hx hb dX10_keep_238 rfl ?_
                              refine lv_goto (tgt := 265) hx hb dX10_keep_239 (by decide) ?_
                              refine m_last (w := s3) hx hb hK hP hD hS 21 rfl (vp_in_iff.mpr ⟨by omega, by omega⟩) (va_up (va_up q 33 s3) 33 (vp_updL s3 v198.toNatClampNeg v237.toInt64)) (ms_33 cy mo a _ _ _ _ _) dX10_keep_265 (fun H locs hP hS => ?_)
                              have hP := wm_eq rfl rfl rfl (es_q_33__33 q s3 (vp_updL s3 v198.toNatClampNeg v237.toInt64)) hP
                              refine lv_iinc (v := (nI (i + 1))) (lv' := [(7, .int (nI (i + 1))), (6, .int (1 : Int32)), (0, .ref mo), (1, .int d), (2, .int what), (3, .int k0), (4, .long p0)]) hx hb dX10_keep_266 hl (k := 0) rfl (nI_1 _) (by decide) rfl (fun ls hl => ?_)
                              refine lv_goto (tgt := 177) hx hb dX10_keep_269 (by decide) ?_
                              have hP := wm_eq rfl rfl (ec_r_29_30_31_32__29_30_31_32 r ((upd (r 29) d.toNatClampNeg what)) ((upd (r 30) d.toNatClampNeg (0 : Int32))) ((upd (r 31) d.toNatClampNeg r149)) ((upd (r 32) d.toNatClampNeg k0))) rfl hP
                              exact ih_177 (i + 1) (vp_updL s3 v198.toNatClampNeg v237.toInt64) (by omega) (by omega) _ _ hP hS ls (lv_sub hl [0, 1, 2, 3, 4, 5, 6] rfl)
                          · first | exact absurd c201 c95 | exact absurd c95 c201
                    have hP := wm_eq rfl rfl (ec_r_29_30_31_32__29_30_31_32 r ((upd (r 29) d.toNatClampNeg what)) ((upd (r 30) d.toNatClampNeg (0 : Int32))) ((upd (r 31) d.toNatClampNeg r149)) ((upd (r 32) d.toNatClampNeg k0))) (ec_q___33 q ) hP
                    exact loop_177 (60 + 1) 0 (q 33) (by omega) (by omega) _ _ hP hS ls (lv_sub hl [0, 1, 2, 3, 4, 5, 6] rfl)
                  · skip
                    have d164 := c164
                    rw [fa_eq] at d164
                    refine lv_bipush (v := (-15)) hx hb dX10_keep_167 (by decide) ?_
                    refine lv_goto (tgt := 173) hx hb dX10_keep_169 (by decide) ?_
                    refine m_iast (w := (r 32)) hx hb hK hP hD hS 20 rfl (vp_in_iff.mpr ⟨by omega, by omega⟩) (va_up (va_up (va_up (va_up r 29 ((upd (r 29) d.toNatClampNeg what))) 30 ((upd (r 30) d.toNatClampNeg (0 : Int32)))) 31 ((upd (r 31) d.toNatClampNeg r149))) 32 (upd (r 32) d.toNatClampNeg (((-15) : Int32)))) (ms_32 cy mo a _ _ _ _ _) dX10_keep_173 (fun H locs hP hS => ?_)
                    refine lv_iconst (v := 0) hx hb dX10_keep_174 (by decide) ?_
                    refine lv_istore (lv' := [(7, .int (0 : Int32)), (6, .int (1 : Int32)), (0, .ref mo), (1, .int d), (2, .int what), (3, .int k0), (4, .long p0)]) hx hb dX10_keep_175 hl (by decide) rfl (fun ls hl => ?_)
                    have loop_177 : ∀ (n : Nat) (i : Nat) (s3 : Nat → Int64), (i ≤ 60) → 60 - i < n → ∀ (H : Heap) (locs : List Loc), va_P D vwCl (WM cy mo a (upd f 0 (0 : Int32)) g (va_up (va_up (va_up (va_up r 29 ((upd (r 29) d.toNatClampNeg what))) 30 ((upd (r 30) d.toNatClampNeg (0 : Int32)))) 31 ((upd (r 31) d.toNatClampNeg r149))) 32 ((upd (r 32) d.toNatClampNeg (((-15) : Int32))))) (va_up q 33 s3)) H → va_S (AM mo a) s.heap H locs → ∀ (ls : Array Slot), lv_has ls 8 [(7, .int (nI i)), (6, .int (1 : Int32)), (0, .ref mo), (1, .int d), (2, .int what), (3, .int k0), (4, .long p0)] → W p l e (headSpec wsX10_keep ({ frames := 3, cells := 0, slots := 0, locals := 69 })).room s m #[Value.ref mo, Value.int d, Value.int what, Value.int k0, Value.long p0] below meth c H locs 0 0 (MQ below (va_Qi (fun r0 u => ∃ (sh : Nat → Int32), ∃ (sz : Nat → Int32), ∃ (sw : Nat → Int32), ∃ (sf : Nat → Int32), ∃ (sr : Nat → Int64), u = ((upd f 0 (0 : Int32)), g, (va_up (va_up (va_up (va_up r 29 sh) 30 sz) 31 sw) 32 sf), (va_up q 33 sr)) ∧ (yesNo (okKeep (f 1) (fun j9 => (r 3 j9).toNatClampNeg) (fun j9 => (r 4 j9).toNatClampNeg) d what k0 p0) 0 (-1) r0 ∧ ((okKeep (f 1) (fun j9 => (r 3 j9).toNatClampNeg) (fun j9 => (r 4 j9).toNatClampNeg) d what k0 p0 ∧ sh = upd (r 29) d.toNatClampNeg what ∧ (what.toInt = 1 → sw = upd (r 31) d.toNatClampNeg (heR (r 2 k0.toNatClampNeg) (r 3 k0.toNatClampNeg).toNatClampNeg (r 4 k0.toNatClampNeg).toNatClampNeg (smN (fun s9 => r 8 (36 * k0.toNatClampNeg + s9)) 36))) ∧ (¬ what.toInt = 1 → sw = r 31)) ∨ (¬ okKeep (f 1) (fun j9 => (r 3 j9).toNatClampNeg) (fun j9 => (r 4 j9).toNatClampNeg) d what k0 p0 ∧ sh = r 29 ∧ sw = r 31)) ∧ MI (upd f 0 (0 : Int32)) (va_up (va_up (va_up (va_up r 29 sh) 30 sz) 31 sw) 32 sf))) (mB D cy mo a) (AM mo a)) #[Value.ref mo, Value.int d, Value.int what, Value.int k0, Value.long p0] s 0 0 (AM mo a)) (F0 m 177 ls []) := by
                      intro n
                      induction n with
                      | zero => intro i s3 j177_0 hn; exact absurd hn (Nat.not_lt_zero _)
                      | succ n ih_177 =>
                        intro i s3 j177_0 hn_177 H locs hP hS ls hl
                        have ii : (nI i).toInt = (i : Int) := nI_toInt (by omega)
                        refine lv_iload hx hb dX10_keep_177 (lv_at hl 0 rfl) ?_
                        refine lv_aload_n hx hb dX10_keep_179 rfl (lv_at hl 2 rfl) ?_
                        refine m_get (v := .ref (a 30)) hx hb hts hin hown hK hP 30 (by decide) rfl (hts (.fieldLink RX10 64 "ShadowBenchModel" "shelfSize" "[I") (by decide +kernel)) rfl dX10_keep_180 ?_
                        refine lv_iload_n hx hb dX10_keep_183 rfl (lv_at hl 3 rfl) ?_
                        refine m_iald (w := ((upd (r 30) d.toNatClampNeg (0 : Int32)))) hx hb hK hP 18 rfl (vp_in_iff.mpr ⟨by omega, by omega⟩) dX10_keep_184 ?_
                        refine lv_topi (fun v184 e184 => ?_)
                        have i184 : v184.toInt = (((upd (r 30) d.toNatClampNeg (0 : Int32))) d.toNatClampNeg).toInt := congrArg Int32.toInt e184
                        have z184 := e184
                        simp only [upd, if_true] at z184
                        have y184 := congrArg Int32.toInt z184
                        refine lv_icmp_ge (tgt := 272) hx hb dX10_keep_185 (by decide) (fun c185 => ?_) (fun c185 => ?_)
                        · skip
                          have d185 := c185
                          rw [fa_le] at d185
                          refine lv_iconst (v := 0) hx hb dX10_keep_272 (by decide) ?_
                          have hP := wm_eq rfl rfl (ec_r_29_30_31_32__29_30_31_32 r ((upd (r 29) d.toNatClampNeg what)) ((upd (r 30) d.toNatClampNeg (0 : Int32))) ((upd (r 31) d.toNatClampNeg r149)) ((upd (r 32) d.toNatClampNeg (((-15) : Int32))))) rfl hP
                          exact W.iret (v := (0 : Int32)) hx hb hr (fun t ht hW => ⟨⟨_, ((upd f 0 (0 : Int32)), g, (va_up (va_up (va_up (va_up r 29 (((upd (r 29) d.toNatClampNeg what)))) 30 (((upd (r 30) d.toNatClampNeg (0 : Int32))))) 31 (((upd (r 31) d.toNatClampNeg r149)))) 32 (((upd (r 32) d.toNatClampNeg (((-15) : Int32)))))), (va_up q 33 s3)), rfl, ⟨((upd (r 29) d.toNatClampNeg what)), ((upd (r 30) d.toNatClampNeg (0 : Int32))), ((upd (r 31) d.toNatClampNeg r149)), ((upd (r 32) d.toNatClampNeg (((-15) : Int32)))), s3, rfl, ⟨(Or.inl ⟨⟨b9, (by unfold okJob; first | exact Or.inl (by omega) | exact Or.inr (Or.inl ⟨by omega, b31⟩) | (have z9 := goodP_of b64; subst e52; subst e58; exact Or.inr (Or.inr ⟨by omega, b44, z9.2⟩)))⟩, rfl⟩), (Or.inl ⟨⟨b9, (by unfold okJob; first | exact Or.inl (by omega) | exact Or.inr (Or.inl ⟨by omega, b31⟩) | (have z9 := goodP_of b64; subst e52; subst e58; exact Or.inr (Or.inr ⟨by omega, b44, z9.2⟩)))⟩, rfl, (by first | exact ⟨fun _ => congrArg (fun z9 => upd (r 31) d.toNatClampNeg z9) q149, fun z9 => by exfalso; omega⟩ | exact ⟨fun z9 => by exfalso; omega, fun _ => rfl⟩)⟩), by first | exact hI | exact mi_sz (d := d) hI (v := v110) (by omega) rfl rfl rfl rfl rfl rfl rfl rfl | exact mi_sz (d := d) hI (v := v131) (by omega) rfl rfl rfl rfl rfl rfl rfl rfl | exact mi_sz (d := d) hI (v := 0) (by decide) rfl rfl rfl rfl rfl rfl rfl rfl⟩⟩, by unfold mB; rw [ht]; exact hP⟩, hS.F ht⟩) hS.2.2 dX10_keep_273
                        · skip
                          have d185 := c185
                          rw [fa_le] at d185
                          refine lv_aload_n hx hb dX10_keep_188 rfl (lv_at hl 2 rfl) ?_
                          refine m_get (v := .ref (a 33)) hx hb hts hin hown hK hP 33 (by decide) rfl (hts (.fieldLink RX10 73 "ShadowBenchModel" "shelfRow" "[J") (by decide +kernel)) rfl dX10_keep_189 ?_
                          refine lv_bipush (v := 60) hx hb dX10_keep_192 (by decide) ?_
                          refine lv_iload_n hx hb dX10_keep_194 rfl (lv_at hl 3 rfl) ?_
                          refine lv_imul hx hb dX10_keep_195 ?_
                          refine lv_topi (fun v195 e195 => ?_)
                          have i195 : v195.toInt = 60 * d.toInt := by rw [e195]; exact mulcL rfl (by omega) (by omega)
                          refine lv_iload hx hb dX10_keep_196 (lv_at hl 0 rfl) ?_
                          refine lv_iadd hx hb dX10_keep_198 ?_
                          refine lv_topi (fun v198 e198 => ?_)
                          have i198 : v198.toInt = v195.toInt + (nI i).toInt := by rw [e198]; exact fb_addI (by omega) (by omega)
                          refine lv_iload_n hx hb dX10_keep_199 rfl (lv_at hl 4 rfl) ?_
                          refine lv_iconst (v := 3) hx hb dX10_keep_200 (by decide) ?_
                          refine lv_icmp_ne (tgt := 215) hx hb dX10_keep_201 (by decide) (fun c201 => ?_) (fun c201 => ?_)
                          · skip
                            have d201 := c201
                            rw [fa_eq] at d201
                            refine lv_iload hx hb dX10_keep_215 (lv_at hl 0 rfl) ?_
                            refine lv_aload_n hx hb dX10_keep_217 rfl (lv_at hl 2 rfl) ?_
                            refine m_get (v := .ref (a 4)) hx hb hts hin hown hK hP 4 (by decide) rfl (hts (.fieldLink RX10 16 "ShadowBenchModel" "high" "[I") (by decide +kernel)) rfl dX10_keep_218 ?_
                            refine lv_iload_n hx hb dX10_keep_221 rfl (lv_at hl 5 rfl) ?_
                            refine m_iald (w := (r 4)) hx hb hK hP 3 rfl (vp_in_iff.mpr ⟨by omega, by omega⟩) dX10_keep_222 ?_
                            refine lv_topi (fun v222 e222 => ?_)
                            have i222 : v222.toInt = ((r 4) k0.toNatClampNeg).toInt := congrArg Int32.toInt e222
                            have w222 := mi_h hI (x := k0) (by omega) (by omega) e222
                            refine lv_icmp_ge (tgt := 242) hx hb dX10_keep_223 (by decide) (fun c223 => ?_) (fun c223 => ?_)
                            · skip
                              have d223 := c223
                              rw [fa_le] at d223
                              refine lv_aload_n hx hb dX10_keep_242 rfl (lv_at hl 2 rfl) ?_
                              refine m_get (v := .ref (a 5)) hx hb hts hin hown hK hP 5 (by decide) rfl (hts (.fieldLink RX10 19 "ShadowBenchModel" "sums" "[I") (by decide +kernel)) rfl dX10_keep_243 ?_
                              refine lv_bipush (v := 44) hx hb dX10_keep_246 (by decide) ?_
                              refine lv_iload_n hx hb dX10_keep_248 rfl (lv_at hl 5 rfl) ?_
                              refine lv_imul hx hb dX10_keep_249 ?_
                              refine lv_topi (fun v249 e249 => ?_)
                              have i249 : v249.toInt = 44 * k0.toInt := by rw [e249]; exact mulcL rfl (by omega) (by omega)
                              refine lv_bipush (v := 11) hx hb dX10_keep_250 (by decide) ?_
                              refine lv_iadd hx hb dX10_keep_252 ?_
                              refine lv_topi (fun v252 e252 => ?_)
                              have i252 : v252.toInt = v249.toInt + (11 : Int32).toInt := by rw [e252]; exact fb_addI (by omega) (by omega)
                              refine lv_iload hx hb dX10_keep_253 (lv_at hl 0 rfl) ?_
                              refine lv_iadd hx hb dX10_keep_255 ?_
                              refine lv_topi (fun v255 e255 => ?_)
                              have i255 : v255.toInt = v252.toInt + (nI i).toInt := by rw [e255]; exact fb_addI (by omega) (by omega)
                              refine lv_aload_n hx hb dX10_keep_256 rfl (lv_at hl 2 rfl) ?_
                              refine m_get (v := .ref (a 4)) hx hb hts hin hown hK hP 4 (by decide) rfl (hts (.fieldLink RX10 16 "ShadowBenchModel" "high" "[I") (by decide +kernel)) rfl dX10_keep_257 ?_
                              refine lv_iload_n hx hb dX10_keep_260 rfl (lv_at hl 5 rfl) ?_
                              refine m_iald (w := (r 4)) hx hb hK hP 3 rfl (vp_in_iff.mpr ⟨by omega, by omega⟩) dX10_keep_261 ?_
                              refine lv_topi (fun v261 e261 => ?_)
                              have i261 : v261.toInt = ((r 4) k0.toNatClampNeg).toInt := congrArg Int32.toInt e261
                              have w261 := mi_h hI (x := k0) (by omega) (by omega) e261
                              refine lv_isub hx hb dX10_keep_262 ?_
                              refine lv_topi (fun v262 e262 => ?_)
                              have i262 : v262.toInt = v255.toInt - v261.toInt := by rw [e262]; exact fb_subI (by omega) (by omega)
                              refine m_iald (w := (r 5)) hx hb hK hP 4 rfl (vp_in_iff.mpr ⟨by omega, by omega⟩) dX10_keep_263 ?_
                              refine lv_topi (fun v263 e263 => ?_)
                              have i263 : v263.toInt = ((r 5) v262.toNatClampNeg).toInt := congrArg Int32.toInt e263
                              refine lv_i2l (v := v263.toInt64) hx hb dX10_keep_264 rfl ?_
                              refine m_last (w := s3) hx hb hK hP hD hS 21 rfl (vp_in_iff.mpr ⟨by omega, by omega⟩) (va_up (va_up q 33 s3) 33 (vp_updL s3 v198.toNatClampNeg v263.toInt64)) (ms_33 cy mo a _ _ _ _ _) dX10_keep_265 (fun H locs hP hS => ?_)
                              have hP := wm_eq rfl rfl rfl (es_q_33__33 q s3 (vp_updL s3 v198.toNatClampNeg v263.toInt64)) hP
                              refine lv_iinc (v := (nI (i + 1))) (lv' := [(7, .int (nI (i + 1))), (6, .int (1 : Int32)), (0, .ref mo), (1, .int d), (2, .int what), (3, .int k0), (4, .long p0)]) hx hb dX10_keep_266 hl (k := 0) rfl (nI_1 _) (by decide) rfl (fun ls hl => ?_)
                              refine lv_goto (tgt := 177) hx hb dX10_keep_269 (by decide) ?_
                              have hP := wm_eq rfl rfl (ec_r_29_30_31_32__29_30_31_32 r ((upd (r 29) d.toNatClampNeg what)) ((upd (r 30) d.toNatClampNeg (0 : Int32))) ((upd (r 31) d.toNatClampNeg r149)) ((upd (r 32) d.toNatClampNeg (((-15) : Int32))))) rfl hP
                              exact ih_177 (i + 1) (vp_updL s3 v198.toNatClampNeg v263.toInt64) (by omega) (by omega) _ _ hP hS ls (lv_sub hl [0, 1, 2, 3, 4, 5, 6] rfl)
                            · skip
                              have d223 := c223
                              rw [fa_le] at d223
                              refine lv_aload_n hx hb dX10_keep_226 rfl (lv_at hl 2 rfl) ?_
                              refine m_get (v := .ref (a 5)) hx hb hts hin hown hK hP 5 (by decide) rfl (hts (.fieldLink RX10 19 "ShadowBenchModel" "sums" "[I") (by decide +kernel)) rfl dX10_keep_227 ?_
                              refine lv_bipush (v := 44) hx hb dX10_keep_230 (by decide) ?_
                              refine lv_iload_n hx hb dX10_keep_232 rfl (lv_at hl 5 rfl) ?_
                              refine lv_imul hx hb dX10_keep_233 ?_
                              refine lv_topi (fun v233 e233 => ?_)
                              have i233 : v233.toInt = 44 * k0.toInt := by rw [e233]; exact mulcL rfl (by omega) (by omega)
                              refine lv_iload hx hb dX10_keep_234 (lv_at hl 0 rfl) ?_
                              refine lv_iadd hx hb dX10_keep_236 ?_
                              refine lv_topi (fun v236 e236 => ?_)
                              have i236 : v236.toInt = v233.toInt + (nI i).toInt := by rw [e236]; exact fb_addI (by omega) (by omega)
                              refine m_iald (w := (r 5)) hx hb hK hP 4 rfl (vp_in_iff.mpr ⟨by omega, by omega⟩) dX10_keep_237 ?_
                              refine lv_topi (fun v237 e237 => ?_)
                              have i237 : v237.toInt = ((r 5) v236.toNatClampNeg).toInt := congrArg Int32.toInt e237
                              refine lv_i2l (v := v237.toInt64) hx hb dX10_keep_238 rfl ?_
                              refine lv_goto (tgt := 265) hx hb dX10_keep_239 (by decide) ?_
                              refine m_last (w := s3) hx hb hK hP hD hS 21 rfl (vp_in_iff.mpr ⟨by omega, by omega⟩) (va_up (va_up q 33 s3) 33 (vp_updL s3 v198.toNatClampNeg v237.toInt64)) (ms_33 cy mo a _ _ _ _ _) dX10_keep_265 (fun H locs hP hS => ?_)
                              have hP := wm_eq rfl rfl rfl (es_q_33__33 q s3 (vp_updL s3 v198.toNatClampNeg v237.toInt64)) hP
                              refine lv_iinc (v := (nI (i + 1))) (lv' := [(7, .int (nI (i + 1))), (6, .int (1 : Int32)), (0, .ref mo), (1, .int d), (2, .int what), (3, .int k0), (4, .long p0)]) hx hb dX10_keep_266 hl (k := 0) rfl (nI_1 _) (by decide) rfl (fun ls hl => ?_)
                              refine lv_goto (tgt := 177) hx hb dX10_keep_269 (by decide) ?_
                              have hP := wm_eq rfl rfl (ec_r_29_30_31_32__29_30_31_32 r ((upd (r 29) d.toNatClampNeg what)) ((upd (r 30) d.toNatClampNeg (0 : Int32))) ((upd (r 31) d.toNatClampNeg r149)) ((upd (r 32) d.toNatClampNeg (((-15) : Int32))))) rfl hP
                              exact ih_177 (i + 1) (vp_updL s3 v198.toNatClampNeg v237.toInt64) (by omega) (by omega) _ _ hP hS ls (lv_sub hl [0, 1, 2, 3, 4, 5, 6] rfl)
                          · first | exact absurd c201 c95 | exact absurd c95 c201
                    have hP := wm_eq rfl rfl (ec_r_29_30_31_32__29_30_31_32 r ((upd (r 29) d.toNatClampNeg what)) ((upd (r 30) d.toNatClampNeg (0 : Int32))) ((upd (r 31) d.toNatClampNeg r149)) ((upd (r 32) d.toNatClampNeg (((-15) : Int32))))) (ec_q___33 q ) hP
                    exact loop_177 (60 + 1) 0 (q 33) (by omega) (by omega) _ _ hP hS ls (lv_sub hl [0, 1, 2, 3, 4, 5, 6] rfl)
              · skip
                have d116 := c116
                rw [fa_eq] at d116
                refine lv_aload_n hx hb dX10_keep_119 rfl (lv_at hl 1 rfl) ?_
                refine m_get (v := .ref (a 4)) hx hb hts hin hown hK hP 4 (by decide) rfl (hts (.fieldLink RX10 16 "ShadowBenchModel" "high" "[I") (by decide +kernel)) rfl dX10_keep_120 ?_
                refine lv_iload_n hx hb dX10_keep_123 rfl (lv_at hl 4 rfl) ?_
                refine m_iald (w := (r 4)) hx hb hK hP 3 rfl (vp_in_iff.mpr ⟨by omega, by omega⟩) dX10_keep_124 ?_
                refine lv_topi (fun v124 e124 => ?_)
                have i124 : v124.toInt = ((r 4) k0.toNatClampNeg).toInt := congrArg Int32.toInt e124
                have w124 := mi_h hI (x := k0) (by omega) (by omega) e124
                refine lv_aload_n hx hb dX10_keep_125 rfl (lv_at hl 1 rfl) ?_
                refine m_get (v := .ref (a 3)) hx hb hts hin hown hK hP 3 (by decide) rfl (hts (.fieldLink RX10 13 "ShadowBenchModel" "wide" "[I") (by decide +kernel)) rfl dX10_keep_126 ?_
                refine lv_iload_n hx hb dX10_keep_129 rfl (lv_at hl 4 rfl) ?_
                refine m_iald (w := (r 3)) hx hb hK hP 2 rfl (vp_in_iff.mpr ⟨by omega, by omega⟩) dX10_keep_130 ?_
                refine lv_topi (fun v130 e130 => ?_)
                have i130 : v130.toInt = ((r 3) k0.toNatClampNeg).toInt := congrArg Int32.toInt e130
                have w130 := mi_w hI (x := k0) (by omega) (by omega) e130
                refine lv_iadd hx hb dX10_keep_131 ?_
                refine lv_topi (fun v131 e131 => ?_)
                have i131 : v131.toInt = v124.toInt + v130.toInt := by rw [e131]; exact fb_addI (by omega) (by omega)
                refine lv_goto (tgt := 136) hx hb dX10_keep_132 (by decide) ?_
                refine m_iast (w := (r 30)) hx hb hK hP hD hS 18 rfl (vp_in_iff.mpr ⟨by omega, by omega⟩) (va_up (va_up r 29 ((upd (r 29) d.toNatClampNeg what))) 30 (upd (r 30) d.toNatClampNeg v131)) (ms_30 cy mo a _ _ _ _ _) dX10_keep_136 (fun H locs hP hS => ?_)
                refine lv_iload_n hx hb dX10_keep_137 rfl (lv_at hl 3 rfl) ?_
                refine lv_iconst (v := 1) hx hb dX10_keep_138 (by decide) ?_
                refine lv_icmp_ne (tgt := 174) hx hb dX10_keep_139 (by decide) (fun c139 => ?_) (fun c139 => ?_)
                · skip
                  have d139 := c139
                  rw [fa_eq] at d139
                  refine lv_iconst (v := 0) hx hb dX10_keep_174 (by decide) ?_
                  refine lv_istore (lv' := [(7, .int (0 : Int32)), (6, .int (1 : Int32)), (0, .ref mo), (1, .int d), (2, .int what), (3, .int k0), (4, .long p0)]) hx hb dX10_keep_175 hl (by decide) rfl (fun ls hl => ?_)
                  have loop_177 : ∀ (n : Nat) (i : Nat) (s3 : Nat → Int64), (i ≤ 60) → 60 - i < n → ∀ (H : Heap) (locs : List Loc), va_P D vwCl (WM cy mo a (upd f 0 (0 : Int32)) g (va_up (va_up r 29 ((upd (r 29) d.toNatClampNeg what))) 30 ((upd (r 30) d.toNatClampNeg v131))) (va_up q 33 s3)) H → va_S (AM mo a) s.heap H locs → ∀ (ls : Array Slot), lv_has ls 8 [(7, .int (nI i)), (6, .int (1 : Int32)), (0, .ref mo), (1, .int d), (2, .int what), (3, .int k0), (4, .long p0)] → W p l e (headSpec wsX10_keep ({ frames := 3, cells := 0, slots := 0, locals := 69 })).room s m #[Value.ref mo, Value.int d, Value.int what, Value.int k0, Value.long p0] below meth c H locs 0 0 (MQ below (va_Qi (fun r0 u => ∃ (sh : Nat → Int32), ∃ (sz : Nat → Int32), ∃ (sw : Nat → Int32), ∃ (sf : Nat → Int32), ∃ (sr : Nat → Int64), u = ((upd f 0 (0 : Int32)), g, (va_up (va_up (va_up (va_up r 29 sh) 30 sz) 31 sw) 32 sf), (va_up q 33 sr)) ∧ (yesNo (okKeep (f 1) (fun j9 => (r 3 j9).toNatClampNeg) (fun j9 => (r 4 j9).toNatClampNeg) d what k0 p0) 0 (-1) r0 ∧ ((okKeep (f 1) (fun j9 => (r 3 j9).toNatClampNeg) (fun j9 => (r 4 j9).toNatClampNeg) d what k0 p0 ∧ sh = upd (r 29) d.toNatClampNeg what ∧ (what.toInt = 1 → sw = upd (r 31) d.toNatClampNeg (heR (r 2 k0.toNatClampNeg) (r 3 k0.toNatClampNeg).toNatClampNeg (r 4 k0.toNatClampNeg).toNatClampNeg (smN (fun s9 => r 8 (36 * k0.toNatClampNeg + s9)) 36))) ∧ (¬ what.toInt = 1 → sw = r 31)) ∨ (¬ okKeep (f 1) (fun j9 => (r 3 j9).toNatClampNeg) (fun j9 => (r 4 j9).toNatClampNeg) d what k0 p0 ∧ sh = r 29 ∧ sw = r 31)) ∧ MI (upd f 0 (0 : Int32)) (va_up (va_up (va_up (va_up r 29 sh) 30 sz) 31 sw) 32 sf))) (mB D cy mo a) (AM mo a)) #[Value.ref mo, Value.int d, Value.int what, Value.int k0, Value.long p0] s 0 0 (AM mo a)) (F0 m 177 ls []) := by
                    intro n
                    induction n with
                    | zero => intro i s3 j177_0 hn; exact absurd hn (Nat.not_lt_zero _)
                    | succ n ih_177 =>
                      intro i s3 j177_0 hn_177 H locs hP hS ls hl
                      have ii : (nI i).toInt = (i : Int) := nI_toInt (by omega)
                      refine lv_iload hx hb dX10_keep_177 (lv_at hl 0 rfl) ?_
                      refine lv_aload_n hx hb dX10_keep_179 rfl (lv_at hl 2 rfl) ?_
                      refine m_get (v := .ref (a 30)) hx hb hts hin hown hK hP 30 (by decide) rfl (hts (.fieldLink RX10 64 "ShadowBenchModel" "shelfSize" "[I") (by decide +kernel)) rfl dX10_keep_180 ?_
                      refine lv_iload_n hx hb dX10_keep_183 rfl (lv_at hl 3 rfl) ?_
                      refine m_iald (w := ((upd (r 30) d.toNatClampNeg v131))) hx hb hK hP 18 rfl (vp_in_iff.mpr ⟨by omega, by omega⟩) dX10_keep_184 ?_
                      refine lv_topi (fun v184 e184 => ?_)
                      have i184 : v184.toInt = (((upd (r 30) d.toNatClampNeg v131)) d.toNatClampNeg).toInt := congrArg Int32.toInt e184
                      have z184 := e184
                      simp only [upd, if_true] at z184
                      have y184 := congrArg Int32.toInt z184
                      refine lv_icmp_ge (tgt := 272) hx hb dX10_keep_185 (by decide) (fun c185 => ?_) (fun c185 => ?_)
                      · skip
                        have d185 := c185
                        rw [fa_le] at d185
                        refine lv_iconst (v := 0) hx hb dX10_keep_272 (by decide) ?_
                        have hP := wm_eq rfl rfl (ec_r_29_30__29_30_31_32 r ((upd (r 29) d.toNatClampNeg what)) ((upd (r 30) d.toNatClampNeg v131))) rfl hP
                        exact W.iret (v := (0 : Int32)) hx hb hr (fun t ht hW => ⟨⟨_, ((upd f 0 (0 : Int32)), g, (va_up (va_up (va_up (va_up r 29 (((upd (r 29) d.toNatClampNeg what)))) 30 (((upd (r 30) d.toNatClampNeg v131)))) 31 (r 31)) 32 (r 32)), (va_up q 33 s3)), rfl, ⟨((upd (r 29) d.toNatClampNeg what)), ((upd (r 30) d.toNatClampNeg v131)), (r 31), (r 32), s3, rfl, ⟨(Or.inl ⟨⟨b9, (by unfold okJob; first | exact Or.inl (by omega) | exact Or.inr (Or.inl ⟨by omega, b31⟩) | (have z9 := goodP_of b64; subst e52; subst e58; exact Or.inr (Or.inr ⟨by omega, b44, z9.2⟩)))⟩, rfl⟩), (Or.inl ⟨⟨b9, (by unfold okJob; first | exact Or.inl (by omega) | exact Or.inr (Or.inl ⟨by omega, b31⟩) | (have z9 := goodP_of b64; subst e52; subst e58; exact Or.inr (Or.inr ⟨by omega, b44, z9.2⟩)))⟩, rfl, (by first | exact ⟨fun _ => congrArg (fun z9 => upd (r 31) d.toNatClampNeg z9) q149, fun z9 => by exfalso; omega⟩ | exact ⟨fun z9 => by exfalso; omega, fun _ => rfl⟩)⟩), by first | exact hI | exact mi_sz (d := d) hI (v := v110) (by omega) rfl rfl rfl rfl rfl rfl rfl rfl | exact mi_sz (d := d) hI (v := v131) (by omega) rfl rfl rfl rfl rfl rfl rfl rfl | exact mi_sz (d := d) hI (v := 0) (by decide) rfl rfl rfl rfl rfl rfl rfl rfl⟩⟩, by unfold mB; rw [ht]; exact hP⟩, hS.F ht⟩) hS.2.2 dX10_keep_273
                      · skip
                        have d185 := c185
                        rw [fa_le] at d185
                        refine lv_aload_n hx hb dX10_keep_188 rfl (lv_at hl 2 rfl) ?_
                        refine m_get (v := .ref (a 33)) hx hb hts hin hown hK hP 33 (by decide) rfl (hts (.fieldLink RX10 73 "ShadowBenchModel" "shelfRow" "[J") (by decide +kernel)) rfl dX10_keep_189 ?_
                        refine lv_bipush (v := 60) hx hb dX10_keep_192 (by decide) ?_
                        refine lv_iload_n hx hb dX10_keep_194 rfl (lv_at hl 3 rfl) ?_
                        refine lv_imul hx hb dX10_keep_195 ?_
                        refine lv_topi (fun v195 e195 => ?_)
                        have i195 : v195.toInt = 60 * d.toInt := by rw [e195]; exact mulcL rfl (by omega) (by omega)
                        refine lv_iload hx hb dX10_keep_196 (lv_at hl 0 rfl) ?_
                        refine lv_iadd hx hb dX10_keep_198 ?_
                        refine lv_topi (fun v198 e198 => ?_)
                        have i198 : v198.toInt = v195.toInt + (nI i).toInt := by rw [e198]; exact fb_addI (by omega) (by omega)
                        refine lv_iload_n hx hb dX10_keep_199 rfl (lv_at hl 4 rfl) ?_
                        refine lv_iconst (v := 3) hx hb dX10_keep_200 (by decide) ?_
                        refine lv_icmp_ne (tgt := 215) hx hb dX10_keep_201 (by decide) (fun c201 => ?_) (fun c201 => ?_)
                        · skip
                          have d201 := c201
                          rw [fa_eq] at d201
                          refine lv_iload hx hb dX10_keep_215 (lv_at hl 0 rfl) ?_
                          refine lv_aload_n hx hb dX10_keep_217 rfl (lv_at hl 2 rfl) ?_
                          refine m_get (v := .ref (a 4)) hx hb hts hin hown hK hP 4 (by decide) rfl (hts (.fieldLink RX10 16 "ShadowBenchModel" "high" "[I") (by decide +kernel)) rfl dX10_keep_218 ?_
                          refine lv_iload_n hx hb dX10_keep_221 rfl (lv_at hl 5 rfl) ?_
                          refine m_iald (w := (r 4)) hx hb hK hP 3 rfl (vp_in_iff.mpr ⟨by omega, by omega⟩) dX10_keep_222 ?_
                          refine lv_topi (fun v222 e222 => ?_)
                          have i222 : v222.toInt = ((r 4) k0.toNatClampNeg).toInt := congrArg Int32.toInt e222
                          have w222 := mi_h hI (x := k0) (by omega) (by omega) e222
                          refine lv_icmp_ge (tgt := 242) hx hb dX10_keep_223 (by decide) (fun c223 => ?_) (fun c223 => ?_)
                          · skip
                            have d223 := c223
                            rw [fa_le] at d223
                            refine lv_aload_n hx hb dX10_keep_242 rfl (lv_at hl 2 rfl) ?_
                            refine m_get (v := .ref (a 5)) hx hb hts hin hown hK hP 5 (by decide) rfl (hts (.fieldLink RX10 19 "ShadowBenchModel" "sums" "[I") (by decide +kernel)) rfl dX10_keep_243 ?_
                            refine lv_bipush (v := 44) hx hb dX10_keep_246 (by decide) ?_
                            refine lv_iload_n hx hb dX10_keep_248 rfl (lv_at hl 5 rfl) ?_
                            refine lv_imul hx hb dX10_keep_249 ?_
                            refine lv_topi (fun v249 e249 => ?_)
                            have i249 : v249.toInt = 44 * k0.toInt := by rw [e249]; exact mulcL rfl (by omega) (by omega)
                            refine lv_bipush (v := 11) hx hb dX10_keep_250 (by decide) ?_
                            refine lv_iadd hx hb dX10_keep_252 ?_
                            refine lv_topi (fun v252 e252 => ?_)
                            have i252 : v252.toInt = v249.toInt + (11 : Int32).toInt := by rw [e252]; exact fb_addI (by omega) (by omega)
                            refine lv_iload hx hb dX10_keep_253 (lv_at hl 0 rfl) ?_
                            refine lv_iadd hx hb dX10_keep_255 ?_
                            refine lv_topi (fun v255 e255 => ?_)
                            have i255 : v255.toInt = v252.toInt + (nI i).toInt := by rw [e255]; exact fb_addI (by omega) (by omega)
                            refine lv_aload_n hx hb dX10_keep_256 rfl (lv_at hl 2 rfl) ?_
                            refine m_get (v := .ref (a 4)) hx hb hts hin hown hK hP 4 (by decide) rfl (hts (.fieldLink RX10 16 "ShadowBenchModel" "high" "[I") (by decide +kernel)) rfl dX10_keep_257 ?_
                            refine lv_iload_n hx hb dX10_keep_260 rfl (lv_at hl 5 rfl) ?_
                            refine m_iald (w := (r 4)) hx hb hK hP 3 rfl (vp_in_iff.mpr ⟨by omega, by omega⟩) dX10_keep_261 ?_
                            refine lv_topi (fun v261 e261 => ?_)
                            have i261 : v261.toInt = ((r 4) k0.toNatClampNeg).toInt := congrArg Int32.toInt e261
                            have w261 := mi_h hI (x := k0) (by omega) (by omega) e261
                            refine lv_isub hx hb dX10_keep_262 ?_
                            refine lv_topi (fun v262 e262 => ?_)
                            have i262 : v262.toInt = v255.toInt - v261.toInt := by rw [e262]; exact fb_subI (by omega) (by omega)
                            refine m_iald (w := (r 5)) hx hb hK hP 4 rfl (vp_in_iff.mpr ⟨by omega, by omega⟩) dX10_keep_263 ?_
                            refine lv_topi (fun v263 e263 => ?_)
                            have i263 : v263.toInt = ((r 5) v262.toNatClampNeg).toInt := congrArg Int32.toInt e263
                            refine lv_i2l (v := v263.toInt64) hx hb dX10_keep_264 rfl ?_
                            refine m_last (w := s3) hx hb hK hP hD hS 21 rfl (vp_in_iff.mpr ⟨by omega, by omega⟩) (va_up (va_up q 33 s3) 33 (vp_updL s3 v198.toNatClampNeg v263.toInt64)) (ms_33 cy mo a _ _ _ _ _) dX10_keep_265 (fun H locs hP hS => ?_)
                            have hP := wm_eq rfl rfl rfl (es_q_33__33 q s3 (vp_updL s3 v198.toNatClampNeg v263.toInt64)) hP
                            refine lv_iinc (v := (nI (i + 1))) (lv' := [(7, .int (nI (i + 1))), (6, .int (1 : Int32)), (0, .ref mo), (1, .int d), (2, .int what), (3, .int k0), (4, .long p0)]) hx hb dX10_keep_266 hl (k := 0) rfl (nI_1 _) (by decide) rfl (fun ls hl => ?_)
                            refine lv_goto (tgt := 177) hx hb dX10_keep_269 (by decide) ?_
                            have hP := wm_eq rfl rfl (ec_r_29_30__29_30 r ((upd (r 29) d.toNatClampNeg what)) ((upd (r 30) d.toNatClampNeg v131))) rfl hP
                            exact ih_177 (i + 1) (vp_updL s3 v198.toNatClampNeg v263.toInt64) (by omega) (by omega) _ _ hP hS ls (lv_sub hl [0, 1, 2, 3, 4, 5, 6] rfl)
                          · skip
                            have d223 := c223
                            rw [fa_le] at d223
                            refine lv_aload_n hx hb dX10_keep_226 rfl (lv_at hl 2 rfl) ?_
                            refine m_get (v := .ref (a 5)) hx hb hts hin hown hK hP 5 (by decide) rfl (hts (.fieldLink RX10 19 "ShadowBenchModel" "sums" "[I") (by decide +kernel)) rfl dX10_keep_227 ?_
                            refine lv_bipush (v := 44) hx hb dX10_keep_230 (by decide) ?_
                            refine lv_iload_n hx hb dX10_keep_232 rfl (lv_at hl 5 rfl) ?_
                            refine lv_imul hx hb dX10_keep_233 ?_
                            refine lv_topi (fun v233 e233 => ?_)
                            have i233 : v233.toInt = 44 * k0.toInt := by rw [e233]; exact mulcL rfl (by omega) (by omega)
                            refine lv_iload hx hb dX10_keep_234 (lv_at hl 0 rfl) ?_
                            refine lv_iadd hx hb dX10_keep_236 ?_
                            refine lv_topi (fun v236 e236 => ?_)
                            have i236 : v236.toInt = v233.toInt + (nI i).toInt := by rw [e236]; exact fb_addI (by omega) (by omega)
                            refine m_iald (w := (r 5)) hx hb hK hP 4 rfl (vp_in_iff.mpr ⟨by omega, by omega⟩) dX10_keep_237 ?_
                            refine lv_topi (fun v237 e237 => ?_)
                            have i237 : v237.toInt = ((r 5) v236.toNatClampNeg).toInt := congrArg Int32.toInt e237
                            refine lv_i2l (v := v237.toInt64) hx hb dX10_keep_238 rfl ?_
                            refine lv_goto (tgt := 265) hx hb dX10_keep_239 (by decide) ?_
                            refine m_last (w := s3) hx hb hK hP hD hS 21 rfl (vp_in_iff.mpr ⟨by omega, by omega⟩) (va_up (va_up q 33 s3) 33 (vp_updL s3 v198.toNatClampNeg v237.toInt64)) (ms_33 cy mo a _ _ _ _ _) dX10_keep_265 (fun H locs hP hS => ?_)
                            have hP := wm_eq rfl rfl rfl (es_q_33__33 q s3 (vp_updL s3 v198.toNatClampNeg v237.toInt64)) hP
                            refine lv_iinc (v := (nI (i + 1))) (lv' := [(7, .int (nI (i + 1))), (6, .int (1 : Int32)), (0, .ref mo), (1, .int d), (2, .int what), (3, .int k0), (4, .long p0)]) hx hb dX10_keep_266 hl (k := 0) rfl (nI_1 _) (by decide) rfl (fun ls hl => ?_)
                            refine lv_goto (tgt := 177) hx hb dX10_keep_269 (by decide) ?_
                            have hP := wm_eq rfl rfl (ec_r_29_30__29_30 r ((upd (r 29) d.toNatClampNeg what)) ((upd (r 30) d.toNatClampNeg v131))) rfl hP
                            exact ih_177 (i + 1) (vp_updL s3 v198.toNatClampNeg v237.toInt64) (by omega) (by omega) _ _ hP hS ls (lv_sub hl [0, 1, 2, 3, 4, 5, 6] rfl)
                        · first | exact absurd c201 c95 | exact absurd c95 c201
                  have hP := wm_eq rfl rfl (ec_r_29_30__29_30 r ((upd (r 29) d.toNatClampNeg what)) ((upd (r 30) d.toNatClampNeg v131))) (ec_q___33 q ) hP
                  exact loop_177 (60 + 1) 0 (q 33) (by omega) (by omega) _ _ hP hS ls (lv_sub hl [0, 1, 2, 3, 4, 5, 6] rfl)
                · skip
                  have d139 := c139
                  rw [fa_eq] at d139
                  refine lv_aload_n hx hb dX10_keep_142 rfl (lv_at hl 1 rfl) ?_
                  refine m_get (v := .ref (a 31)) hx hb hts hin hown hK hP 31 (by decide) rfl (hts (.fieldLink RX10 67 "ShadowBenchModel" "shelfWeight" "[I") (by decide +kernel)) rfl dX10_keep_143 ?_
                  refine lv_iload_n hx hb dX10_keep_146 rfl (lv_at hl 2 rfl) ?_
                  refine lv_aload_n hx hb dX10_keep_147 rfl (lv_at hl 1 rfl) ?_
                  refine lv_iload_n hx hb dX10_keep_148 rfl (lv_at hl 4 rfl) ?_
                  refine m_calli (As := [.int k0]) (rest := [.int d, .ref (a 31)]) ⟨hx, hb, hml, hown, hts⟩ (c_X10_weightOf_x l D cy mo a (upd f 0 (0 : Int32)) g (va_up (va_up r 29 ((upd (r 29) d.toNatClampNeg what))) 30 ((upd (r 30) d.toNatClampNeg v131))) q k0 hD (by first | exact hI | exact mi_sz (d := d) hI (v := 0) (by first | omega | decide) rfl rfl rfl rfl rfl rfl rfl rfl | exact mi_sz (d := d) hI (v := v131) (by first | omega | decide) rfl rfl rfl rfl rfl rfl rfl rfl | exact mi_sz (d := d) hI (v := v110) (by first | omega | decide) rfl rfl rfl rfl rfl rfl rfl rfl) (show 0 ≤ k0.toInt ∧ k0.toInt < (f 1).toInt by omega)) (cwV 1 hts gX10_keep_X10_weightOf rfl rfl rfl (by decide +kernel) ⟨Nat.le_of_ble_eq_true rfl, Nat.le_of_ble_eq_true rfl⟩) hK hP rfl hl.1 rfl (Nat.le_of_ble_eq_true rfl) dX10_keep_149 ⟨Nat.le_of_ble_eq_true rfl, Nat.le_of_ble_eq_true rfl⟩ hS (fun r149 u H locs q149 hP hS => ?_)
                  obtain ⟨rfl, q149⟩ := q149
                  have hP : va_P D vwCl (WM cy mo a (upd f 0 (0 : Int32)) g (va_up (va_up r 29 ((upd (r 29) d.toNatClampNeg what))) 30 ((upd (r 30) d.toNatClampNeg v131))) q) H := hP
                  have q149 : r149 = (heR ((r 2) k0.toNatClampNeg) ((r 3) k0.toNatClampNeg).toNatClampNeg ((r 4) k0.toNatClampNeg).toNatClampNeg (smN (fun s9 => (va_up (va_up r 29 ((upd (r 29) d.toNatClampNeg what))) 30 ((upd (r 30) d.toNatClampNeg v131))) 8 (36 * k0.toNatClampNeg + s9)) 36)) := q149
                  refine m_iast (w := (r 31)) hx hb hK hP hD hS 19 rfl (vp_in_iff.mpr ⟨by omega, by omega⟩) (va_up (va_up (va_up r 29 ((upd (r 29) d.toNatClampNeg what))) 30 ((upd (r 30) d.toNatClampNeg v131))) 31 (upd (r 31) d.toNatClampNeg r149)) (ms_31 cy mo a _ _ _ _ _) dX10_keep_152 (fun H locs hP hS => ?_)
                  refine lv_aload_n hx hb dX10_keep_153 rfl (lv_at hl 1 rfl) ?_
                  refine m_get (v := .ref (a 32)) hx hb hts hin hown hK hP 32 (by decide) rfl (hts (.fieldLink RX10 70 "ShadowBenchModel" "shelfFailure" "[I") (by decide +kernel)) rfl dX10_keep_154 ?_
                  refine lv_iload_n hx hb dX10_keep_157 rfl (lv_at hl 2 rfl) ?_
                  refine lv_aload_n hx hb dX10_keep_158 rfl (lv_at hl 1 rfl) ?_
                  refine m_get (v := .ref (a 2)) hx hb hts hin hown hK hP 2 (by decide) rfl (hts (.fieldLink RX10 7 "ShadowBenchModel" "kind" "[I") (by decide +kernel)) rfl dX10_keep_159 ?_
                  refine lv_iload_n hx hb dX10_keep_162 rfl (lv_at hl 4 rfl) ?_
                  refine m_iald (w := (r 2)) hx hb hK hP 1 rfl (vp_in_iff.mpr ⟨by omega, by omega⟩) dX10_keep_163 ?_
                  refine lv_topi (fun v163 e163 => ?_)
                  have i163 : v163.toInt = ((r 2) k0.toNatClampNeg).toInt := congrArg Int32.toInt e163
                  refine lv_if_ne (tgt := 172) hx hb dX10_keep_164 (by decide) (fun c164 => ?_) (fun c164 => ?_)
                  · skip
                    have d164 := c164
                    rw [fa_eq] at d164
                    refine lv_iload_n hx hb dX10_keep_172 rfl (lv_at hl 4 rfl) ?_
                    refine m_iast (w := (r 32)) hx hb hK hP hD hS 20 rfl (vp_in_iff.mpr ⟨by omega, by omega⟩) (va_up (va_up (va_up (va_up r 29 ((upd (r 29) d.toNatClampNeg what))) 30 ((upd (r 30) d.toNatClampNeg v131))) 31 ((upd (r 31) d.toNatClampNeg r149))) 32 (upd (r 32) d.toNatClampNeg k0)) (ms_32 cy mo a _ _ _ _ _) dX10_keep_173 (fun H locs hP hS => ?_)
                    refine lv_iconst (v := 0) hx hb dX10_keep_174 (by decide) ?_
                    refine lv_istore (lv' := [(7, .int (0 : Int32)), (6, .int (1 : Int32)), (0, .ref mo), (1, .int d), (2, .int what), (3, .int k0), (4, .long p0)]) hx hb dX10_keep_175 hl (by decide) rfl (fun ls hl => ?_)
                    have loop_177 : ∀ (n : Nat) (i : Nat) (s3 : Nat → Int64), (i ≤ 60) → 60 - i < n → ∀ (H : Heap) (locs : List Loc), va_P D vwCl (WM cy mo a (upd f 0 (0 : Int32)) g (va_up (va_up (va_up (va_up r 29 ((upd (r 29) d.toNatClampNeg what))) 30 ((upd (r 30) d.toNatClampNeg v131))) 31 ((upd (r 31) d.toNatClampNeg r149))) 32 ((upd (r 32) d.toNatClampNeg k0))) (va_up q 33 s3)) H → va_S (AM mo a) s.heap H locs → ∀ (ls : Array Slot), lv_has ls 8 [(7, .int (nI i)), (6, .int (1 : Int32)), (0, .ref mo), (1, .int d), (2, .int what), (3, .int k0), (4, .long p0)] → W p l e (headSpec wsX10_keep ({ frames := 3, cells := 0, slots := 0, locals := 69 })).room s m #[Value.ref mo, Value.int d, Value.int what, Value.int k0, Value.long p0] below meth c H locs 0 0 (MQ below (va_Qi (fun r0 u => ∃ (sh : Nat → Int32), ∃ (sz : Nat → Int32), ∃ (sw : Nat → Int32), ∃ (sf : Nat → Int32), ∃ (sr : Nat → Int64), u = ((upd f 0 (0 : Int32)), g, (va_up (va_up (va_up (va_up r 29 sh) 30 sz) 31 sw) 32 sf), (va_up q 33 sr)) ∧ (yesNo (okKeep (f 1) (fun j9 => (r 3 j9).toNatClampNeg) (fun j9 => (r 4 j9).toNatClampNeg) d what k0 p0) 0 (-1) r0 ∧ ((okKeep (f 1) (fun j9 => (r 3 j9).toNatClampNeg) (fun j9 => (r 4 j9).toNatClampNeg) d what k0 p0 ∧ sh = upd (r 29) d.toNatClampNeg what ∧ (what.toInt = 1 → sw = upd (r 31) d.toNatClampNeg (heR (r 2 k0.toNatClampNeg) (r 3 k0.toNatClampNeg).toNatClampNeg (r 4 k0.toNatClampNeg).toNatClampNeg (smN (fun s9 => r 8 (36 * k0.toNatClampNeg + s9)) 36))) ∧ (¬ what.toInt = 1 → sw = r 31)) ∨ (¬ okKeep (f 1) (fun j9 => (r 3 j9).toNatClampNeg) (fun j9 => (r 4 j9).toNatClampNeg) d what k0 p0 ∧ sh = r 29 ∧ sw = r 31)) ∧ MI (upd f 0 (0 : Int32)) (va_up (va_up (va_up (va_up r 29 sh) 30 sz) 31 sw) 32 sf))) (mB D cy mo a) (AM mo a)) #[Value.ref mo, Value.int d, Value.int what, Value.int k0, Value.long p0] s 0 0 (AM mo a)) (F0 m 177 ls []) := by
                      intro n
                      induction n with
                      | zero => intro i s3 j177_0 hn; exact absurd hn (Nat.not_lt_zero _)
                      | succ n ih_177 =>
                        intro i s3 j177_0 hn_177 H locs hP hS ls hl
                        have ii : (nI i).toInt = (i : Int) := nI_toInt (by omega)
                        refine lv_iload hx hb dX10_keep_177 (lv_at hl 0 rfl) ?_
                        refine lv_aload_n hx hb dX10_keep_179 rfl (lv_at hl 2 rfl) ?_
                        refine m_get (v := .ref (a 30)) hx hb hts hin hown hK hP 30 (by decide) rfl (hts (.fieldLink RX10 64 "ShadowBenchModel" "shelfSize" "[I") (by decide +kernel)) rfl dX10_keep_180 ?_
                        refine lv_iload_n hx hb dX10_keep_183 rfl (lv_at hl 3 rfl) ?_
                        refine m_iald (w := ((upd (r 30) d.toNatClampNeg v131))) hx hb hK hP 18 rfl (vp_in_iff.mpr ⟨by omega, by omega⟩) dX10_keep_184 ?_
                        refine lv_topi (fun v184 e184 => ?_)
                        have i184 : v184.toInt = (((upd (r 30) d.toNatClampNeg v131)) d.toNatClampNeg).toInt := congrArg Int32.toInt e184
                        have z184 := e184
                        simp only [upd, if_true] at z184
                        have y184 := congrArg Int32.toInt z184
                        refine lv_icmp_ge (tgt := 272) hx hb dX10_keep_185 (by decide) (fun c185 => ?_) (fun c185 => ?_)
                        · skip
                          have d185 := c185
                          rw [fa_le] at d185
                          refine lv_iconst (v := 0) hx hb dX10_keep_272 (by decide) ?_
                          have hP := wm_eq rfl rfl (ec_r_29_30_31_32__29_30_31_32 r ((upd (r 29) d.toNatClampNeg what)) ((upd (r 30) d.toNatClampNeg v131)) ((upd (r 31) d.toNatClampNeg r149)) ((upd (r 32) d.toNatClampNeg k0))) rfl hP
                          exact W.iret (v := (0 : Int32)) hx hb hr (fun t ht hW => ⟨⟨_, ((upd f 0 (0 : Int32)), g, (va_up (va_up (va_up (va_up r 29 (((upd (r 29) d.toNatClampNeg what)))) 30 (((upd (r 30) d.toNatClampNeg v131)))) 31 (((upd (r 31) d.toNatClampNeg r149)))) 32 (((upd (r 32) d.toNatClampNeg k0)))), (va_up q 33 s3)), rfl, ⟨((upd (r 29) d.toNatClampNeg what)), ((upd (r 30) d.toNatClampNeg v131)), ((upd (r 31) d.toNatClampNeg r149)), ((upd (r 32) d.toNatClampNeg k0)), s3, rfl, ⟨(Or.inl ⟨⟨b9, (by unfold okJob; first | exact Or.inl (by omega) | exact Or.inr (Or.inl ⟨by omega, b31⟩) | (have z9 := goodP_of b64; subst e52; subst e58; exact Or.inr (Or.inr ⟨by omega, b44, z9.2⟩)))⟩, rfl⟩), (Or.inl ⟨⟨b9, (by unfold okJob; first | exact Or.inl (by omega) | exact Or.inr (Or.inl ⟨by omega, b31⟩) | (have z9 := goodP_of b64; subst e52; subst e58; exact Or.inr (Or.inr ⟨by omega, b44, z9.2⟩)))⟩, rfl, (by first | exact ⟨fun _ => congrArg (fun z9 => upd (r 31) d.toNatClampNeg z9) q149, fun z9 => by exfalso; omega⟩ | exact ⟨fun z9 => by exfalso; omega, fun _ => rfl⟩)⟩), by first | exact hI | exact mi_sz (d := d) hI (v := v110) (by omega) rfl rfl rfl rfl rfl rfl rfl rfl | exact mi_sz (d := d) hI (v := v131) (by omega) rfl rfl rfl rfl rfl rfl rfl rfl | exact mi_sz (d := d) hI (v := 0) (by decide) rfl rfl rfl rfl rfl rfl rfl rfl⟩⟩, by unfold mB; rw [ht]; exact hP⟩, hS.F ht⟩) hS.2.2 dX10_keep_273
                        · skip
                          have d185 := c185
                          rw [fa_le] at d185
                          refine lv_aload_n hx hb dX10_keep_188 rfl (lv_at hl 2 rfl) ?_
                          refine m_get (v := .ref (a 33)) hx hb hts hin hown hK hP 33 (by decide) rfl (hts (.fieldLink RX10 73 "ShadowBenchModel" "shelfRow" "[J") (by decide +kernel)) rfl dX10_keep_189 ?_
                          refine lv_bipush (v := 60) hx hb dX10_keep_192 (by decide) ?_
                          refine lv_iload_n hx hb dX10_keep_194 rfl (lv_at hl 3 rfl) ?_
                          refine lv_imul hx hb dX10_keep_195 ?_
                          refine lv_topi (fun v195 e195 => ?_)
                          have i195 : v195.toInt = 60 * d.toInt := by rw [e195]; exact mulcL rfl (by omega) (by omega)
                          refine lv_iload hx hb dX10_keep_196 (lv_at hl 0 rfl) ?_
                          refine lv_iadd hx hb dX10_keep_198 ?_
                          refine lv_topi (fun v198 e198 => ?_)
                          have i198 : v198.toInt = v195.toInt + (nI i).toInt := by rw [e198]; exact fb_addI (by omega) (by omega)
                          refine lv_iload_n hx hb dX10_keep_199 rfl (lv_at hl 4 rfl) ?_
                          refine lv_iconst (v := 3) hx hb dX10_keep_200 (by decide) ?_
                          refine lv_icmp_ne (tgt := 215) hx hb dX10_keep_201 (by decide) (fun c201 => ?_) (fun c201 => ?_)
                          · skip
                            have d201 := c201
                            rw [fa_eq] at d201
                            refine lv_iload hx hb dX10_keep_215 (lv_at hl 0 rfl) ?_
                            refine lv_aload_n hx hb dX10_keep_217 rfl (lv_at hl 2 rfl) ?_
                            refine m_get (v := .ref (a 4)) hx hb hts hin hown hK hP 4 (by decide) rfl (hts (.fieldLink RX10 16 "ShadowBenchModel" "high" "[I") (by decide +kernel)) rfl dX10_keep_218 ?_
                            refine lv_iload_n hx hb dX10_keep_221 rfl (lv_at hl 5 rfl) ?_
                            refine m_iald (w := (r 4)) hx hb hK hP 3 rfl (vp_in_iff.mpr ⟨by omega, by omega⟩) dX10_keep_222 ?_
                            refine lv_topi (fun v222 e222 => ?_)
                            have i222 : v222.toInt = ((r 4) k0.toNatClampNeg).toInt := congrArg Int32.toInt e222
                            have w222 := mi_h hI (x := k0) (by omega) (by omega) e222
                            refine lv_icmp_ge (tgt := 242) hx hb dX10_keep_223 (by decide) (fun c223 => ?_) (fun c223 => ?_)
                            · skip
                              have d223 := c223
                              rw [fa_le] at d223
                              refine lv_aload_n hx hb dX10_keep_242 rfl (lv_at hl 2 rfl) ?_
                              refine m_get (v := .ref (a 5)) hx hb hts hin hown hK hP 5 (by decide) rfl (hts (.fieldLink RX10 19 "ShadowBenchModel" "sums" "[I") (by decide +kernel)) rfl dX10_keep_243 ?_
                              refine lv_bipush (v := 44) hx hb dX10_keep_246 (by decide) ?_
                              refine lv_iload_n hx hb dX10_keep_248 rfl (lv_at hl 5 rfl) ?_
                              refine lv_imul hx hb dX10_keep_249 ?_
                              refine lv_topi (fun v249 e249 => ?_)
                              have i249 : v249.toInt = 44 * k0.toInt := by rw [e249]; exact mulcL rfl (by omega) (by omega)
                              refine lv_bipush (v := 11) hx hb dX10_keep_250 (by decide) ?_
                              refine lv_iadd hx hb dX10_keep_252 ?_
                              refine lv_topi (fun v252 e252 => ?_)
                              have i252 : v252.toInt = v249.toInt + (11 : Int32).toInt := by rw [e252]; exact fb_addI (by omega) (by omega)
                              refine lv_iload hx hb dX10_keep_253 (lv_at hl 0 rfl) ?_
                              refine lv_iadd hx hb dX10_keep_255 ?_
                              refine lv_topi (fun v255 e255 => ?_)
                              have i255 : v255.toInt = v252.toInt + (nI i).toInt := by rw [e255]; exact fb_addI (by omega) (by omega)
                              refine lv_aload_n hx hb dX10_keep_256 rfl (lv_at hl 2 rfl) ?_
                              refine m_get (v := .ref (a 4)) hx hb hts hin hown hK hP 4 (by decide) rfl (hts (.fieldLink RX10 16 "ShadowBenchModel" "high" "[I") (by decide +kernel)) rfl dX10_keep_257 ?_
                              refine lv_iload_n hx hb dX10_keep_260 rfl (lv_at hl 5 rfl) ?_
                              refine m_iald (w := (r 4)) hx hb hK hP 3 rfl (vp_in_iff.mpr ⟨by omega, by omega⟩) dX10_keep_261 ?_
                              refine lv_topi (fun v261 e261 => ?_)
                              have i261 : v261.toInt = ((r 4) k0.toNatClampNeg).toInt := congrArg Int32.toInt e261
                              have w261 := mi_h hI (x := k0) (by omega) (by omega) e261
                              refine lv_isub hx hb dX10_keep_262 ?_
                              refine lv_topi (fun v262 e262 => ?_)
                              have i262 : v262.toInt = v255.toInt - v261.toInt := by rw [e262]; exact fb_subI (by omega) (by omega)
                              refine m_iald (w := (r 5)) hx hb hK hP 4 rfl (vp_in_iff.mpr ⟨by omega, by omega⟩) dX10_keep_263 ?_
                              refine lv_topi (fun v263 e263 => ?_)
                              have i263 : v263.toInt = ((r 5) v262.toNatClampNeg).toInt := congrArg Int32.toInt e263
                              refine lv_i2l (v := v263.toInt64) hx hb dX10_keep_264 rfl ?_
                              refine m_last (w := s3) hx hb hK hP hD hS 21 rfl (vp_in_iff.mpr ⟨by omega, by omega⟩) (va_up (va_up q 33 s3) 33 (vp_updL s3 v198.toNatClampNeg v263.toInt64)) (ms_33 cy mo a _ _ _ _ _) dX10_keep_265 (fun H locs hP hS => ?_)
                              have hP := wm_eq rfl rfl rfl (es_q_33__33 q s3 (vp_updL s3 v198.toNatClampNeg v263.toInt64)) hP
                              refine lv_iinc (v := (nI (i + 1))) (lv' := [(7, .int (nI (i + 1))), (6, .int (1 : Int32)), (0, .ref mo), (1, .int d), (2, .int what), (3, .int k0), (4, .long p0)]) hx hb dX10_keep_266 hl (k := 0) rfl (nI_1 _) (by decide) rfl (fun ls hl => ?_)
                              refine lv_goto (tgt := 177) hx hb dX10_keep_269 (by decide) ?_
                              have hP := wm_eq rfl rfl (ec_r_29_30_31_32__29_30_31_32 r ((upd (r 29) d.toNatClampNeg what)) ((upd (r 30) d.toNatClampNeg v131)) ((upd (r 31) d.toNatClampNeg r149)) ((upd (r 32) d.toNatClampNeg k0))) rfl hP
                              exact ih_177 (i + 1) (vp_updL s3 v198.toNatClampNeg v263.toInt64) (by omega) (by omega) _ _ hP hS ls (lv_sub hl [0, 1, 2, 3, 4, 5, 6] rfl)
                            · skip
                              have d223 := c223
                              rw [fa_le] at d223
                              refine lv_aload_n hx hb dX10_keep_226 rfl (lv_at hl 2 rfl) ?_
                              refine m_get (v := .ref (a 5)) hx hb hts hin hown hK hP 5 (by decide) rfl (hts (.fieldLink RX10 19 "ShadowBenchModel" "sums" "[I") (by decide +kernel)) rfl dX10_keep_227 ?_
                              refine lv_bipush (v := 44) hx hb dX10_keep_230 (by decide) ?_
                              refine lv_iload_n hx hb dX10_keep_232 rfl (lv_at hl 5 rfl) ?_
                              refine lv_imul hx hb dX10_keep_233 ?_
                              refine lv_topi (fun v233 e233 => ?_)
                              have i233 : v233.toInt = 44 * k0.toInt := by rw [e233]; exact mulcL rfl (by omega) (by omega)
                              refine lv_iload hx hb dX10_keep_234 (lv_at hl 0 rfl) ?_
                              refine lv_iadd hx hb dX10_keep_236 ?_
                              refine lv_topi (fun v236 e236 => ?_)
                              have i236 : v236.toInt = v233.toInt + (nI i).toInt := by rw [e236]; exact fb_addI (by omega) (by omega)
                              refine m_iald (w := (r 5)) hx hb hK hP 4 rfl (vp_in_iff.mpr ⟨by omega, by omega⟩) dX10_keep_237 ?_
                              refine lv_topi (fun v237 e237 => ?_)
                              have i237 : v237.toInt = ((r 5) v236.toNatClampNeg).toInt := congrArg Int32.toInt e237
                              refine lv_i2l (v := v237.toInt64) hx hb dX10_keep_238 rfl ?_
                              refine lv_goto (tgt := 265) hx hb dX10_keep_239 (by decide) ?_
                              refine m_last (w := s3) hx hb hK hP hD hS 21 rfl (vp_in_iff.mpr ⟨by omega, by omega⟩) (va_up (va_up q 33 s3) 33 (vp_updL s3 v198.toNatClampNeg v237.toInt64)) (ms_33 cy mo a _ _ _ _ _) dX10_keep_265 (fun H locs hP hS => ?_)
                              have hP := wm_eq rfl rfl rfl (es_q_33__33 q s3 (vp_updL s3 v198.toNatClampNeg v237.toInt64)) hP
                              refine lv_iinc (v := (nI (i + 1))) (lv' := [(7, .int (nI (i + 1))), (6, .int (1 : Int32)), (0, .ref mo), (1, .int d), (2, .int what), (3, .int k0), (4, .long p0)]) hx hb dX10_keep_266 hl (k := 0) rfl (nI_1 _) (by decide) rfl (fun ls hl => ?_)
                              refine lv_goto (tgt := 177) hx hb dX10_keep_269 (by decide) ?_
                              have hP := wm_eq rfl rfl (ec_r_29_30_31_32__29_30_31_32 r ((upd (r 29) d.toNatClampNeg what)) ((upd (r 30) d.toNatClampNeg v131)) ((upd (r 31) d.toNatClampNeg r149)) ((upd (r 32) d.toNatClampNeg k0))) rfl hP
                              exact ih_177 (i + 1) (vp_updL s3 v198.toNatClampNeg v237.toInt64) (by omega) (by omega) _ _ hP hS ls (lv_sub hl [0, 1, 2, 3, 4, 5, 6] rfl)
                          · first | exact absurd c201 c95 | exact absurd c95 c201
                    have hP := wm_eq rfl rfl (ec_r_29_30_31_32__29_30_31_32 r ((upd (r 29) d.toNatClampNeg what)) ((upd (r 30) d.toNatClampNeg v131)) ((upd (r 31) d.toNatClampNeg r149)) ((upd (r 32) d.toNatClampNeg k0))) (ec_q___33 q ) hP
                    exact loop_177 (60 + 1) 0 (q 33) (by omega) (by omega) _ _ hP hS ls (lv_sub hl [0, 1, 2, 3, 4, 5, 6] rfl)
                  · skip
                    have d164 := c164
                    rw [fa_eq] at d164
                    refine lv_bipush (v := (-15)) hx hb dX10_keep_167 (by decide) ?_
                    refine lv_goto (tgt := 173) hx hb dX10_keep_169 (by decide) ?_
                    refine m_iast (w := (r 32)) hx hb hK hP hD hS 20 rfl (vp_in_iff.mpr ⟨by omega, by omega⟩) (va_up (va_up (va_up (va_up r 29 ((upd (r 29) d.toNatClampNeg what))) 30 ((upd (r 30) d.toNatClampNeg v131))) 31 ((upd (r 31) d.toNatClampNeg r149))) 32 (upd (r 32) d.toNatClampNeg (((-15) : Int32)))) (ms_32 cy mo a _ _ _ _ _) dX10_keep_173 (fun H locs hP hS => ?_)
                    refine lv_iconst (v := 0) hx hb dX10_keep_174 (by decide) ?_
                    refine lv_istore (lv' := [(7, .int (0 : Int32)), (6, .int (1 : Int32)), (0, .ref mo), (1, .int d), (2, .int what), (3, .int k0), (4, .long p0)]) hx hb dX10_keep_175 hl (by decide) rfl (fun ls hl => ?_)
                    have loop_177 : ∀ (n : Nat) (i : Nat) (s3 : Nat → Int64), (i ≤ 60) → 60 - i < n → ∀ (H : Heap) (locs : List Loc), va_P D vwCl (WM cy mo a (upd f 0 (0 : Int32)) g (va_up (va_up (va_up (va_up r 29 ((upd (r 29) d.toNatClampNeg what))) 30 ((upd (r 30) d.toNatClampNeg v131))) 31 ((upd (r 31) d.toNatClampNeg r149))) 32 ((upd (r 32) d.toNatClampNeg (((-15) : Int32))))) (va_up q 33 s3)) H → va_S (AM mo a) s.heap H locs → ∀ (ls : Array Slot), lv_has ls 8 [(7, .int (nI i)), (6, .int (1 : Int32)), (0, .ref mo), (1, .int d), (2, .int what), (3, .int k0), (4, .long p0)] → W p l e (headSpec wsX10_keep ({ frames := 3, cells := 0, slots := 0, locals := 69 })).room s m #[Value.ref mo, Value.int d, Value.int what, Value.int k0, Value.long p0] below meth c H locs 0 0 (MQ below (va_Qi (fun r0 u => ∃ (sh : Nat → Int32), ∃ (sz : Nat → Int32), ∃ (sw : Nat → Int32), ∃ (sf : Nat → Int32), ∃ (sr : Nat → Int64), u = ((upd f 0 (0 : Int32)), g, (va_up (va_up (va_up (va_up r 29 sh) 30 sz) 31 sw) 32 sf), (va_up q 33 sr)) ∧ (yesNo (okKeep (f 1) (fun j9 => (r 3 j9).toNatClampNeg) (fun j9 => (r 4 j9).toNatClampNeg) d what k0 p0) 0 (-1) r0 ∧ ((okKeep (f 1) (fun j9 => (r 3 j9).toNatClampNeg) (fun j9 => (r 4 j9).toNatClampNeg) d what k0 p0 ∧ sh = upd (r 29) d.toNatClampNeg what ∧ (what.toInt = 1 → sw = upd (r 31) d.toNatClampNeg (heR (r 2 k0.toNatClampNeg) (r 3 k0.toNatClampNeg).toNatClampNeg (r 4 k0.toNatClampNeg).toNatClampNeg (smN (fun s9 => r 8 (36 * k0.toNatClampNeg + s9)) 36))) ∧ (¬ what.toInt = 1 → sw = r 31)) ∨ (¬ okKeep (f 1) (fun j9 => (r 3 j9).toNatClampNeg) (fun j9 => (r 4 j9).toNatClampNeg) d what k0 p0 ∧ sh = r 29 ∧ sw = r 31)) ∧ MI (upd f 0 (0 : Int32)) (va_up (va_up (va_up (va_up r 29 sh) 30 sz) 31 sw) 32 sf))) (mB D cy mo a) (AM mo a)) #[Value.ref mo, Value.int d, Value.int what, Value.int k0, Value.long p0] s 0 0 (AM mo a)) (F0 m 177 ls []) := by
                      intro n
                      induction n with
                      | zero => intro i s3 j177_0 hn; exact absurd hn (Nat.not_lt_zero _)
                      | succ n ih_177 =>
                        intro i s3 j177_0 hn_177 H locs hP hS ls hl
                        have ii : (nI i).toInt = (i : Int) := nI_toInt (by omega)
                        refine lv_iload hx hb dX10_keep_177 (lv_at hl 0 rfl) ?_
                        refine lv_aload_n hx hb dX10_keep_179 rfl (lv_at hl 2 rfl) ?_
                        refine m_get (v := .ref (a 30)) hx hb hts hin hown hK hP 30 (by decide) rfl (hts (.fieldLink RX10 64 "ShadowBenchModel" "shelfSize" "[I") (by decide +kernel)) rfl dX10_keep_180 ?_
                        refine lv_iload_n hx hb dX10_keep_183 rfl (lv_at hl 3 rfl) ?_
                        refine m_iald (w := ((upd (r 30) d.toNatClampNeg v131))) hx hb hK hP 18 rfl (vp_in_iff.mpr ⟨by omega, by omega⟩) dX10_keep_184 ?_
                        refine lv_topi (fun v184 e184 => ?_)
                        have i184 : v184.toInt = (((upd (r 30) d.toNatClampNeg v131)) d.toNatClampNeg).toInt := congrArg Int32.toInt e184
                        have z184 := e184
                        simp only [upd, if_true] at z184
                        have y184 := congrArg Int32.toInt z184
                        refine lv_icmp_ge (tgt := 272) hx hb dX10_keep_185 (by decide) (fun c185 => ?_) (fun c185 => ?_)
                        · skip
                          have d185 := c185
                          rw [fa_le] at d185
                          refine lv_iconst (v := 0) hx hb dX10_keep_272 (by decide) ?_
                          have hP := wm_eq rfl rfl (ec_r_29_30_31_32__29_30_31_32 r ((upd (r 29) d.toNatClampNeg what)) ((upd (r 30) d.toNatClampNeg v131)) ((upd (r 31) d.toNatClampNeg r149)) ((upd (r 32) d.toNatClampNeg (((-15) : Int32))))) rfl hP
                          exact W.iret (v := (0 : Int32)) hx hb hr (fun t ht hW => ⟨⟨_, ((upd f 0 (0 : Int32)), g, (va_up (va_up (va_up (va_up r 29 (((upd (r 29) d.toNatClampNeg what)))) 30 (((upd (r 30) d.toNatClampNeg v131)))) 31 (((upd (r 31) d.toNatClampNeg r149)))) 32 (((upd (r 32) d.toNatClampNeg (((-15) : Int32)))))), (va_up q 33 s3)), rfl, ⟨((upd (r 29) d.toNatClampNeg what)), ((upd (r 30) d.toNatClampNeg v131)), ((upd (r 31) d.toNatClampNeg r149)), ((upd (r 32) d.toNatClampNeg (((-15) : Int32)))), s3, rfl, ⟨(Or.inl ⟨⟨b9, (by unfold okJob; first | exact Or.inl (by omega) | exact Or.inr (Or.inl ⟨by omega, b31⟩) | (have z9 := goodP_of b64; subst e52; subst e58; exact Or.inr (Or.inr ⟨by omega, b44, z9.2⟩)))⟩, rfl⟩), (Or.inl ⟨⟨b9, (by unfold okJob; first | exact Or.inl (by omega) | exact Or.inr (Or.inl ⟨by omega, b31⟩) | (have z9 := goodP_of b64; subst e52; subst e58; exact Or.inr (Or.inr ⟨by omega, b44, z9.2⟩)))⟩, rfl, (by first | exact ⟨fun _ => congrArg (fun z9 => upd (r 31) d.toNatClampNeg z9) q149, fun z9 => by exfalso; omega⟩ | exact ⟨fun z9 => by exfalso; omega, fun _ => rfl⟩)⟩), by first | exact hI | exact mi_sz (d := d) hI (v := v110) (by omega) rfl rfl rfl rfl rfl rfl rfl rfl | exact mi_sz (d := d) hI (v := v131) (by omega) rfl rfl rfl rfl rfl rfl rfl rfl | exact mi_sz (d := d) hI (v := 0) (by decide) rfl rfl rfl rfl rfl rfl rfl rfl⟩⟩, by unfold mB; rw [ht]; exact hP⟩, hS.F ht⟩) hS.2.2 dX10_keep_273
                        · skip
                          have d185 := c185
                          rw [fa_le] at d185
                          refine lv_aload_n hx hb dX10_keep_188 rfl (lv_at hl 2 rfl) ?_
                          refine m_get (v := .ref (a 33)) hx hb hts hin hown hK hP 33 (by decide) rfl (hts (.fieldLink RX10 73 "ShadowBenchModel" "shelfRow" "[J") (by decide +kernel)) rfl dX10_keep_189 ?_
                          refine lv_bipush (v := 60) hx hb dX10_keep_192 (by decide) ?_
                          refine lv_iload_n hx hb dX10_keep_194 rfl (lv_at hl 3 rfl) ?_
                          refine lv_imul hx hb dX10_keep_195 ?_
                          refine lv_topi (fun v195 e195 => ?_)
                          have i195 : v195.toInt = 60 * d.toInt := by rw [e195]; exact mulcL rfl (by omega) (by omega)
                          refine lv_iload hx hb dX10_keep_196 (lv_at hl 0 rfl) ?_
                          refine lv_iadd hx hb dX10_keep_198 ?_
                          refine lv_topi (fun v198 e198 => ?_)
                          have i198 : v198.toInt = v195.toInt + (nI i).toInt := by rw [e198]; exact fb_addI (by omega) (by omega)
                          refine lv_iload_n hx hb dX10_keep_199 rfl (lv_at hl 4 rfl) ?_
                          refine lv_iconst (v := 3) hx hb dX10_keep_200 (by decide) ?_
                          refine lv_icmp_ne (tgt := 215) hx hb dX10_keep_201 (by decide) (fun c201 => ?_) (fun c201 => ?_)
                          · skip
                            have d201 := c201
                            rw [fa_eq] at d201
                            refine lv_iload hx hb dX10_keep_215 (lv_at hl 0 rfl) ?_
                            refine lv_aload_n hx hb dX10_keep_217 rfl (lv_at hl 2 rfl) ?_
                            refine m_get (v := .ref (a 4)) hx hb hts hin hown hK hP 4 (by decide) rfl (hts (.fieldLink RX10 16 "ShadowBenchModel" "high" "[I") (by decide +kernel)) rfl dX10_keep_218 ?_
                            refine lv_iload_n hx hb dX10_keep_221 rfl (lv_at hl 5 rfl) ?_
                            refine m_iald (w := (r 4)) hx hb hK hP 3 rfl (vp_in_iff.mpr ⟨by omega, by omega⟩) dX10_keep_222 ?_
                            refine lv_topi (fun v222 e222 => ?_)
                            have i222 : v222.toInt = ((r 4) k0.toNatClampNeg).toInt := congrArg Int32.toInt e222
                            have w222 := mi_h hI (x := k0) (by omega) (by omega) e222
                            refine lv_icmp_ge (tgt := 242) hx hb dX10_keep_223 (by decide) (fun c223 => ?_) (fun c223 => ?_)
                            · skip
                              have d223 := c223
                              rw [fa_le] at d223
                              refine lv_aload_n hx hb dX10_keep_242 rfl (lv_at hl 2 rfl) ?_
                              refine m_get (v := .ref (a 5)) hx hb hts hin hown hK hP 5 (by decide) rfl (hts (.fieldLink RX10 19 "ShadowBenchModel" "sums" "[I") (by decide +kernel)) rfl dX10_keep_243 ?_
                              refine lv_bipush (v := 44) hx hb dX10_keep_246 (by decide) ?_
                              refine lv_iload_n hx hb dX10_keep_248 rfl (lv_at hl 5 rfl) ?_
                              refine lv_imul hx hb dX10_keep_249 ?_
                              refine lv_topi (fun v249 e249 => ?_)
                              have i249 : v249.toInt = 44 * k0.toInt := by rw [e249]; exact mulcL rfl (by omega) (by omega)
                              refine lv_bipush (v := 11) hx hb dX10_keep_250 (by decide) ?_
                              refine lv_iadd hx hb dX10_keep_252 ?_
                              refine lv_topi (fun v252 e252 => ?_)
                              have i252 : v252.toInt = v249.toInt + (11 : Int32).toInt := by rw [e252]; exact fb_addI (by omega) (by omega)
                              refine lv_iload hx hb dX10_keep_253 (lv_at hl 0 rfl) ?_
                              refine lv_iadd hx hb dX10_keep_255 ?_
                              refine lv_topi (fun v255 e255 => ?_)
                              have i255 : v255.toInt = v252.toInt + (nI i).toInt := by rw [e255]; exact fb_addI (by omega) (by omega)
                              refine lv_aload_n hx hb dX10_keep_256 rfl (lv_at hl 2 rfl) ?_
                              refine m_get (v := .ref (a 4)) hx hb hts hin hown hK hP 4 (by decide) rfl (hts (.fieldLink RX10 16 "ShadowBenchModel" "high" "[I") (by decide +kernel)) rfl dX10_keep_257 ?_
                              refine lv_iload_n hx hb dX10_keep_260 rfl (lv_at hl 5 rfl) ?_
                              refine m_iald (w := (r 4)) hx hb hK hP 3 rfl (vp_in_iff.mpr ⟨by omega, by omega⟩) dX10_keep_261 ?_
                              refine lv_topi (fun v261 e261 => ?_)
                              have i261 : v261.toInt = ((r 4) k0.toNatClampNeg).toInt := congrArg Int32.toInt e261
                              have w261 := mi_h hI (x := k0) (by omega) (by omega) e261
                              refine lv_isub hx hb dX10_keep_262 ?_
                              refine lv_topi (fun v262 e262 => ?_)
                              have i262 : v262.toInt = v255.toInt - v261.toInt := by rw [e262]; exact fb_subI (by omega) (by omega)
                              refine m_iald (w := (r 5)) hx hb hK hP 4 rfl (vp_in_iff.mpr ⟨by omega, by omega⟩) dX10_keep_263 ?_
                              refine lv_topi (fun v263 e263 => ?_)
                              have i263 : v263.toInt = ((r 5) v262.toNatClampNeg).toInt := congrArg Int32.toInt e263
                              refine lv_i2l (v := v263.toInt64) hx hb dX10_keep_264 rfl ?_
                              refine m_last (w := s3) hx hb hK hP hD hS 21 rfl (vp_in_iff.mpr ⟨by omega, by omega⟩) (va_up (va_up q 33 s3) 33 (vp_updL s3 v198.toNatClampNeg v263.toInt64)) (ms_33 cy mo a _ _ _ _ _) dX10_keep_265 (fun H locs hP hS => ?_)
                              have hP := wm_eq rfl rfl rfl (es_q_33__33 q s3 (vp_updL s3 v198.toNatClampNeg v263.toInt64)) hP
                              refine lv_iinc (v := (nI (i + 1))) (lv' := [(7, .int (nI (i + 1))), (6, .int (1 : Int32)), (0, .ref mo), (1, .int d), (2, .int what), (3, .int k0), (4, .long p0)]) hx hb dX10_keep_266 hl (k := 0) rfl (nI_1 _) (by decide) rfl (fun ls hl => ?_)
                              refine lv_goto (tgt := 177) hx hb dX10_keep_269 (by decide) ?_
                              have hP := wm_eq rfl rfl (ec_r_29_30_31_32__29_30_31_32 r ((upd (r 29) d.toNatClampNeg what)) ((upd (r 30) d.toNatClampNeg v131)) ((upd (r 31) d.toNatClampNeg r149)) ((upd (r 32) d.toNatClampNeg (((-15) : Int32))))) rfl hP
                              exact ih_177 (i + 1) (vp_updL s3 v198.toNatClampNeg v263.toInt64) (by omega) (by omega) _ _ hP hS ls (lv_sub hl [0, 1, 2, 3, 4, 5, 6] rfl)
                            · skip
                              have d223 := c223
                              rw [fa_le] at d223
                              refine lv_aload_n hx hb dX10_keep_226 rfl (lv_at hl 2 rfl) ?_
                              refine m_get (v := .ref (a 5)) hx hb hts hin hown hK hP 5 (by decide) rfl (hts (.fieldLink RX10 19 "ShadowBenchModel" "sums" "[I") (by decide +kernel)) rfl dX10_keep_227 ?_
                              refine lv_bipush (v := 44) hx hb dX10_keep_230 (by decide) ?_
                              refine lv_iload_n hx hb dX10_keep_232 rfl (lv_at hl 5 rfl) ?_
                              refine lv_imul hx hb dX10_keep_233 ?_
                              refine lv_topi (fun v233 e233 => ?_)
                              have i233 : v233.toInt = 44 * k0.toInt := by rw [e233]; exact mulcL rfl (by omega) (by omega)
                              refine lv_iload hx hb dX10_keep_234 (lv_at hl 0 rfl) ?_
                              refine lv_iadd hx hb dX10_keep_236 ?_
                              refine lv_topi (fun v236 e236 => ?_)
                              have i236 : v236.toInt = v233.toInt + (nI i).toInt := by rw [e236]; exact fb_addI (by omega) (by omega)
                              refine m_iald (w := (r 5)) hx hb hK hP 4 rfl (vp_in_iff.mpr ⟨by omega, by omega⟩) dX10_keep_237 ?_
                              refine lv_topi (fun v237 e237 => ?_)
                              have i237 : v237.toInt = ((r 5) v236.toNatClampNeg).toInt := congrArg Int32.toInt e237
                              refine lv_i2l (v := v237.toInt64) hx hb dX10_keep_238 rfl ?_
                              refine lv_goto (tgt := 265) hx hb dX10_keep_239 (by decide) ?_
                              refine m_last (w := s3) hx hb hK hP hD hS 21 rfl (vp_in_iff.mpr ⟨by omega, by omega⟩) (va_up (va_up q 33 s3) 33 (vp_updL s3 v198.toNatClampNeg v237.toInt64)) (ms_33 cy mo a _ _ _ _ _) dX10_keep_265 (fun H locs hP hS => ?_)
                              have hP := wm_eq rfl rfl rfl (es_q_33__33 q s3 (vp_updL s3 v198.toNatClampNeg v237.toInt64)) hP
                              refine lv_iinc (v := (nI (i + 1))) (lv' := [(7, .int (nI (i + 1))), (6, .int (1 : Int32)), (0, .ref mo), (1, .int d), (2, .int what), (3, .int k0), (4, .long p0)]) hx hb dX10_keep_266 hl (k := 0) rfl (nI_1 _) (by decide) rfl (fun ls hl => ?_)
                              refine lv_goto (tgt := 177) hx hb dX10_keep_269 (by decide) ?_
                              have hP := wm_eq rfl rfl (ec_r_29_30_31_32__29_30_31_32 r ((upd (r 29) d.toNatClampNeg what)) ((upd (r 30) d.toNatClampNeg v131)) ((upd (r 31) d.toNatClampNeg r149)) ((upd (r 32) d.toNatClampNeg (((-15) : Int32))))) rfl hP
                              exact ih_177 (i + 1) (vp_updL s3 v198.toNatClampNeg v237.toInt64) (by omega) (by omega) _ _ hP hS ls (lv_sub hl [0, 1, 2, 3, 4, 5, 6] rfl)
                          · first | exact absurd c201 c95 | exact absurd c95 c201
                    have hP := wm_eq rfl rfl (ec_r_29_30_31_32__29_30_31_32 r ((upd (r 29) d.toNatClampNeg what)) ((upd (r 30) d.toNatClampNeg v131)) ((upd (r 31) d.toNatClampNeg r149)) ((upd (r 32) d.toNatClampNeg (((-15) : Int32))))) (ec_q___33 q ) hP
                    exact loop_177 (60 + 1) 0 (q 33) (by omega) (by omega) _ _ hP hS ls (lv_sub hl [0, 1, 2, 3, 4, 5, 6] rfl)
            · skip
              have d95 := c95
              rw [fa_eq] at d95
              refine lv_aload_n hx hb dX10_keep_98 rfl (lv_at hl 1 rfl) ?_
              refine m_get (v := .ref (a 3)) hx hb hts hin hown hK hP 3 (by decide) rfl (hts (.fieldLink RX10 13 "ShadowBenchModel" "wide" "[I") (by decide +kernel)) rfl dX10_keep_99 ?_
              refine lv_iload_n hx hb dX10_keep_102 rfl (lv_at hl 4 rfl) ?_
              refine m_iald (w := (r 3)) hx hb hK hP 2 rfl (vp_in_iff.mpr ⟨by omega, by omega⟩) dX10_keep_103 ?_
              refine lv_topi (fun v103 e103 => ?_)
              have i103 : v103.toInt = ((r 3) k0.toNatClampNeg).toInt := congrArg Int32.toInt e103
              have w103 := mi_w hI (x := k0) (by omega) (by omega) e103
              refine lv_aload_n hx hb dX10_keep_104 rfl (lv_at hl 1 rfl) ?_
              refine m_get (v := .ref (a 4)) hx hb hts hin hown hK hP 4 (by decide) rfl (hts (.fieldLink RX10 16 "ShadowBenchModel" "high" "[I") (by decide +kernel)) rfl dX10_keep_105 ?_
              refine lv_iload_n hx hb dX10_keep_108 rfl (lv_at hl 4 rfl) ?_
              refine m_iald (w := (r 4)) hx hb hK hP 3 rfl (vp_in_iff.mpr ⟨by omega, by omega⟩) dX10_keep_109 ?_
              refine lv_topi (fun v109 e109 => ?_)
              have i109 : v109.toInt = ((r 4) k0.toNatClampNeg).toInt := congrArg Int32.toInt e109
              have w109 := mi_h hI (x := k0) (by omega) (by omega) e109
              have m110 := mul66 w103 w109
              refine lv_imul hx hb dX10_keep_110 ?_
              refine lv_topi (fun v110 e110 => ?_)
              have i110 : v110.toInt = v103.toInt * v109.toInt := by rw [e110]; exact fb_mulI (by omega) (by omega)
              refine lv_goto (tgt := 136) hx hb dX10_keep_111 (by decide) ?_
              refine m_iast (w := (r 30)) hx hb hK hP hD hS 18 rfl (vp_in_iff.mpr ⟨by omega, by omega⟩) (va_up (va_up r 29 ((upd (r 29) d.toNatClampNeg what))) 30 (upd (r 30) d.toNatClampNeg v110)) (ms_30 cy mo a _ _ _ _ _) dX10_keep_136 (fun H locs hP hS => ?_)
              refine lv_iload_n hx hb dX10_keep_137 rfl (lv_at hl 3 rfl) ?_
              refine lv_iconst (v := 1) hx hb dX10_keep_138 (by decide) ?_
              refine lv_icmp_ne (tgt := 174) hx hb dX10_keep_139 (by decide) (fun c139 => ?_) (fun c139 => ?_)
              · skip
                have d139 := c139
                rw [fa_eq] at d139
                refine lv_iconst (v := 0) hx hb dX10_keep_174 (by decide) ?_
                refine lv_istore (lv' := [(7, .int (0 : Int32)), (6, .int (1 : Int32)), (0, .ref mo), (1, .int d), (2, .int what), (3, .int k0), (4, .long p0)]) hx hb dX10_keep_175 hl (by decide) rfl (fun ls hl => ?_)
                have loop_177 : ∀ (n : Nat) (i : Nat) (s3 : Nat → Int64), (i ≤ 60) → 60 - i < n → ∀ (H : Heap) (locs : List Loc), va_P D vwCl (WM cy mo a (upd f 0 (0 : Int32)) g (va_up (va_up r 29 ((upd (r 29) d.toNatClampNeg what))) 30 ((upd (r 30) d.toNatClampNeg v110))) (va_up q 33 s3)) H → va_S (AM mo a) s.heap H locs → ∀ (ls : Array Slot), lv_has ls 8 [(7, .int (nI i)), (6, .int (1 : Int32)), (0, .ref mo), (1, .int d), (2, .int what), (3, .int k0), (4, .long p0)] → W p l e (headSpec wsX10_keep ({ frames := 3, cells := 0, slots := 0, locals := 69 })).room s m #[Value.ref mo, Value.int d, Value.int what, Value.int k0, Value.long p0] below meth c H locs 0 0 (MQ below (va_Qi (fun r0 u => ∃ (sh : Nat → Int32), ∃ (sz : Nat → Int32), ∃ (sw : Nat → Int32), ∃ (sf : Nat → Int32), ∃ (sr : Nat → Int64), u = ((upd f 0 (0 : Int32)), g, (va_up (va_up (va_up (va_up r 29 sh) 30 sz) 31 sw) 32 sf), (va_up q 33 sr)) ∧ (yesNo (okKeep (f 1) (fun j9 => (r 3 j9).toNatClampNeg) (fun j9 => (r 4 j9).toNatClampNeg) d what k0 p0) 0 (-1) r0 ∧ ((okKeep (f 1) (fun j9 => (r 3 j9).toNatClampNeg) (fun j9 => (r 4 j9).toNatClampNeg) d what k0 p0 ∧ sh = upd (r 29) d.toNatClampNeg what ∧ (what.toInt = 1 → sw = upd (r 31) d.toNatClampNeg (heR (r 2 k0.toNatClampNeg) (r 3 k0.toNatClampNeg).toNatClampNeg (r 4 k0.toNatClampNeg).toNatClampNeg (smN (fun s9 => r 8 (36 * k0.toNatClampNeg + s9)) 36))) ∧ (¬ what.toInt = 1 → sw = r 31)) ∨ (¬ okKeep (f 1) (fun j9 => (r 3 j9).toNatClampNeg) (fun j9 => (r 4 j9).toNatClampNeg) d what k0 p0 ∧ sh = r 29 ∧ sw = r 31)) ∧ MI (upd f 0 (0 : Int32)) (va_up (va_up (va_up (va_up r 29 sh) 30 sz) 31 sw) 32 sf))) (mB D cy mo a) (AM mo a)) #[Value.ref mo, Value.int d, Value.int what, Value.int k0, Value.long p0] s 0 0 (AM mo a)) (F0 m 177 ls []) := by
                  intro n
                  induction n with
                  | zero => intro i s3 j177_0 hn; exact absurd hn (Nat.not_lt_zero _)
                  | succ n ih_177 =>
                    intro i s3 j177_0 hn_177 H locs hP hS ls hl
                    have ii : (nI i).toInt = (i : Int) := nI_toInt (by omega)
                    refine lv_iload hx hb dX10_keep_177 (lv_at hl 0 rfl) ?_
                    refine lv_aload_n hx hb dX10_keep_179 rfl (lv_at hl 2 rfl) ?_
                    refine m_get (v := .ref (a 30)) hx hb hts hin hown hK hP 30 (by decide) rfl (hts (.fieldLink RX10 64 "ShadowBenchModel" "shelfSize" "[I") (by decide +kernel)) rfl dX10_keep_180 ?_
                    refine lv_iload_n hx hb dX10_keep_183 rfl (lv_at hl 3 rfl) ?_
                    refine m_iald (w := ((upd (r 30) d.toNatClampNeg v110))) hx hb hK hP 18 rfl (vp_in_iff.mpr ⟨by omega, by omega⟩) dX10_keep_184 ?_
                    refine lv_topi (fun v184 e184 => ?_)
                    have i184 : v184.toInt = (((upd (r 30) d.toNatClampNeg v110)) d.toNatClampNeg).toInt := congrArg Int32.toInt e184
                    have z184 := e184
                    simp only [upd, if_true] at z184
                    have y184 := congrArg Int32.toInt z184
                    refine lv_icmp_ge (tgt := 272) hx hb dX10_keep_185 (by decide) (fun c185 => ?_) (fun c185 => ?_)
                    · skip
                      have d185 := c185
                      rw [fa_le] at d185
                      refine lv_iconst (v := 0) hx hb dX10_keep_272 (by decide) ?_
                      have hP := wm_eq rfl rfl (ec_r_29_30__29_30_31_32 r ((upd (r 29) d.toNatClampNeg what)) ((upd (r 30) d.toNatClampNeg v110))) rfl hP
                      exact W.iret (v := (0 : Int32)) hx hb hr (fun t ht hW => ⟨⟨_, ((upd f 0 (0 : Int32)), g, (va_up (va_up (va_up (va_up r 29 (((upd (r 29) d.toNatClampNeg what)))) 30 (((upd (r 30) d.toNatClampNeg v110)))) 31 (r 31)) 32 (r 32)), (va_up q 33 s3)), rfl, ⟨((upd (r 29) d.toNatClampNeg what)), ((upd (r 30) d.toNatClampNeg v110)), (r 31), (r 32), s3, rfl, ⟨(Or.inl ⟨⟨b9, (by unfold okJob; first | exact Or.inl (by omega) | exact Or.inr (Or.inl ⟨by omega, b31⟩) | (have z9 := goodP_of b64; subst e52; subst e58; exact Or.inr (Or.inr ⟨by omega, b44, z9.2⟩)))⟩, rfl⟩), (Or.inl ⟨⟨b9, (by unfold okJob; first | exact Or.inl (by omega) | exact Or.inr (Or.inl ⟨by omega, b31⟩) | (have z9 := goodP_of b64; subst e52; subst e58; exact Or.inr (Or.inr ⟨by omega, b44, z9.2⟩)))⟩, rfl, (by first | exact ⟨fun _ => congrArg (fun z9 => upd (r 31) d.toNatClampNeg z9) q149, fun z9 => by exfalso; omega⟩ | exact ⟨fun z9 => by exfalso; omega, fun _ => rfl⟩)⟩), by first | exact hI | exact mi_sz (d := d) hI (v := v110) (by omega) rfl rfl rfl rfl rfl rfl rfl rfl | exact mi_sz (d := d) hI (v := v131) (by omega) rfl rfl rfl rfl rfl rfl rfl rfl | exact mi_sz (d := d) hI (v := 0) (by decide) rfl rfl rfl rfl rfl rfl rfl rfl⟩⟩, by unfold mB; rw [ht]; exact hP⟩, hS.F ht⟩) hS.2.2 dX10_keep_273
                    · skip
                      have d185 := c185
                      rw [fa_le] at d185
                      refine lv_aload_n hx hb dX10_keep_188 rfl (lv_at hl 2 rfl) ?_
                      refine m_get (v := .ref (a 33)) hx hb hts hin hown hK hP 33 (by decide) rfl (hts (.fieldLink RX10 73 "ShadowBenchModel" "shelfRow" "[J") (by decide +kernel)) rfl dX10_keep_189 ?_
                      refine lv_bipush (v := 60) hx hb dX10_keep_192 (by decide) ?_
                      refine lv_iload_n hx hb dX10_keep_194 rfl (lv_at hl 3 rfl) ?_
                      refine lv_imul hx hb dX10_keep_195 ?_
                      refine lv_topi (fun v195 e195 => ?_)
                      have i195 : v195.toInt = 60 * d.toInt := by rw [e195]; exact mulcL rfl (by omega) (by omega)
                      refine lv_iload hx hb dX10_keep_196 (lv_at hl 0 rfl) ?_
                      refine lv_iadd hx hb dX10_keep_198 ?_
                      refine lv_topi (fun v198 e198 => ?_)
                      have i198 : v198.toInt = v195.toInt + (nI i).toInt := by rw [e198]; exact fb_addI (by omega) (by omega)
                      refine lv_iload_n hx hb dX10_keep_199 rfl (lv_at hl 4 rfl) ?_
                      refine lv_iconst (v := 3) hx hb dX10_keep_200 (by decide) ?_
                      refine lv_icmp_ne (tgt := 215) hx hb dX10_keep_201 (by decide) (fun c201 => ?_) (fun c201 => ?_)
                      · first | exact absurd c201 c95 | exact absurd c95 c201
                      · skip
                        have d201 := c201
                        rw [fa_eq] at d201
                        refine lv_lload hx hb dX10_keep_204 (lv_at hl 6 rfl) ?_
                        refine lv_iload hx hb dX10_keep_206 (lv_at hl 0 rfl) ?_
                        refine m_pu (As := [.long p0, .int (nI i)]) (rest := [.int v198, .ref (a 33)]) ⟨hx, hb, hml, hown, hts⟩ (c_X10_one l p0 (nI i) ) (va_cwS 2 hts gX10_keep_X10_one rfl rfl rfl (by decide +kernel) ⟨Nat.le_of_ble_eq_true rfl, Nat.le_of_ble_eq_true rfl⟩) hP rfl hl.1 rfl (Nat.le_of_ble_eq_true rfl) dX10_keep_208 ⟨Nat.le_of_ble_eq_true rfl, Nat.le_of_ble_eq_true rfl⟩ hS (fun r208 H locs q208 hP hS => ?_)
                        have i208 : r208.toInt = (r_one p0 (nI i)).toInt := congrArg Int32.toInt q208
                        refine lv_i2l (v := r208.toInt64) hx hb dX10_keep_211 rfl ?_
                        refine lv_goto (tgt := 265) hx hb dX10_keep_212 (by decide) ?_
                        refine m_last (w := s3) hx hb hK hP hD hS 21 rfl (vp_in_iff.mpr ⟨by omega, by omega⟩) (va_up (va_up q 33 s3) 33 (vp_updL s3 v198.toNatClampNeg r208.toInt64)) (ms_33 cy mo a _ _ _ _ _) dX10_keep_265 (fun H locs hP hS => ?_)
                        have hP := wm_eq rfl rfl rfl (es_q_33__33 q s3 (vp_updL s3 v198.toNatClampNeg r208.toInt64)) hP
                        refine lv_iinc (v := (nI (i + 1))) (lv' := [(7, .int (nI (i + 1))), (6, .int (1 : Int32)), (0, .ref mo), (1, .int d), (2, .int what), (3, .int k0), (4, .long p0)]) hx hb dX10_keep_266 hl (k := 0) rfl (nI_1 _) (by decide) rfl (fun ls hl => ?_)
                        refine lv_goto (tgt := 177) hx hb dX10_keep_269 (by decide) ?_
                        have hP := wm_eq rfl rfl (ec_r_29_30__29_30 r ((upd (r 29) d.toNatClampNeg what)) ((upd (r 30) d.toNatClampNeg v110))) rfl hP
                        exact ih_177 (i + 1) (vp_updL s3 v198.toNatClampNeg r208.toInt64) (by omega) (by omega) _ _ hP hS ls (lv_sub hl [0, 1, 2, 3, 4, 5, 6] rfl)
                have hP := wm_eq rfl rfl (ec_r_29_30__29_30 r ((upd (r 29) d.toNatClampNeg what)) ((upd (r 30) d.toNatClampNeg v110))) (ec_q___33 q ) hP
                exact loop_177 (60 + 1) 0 (q 33) (by omega) (by omega) _ _ hP hS ls (lv_sub hl [0, 1, 2, 3, 4, 5, 6] rfl)
              · skip
                have d139 := c139
                rw [fa_eq] at d139
                refine lv_aload_n hx hb dX10_keep_142 rfl (lv_at hl 1 rfl) ?_
                refine m_get (v := .ref (a 31)) hx hb hts hin hown hK hP 31 (by decide) rfl (hts (.fieldLink RX10 67 "ShadowBenchModel" "shelfWeight" "[I") (by decide +kernel)) rfl dX10_keep_143 ?_
                refine lv_iload_n hx hb dX10_keep_146 rfl (lv_at hl 2 rfl) ?_
                refine lv_aload_n hx hb dX10_keep_147 rfl (lv_at hl 1 rfl) ?_
                refine lv_iload_n hx hb dX10_keep_148 rfl (lv_at hl 4 rfl) ?_
                refine m_calli (As := [.int k0]) (rest := [.int d, .ref (a 31)]) ⟨hx, hb, hml, hown, hts⟩ (c_X10_weightOf_x l D cy mo a (upd f 0 (0 : Int32)) g (va_up (va_up r 29 ((upd (r 29) d.toNatClampNeg what))) 30 ((upd (r 30) d.toNatClampNeg v110))) q k0 hD (by first | exact hI | exact mi_sz (d := d) hI (v := 0) (by first | omega | decide) rfl rfl rfl rfl rfl rfl rfl rfl | exact mi_sz (d := d) hI (v := v131) (by first | omega | decide) rfl rfl rfl rfl rfl rfl rfl rfl | exact mi_sz (d := d) hI (v := v110) (by first | omega | decide) rfl rfl rfl rfl rfl rfl rfl rfl) (show 0 ≤ k0.toInt ∧ k0.toInt < (f 1).toInt by omega)) (cwV 1 hts gX10_keep_X10_weightOf rfl rfl rfl (by decide +kernel) ⟨Nat.le_of_ble_eq_true rfl, Nat.le_of_ble_eq_true rfl⟩) hK hP rfl hl.1 rfl (Nat.le_of_ble_eq_true rfl) dX10_keep_149 ⟨Nat.le_of_ble_eq_true rfl, Nat.le_of_ble_eq_true rfl⟩ hS (fun r149 u H locs q149 hP hS => ?_)
                obtain ⟨rfl, q149⟩ := q149
                have hP : va_P D vwCl (WM cy mo a (upd f 0 (0 : Int32)) g (va_up (va_up r 29 ((upd (r 29) d.toNatClampNeg what))) 30 ((upd (r 30) d.toNatClampNeg v110))) q) H := hP
                have q149 : r149 = (heR ((r 2) k0.toNatClampNeg) ((r 3) k0.toNatClampNeg).toNatClampNeg ((r 4) k0.toNatClampNeg).toNatClampNeg (smN (fun s9 => (va_up (va_up r 29 ((upd (r 29) d.toNatClampNeg what))) 30 ((upd (r 30) d.toNatClampNeg v110))) 8 (36 * k0.toNatClampNeg + s9)) 36)) := q149
                refine m_iast (w := (r 31)) hx hb hK hP hD hS 19 rfl (vp_in_iff.mpr ⟨by omega, by omega⟩) (va_up (va_up (va_up r 29 ((upd (r 29) d.toNatClampNeg what))) 30 ((upd (r 30) d.toNatClampNeg v110))) 31 (upd (r 31) d.toNatClampNeg r149)) (ms_31 cy mo a _ _ _ _ _) dX10_keep_152 (fun H locs hP hS => ?_)
                refine lv_aload_n hx hb dX10_keep_153 rfl (lv_at hl 1 rfl) ?_
                refine m_get (v := .ref (a 32)) hx hb hts hin hown hK hP 32 (by decide) rfl (hts (.fieldLink RX10 70 "ShadowBenchModel" "shelfFailure" "[I") (by decide +kernel)) rfl dX10_keep_154 ?_
                refine lv_iload_n hx hb dX10_keep_157 rfl (lv_at hl 2 rfl) ?_
                refine lv_aload_n hx hb dX10_keep_158 rfl (lv_at hl 1 rfl) ?_
                refine m_get (v := .ref (a 2)) hx hb hts hin hown hK hP 2 (by decide) rfl (hts (.fieldLink RX10 7 "ShadowBenchModel" "kind" "[I") (by decide +kernel)) rfl dX10_keep_159 ?_
                refine lv_iload_n hx hb dX10_keep_162 rfl (lv_at hl 4 rfl) ?_
                refine m_iald (w := (r 2)) hx hb hK hP 1 rfl (vp_in_iff.mpr ⟨by omega, by omega⟩) dX10_keep_163 ?_
                refine lv_topi (fun v163 e163 => ?_)
                have i163 : v163.toInt = ((r 2) k0.toNatClampNeg).toInt := congrArg Int32.toInt e163
                refine lv_if_ne (tgt := 172) hx hb dX10_keep_164 (by decide) (fun c164 => ?_) (fun c164 => ?_)
                · skip
                  have d164 := c164
                  rw [fa_eq] at d164
                  refine lv_iload_n hx hb dX10_keep_172 rfl (lv_at hl 4 rfl) ?_
                  refine m_iast (w := (r 32)) hx hb hK hP hD hS 20 rfl (vp_in_iff.mpr ⟨by omega, by omega⟩) (va_up (va_up (va_up (va_up r 29 ((upd (r 29) d.toNatClampNeg what))) 30 ((upd (r 30) d.toNatClampNeg v110))) 31 ((upd (r 31) d.toNatClampNeg r149))) 32 (upd (r 32) d.toNatClampNeg k0)) (ms_32 cy mo a _ _ _ _ _) dX10_keep_173 (fun H locs hP hS => ?_)
                  refine lv_iconst (v := 0) hx hb dX10_keep_174 (by decide) ?_
                  refine lv_istore (lv' := [(7, .int (0 : Int32)), (6, .int (1 : Int32)), (0, .ref mo), (1, .int d), (2, .int what), (3, .int k0), (4, .long p0)]) hx hb dX10_keep_175 hl (by decide) rfl (fun ls hl => ?_)
                  have loop_177 : ∀ (n : Nat) (i : Nat) (s3 : Nat → Int64), (i ≤ 60) → 60 - i < n → ∀ (H : Heap) (locs : List Loc), va_P D vwCl (WM cy mo a (upd f 0 (0 : Int32)) g (va_up (va_up (va_up (va_up r 29 ((upd (r 29) d.toNatClampNeg what))) 30 ((upd (r 30) d.toNatClampNeg v110))) 31 ((upd (r 31) d.toNatClampNeg r149))) 32 ((upd (r 32) d.toNatClampNeg k0))) (va_up q 33 s3)) H → va_S (AM mo a) s.heap H locs → ∀ (ls : Array Slot), lv_has ls 8 [(7, .int (nI i)), (6, .int (1 : Int32)), (0, .ref mo), (1, .int d), (2, .int what), (3, .int k0), (4, .long p0)] → W p l e (headSpec wsX10_keep ({ frames := 3, cells := 0, slots := 0, locals := 69 })).room s m #[Value.ref mo, Value.int d, Value.int what, Value.int k0, Value.long p0] below meth c H locs 0 0 (MQ below (va_Qi (fun r0 u => ∃ (sh : Nat → Int32), ∃ (sz : Nat → Int32), ∃ (sw : Nat → Int32), ∃ (sf : Nat → Int32), ∃ (sr : Nat → Int64), u = ((upd f 0 (0 : Int32)), g, (va_up (va_up (va_up (va_up r 29 sh) 30 sz) 31 sw) 32 sf), (va_up q 33 sr)) ∧ (yesNo (okKeep (f 1) (fun j9 => (r 3 j9).toNatClampNeg) (fun j9 => (r 4 j9).toNatClampNeg) d what k0 p0) 0 (-1) r0 ∧ ((okKeep (f 1) (fun j9 => (r 3 j9).toNatClampNeg) (fun j9 => (r 4 j9).toNatClampNeg) d what k0 p0 ∧ sh = upd (r 29) d.toNatClampNeg what ∧ (what.toInt = 1 → sw = upd (r 31) d.toNatClampNeg (heR (r 2 k0.toNatClampNeg) (r 3 k0.toNatClampNeg).toNatClampNeg (r 4 k0.toNatClampNeg).toNatClampNeg (smN (fun s9 => r 8 (36 * k0.toNatClampNeg + s9)) 36))) ∧ (¬ what.toInt = 1 → sw = r 31)) ∨ (¬ okKeep (f 1) (fun j9 => (r 3 j9).toNatClampNeg) (fun j9 => (r 4 j9).toNatClampNeg) d what k0 p0 ∧ sh = r 29 ∧ sw = r 31)) ∧ MI (upd f 0 (0 : Int32)) (va_up (va_up (va_up (va_up r 29 sh) 30 sz) 31 sw) 32 sf))) (mB D cy mo a) (AM mo a)) #[Value.ref mo, Value.int d, Value.int what, Value.int k0, Value.long p0] s 0 0 (AM mo a)) (F0 m 177 ls []) := by
                    intro n
                    induction n with
                    | zero => intro i s3 j177_0 hn; exact absurd hn (Nat.not_lt_zero _)
                    | succ n ih_177 =>
                      intro i s3 j177_0 hn_177 H locs hP hS ls hl
                      have ii : (nI i).toInt = (i : Int) := nI_toInt (by omega)
                      refine lv_iload hx hb dX10_keep_177 (lv_at hl 0 rfl) ?_
                      refine lv_aload_n hx hb dX10_keep_179 rfl (lv_at hl 2 rfl) ?_
                      refine m_get (v := .ref (a 30)) hx hb hts hin hown hK hP 30 (by decide) rfl (hts (.fieldLink RX10 64 "ShadowBenchModel" "shelfSize" "[I") (by decide +kernel)) rfl dX10_keep_180 ?_
                      refine lv_iload_n hx hb dX10_keep_183 rfl (lv_at hl 3 rfl) ?_
                      refine m_iald (w := ((upd (r 30) d.toNatClampNeg v110))) hx hb hK hP 18 rfl (vp_in_iff.mpr ⟨by omega, by omega⟩) dX10_keep_184 ?_
                      refine lv_topi (fun v184 e184 => ?_)
                      have i184 : v184.toInt = (((upd (r 30) d.toNatClampNeg v110)) d.toNatClampNeg).toInt := congrArg Int32.toInt e184
                      have z184 := e184
                      simp only [upd, if_true] at z184
                      have y184 := congrArg Int32.toInt z184
                      refine lv_icmp_ge (tgt := 272) hx hb dX10_keep_185 (by decide) (fun c185 => ?_) (fun c185 => ?_)
                      · skip
                        have d185 := c185
                        rw [fa_le] at d185
                        refine lv_iconst (v := 0) hx hb dX10_keep_272 (by decide) ?_
                        have hP := wm_eq rfl rfl (ec_r_29_30_31_32__29_30_31_32 r ((upd (r 29) d.toNatClampNeg what)) ((upd (r 30) d.toNatClampNeg v110)) ((upd (r 31) d.toNatClampNeg r149)) ((upd (r 32) d.toNatClampNeg k0))) rfl hP
                        exact W.iret (v := (0 : Int32)) hx hb hr (fun t ht hW => ⟨⟨_, ((upd f 0 (0 : Int32)), g, (va_up (va_up (va_up (va_up r 29 (((upd (r 29) d.toNatClampNeg what)))) 30 (((upd (r 30) d.toNatClampNeg v110)))) 31 (((upd (r 31) d.toNatClampNeg r149)))) 32 (((upd (r 32) d.toNatClampNeg k0)))), (va_up q 33 s3)), rfl, ⟨((upd (r 29) d.toNatClampNeg what)), ((upd (r 30) d.toNatClampNeg v110)), ((upd (r 31) d.toNatClampNeg r149)), ((upd (r 32) d.toNatClampNeg k0)), s3, rfl, ⟨(Or.inl ⟨⟨b9, (by unfold okJob; first | exact Or.inl (by omega) | exact Or.inr (Or.inl ⟨by omega, b31⟩) | (have z9 := goodP_of b64; subst e52; subst e58; exact Or.inr (Or.inr ⟨by omega, b44, z9.2⟩)))⟩, rfl⟩), (Or.inl ⟨⟨b9, (by unfold okJob; first | exact Or.inl (by omega) | exact Or.inr (Or.inl ⟨by omega, b31⟩) | (have z9 := goodP_of b64; subst e52; subst e58; exact Or.inr (Or.inr ⟨by omega, b44, z9.2⟩)))⟩, rfl, (by first | exact ⟨fun _ => congrArg (fun z9 => upd (r 31) d.toNatClampNeg z9) q149, fun z9 => by exfalso; omega⟩ | exact ⟨fun z9 => by exfalso; omega, fun _ => rfl⟩)⟩), by first | exact hI | exact mi_sz (d := d) hI (v := v110) (by omega) rfl rfl rfl rfl rfl rfl rfl rfl | exact mi_sz (d := d) hI (v := v131) (by omega) rfl rfl rfl rfl rfl rfl rfl rfl | exact mi_sz (d := d) hI (v := 0) (by decide) rfl rfl rfl rfl rfl rfl rfl rfl⟩⟩, by unfold mB; rw [ht]; exact hP⟩, hS.F ht⟩) hS.2.2 dX10_keep_273
                      · skip
                        have d185 := c185
                        rw [fa_le] at d185
                        refine lv_aload_n hx hb dX10_keep_188 rfl (lv_at hl 2 rfl) ?_
                        refine m_get (v := .ref (a 33)) hx hb hts hin hown hK hP 33 (by decide) rfl (hts (.fieldLink RX10 73 "ShadowBenchModel" "shelfRow" "[J") (by decide +kernel)) rfl dX10_keep_189 ?_
                        refine lv_bipush (v := 60) hx hb dX10_keep_192 (by decide) ?_
                        refine lv_iload_n hx hb dX10_keep_194 rfl (lv_at hl 3 rfl) ?_
                        refine lv_imul hx hb dX10_keep_195 ?_
                        refine lv_topi (fun v195 e195 => ?_)
                        have i195 : v195.toInt = 60 * d.toInt := by rw [e195]; exact mulcL rfl (by omega) (by omega)
                        refine lv_iload hx hb dX10_keep_196 (lv_at hl 0 rfl) ?_
                        refine lv_iadd hx hb dX10_keep_198 ?_
                        refine lv_topi (fun v198 e198 => ?_)
                        have i198 : v198.toInt = v195.toInt + (nI i).toInt := by rw [e198]; exact fb_addI (by omega) (by omega)
                        refine lv_iload_n hx hb dX10_keep_199 rfl (lv_at hl 4 rfl) ?_
                        refine lv_iconst (v := 3) hx hb dX10_keep_200 (by decide) ?_
                        refine lv_icmp_ne (tgt := 215) hx hb dX10_keep_201 (by decide) (fun c201 => ?_) (fun c201 => ?_)
                        · first | exact absurd c201 c95 | exact absurd c95 c201
                        · skip
                          have d201 := c201
                          rw [fa_eq] at d201
                          refine lv_lload hx hb dX10_keep_204 (lv_at hl 6 rfl) ?_
                          refine lv_iload hx hb dX10_keep_206 (lv_at hl 0 rfl) ?_
                          refine m_pu (As := [.long p0, .int (nI i)]) (rest := [.int v198, .ref (a 33)]) ⟨hx, hb, hml, hown, hts⟩ (c_X10_one l p0 (nI i) ) (va_cwS 2 hts gX10_keep_X10_one rfl rfl rfl (by decide +kernel) ⟨Nat.le_of_ble_eq_true rfl, Nat.le_of_ble_eq_true rfl⟩) hP rfl hl.1 rfl (Nat.le_of_ble_eq_true rfl) dX10_keep_208 ⟨Nat.le_of_ble_eq_true rfl, Nat.le_of_ble_eq_true rfl⟩ hS (fun r208 H locs q208 hP hS => ?_)
                          have i208 : r208.toInt = (r_one p0 (nI i)).toInt := congrArg Int32.toInt q208
                          refine lv_i2l (v := r208.toInt64) hx hb dX10_keep_211 rfl ?_
                          refine lv_goto (tgt := 265) hx hb dX10_keep_212 (by decide) ?_
                          refine m_last (w := s3) hx hb hK hP hD hS 21 rfl (vp_in_iff.mpr ⟨by omega, by omega⟩) (va_up (va_up q 33 s3) 33 (vp_updL s3 v198.toNatClampNeg r208.toInt64)) (ms_33 cy mo a _ _ _ _ _) dX10_keep_265 (fun H locs hP hS => ?_)
                          have hP := wm_eq rfl rfl rfl (es_q_33__33 q s3 (vp_updL s3 v198.toNatClampNeg r208.toInt64)) hP
                          refine lv_iinc (v := (nI (i + 1))) (lv' := [(7, .int (nI (i + 1))), (6, .int (1 : Int32)), (0, .ref mo), (1, .int d), (2, .int what), (3, .int k0), (4, .long p0)]) hx hb dX10_keep_266 hl (k := 0) rfl (nI_1 _) (by decide) rfl (fun ls hl => ?_)
                          refine lv_goto (tgt := 177) hx hb dX10_keep_269 (by decide) ?_
                          have hP := wm_eq rfl rfl (ec_r_29_30_31_32__29_30_31_32 r ((upd (r 29) d.toNatClampNeg what)) ((upd (r 30) d.toNatClampNeg v110)) ((upd (r 31) d.toNatClampNeg r149)) ((upd (r 32) d.toNatClampNeg k0))) rfl hP
                          exact ih_177 (i + 1) (vp_updL s3 v198.toNatClampNeg r208.toInt64) (by omega) (by omega) _ _ hP hS ls (lv_sub hl [0, 1, 2, 3, 4, 5, 6] rfl)
                  have hP := wm_eq rfl rfl (ec_r_29_30_31_32__29_30_31_32 r ((upd (r 29) d.toNatClampNeg what)) ((upd (r 30) d.toNatClampNeg v110)) ((upd (r 31) d.toNatClampNeg r149)) ((upd (r 32) d.toNatClampNeg k0))) (ec_q___33 q ) hP
                  exact loop_177 (60 + 1) 0 (q 33) (by omega) (by omega) _ _ hP hS ls (lv_sub hl [0, 1, 2, 3, 4, 5, 6] rfl)
                · skip
                  have d164 := c164
                  rw [fa_eq] at d164
                  refine lv_bipush (v := (-15)) hx hb dX10_keep_167 (by decide) ?_
                  refine lv_goto (tgt := 173) hx hb dX10_keep_169 (by decide) ?_
                  refine m_iast (w := (r 32)) hx hb hK hP hD hS 20 rfl (vp_in_iff.mpr ⟨by omega, by omega⟩) (va_up (va_up (va_up (va_up r 29 ((upd (r 29) d.toNatClampNeg what))) 30 ((upd (r 30) d.toNatClampNeg v110))) 31 ((upd (r 31) d.toNatClampNeg r149))) 32 (upd (r 32) d.toNatClampNeg (((-15) : Int32)))) (ms_32 cy mo a _ _ _ _ _) dX10_keep_173 (fun H locs hP hS => ?_)
                  refine lv_iconst (v := 0) hx hb dX10_keep_174 (by decide) ?_
                  refine lv_istore (lv' := [(7, .int (0 : Int32)), (6, .int (1 : Int32)), (0, .ref mo), (1, .int d), (2, .int what), (3, .int k0), (4, .long p0)]) hx hb dX10_keep_175 hl (by decide) rfl (fun ls hl => ?_)
                  have loop_177 : ∀ (n : Nat) (i : Nat) (s3 : Nat → Int64), (i ≤ 60) → 60 - i < n → ∀ (H : Heap) (locs : List Loc), va_P D vwCl (WM cy mo a (upd f 0 (0 : Int32)) g (va_up (va_up (va_up (va_up r 29 ((upd (r 29) d.toNatClampNeg what))) 30 ((upd (r 30) d.toNatClampNeg v110))) 31 ((upd (r 31) d.toNatClampNeg r149))) 32 ((upd (r 32) d.toNatClampNeg (((-15) : Int32))))) (va_up q 33 s3)) H → va_S (AM mo a) s.heap H locs → ∀ (ls : Array Slot), lv_has ls 8 [(7, .int (nI i)), (6, .int (1 : Int32)), (0, .ref mo), (1, .int d), (2, .int what), (3, .int k0), (4, .long p0)] → W p l e (headSpec wsX10_keep ({ frames := 3, cells := 0, slots := 0, locals := 69 })).room s m #[Value.ref mo, Value.int d, Value.int what, Value.int k0, Value.long p0] below meth c H locs 0 0 (MQ below (va_Qi (fun r0 u => ∃ (sh : Nat → Int32), ∃ (sz : Nat → Int32), ∃ (sw : Nat → Int32), ∃ (sf : Nat → Int32), ∃ (sr : Nat → Int64), u = ((upd f 0 (0 : Int32)), g, (va_up (va_up (va_up (va_up r 29 sh) 30 sz) 31 sw) 32 sf), (va_up q 33 sr)) ∧ (yesNo (okKeep (f 1) (fun j9 => (r 3 j9).toNatClampNeg) (fun j9 => (r 4 j9).toNatClampNeg) d what k0 p0) 0 (-1) r0 ∧ ((okKeep (f 1) (fun j9 => (r 3 j9).toNatClampNeg) (fun j9 => (r 4 j9).toNatClampNeg) d what k0 p0 ∧ sh = upd (r 29) d.toNatClampNeg what ∧ (what.toInt = 1 → sw = upd (r 31) d.toNatClampNeg (heR (r 2 k0.toNatClampNeg) (r 3 k0.toNatClampNeg).toNatClampNeg (r 4 k0.toNatClampNeg).toNatClampNeg (smN (fun s9 => r 8 (36 * k0.toNatClampNeg + s9)) 36))) ∧ (¬ what.toInt = 1 → sw = r 31)) ∨ (¬ okKeep (f 1) (fun j9 => (r 3 j9).toNatClampNeg) (fun j9 => (r 4 j9).toNatClampNeg) d what k0 p0 ∧ sh = r 29 ∧ sw = r 31)) ∧ MI (upd f 0 (0 : Int32)) (va_up (va_up (va_up (va_up r 29 sh) 30 sz) 31 sw) 32 sf))) (mB D cy mo a) (AM mo a)) #[Value.ref mo, Value.int d, Value.int what, Value.int k0, Value.long p0] s 0 0 (AM mo a)) (F0 m 177 ls []) := by
                    intro n
                    induction n with
                    | zero => intro i s3 j177_0 hn; exact absurd hn (Nat.not_lt_zero _)
                    | succ n ih_177 =>
                      intro i s3 j177_0 hn_177 H locs hP hS ls hl
                      have ii : (nI i).toInt = (i : Int) := nI_toInt (by omega)
                      refine lv_iload hx hb dX10_keep_177 (lv_at hl 0 rfl) ?_
                      refine lv_aload_n hx hb dX10_keep_179 rfl (lv_at hl 2 rfl) ?_
                      refine m_get (v := .ref (a 30)) hx hb hts hin hown hK hP 30 (by decide) rfl (hts (.fieldLink RX10 64 "ShadowBenchModel" "shelfSize" "[I") (by decide +kernel)) rfl dX10_keep_180 ?_
                      refine lv_iload_n hx hb dX10_keep_183 rfl (lv_at hl 3 rfl) ?_
                      refine m_iald (w := ((upd (r 30) d.toNatClampNeg v110))) hx hb hK hP 18 rfl (vp_in_iff.mpr ⟨by omega, by omega⟩) dX10_keep_184 ?_
                      refine lv_topi (fun v184 e184 => ?_)
                      have i184 : v184.toInt = (((upd (r 30) d.toNatClampNeg v110)) d.toNatClampNeg).toInt := congrArg Int32.toInt e184
                      have z184 := e184
                      simp only [upd, if_true] at z184
                      have y184 := congrArg Int32.toInt z184
                      refine lv_icmp_ge (tgt := 272) hx hb dX10_keep_185 (by decide) (fun c185 => ?_) (fun c185 => ?_)
                      · skip
                        have d185 := c185
                        rw [fa_le] at d185
                        refine lv_iconst (v := 0) hx hb dX10_keep_272 (by decide) ?_
                        have hP := wm_eq rfl rfl (ec_r_29_30_31_32__29_30_31_32 r ((upd (r 29) d.toNatClampNeg what)) ((upd (r 30) d.toNatClampNeg v110)) ((upd (r 31) d.toNatClampNeg r149)) ((upd (r 32) d.toNatClampNeg (((-15) : Int32))))) rfl hP
                        exact W.iret (v := (0 : Int32)) hx hb hr (fun t ht hW => ⟨⟨_, ((upd f 0 (0 : Int32)), g, (va_up (va_up (va_up (va_up r 29 (((upd (r 29) d.toNatClampNeg what)))) 30 (((upd (r 30) d.toNatClampNeg v110)))) 31 (((upd (r 31) d.toNatClampNeg r149)))) 32 (((upd (r 32) d.toNatClampNeg (((-15) : Int32)))))), (va_up q 33 s3)), rfl, ⟨((upd (r 29) d.toNatClampNeg what)), ((upd (r 30) d.toNatClampNeg v110)), ((upd (r 31) d.toNatClampNeg r149)), ((upd (r 32) d.toNatClampNeg (((-15) : Int32)))), s3, rfl, ⟨(Or.inl ⟨⟨b9, (by unfold okJob; first | exact Or.inl (by omega) | exact Or.inr (Or.inl ⟨by omega, b31⟩) | (have z9 := goodP_of b64; subst e52; subst e58; exact Or.inr (Or.inr ⟨by omega, b44, z9.2⟩)))⟩, rfl⟩), (Or.inl ⟨⟨b9, (by unfold okJob; first | exact Or.inl (by omega) | exact Or.inr (Or.inl ⟨by omega, b31⟩) | (have z9 := goodP_of b64; subst e52; subst e58; exact Or.inr (Or.inr ⟨by omega, b44, z9.2⟩)))⟩, rfl, (by first | exact ⟨fun _ => congrArg (fun z9 => upd (r 31) d.toNatClampNeg z9) q149, fun z9 => by exfalso; omega⟩ | exact ⟨fun z9 => by exfalso; omega, fun _ => rfl⟩)⟩), by first | exact hI | exact mi_sz (d := d) hI (v := v110) (by omega) rfl rfl rfl rfl rfl rfl rfl rfl | exact mi_sz (d := d) hI (v := v131) (by omega) rfl rfl rfl rfl rfl rfl rfl rfl | exact mi_sz (d := d) hI (v := 0) (by decide) rfl rfl rfl rfl rfl rfl rfl rfl⟩⟩, by unfold mB; rw [ht]; exact hP⟩, hS.F ht⟩) hS.2.2 dX10_keep_273
                      · skip
                        have d185 := c185
                        rw [fa_le] at d185
                        refine lv_aload_n hx hb dX10_keep_188 rfl (lv_at hl 2 rfl) ?_
                        refine m_get (v := .ref (a 33)) hx hb hts hin hown hK hP 33 (by decide) rfl (hts (.fieldLink RX10 73 "ShadowBenchModel" "shelfRow" "[J") (by decide +kernel)) rfl dX10_keep_189 ?_
                        refine lv_bipush (v := 60) hx hb dX10_keep_192 (by decide) ?_
                        refine lv_iload_n hx hb dX10_keep_194 rfl (lv_at hl 3 rfl) ?_
                        refine lv_imul hx hb dX10_keep_195 ?_
                        refine lv_topi (fun v195 e195 => ?_)
                        have i195 : v195.toInt = 60 * d.toInt := by rw [e195]; exact mulcL rfl (by omega) (by omega)
                        refine lv_iload hx hb dX10_keep_196 (lv_at hl 0 rfl) ?_
                        refine lv_iadd hx hb dX10_keep_198 ?_
                        refine lv_topi (fun v198 e198 => ?_)
                        have i198 : v198.toInt = v195.toInt + (nI i).toInt := by rw [e198]; exact fb_addI (by omega) (by omega)
                        refine lv_iload_n hx hb dX10_keep_199 rfl (lv_at hl 4 rfl) ?_
                        refine lv_iconst (v := 3) hx hb dX10_keep_200 (by decide) ?_
                        refine lv_icmp_ne (tgt := 215) hx hb dX10_keep_201 (by decide) (fun c201 => ?_) (fun c201 => ?_)
                        · first | exact absurd c201 c95 | exact absurd c95 c201
                        · skip
                          have d201 := c201
                          rw [fa_eq] at d201
                          refine lv_lload hx hb dX10_keep_204 (lv_at hl 6 rfl) ?_
                          refine lv_iload hx hb dX10_keep_206 (lv_at hl 0 rfl) ?_
                          refine m_pu (As := [.long p0, .int (nI i)]) (rest := [.int v198, .ref (a 33)]) ⟨hx, hb, hml, hown, hts⟩ (c_X10_one l p0 (nI i) ) (va_cwS 2 hts gX10_keep_X10_one rfl rfl rfl (by decide +kernel) ⟨Nat.le_of_ble_eq_true rfl, Nat.le_of_ble_eq_true rfl⟩) hP rfl hl.1 rfl (Nat.le_of_ble_eq_true rfl) dX10_keep_208 ⟨Nat.le_of_ble_eq_true rfl, Nat.le_of_ble_eq_true rfl⟩ hS (fun r208 H locs q208 hP hS => ?_)
                          have i208 : r208.toInt = (r_one p0 (nI i)).toInt := congrArg Int32.toInt q208
                          refine lv_i2l (v := r208.toInt64) hx hb dX10_keep_211 rfl ?_
                          refine lv_goto (tgt := 265) hx hb dX10_keep_212 (by decide) ?_
                          refine m_last (w := s3) hx hb hK hP hD hS 21 rfl (vp_in_iff.mpr ⟨by omega, by omega⟩) (va_up (va_up q 33 s3) 33 (vp_updL s3 v198.toNatClampNeg r208.toInt64)) (ms_33 cy mo a _ _ _ _ _) dX10_keep_265 (fun H locs hP hS => ?_)
                          have hP := wm_eq rfl rfl rfl (es_q_33__33 q s3 (vp_updL s3 v198.toNatClampNeg r208.toInt64)) hP
                          refine lv_iinc (v := (nI (i + 1))) (lv' := [(7, .int (nI (i + 1))), (6, .int (1 : Int32)), (0, .ref mo), (1, .int d), (2, .int what), (3, .int k0), (4, .long p0)]) hx hb dX10_keep_266 hl (k := 0) rfl (nI_1 _) (by decide) rfl (fun ls hl => ?_)
                          refine lv_goto (tgt := 177) hx hb dX10_keep_269 (by decide) ?_
                          have hP := wm_eq rfl rfl (ec_r_29_30_31_32__29_30_31_32 r ((upd (r 29) d.toNatClampNeg what)) ((upd (r 30) d.toNatClampNeg v110)) ((upd (r 31) d.toNatClampNeg r149)) ((upd (r 32) d.toNatClampNeg (((-15) : Int32))))) rfl hP
                          exact ih_177 (i + 1) (vp_updL s3 v198.toNatClampNeg r208.toInt64) (by omega) (by omega) _ _ hP hS ls (lv_sub hl [0, 1, 2, 3, 4, 5, 6] rfl)
                  have hP := wm_eq rfl rfl (ec_r_29_30_31_32__29_30_31_32 r ((upd (r 29) d.toNatClampNeg what)) ((upd (r 30) d.toNatClampNeg v110)) ((upd (r 31) d.toNatClampNeg r149)) ((upd (r 32) d.toNatClampNeg (((-15) : Int32))))) (ec_q___33 q ) hP
                  exact loop_177 (60 + 1) 0 (q 33) (by omega) (by omega) _ _ hP hS ls (lv_sub hl [0, 1, 2, 3, 4, 5, 6] rfl)
          · first | exact absurd c76 (by decide) | exact absurd (by decide) c76
        · skip
          have b31 := bo_f q28 c31
          refine lv_iload_n hx hb dX10_keep_34 rfl (lv_at hl 2 rfl) ?_
          refine lv_iconst (v := 3) hx hb dX10_keep_35 (by decide) ?_
          refine lv_icmp_ne (tgt := 71) hx hb dX10_keep_36 (by decide) (fun c36 => ?_) (fun c36 => ?_)
          · skip
            have d36 := c36
            rw [fa_eq] at d36
            refine lv_iconst (v := 0) hx hb dX10_keep_71 (by decide) ?_
            refine lv_istore (lv' := [(6, .int (0 : Int32)), (0, .ref mo), (1, .int d), (2, .int what), (3, .int k0), (4, .long p0)]) hx hb dX10_keep_72 hl (by decide) rfl (fun ls hl => ?_)
            refine lv_iload hx hb dX10_keep_74 (lv_at hl 0 rfl) ?_
            refine lv_if_ne (tgt := 81) hx hb dX10_keep_76 (by decide) (fun c76 => ?_) (fun c76 => ?_)
            · first | exact absurd c76 (by decide) | exact absurd (by decide) c76
            · skip
              have d76 := c76
              rw [fa_eq] at d76
              refine lv_iconst (v := (-1)) hx hb dX10_keep_79 (by decide) ?_
              have hP := wm_eq rfl rfl (ec_r___29_30_31_32 r ) (ec_q___33 q ) hP
              exact W.iret (v := ((-1) : Int32)) hx hb hr (fun t ht hW => ⟨⟨_, ((upd f 0 (0 : Int32)), g, (va_up (va_up (va_up (va_up r 29 (r 29)) 30 (r 30)) 31 (r 31)) 32 (r 32)), (va_up q 33 (q 33))), rfl, ⟨(r 29), (r 30), (r 31), (r 32), (q 33), rfl, ⟨(Or.inr ⟨(fun z9 => by unfold okKeep okJob at z9; rcases z9.2 with z8 | ⟨z8, z7⟩ | ⟨z8, z7, z6⟩; (first | exact b9 z9.1 | omega); (first | exact b9 z9.1 | exact b31 z7 | omega); (first | exact b9 z9.1 | exact b44 z7 | (have szw := mi_w hI (x := k0) (by omega) (by omega) rfl; have szh := mi_h hI (x := k0) (by omega) (by omega) rfl; subst e52; subst e58; exact goodP_no b64 ⟨⟨szw, szh⟩, z6⟩) | omega)), rfl⟩), (Or.inr ⟨(fun z9 => by unfold okKeep okJob at z9; rcases z9.2 with z8 | ⟨z8, z7⟩ | ⟨z8, z7, z6⟩; (first | exact b9 z9.1 | omega); (first | exact b9 z9.1 | exact b31 z7 | omega); (first | exact b9 z9.1 | exact b44 z7 | (have szw := mi_w hI (x := k0) (by omega) (by omega) rfl; have szh := mi_h hI (x := k0) (by omega) (by omega) rfl; subst e52; subst e58; exact goodP_no b64 ⟨⟨szw, szh⟩, z6⟩) | omega)), rfl, rfl⟩), by first | exact hI | exact mi_sz (d := d) hI (v := v110) (by omega) rfl rfl rfl rfl rfl rfl rfl rfl | exact mi_sz (d := d) hI (v := v131) (by omega) rfl rfl rfl rfl rfl rfl rfl rfl | exact mi_sz (d := d) hI (v := 0) (by decide) rfl rfl rfl rfl rfl rfl rfl rfl⟩⟩, by unfold mB; rw [ht]; exact hP⟩, hS.F ht⟩) hS.2.2 dX10_keep_80
          · skip
            have d36 := c36
            rw [fa_eq] at d36
            refine lv_aload_n hx hb dX10_keep_39 rfl (lv_at hl 0 rfl) ?_
            refine lv_iload_n hx hb dX10_keep_40 rfl (lv_at hl 3 rfl) ?_
            refine m_calli (As := [.int k0]) (rest := []) ⟨hx, hb, hml, hown, hts⟩ (c_X10_isJob l D cy mo a (upd f 0 (0 : Int32)) g r q k0 hD) (cwV 1 hts gX10_keep_X10_isJob rfl rfl rfl (by decide +kernel) ⟨Nat.le_of_ble_eq_true rfl, Nat.le_of_ble_eq_true rfl⟩) hK hP rfl hl.1 rfl (Nat.le_of_ble_eq_true rfl) dX10_keep_41 ⟨Nat.le_of_ble_eq_true rfl, Nat.le_of_ble_eq_true rfl⟩ hS (fun r41 u H locs q41 hP hS => ?_)
            obtain ⟨rfl, q41⟩ := q41
            have hP : va_P D vwCl (WM cy mo a (upd f 0 (0 : Int32)) g r q) H := hP
            have q41 : Bo r41 (0 ≤ k0.toInt ∧ k0.toInt < ((f 1)).toInt) := q41
            refine lv_if_eq (tgt := 71) hx hb dX10_keep_44 (by decide) (fun c44 => ?_) (fun c44 => ?_)
            · skip
              have b44 := bo_f q41 c44
              refine lv_iconst (v := 0) hx hb dX10_keep_71 (by decide) ?_
              refine lv_istore (lv' := [(6, .int (0 : Int32)), (0, .ref mo), (1, .int d), (2, .int what), (3, .int k0), (4, .long p0)]) hx hb dX10_keep_72 hl (by decide) rfl (fun ls hl => ?_)
              refine lv_iload hx hb dX10_keep_74 (lv_at hl 0 rfl) ?_
              refine lv_if_ne (tgt := 81) hx hb dX10_keep_76 (by decide) (fun c76 => ?_) (fun c76 => ?_)
              · first | exact absurd c76 (by decide) | exact absurd (by decide) c76
              · skip
                have d76 := c76
                rw [fa_eq] at d76
                refine lv_iconst (v := (-1)) hx hb dX10_keep_79 (by decide) ?_
                have hP := wm_eq rfl rfl (ec_r___29_30_31_32 r ) (ec_q___33 q ) hP
                exact W.iret (v := ((-1) : Int32)) hx hb hr (fun t ht hW => ⟨⟨_, ((upd f 0 (0 : Int32)), g, (va_up (va_up (va_up (va_up r 29 (r 29)) 30 (r 30)) 31 (r 31)) 32 (r 32)), (va_up q 33 (q 33))), rfl, ⟨(r 29), (r 30), (r 31), (r 32), (q 33), rfl, ⟨(Or.inr ⟨(fun z9 => by unfold okKeep okJob at z9; rcases z9.2 with z8 | ⟨z8, z7⟩ | ⟨z8, z7, z6⟩; (first | exact b9 z9.1 | omega); (first | exact b9 z9.1 | exact b31 z7 | omega); (first | exact b9 z9.1 | exact b44 z7 | (have szw := mi_w hI (x := k0) (by omega) (by omega) rfl; have szh := mi_h hI (x := k0) (by omega) (by omega) rfl; subst e52; subst e58; exact goodP_no b64 ⟨⟨szw, szh⟩, z6⟩) | omega)), rfl⟩), (Or.inr ⟨(fun z9 => by unfold okKeep okJob at z9; rcases z9.2 with z8 | ⟨z8, z7⟩ | ⟨z8, z7, z6⟩; (first | exact b9 z9.1 | omega); (first | exact b9 z9.1 | exact b31 z7 | omega); (first | exact b9 z9.1 | exact b44 z7 | (have szw := mi_w hI (x := k0) (by omega) (by omega) rfl; have szh := mi_h hI (x := k0) (by omega) (by omega) rfl; subst e52; subst e58; exact goodP_no b64 ⟨⟨szw, szh⟩, z6⟩) | omega)), rfl, rfl⟩), by first | exact hI | exact mi_sz (d := d) hI (v := v110) (by omega) rfl rfl rfl rfl rfl rfl rfl rfl | exact mi_sz (d := d) hI (v := v131) (by omega) rfl rfl rfl rfl rfl rfl rfl rfl | exact mi_sz (d := d) hI (v := 0) (by decide) rfl rfl rfl rfl rfl rfl rfl rfl⟩⟩, by unfold mB; rw [ht]; exact hP⟩, hS.F ht⟩) hS.2.2 dX10_keep_80
            · skip
              have b44 := bo_t q41 c44
              refine lv_aload_n hx hb dX10_keep_47 rfl (lv_at hl 0 rfl) ?_
              refine m_get (v := .ref (a 3)) hx hb hts hin hown hK hP 3 (by decide) rfl (hts (.fieldLink RX10 13 "ShadowBenchModel" "wide" "[I") (by decide +kernel)) rfl dX10_keep_48 ?_
              refine lv_iload_n hx hb dX10_keep_51 rfl (lv_at hl 3 rfl) ?_
              refine m_iald (w := (r 3)) hx hb hK hP 2 rfl (vp_in_iff.mpr ⟨by omega, by omega⟩) dX10_keep_52 ?_
              refine lv_topi (fun v52 e52 => ?_)
              have i52 : v52.toInt = ((r 3) k0.toNatClampNeg).toInt := congrArg Int32.toInt e52
              have w52 := mi_w hI (x := k0) (by omega) (by omega) e52
              refine lv_aload_n hx hb dX10_keep_53 rfl (lv_at hl 0 rfl) ?_
              refine m_get (v := .ref (a 4)) hx hb hts hin hown hK hP 4 (by decide) rfl (hts (.fieldLink RX10 16 "ShadowBenchModel" "high" "[I") (by decide +kernel)) rfl dX10_keep_54 ?_
              refine lv_iload_n hx hb dX10_keep_57 rfl (lv_at hl 3 rfl) ?_
              refine m_iald (w := (r 4)) hx hb hK hP 3 rfl (vp_in_iff.mpr ⟨by omega, by omega⟩) dX10_keep_58 ?_
              refine lv_topi (fun v58 e58 => ?_)
              have i58 : v58.toInt = ((r 4) k0.toNatClampNeg).toInt := congrArg Int32.toInt e58
              have w58 := mi_h hI (x := k0) (by omega) (by omega) e58
              refine lv_lload hx hb dX10_keep_59 (lv_at hl 4 rfl) ?_
              refine m_pu (As := [.int v52, .int v58, .long p0]) (rest := []) ⟨hx, hb, hml, hown, hts⟩ (c_X10_isPicture l v52 v58 p0 ) (va_cwS 3 hts gX10_keep_X10_isPicture rfl rfl rfl (by decide +kernel) ⟨Nat.le_of_ble_eq_true rfl, Nat.le_of_ble_eq_true rfl⟩) hP rfl hl.1 rfl (Nat.le_of_ble_eq_true rfl) dX10_keep_61 ⟨Nat.le_of_ble_eq_true rfl, Nat.le_of_ble_eq_true rfl⟩ hS (fun r61 H locs q61 hP hS => ?_)
              refine lv_if_eq (tgt := 71) hx hb dX10_keep_64 (by decide) (fun c64 => ?_) (fun c64 => ?_)
              · skip
                have b64 := bo_f q61 c64
                refine lv_iconst (v := 0) hx hb dX10_keep_71 (by decide) ?_
                refine lv_istore (lv' := [(6, .int (0 : Int32)), (0, .ref mo), (1, .int d), (2, .int what), (3, .int k0), (4, .long p0)]) hx hb dX10_keep_72 hl (by decide) rfl (fun ls hl => ?_)
                refine lv_iload hx hb dX10_keep_74 (lv_at hl 0 rfl) ?_
                refine lv_if_ne (tgt := 81) hx hb dX10_keep_76 (by decide) (fun c76 => ?_) (fun c76 => ?_)
                · first | exact absurd c76 (by decide) | exact absurd (by decide) c76
                · skip
                  have d76 := c76
                  rw [fa_eq] at d76
                  refine lv_iconst (v := (-1)) hx hb dX10_keep_79 (by decide) ?_
                  have hP := wm_eq rfl rfl (ec_r___29_30_31_32 r ) (ec_q___33 q ) hP
                  exact W.iret (v := ((-1) : Int32)) hx hb hr (fun t ht hW => ⟨⟨_, ((upd f 0 (0 : Int32)), g, (va_up (va_up (va_up (va_up r 29 (r 29)) 30 (r 30)) 31 (r 31)) 32 (r 32)), (va_up q 33 (q 33))), rfl, ⟨(r 29), (r 30), (r 31), (r 32), (q 33), rfl, ⟨(Or.inr ⟨(fun z9 => by unfold okKeep okJob at z9; rcases z9.2 with z8 | ⟨z8, z7⟩ | ⟨z8, z7, z6⟩; (first | exact b9 z9.1 | omega); (first | exact b9 z9.1 | exact b31 z7 | omega); (first | exact b9 z9.1 | exact b44 z7 | (have szw := mi_w hI (x := k0) (by omega) (by omega) rfl; have szh := mi_h hI (x := k0) (by omega) (by omega) rfl; subst e52; subst e58; exact goodP_no b64 ⟨⟨szw, szh⟩, z6⟩) | omega)), rfl⟩), (Or.inr ⟨(fun z9 => by unfold okKeep okJob at z9; rcases z9.2 with z8 | ⟨z8, z7⟩ | ⟨z8, z7, z6⟩; (first | exact b9 z9.1 | omega); (first | exact b9 z9.1 | exact b31 z7 | omega); (first | exact b9 z9.1 | exact b44 z7 | (have szw := mi_w hI (x := k0) (by omega) (by omega) rfl; have szh := mi_h hI (x := k0) (by omega) (by omega) rfl; subst e52; subst e58; exact goodP_no b64 ⟨⟨szw, szh⟩, z6⟩) | omega)), rfl, rfl⟩), by first | exact hI | exact mi_sz (d := d) hI (v := v110) (by omega) rfl rfl rfl rfl rfl rfl rfl rfl | exact mi_sz (d := d) hI (v := v131) (by omega) rfl rfl rfl rfl rfl rfl rfl rfl | exact mi_sz (d := d) hI (v := 0) (by decide) rfl rfl rfl rfl rfl rfl rfl rfl⟩⟩, by unfold mB; rw [ht]; exact hP⟩, hS.F ht⟩) hS.2.2 dX10_keep_80
              · skip
                have b64 := bo_t q61 c64
                refine lv_iconst (v := 1) hx hb dX10_keep_67 (by decide) ?_
                refine lv_goto (tgt := 72) hx hb dX10_keep_68 (by decide) ?_
                refine lv_istore (lv' := [(6, .int (1 : Int32)), (0, .ref mo), (1, .int d), (2, .int what), (3, .int k0), (4, .long p0)]) hx hb dX10_keep_72 hl (by decide) rfl (fun ls hl => ?_)
                refine lv_iload hx hb dX10_keep_74 (lv_at hl 0 rfl) ?_
                refine lv_if_ne (tgt := 81) hx hb dX10_keep_76 (by decide) (fun c76 => ?_) (fun c76 => ?_)
                · skip
                  have d76 := c76
                  rw [fa_eq] at d76
                  refine lv_aload_n hx hb dX10_keep_81 rfl (lv_at hl 1 rfl) ?_
                  refine m_get (v := .ref (a 29)) hx hb hts hin hown hK hP 29 (by decide) rfl (hts (.fieldLink RX10 61 "ShadowBenchModel" "shelf" "[I") (by decide +kernel)) rfl dX10_keep_82 ?_
                  refine lv_iload_n hx hb dX10_keep_85 rfl (lv_at hl 2 rfl) ?_
                  refine lv_iload_n hx hb dX10_keep_86 rfl (lv_at hl 3 rfl) ?_
                  refine m_iast (w := (r 29)) hx hb hK hP hD hS 17 rfl (vp_in_iff.mpr ⟨by omega, by omega⟩) (va_up r 29 (upd (r 29) d.toNatClampNeg what)) (ms_29 cy mo a _ _ _ _ _) dX10_keep_87 (fun H locs hP hS => ?_)
                  refine lv_aload_n hx hb dX10_keep_88 rfl (lv_at hl 1 rfl) ?_
                  refine m_get (v := .ref (a 30)) hx hb hts hin hown hK hP 30 (by decide) rfl (hts (.fieldLink RX10 64 "ShadowBenchModel" "shelfSize" "[I") (by decide +kernel)) rfl dX10_keep_89 ?_
                  refine lv_iload_n hx hb dX10_keep_92 rfl (lv_at hl 2 rfl) ?_
                  refine lv_iload_n hx hb dX10_keep_93 rfl (lv_at hl 3 rfl) ?_
                  refine lv_iconst (v := 3) hx hb dX10_keep_94 (by decide) ?_
                  refine lv_icmp_ne (tgt := 114) hx hb dX10_keep_95 (by decide) (fun c95 => ?_) (fun c95 => ?_)
                  · first | exact absurd c95 c36 | exact absurd c36 c95
                  · skip
                    have d95 := c95
                    rw [fa_eq] at d95
                    refine lv_aload_n hx hb dX10_keep_98 rfl (lv_at hl 1 rfl) ?_
                    refine m_get (v := .ref (a 3)) hx hb hts hin hown hK hP 3 (by decide) rfl (hts (.fieldLink RX10 13 "ShadowBenchModel" "wide" "[I") (by decide +kernel)) rfl dX10_keep_99 ?_
                    refine lv_iload_n hx hb dX10_keep_102 rfl (lv_at hl 4 rfl) ?_
                    refine m_iald (w := (r 3)) hx hb hK hP 2 rfl (vp_in_iff.mpr ⟨by omega, by omega⟩) dX10_keep_103 ?_
                    refine lv_topi (fun v103 e103 => ?_)
                    have i103 : v103.toInt = ((r 3) k0.toNatClampNeg).toInt := congrArg Int32.toInt e103
                    have w103 := mi_w hI (x := k0) (by omega) (by omega) e103
                    refine lv_aload_n hx hb dX10_keep_104 rfl (lv_at hl 1 rfl) ?_
                    refine m_get (v := .ref (a 4)) hx hb hts hin hown hK hP 4 (by decide) rfl (hts (.fieldLink RX10 16 "ShadowBenchModel" "high" "[I") (by decide +kernel)) rfl dX10_keep_105 ?_
                    refine lv_iload_n hx hb dX10_keep_108 rfl (lv_at hl 4 rfl) ?_
                    refine m_iald (w := (r 4)) hx hb hK hP 3 rfl (vp_in_iff.mpr ⟨by omega, by omega⟩) dX10_keep_109 ?_
                    refine lv_topi (fun v109 e109 => ?_)
                    have i109 : v109.toInt = ((r 4) k0.toNatClampNeg).toInt := congrArg Int32.toInt e109
                    have w109 := mi_h hI (x := k0) (by omega) (by omega) e109
                    have m110 := mul66 w103 w109
                    refine lv_imul hx hb dX10_keep_110 ?_
                    refine lv_topi (fun v110 e110 => ?_)
                    have i110 : v110.toInt = v103.toInt * v109.toInt := by rw [e110]; exact fb_mulI (by omega) (by omega)
                    refine lv_goto (tgt := 136) hx hb dX10_keep_111 (by decide) ?_
                    refine m_iast (w := (r 30)) hx hb hK hP hD hS 18 rfl (vp_in_iff.mpr ⟨by omega, by omega⟩) (va_up (va_up r 29 ((upd (r 29) d.toNatClampNeg what))) 30 (upd (r 30) d.toNatClampNeg v110)) (ms_30 cy mo a _ _ _ _ _) dX10_keep_136 (fun H locs hP hS => ?_)
                    refine lv_iload_n hx hb dX10_keep_137 rfl (lv_at hl 3 rfl) ?_
                    refine lv_iconst (v := 1) hx hb dX10_keep_138 (by decide) ?_
                    refine lv_icmp_ne (tgt := 174) hx hb dX10_keep_139 (by decide) (fun c139 => ?_) (fun c139 => ?_)
                    · skip
                      have d139 := c139
                      rw [fa_eq] at d139
                      refine lv_iconst (v := 0) hx hb dX10_keep_174 (by decide) ?_
                      refine lv_istore (lv' := [(7, .int (0 : Int32)), (6, .int (1 : Int32)), (0, .ref mo), (1, .int d), (2, .int what), (3, .int k0), (4, .long p0)]) hx hb dX10_keep_175 hl (by decide) rfl (fun ls hl => ?_)
                      have loop_177 : ∀ (n : Nat) (i : Nat) (s3 : Nat → Int64), (i ≤ 60) → 60 - i < n → ∀ (H : Heap) (locs : List Loc), va_P D vwCl (WM cy mo a (upd f 0 (0 : Int32)) g (va_up (va_up r 29 ((upd (r 29) d.toNatClampNeg what))) 30 ((upd (r 30) d.toNatClampNeg v110))) (va_up q 33 s3)) H → va_S (AM mo a) s.heap H locs → ∀ (ls : Array Slot), lv_has ls 8 [(7, .int (nI i)), (6, .int (1 : Int32)), (0, .ref mo), (1, .int d), (2, .int what), (3, .int k0), (4, .long p0)] → W p l e (headSpec wsX10_keep ({ frames := 3, cells := 0, slots := 0, locals := 69 })).room s m #[Value.ref mo, Value.int d, Value.int what, Value.int k0, Value.long p0] below meth c H locs 0 0 (MQ below (va_Qi (fun r0 u => ∃ (sh : Nat → Int32), ∃ (sz : Nat → Int32), ∃ (sw : Nat → Int32), ∃ (sf : Nat → Int32), ∃ (sr : Nat → Int64), u = ((upd f 0 (0 : Int32)), g, (va_up (va_up (va_up (va_up r 29 sh) 30 sz) 31 sw) 32 sf), (va_up q 33 sr)) ∧ (yesNo (okKeep (f 1) (fun j9 => (r 3 j9).toNatClampNeg) (fun j9 => (r 4 j9).toNatClampNeg) d what k0 p0) 0 (-1) r0 ∧ ((okKeep (f 1) (fun j9 => (r 3 j9).toNatClampNeg) (fun j9 => (r 4 j9).toNatClampNeg) d what k0 p0 ∧ sh = upd (r 29) d.toNatClampNeg what ∧ (what.toInt = 1 → sw = upd (r 31) d.toNatClampNeg (heR (r 2 k0.toNatClampNeg) (r 3 k0.toNatClampNeg).toNatClampNeg (r 4 k0.toNatClampNeg).toNatClampNeg (smN (fun s9 => r 8 (36 * k0.toNatClampNeg + s9)) 36))) ∧ (¬ what.toInt = 1 → sw = r 31)) ∨ (¬ okKeep (f 1) (fun j9 => (r 3 j9).toNatClampNeg) (fun j9 => (r 4 j9).toNatClampNeg) d what k0 p0 ∧ sh = r 29 ∧ sw = r 31)) ∧ MI (upd f 0 (0 : Int32)) (va_up (va_up (va_up (va_up r 29 sh) 30 sz) 31 sw) 32 sf))) (mB D cy mo a) (AM mo a)) #[Value.ref mo, Value.int d, Value.int what, Value.int k0, Value.long p0] s 0 0 (AM mo a)) (F0 m 177 ls []) := by
                        intro n
                        induction n with
                        | zero => intro i s3 j177_0 hn; exact absurd hn (Nat.not_lt_zero _)
                        | succ n ih_177 =>
                          intro i s3 j177_0 hn_177 H locs hP hS ls hl
                          have ii : (nI i).toInt = (i : Int) := nI_toInt (by omega)
                          refine lv_iload hx hb dX10_keep_177 (lv_at hl 0 rfl) ?_
                          refine lv_aload_n hx hb dX10_keep_179 rfl (lv_at hl 2 rfl) ?_
                          refine m_get (v := .ref (a 30)) hx hb hts hin hown hK hP 30 (by decide) rfl (hts (.fieldLink RX10 64 "ShadowBenchModel" "shelfSize" "[I") (by decide +kernel)) rfl dX10_keep_180 ?_
                          refine lv_iload_n hx hb dX10_keep_183 rfl (lv_at hl 3 rfl) ?_
                          refine m_iald (w := ((upd (r 30) d.toNatClampNeg v110))) hx hb hK hP 18 rfl (vp_in_iff.mpr ⟨by omega, by omega⟩) dX10_keep_184 ?_
                          refine lv_topi (fun v184 e184 => ?_)
                          have i184 : v184.toInt = (((upd (r 30) d.toNatClampNeg v110)) d.toNatClampNeg).toInt := congrArg Int32.toInt e184
                          have z184 := e184
                          simp only [upd, if_true] at z184
                          have y184 := congrArg Int32.toInt z184
                          refine lv_icmp_ge (tgt := 272) hx hb dX10_keep_185 (by decide) (fun c185 => ?_) (fun c185 => ?_)
                          · skip
                            have d185 := c185
                            rw [fa_le] at d185
                            refine lv_iconst (v := 0) hx hb dX10_keep_272 (by decide) ?_
                            have hP := wm_eq rfl rfl (ec_r_29_30__29_30_31_32 r ((upd (r 29) d.toNatClampNeg what)) ((upd (r 30) d.toNatClampNeg v110))) rfl hP
                            exact W.iret (v := (0 : Int32)) hx hb hr (fun t ht hW => ⟨⟨_, ((upd f 0 (0 : Int32)), g, (va_up (va_up (va_up (va_up r 29 (((upd (r 29) d.toNatClampNeg what)))) 30 (((upd (r 30) d.toNatClampNeg v110)))) 31 (r 31)) 32 (r 32)), (va_up q 33 s3)), rfl, ⟨((upd (r 29) d.toNatClampNeg what)), ((upd (r 30) d.toNatClampNeg v110)), (r 31), (r 32), s3, rfl, ⟨(Or.inl ⟨⟨b9, (by unfold okJob; first | exact Or.inl (by omega) | exact Or.inr (Or.inl ⟨by omega, b31⟩) | (have z9 := goodP_of b64; subst e52; subst e58; exact Or.inr (Or.inr ⟨by omega, b44, z9.2⟩)))⟩, rfl⟩), (Or.inl ⟨⟨b9, (by unfold okJob; first | exact Or.inl (by omega) | exact Or.inr (Or.inl ⟨by omega, b31⟩) | (have z9 := goodP_of b64; subst e52; subst e58; exact Or.inr (Or.inr ⟨by omega, b44, z9.2⟩)))⟩, rfl, (by first | exact ⟨fun _ => congrArg (fun z9 => upd (r 31) d.toNatClampNeg z9) q149, fun z9 => by exfalso; omega⟩ | exact ⟨fun z9 => by exfalso; omega, fun _ => rfl⟩)⟩), by first | exact hI | exact mi_sz (d := d) hI (v := v110) (by omega) rfl rfl rfl rfl rfl rfl rfl rfl | exact mi_sz (d := d) hI (v := v131) (by omega) rfl rfl rfl rfl rfl rfl rfl rfl | exact mi_sz (d := d) hI (v := 0) (by decide) rfl rfl rfl rfl rfl rfl rfl rfl⟩⟩, by unfold mB; rw [ht]; exact hP⟩, hS.F ht⟩) hS.2.2 dX10_keep_273
                          · skip
                            have d185 := c185
                            rw [fa_le] at d185
                            refine lv_aload_n hx hb dX10_keep_188 rfl (lv_at hl 2 rfl) ?_
                            refine m_get (v := .ref (a 33)) hx hb hts hin hown hK hP 33 (by decide) rfl (hts (.fieldLink RX10 73 "ShadowBenchModel" "shelfRow" "[J") (by decide +kernel)) rfl dX10_keep_189 ?_
                            refine lv_bipush (v := 60) hx hb dX10_keep_192 (by decide) ?_
                            refine lv_iload_n hx hb dX10_keep_194 rfl (lv_at hl 3 rfl) ?_
                            refine lv_imul hx hb dX10_keep_195 ?_
                            refine lv_topi (fun v195 e195 => ?_)
                            have i195 : v195.toInt = 60 * d.toInt := by rw [e195]; exact mulcL rfl (by omega) (by omega)
                            refine lv_iload hx hb dX10_keep_196 (lv_at hl 0 rfl) ?_
                            refine lv_iadd hx hb dX10_keep_198 ?_
                            refine lv_topi (fun v198 e198 => ?_)
                            have i198 : v198.toInt = v195.toInt + (nI i).toInt := by rw [e198]; exact fb_addI (by omega) (by omega)
                            refine lv_iload_n hx hb dX10_keep_199 rfl (lv_at hl 4 rfl) ?_
                            refine lv_iconst (v := 3) hx hb dX10_keep_200 (by decide) ?_
                            refine lv_icmp_ne (tgt := 215) hx hb dX10_keep_201 (by decide) (fun c201 => ?_) (fun c201 => ?_)
                            · first | exact absurd c201 c95 | exact absurd c95 c201
                            · skip
                              have d201 := c201
                              rw [fa_eq] at d201
                              refine lv_lload hx hb dX10_keep_204 (lv_at hl 6 rfl) ?_
                              refine lv_iload hx hb dX10_keep_206 (lv_at hl 0 rfl) ?_
                              refine m_pu (As := [.long p0, .int (nI i)]) (rest := [.int v198, .ref (a 33)]) ⟨hx, hb, hml, hown, hts⟩ (c_X10_one l p0 (nI i) ) (va_cwS 2 hts gX10_keep_X10_one rfl rfl rfl (by decide +kernel) ⟨Nat.le_of_ble_eq_true rfl, Nat.le_of_ble_eq_true rfl⟩) hP rfl hl.1 rfl (Nat.le_of_ble_eq_true rfl) dX10_keep_208 ⟨Nat.le_of_ble_eq_true rfl, Nat.le_of_ble_eq_true rfl⟩ hS (fun r208 H locs q208 hP hS => ?_)
                              have i208 : r208.toInt = (r_one p0 (nI i)).toInt := congrArg Int32.toInt q208
                              refine lv_i2l (v := r208.toInt64) hx hb dX10_keep_211 rfl ?_
                              refine lv_goto (tgt := 265) hx hb dX10_keep_212 (by decide) ?_
                              refine m_last (w := s3) hx hb hK hP hD hS 21 rfl (vp_in_iff.mpr ⟨by omega, by omega⟩) (va_up (va_up q 33 s3) 33 (vp_updL s3 v198.toNatClampNeg r208.toInt64)) (ms_33 cy mo a _ _ _ _ _) dX10_keep_265 (fun H locs hP hS => ?_)
                              have hP := wm_eq rfl rfl rfl (es_q_33__33 q s3 (vp_updL s3 v198.toNatClampNeg r208.toInt64)) hP
                              refine lv_iinc (v := (nI (i + 1))) (lv' := [(7, .int (nI (i + 1))), (6, .int (1 : Int32)), (0, .ref mo), (1, .int d), (2, .int what), (3, .int k0), (4, .long p0)]) hx hb dX10_keep_266 hl (k := 0) rfl (nI_1 _) (by decide) rfl (fun ls hl => ?_)
                              refine lv_goto (tgt := 177) hx hb dX10_keep_269 (by decide) ?_
                              have hP := wm_eq rfl rfl (ec_r_29_30__29_30 r ((upd (r 29) d.toNatClampNeg what)) ((upd (r 30) d.toNatClampNeg v110))) rfl hP
                              exact ih_177 (i + 1) (vp_updL s3 v198.toNatClampNeg r208.toInt64) (by omega) (by omega) _ _ hP hS ls (lv_sub hl [0, 1, 2, 3, 4, 5, 6] rfl)
                      have hP := wm_eq rfl rfl (ec_r_29_30__29_30 r ((upd (r 29) d.toNatClampNeg what)) ((upd (r 30) d.toNatClampNeg v110))) (ec_q___33 q ) hP
                      exact loop_177 (60 + 1) 0 (q 33) (by omega) (by omega) _ _ hP hS ls (lv_sub hl [0, 1, 2, 3, 4, 5, 6] rfl)
                    · skip
                      have d139 := c139
                      rw [fa_eq] at d139
                      refine lv_aload_n hx hb dX10_keep_142 rfl (lv_at hl 1 rfl) ?_
                      refine m_get (v := .ref (a 31)) hx hb hts hin hown hK hP 31 (by decide) rfl (hts (.fieldLink RX10 67 "ShadowBenchModel" "shelfWeight" "[I") (by decide +kernel)) rfl dX10_keep_143 ?_
                      refine lv_iload_n hx hb dX10_keep_146 rfl (lv_at hl 2 rfl) ?_
                      refine lv_aload_n hx hb dX10_keep_147 rfl (lv_at hl 1 rfl) ?_
                      refine lv_iload_n hx hb dX10_keep_148 rfl (lv_at hl 4 rfl) ?_
                      refine m_calli (As := [.int k0]) (rest := [.int d, .ref (a 31)]) ⟨hx, hb, hml, hown, hts⟩ (c_X10_weightOf_x l D cy mo a (upd f 0 (0 : Int32)) g (va_up (va_up r 29 ((upd (r 29) d.toNatClampNeg what))) 30 ((upd (r 30) d.toNatClampNeg v110))) q k0 hD (by first | exact hI | exact mi_sz (d := d) hI (v := 0) (by first | omega | decide) rfl rfl rfl rfl rfl rfl rfl rfl | exact mi_sz (d := d) hI (v := v131) (by first | omega | decide) rfl rfl rfl rfl rfl rfl rfl rfl | exact mi_sz (d := d) hI (v := v110) (by first | omega | decide) rfl rfl rfl rfl rfl rfl rfl rfl) (show 0 ≤ k0.toInt ∧ k0.toInt < (f 1).toInt by omega)) (cwV 1 hts gX10_keep_X10_weightOf rfl rfl rfl (by decide +kernel) ⟨Nat.le_of_ble_eq_true rfl, Nat.le_of_ble_eq_true rfl⟩) hK hP rfl hl.1 rfl (Nat.le_of_ble_eq_true rfl) dX10_keep_149 ⟨Nat.le_of_ble_eq_true rfl, Nat.le_of_ble_eq_true rfl⟩ hS (fun r149 u H locs q149 hP hS => ?_)
                      obtain ⟨rfl, q149⟩ := q149
                      have hP : va_P D vwCl (WM cy mo a (upd f 0 (0 : Int32)) g (va_up (va_up r 29 ((upd (r 29) d.toNatClampNeg what))) 30 ((upd (r 30) d.toNatClampNeg v110))) q) H := hP
                      have q149 : r149 = (heR ((r 2) k0.toNatClampNeg) ((r 3) k0.toNatClampNeg).toNatClampNeg ((r 4) k0.toNatClampNeg).toNatClampNeg (smN (fun s9 => (va_up (va_up r 29 ((upd (r 29) d.toNatClampNeg what))) 30 ((upd (r 30) d.toNatClampNeg v110))) 8 (36 * k0.toNatClampNeg + s9)) 36)) := q149
                      refine m_iast (w := (r 31)) hx hb hK hP hD hS 19 rfl (vp_in_iff.mpr ⟨by omega, by omega⟩) (va_up (va_up (va_up r 29 ((upd (r 29) d.toNatClampNeg what))) 30 ((upd (r 30) d.toNatClampNeg v110))) 31 (upd (r 31) d.toNatClampNeg r149)) (ms_31 cy mo a _ _ _ _ _) dX10_keep_152 (fun H locs hP hS => ?_)
                      refine lv_aload_n hx hb dX10_keep_153 rfl (lv_at hl 1 rfl) ?_
                      refine m_get (v := .ref (a 32)) hx hb hts hin hown hK hP 32 (by decide) rfl (hts (.fieldLink RX10 70 "ShadowBenchModel" "shelfFailure" "[I") (by decide +kernel)) rfl dX10_keep_154 ?_
                      refine lv_iload_n hx hb dX10_keep_157 rfl (lv_at hl 2 rfl) ?_
                      refine lv_aload_n hx hb dX10_keep_158 rfl (lv_at hl 1 rfl) ?_
                      refine m_get (v := .ref (a 2)) hx hb hts hin hown hK hP 2 (by decide) rfl (hts (.fieldLink RX10 7 "ShadowBenchModel" "kind" "[I") (by decide +kernel)) rfl dX10_keep_159 ?_
                      refine lv_iload_n hx hb dX10_keep_162 rfl (lv_at hl 4 rfl) ?_
                      refine m_iald (w := (r 2)) hx hb hK hP 1 rfl (vp_in_iff.mpr ⟨by omega, by omega⟩) dX10_keep_163 ?_
                      refine lv_topi (fun v163 e163 => ?_)
                      have i163 : v163.toInt = ((r 2) k0.toNatClampNeg).toInt := congrArg Int32.toInt e163
                      refine lv_if_ne (tgt := 172) hx hb dX10_keep_164 (by decide) (fun c164 => ?_) (fun c164 => ?_)
                      · skip
                        have d164 := c164
                        rw [fa_eq] at d164
                        refine lv_iload_n hx hb dX10_keep_172 rfl (lv_at hl 4 rfl) ?_
                        refine m_iast (w := (r 32)) hx hb hK hP hD hS 20 rfl (vp_in_iff.mpr ⟨by omega, by omega⟩) (va_up (va_up (va_up (va_up r 29 ((upd (r 29) d.toNatClampNeg what))) 30 ((upd (r 30) d.toNatClampNeg v110))) 31 ((upd (r 31) d.toNatClampNeg r149))) 32 (upd (r 32) d.toNatClampNeg k0)) (ms_32 cy mo a _ _ _ _ _) dX10_keep_173 (fun H locs hP hS => ?_)
                        refine lv_iconst (v := 0) hx hb dX10_keep_174 (by decide) ?_
                        refine lv_istore (lv' := [(7, .int (0 : Int32)), (6, .int (1 : Int32)), (0, .ref mo), (1, .int d), (2, .int what), (3, .int k0), (4, .long p0)]) hx hb dX10_keep_175 hl (by decide) rfl (fun ls hl => ?_)
                        have loop_177 : ∀ (n : Nat) (i : Nat) (s3 : Nat → Int64), (i ≤ 60) → 60 - i < n → ∀ (H : Heap) (locs : List Loc), va_P D vwCl (WM cy mo a (upd f 0 (0 : Int32)) g (va_up (va_up (va_up (va_up r 29 ((upd (r 29) d.toNatClampNeg what))) 30 ((upd (r 30) d.toNatClampNeg v110))) 31 ((upd (r 31) d.toNatClampNeg r149))) 32 ((upd (r 32) d.toNatClampNeg k0))) (va_up q 33 s3)) H → va_S (AM mo a) s.heap H locs → ∀ (ls : Array Slot), lv_has ls 8 [(7, .int (nI i)), (6, .int (1 : Int32)), (0, .ref mo), (1, .int d), (2, .int what), (3, .int k0), (4, .long p0)] → W p l e (headSpec wsX10_keep ({ frames := 3, cells := 0, slots := 0, locals := 69 })).room s m #[Value.ref mo, Value.int d, Value.int what, Value.int k0, Value.long p0] below meth c H locs 0 0 (MQ below (va_Qi (fun r0 u => ∃ (sh : Nat → Int32), ∃ (sz : Nat → Int32), ∃ (sw : Nat → Int32), ∃ (sf : Nat → Int32), ∃ (sr : Nat → Int64), u = ((upd f 0 (0 : Int32)), g, (va_up (va_up (va_up (va_up r 29 sh) 30 sz) 31 sw) 32 sf), (va_up q 33 sr)) ∧ (yesNo (okKeep (f 1) (fun j9 => (r 3 j9).toNatClampNeg) (fun j9 => (r 4 j9).toNatClampNeg) d what k0 p0) 0 (-1) r0 ∧ ((okKeep (f 1) (fun j9 => (r 3 j9).toNatClampNeg) (fun j9 => (r 4 j9).toNatClampNeg) d what k0 p0 ∧ sh = upd (r 29) d.toNatClampNeg what ∧ (what.toInt = 1 → sw = upd (r 31) d.toNatClampNeg (heR (r 2 k0.toNatClampNeg) (r 3 k0.toNatClampNeg).toNatClampNeg (r 4 k0.toNatClampNeg).toNatClampNeg (smN (fun s9 => r 8 (36 * k0.toNatClampNeg + s9)) 36))) ∧ (¬ what.toInt = 1 → sw = r 31)) ∨ (¬ okKeep (f 1) (fun j9 => (r 3 j9).toNatClampNeg) (fun j9 => (r 4 j9).toNatClampNeg) d what k0 p0 ∧ sh = r 29 ∧ sw = r 31)) ∧ MI (upd f 0 (0 : Int32)) (va_up (va_up (va_up (va_up r 29 sh) 30 sz) 31 sw) 32 sf))) (mB D cy mo a) (AM mo a)) #[Value.ref mo, Value.int d, Value.int what, Value.int k0, Value.long p0] s 0 0 (AM mo a)) (F0 m 177 ls []) := by
                          intro n
                          induction n with
                          | zero => intro i s3 j177_0 hn; exact absurd hn (Nat.not_lt_zero _)
                          | succ n ih_177 =>
                            intro i s3 j177_0 hn_177 H locs hP hS ls hl
                            have ii : (nI i).toInt = (i : Int) := nI_toInt (by omega)
                            refine lv_iload hx hb dX10_keep_177 (lv_at hl 0 rfl) ?_
                            refine lv_aload_n hx hb dX10_keep_179 rfl (lv_at hl 2 rfl) ?_
                            refine m_get (v := .ref (a 30)) hx hb hts hin hown hK hP 30 (by decide) rfl (hts (.fieldLink RX10 64 "ShadowBenchModel" "shelfSize" "[I") (by decide +kernel)) rfl dX10_keep_180 ?_
                            refine lv_iload_n hx hb dX10_keep_183 rfl (lv_at hl 3 rfl) ?_
                            refine m_iald (w := ((upd (r 30) d.toNatClampNeg v110))) hx hb hK hP 18 rfl (vp_in_iff.mpr ⟨by omega, by omega⟩) dX10_keep_184 ?_
                            refine lv_topi (fun v184 e184 => ?_)
                            have i184 : v184.toInt = (((upd (r 30) d.toNatClampNeg v110)) d.toNatClampNeg).toInt := congrArg Int32.toInt e184
                            have z184 := e184
                            simp only [upd, if_true] at z184
                            have y184 := congrArg Int32.toInt z184
                            refine lv_icmp_ge (tgt := 272) hx hb dX10_keep_185 (by decide) (fun c185 => ?_) (fun c185 => ?_)
                            · skip
                              have d185 := c185
                              rw [fa_le] at d185
                              refine lv_iconst (v := 0) hx hb dX10_keep_272 (by decide) ?_
                              have hP := wm_eq rfl rfl (ec_r_29_30_31_32__29_30_31_32 r ((upd (r 29) d.toNatClampNeg what)) ((upd (r 30) d.toNatClampNeg v110)) ((upd (r 31) d.toNatClampNeg r149)) ((upd (r 32) d.toNatClampNeg k0))) rfl hP
                              exact W.iret (v := (0 : Int32)) hx hb hr (fun t ht hW => ⟨⟨_, ((upd f 0 (0 : Int32)), g, (va_up (va_up (va_up (va_up r 29 (((upd (r 29) d.toNatClampNeg what)))) 30 (((upd (r 30) d.toNatClampNeg v110)))) 31 (((upd (r 31) d.toNatClampNeg r149)))) 32 (((upd (r 32) d.toNatClampNeg k0)))), (va_up q 33 s3)), rfl, ⟨((upd (r 29) d.toNatClampNeg what)), ((upd (r 30) d.toNatClampNeg v110)), ((upd (r 31) d.toNatClampNeg r149)), ((upd (r 32) d.toNatClampNeg k0)), s3, rfl, ⟨(Or.inl ⟨⟨b9, (by unfold okJob; first | exact Or.inl (by omega) | exact Or.inr (Or.inl ⟨by omega, b31⟩) | (have z9 := goodP_of b64; subst e52; subst e58; exact Or.inr (Or.inr ⟨by omega, b44, z9.2⟩)))⟩, rfl⟩), (Or.inl ⟨⟨b9, (by unfold okJob; first | exact Or.inl (by omega) | exact Or.inr (Or.inl ⟨by omega, b31⟩) | (have z9 := goodP_of b64; subst e52; subst e58; exact Or.inr (Or.inr ⟨by omega, b44, z9.2⟩)))⟩, rfl, (by first | exact ⟨fun _ => congrArg (fun z9 => upd (r 31) d.toNatClampNeg z9) q149, fun z9 => by exfalso; omega⟩ | exact ⟨fun z9 => by exfalso; omega, fun _ => rfl⟩)⟩), by first | exact hI | exact mi_sz (d := d) hI (v := v110) (by omega) rfl rfl rfl rfl rfl rfl rfl rfl | exact mi_sz (d := d) hI (v := v131) (by omega) rfl rfl rfl rfl rfl rfl rfl rfl | exact mi_sz (d := d) hI (v := 0) (by decide) rfl rfl rfl rfl rfl rfl rfl rfl⟩⟩, by unfold mB; rw [ht]; exact hP⟩, hS.F ht⟩) hS.2.2 dX10_keep_273
                            · skip
                              have d185 := c185
                              rw [fa_le] at d185
                              refine lv_aload_n hx hb dX10_keep_188 rfl (lv_at hl 2 rfl) ?_
                              refine m_get (v := .ref (a 33)) hx hb hts hin hown hK hP 33 (by decide) rfl (hts (.fieldLink RX10 73 "ShadowBenchModel" "shelfRow" "[J") (by decide +kernel)) rfl dX10_keep_189 ?_
                              refine lv_bipush (v := 60) hx hb dX10_keep_192 (by decide) ?_
                              refine lv_iload_n hx hb dX10_keep_194 rfl (lv_at hl 3 rfl) ?_
                              refine lv_imul hx hb dX10_keep_195 ?_
                              refine lv_topi (fun v195 e195 => ?_)
                              have i195 : v195.toInt = 60 * d.toInt := by rw [e195]; exact mulcL rfl (by omega) (by omega)
                              refine lv_iload hx hb dX10_keep_196 (lv_at hl 0 rfl) ?_
                              refine lv_iadd hx hb dX10_keep_198 ?_
                              refine lv_topi (fun v198 e198 => ?_)
                              have i198 : v198.toInt = v195.toInt + (nI i).toInt := by rw [e198]; exact fb_addI (by omega) (by omega)
                              refine lv_iload_n hx hb dX10_keep_199 rfl (lv_at hl 4 rfl) ?_
                              refine lv_iconst (v := 3) hx hb dX10_keep_200 (by decide) ?_
                              refine lv_icmp_ne (tgt := 215) hx hb dX10_keep_201 (by decide) (fun c201 => ?_) (fun c201 => ?_)
                              · first | exact absurd c201 c95 | exact absurd c95 c201
                              · skip
                                have d201 := c201
                                rw [fa_eq] at d201
                                refine lv_lload hx hb dX10_keep_204 (lv_at hl 6 rfl) ?_
                                refine lv_iload hx hb dX10_keep_206 (lv_at hl 0 rfl) ?_
                                refine m_pu (As := [.long p0, .int (nI i)]) (rest := [.int v198, .ref (a 33)]) ⟨hx, hb, hml, hown, hts⟩ (c_X10_one l p0 (nI i) ) (va_cwS 2 hts gX10_keep_X10_one rfl rfl rfl (by decide +kernel) ⟨Nat.le_of_ble_eq_true rfl, Nat.le_of_ble_eq_true rfl⟩) hP rfl hl.1 rfl (Nat.le_of_ble_eq_true rfl) dX10_keep_208 ⟨Nat.le_of_ble_eq_true rfl, Nat.le_of_ble_eq_true rfl⟩ hS (fun r208 H locs q208 hP hS => ?_)
                                have i208 : r208.toInt = (r_one p0 (nI i)).toInt := congrArg Int32.toInt q208
                                refine lv_i2l (v := r208.toInt64) hx hb dX10_keep_211 rfl ?_
                                refine lv_goto (tgt := 265) hx hb dX10_keep_212 (by decide) ?_
                                refine m_last (w := s3) hx hb hK hP hD hS 21 rfl (vp_in_iff.mpr ⟨by omega, by omega⟩) (va_up (va_up q 33 s3) 33 (vp_updL s3 v198.toNatClampNeg r208.toInt64)) (ms_33 cy mo a _ _ _ _ _) dX10_keep_265 (fun H locs hP hS => ?_)
                                have hP := wm_eq rfl rfl rfl (es_q_33__33 q s3 (vp_updL s3 v198.toNatClampNeg r208.toInt64)) hP
                                refine lv_iinc (v := (nI (i + 1))) (lv' := [(7, .int (nI (i + 1))), (6, .int (1 : Int32)), (0, .ref mo), (1, .int d), (2, .int what), (3, .int k0), (4, .long p0)]) hx hb dX10_keep_266 hl (k := 0) rfl (nI_1 _) (by decide) rfl (fun ls hl => ?_)
                                refine lv_goto (tgt := 177) hx hb dX10_keep_269 (by decide) ?_
                                have hP := wm_eq rfl rfl (ec_r_29_30_31_32__29_30_31_32 r ((upd (r 29) d.toNatClampNeg what)) ((upd (r 30) d.toNatClampNeg v110)) ((upd (r 31) d.toNatClampNeg r149)) ((upd (r 32) d.toNatClampNeg k0))) rfl hP
                                exact ih_177 (i + 1) (vp_updL s3 v198.toNatClampNeg r208.toInt64) (by omega) (by omega) _ _ hP hS ls (lv_sub hl [0, 1, 2, 3, 4, 5, 6] rfl)
                        have hP := wm_eq rfl rfl (ec_r_29_30_31_32__29_30_31_32 r ((upd (r 29) d.toNatClampNeg what)) ((upd (r 30) d.toNatClampNeg v110)) ((upd (r 31) d.toNatClampNeg r149)) ((upd (r 32) d.toNatClampNeg k0))) (ec_q___33 q ) hP
                        exact loop_177 (60 + 1) 0 (q 33) (by omega) (by omega) _ _ hP hS ls (lv_sub hl [0, 1, 2, 3, 4, 5, 6] rfl)
                      · skip
                        have d164 := c164
                        rw [fa_eq] at d164
                        refine lv_bipush (v := (-15)) hx hb dX10_keep_167 (by decide) ?_
                        refine lv_goto (tgt := 173) hx hb dX10_keep_169 (by decide) ?_
                        refine m_iast (w := (r 32)) hx hb hK hP hD hS 20 rfl (vp_in_iff.mpr ⟨by omega, by omega⟩) (va_up (va_up (va_up (va_up r 29 ((upd (r 29) d.toNatClampNeg what))) 30 ((upd (r 30) d.toNatClampNeg v110))) 31 ((upd (r 31) d.toNatClampNeg r149))) 32 (upd (r 32) d.toNatClampNeg (((-15) : Int32)))) (ms_32 cy mo a _ _ _ _ _) dX10_keep_173 (fun H locs hP hS => ?_)
                        refine lv_iconst (v := 0) hx hb dX10_keep_174 (by decide) ?_
                        refine lv_istore (lv' := [(7, .int (0 : Int32)), (6, .int (1 : Int32)), (0, .ref mo), (1, .int d), (2, .int what), (3, .int k0), (4, .long p0)]) hx hb dX10_keep_175 hl (by decide) rfl (fun ls hl => ?_)
                        have loop_177 : ∀ (n : Nat) (i : Nat) (s3 : Nat → Int64), (i ≤ 60) → 60 - i < n → ∀ (H : Heap) (locs : List Loc), va_P D vwCl (WM cy mo a (upd f 0 (0 : Int32)) g (va_up (va_up (va_up (va_up r 29 ((upd (r 29) d.toNatClampNeg what))) 30 ((upd (r 30) d.toNatClampNeg v110))) 31 ((upd (r 31) d.toNatClampNeg r149))) 32 ((upd (r 32) d.toNatClampNeg (((-15) : Int32))))) (va_up q 33 s3)) H → va_S (AM mo a) s.heap H locs → ∀ (ls : Array Slot), lv_has ls 8 [(7, .int (nI i)), (6, .int (1 : Int32)), (0, .ref mo), (1, .int d), (2, .int what), (3, .int k0), (4, .long p0)] → W p l e (headSpec wsX10_keep ({ frames := 3, cells := 0, slots := 0, locals := 69 })).room s m #[Value.ref mo, Value.int d, Value.int what, Value.int k0, Value.long p0] below meth c H locs 0 0 (MQ below (va_Qi (fun r0 u => ∃ (sh : Nat → Int32), ∃ (sz : Nat → Int32), ∃ (sw : Nat → Int32), ∃ (sf : Nat → Int32), ∃ (sr : Nat → Int64), u = ((upd f 0 (0 : Int32)), g, (va_up (va_up (va_up (va_up r 29 sh) 30 sz) 31 sw) 32 sf), (va_up q 33 sr)) ∧ (yesNo (okKeep (f 1) (fun j9 => (r 3 j9).toNatClampNeg) (fun j9 => (r 4 j9).toNatClampNeg) d what k0 p0) 0 (-1) r0 ∧ ((okKeep (f 1) (fun j9 => (r 3 j9).toNatClampNeg) (fun j9 => (r 4 j9).toNatClampNeg) d what k0 p0 ∧ sh = upd (r 29) d.toNatClampNeg what ∧ (what.toInt = 1 → sw = upd (r 31) d.toNatClampNeg (heR (r 2 k0.toNatClampNeg) (r 3 k0.toNatClampNeg).toNatClampNeg (r 4 k0.toNatClampNeg).toNatClampNeg (smN (fun s9 => r 8 (36 * k0.toNatClampNeg + s9)) 36))) ∧ (¬ what.toInt = 1 → sw = r 31)) ∨ (¬ okKeep (f 1) (fun j9 => (r 3 j9).toNatClampNeg) (fun j9 => (r 4 j9).toNatClampNeg) d what k0 p0 ∧ sh = r 29 ∧ sw = r 31)) ∧ MI (upd f 0 (0 : Int32)) (va_up (va_up (va_up (va_up r 29 sh) 30 sz) 31 sw) 32 sf))) (mB D cy mo a) (AM mo a)) #[Value.ref mo, Value.int d, Value.int what, Value.int k0, Value.long p0] s 0 0 (AM mo a)) (F0 m 177 ls []) := by
                          intro n
                          induction n with
                          | zero => intro i s3 j177_0 hn; exact absurd hn (Nat.not_lt_zero _)
                          | succ n ih_177 =>
                            intro i s3 j177_0 hn_177 H locs hP hS ls hl
                            have ii : (nI i).toInt = (i : Int) := nI_toInt (by omega)
                            refine lv_iload hx hb dX10_keep_177 (lv_at hl 0 rfl) ?_
                            refine lv_aload_n hx hb dX10_keep_179 rfl (lv_at hl 2 rfl) ?_
                            refine m_get (v := .ref (a 30)) hx hb hts hin hown hK hP 30 (by decide) rfl (hts (.fieldLink RX10 64 "ShadowBenchModel" "shelfSize" "[I") (by decide +kernel)) rfl dX10_keep_180 ?_
                            refine lv_iload_n hx hb dX10_keep_183 rfl (lv_at hl 3 rfl) ?_
                            refine m_iald (w := ((upd (r 30) d.toNatClampNeg v110))) hx hb hK hP 18 rfl (vp_in_iff.mpr ⟨by omega, by omega⟩) dX10_keep_184 ?_
                            refine lv_topi (fun v184 e184 => ?_)
                            have i184 : v184.toInt = (((upd (r 30) d.toNatClampNeg v110)) d.toNatClampNeg).toInt := congrArg Int32.toInt e184
                            have z184 := e184
                            simp only [upd, if_true] at z184
                            have y184 := congrArg Int32.toInt z184
                            refine lv_icmp_ge (tgt := 272) hx hb dX10_keep_185 (by decide) (fun c185 => ?_) (fun c185 => ?_)
                            · skip
                              have d185 := c185
                              rw [fa_le] at d185
                              refine lv_iconst (v := 0) hx hb dX10_keep_272 (by decide) ?_
                              have hP := wm_eq rfl rfl (ec_r_29_30_31_32__29_30_31_32 r ((upd (r 29) d.toNatClampNeg what)) ((upd (r 30) d.toNatClampNeg v110)) ((upd (r 31) d.toNatClampNeg r149)) ((upd (r 32) d.toNatClampNeg (((-15) : Int32))))) rfl hP
                              exact W.iret (v := (0 : Int32)) hx hb hr (fun t ht hW => ⟨⟨_, ((upd f 0 (0 : Int32)), g, (va_up (va_up (va_up (va_up r 29 (((upd (r 29) d.toNatClampNeg what)))) 30 (((upd (r 30) d.toNatClampNeg v110)))) 31 (((upd (r 31) d.toNatClampNeg r149)))) 32 (((upd (r 32) d.toNatClampNeg (((-15) : Int32)))))), (va_up q 33 s3)), rfl, ⟨((upd (r 29) d.toNatClampNeg what)), ((upd (r 30) d.toNatClampNeg v110)), ((upd (r 31) d.toNatClampNeg r149)), ((upd (r 32) d.toNatClampNeg (((-15) : Int32)))), s3, rfl, ⟨(Or.inl ⟨⟨b9, (by unfold okJob; first | exact Or.inl (by omega) | exact Or.inr (Or.inl ⟨by omega, b31⟩) | (have z9 := goodP_of b64; subst e52; subst e58; exact Or.inr (Or.inr ⟨by omega, b44, z9.2⟩)))⟩, rfl⟩), (Or.inl ⟨⟨b9, (by unfold okJob; first | exact Or.inl (by omega) | exact Or.inr (Or.inl ⟨by omega, b31⟩) | (have z9 := goodP_of b64; subst e52; subst e58; exact Or.inr (Or.inr ⟨by omega, b44, z9.2⟩)))⟩, rfl, (by first | exact ⟨fun _ => congrArg (fun z9 => upd (r 31) d.toNatClampNeg z9) q149, fun z9 => by exfalso; omega⟩ | exact ⟨fun z9 => by exfalso; omega, fun _ => rfl⟩)⟩), by first | exact hI | exact mi_sz (d := d) hI (v := v110) (by omega) rfl rfl rfl rfl rfl rfl rfl rfl | exact mi_sz (d := d) hI (v := v131) (by omega) rfl rfl rfl rfl rfl rfl rfl rfl | exact mi_sz (d := d) hI (v := 0) (by decide) rfl rfl rfl rfl rfl rfl rfl rfl⟩⟩, by unfold mB; rw [ht]; exact hP⟩, hS.F ht⟩) hS.2.2 dX10_keep_273
                            · skip
                              have d185 := c185
                              rw [fa_le] at d185
                              refine lv_aload_n hx hb dX10_keep_188 rfl (lv_at hl 2 rfl) ?_
                              refine m_get (v := .ref (a 33)) hx hb hts hin hown hK hP 33 (by decide) rfl (hts (.fieldLink RX10 73 "ShadowBenchModel" "shelfRow" "[J") (by decide +kernel)) rfl dX10_keep_189 ?_
                              refine lv_bipush (v := 60) hx hb dX10_keep_192 (by decide) ?_
                              refine lv_iload_n hx hb dX10_keep_194 rfl (lv_at hl 3 rfl) ?_
                              refine lv_imul hx hb dX10_keep_195 ?_
                              refine lv_topi (fun v195 e195 => ?_)
                              have i195 : v195.toInt = 60 * d.toInt := by rw [e195]; exact mulcL rfl (by omega) (by omega)
                              refine lv_iload hx hb dX10_keep_196 (lv_at hl 0 rfl) ?_
                              refine lv_iadd hx hb dX10_keep_198 ?_
                              refine lv_topi (fun v198 e198 => ?_)
                              have i198 : v198.toInt = v195.toInt + (nI i).toInt := by rw [e198]; exact fb_addI (by omega) (by omega)
                              refine lv_iload_n hx hb dX10_keep_199 rfl (lv_at hl 4 rfl) ?_
                              refine lv_iconst (v := 3) hx hb dX10_keep_200 (by decide) ?_
                              refine lv_icmp_ne (tgt := 215) hx hb dX10_keep_201 (by decide) (fun c201 => ?_) (fun c201 => ?_)
                              · first | exact absurd c201 c95 | exact absurd c95 c201
                              · skip
                                have d201 := c201
                                rw [fa_eq] at d201
                                refine lv_lload hx hb dX10_keep_204 (lv_at hl 6 rfl) ?_
                                refine lv_iload hx hb dX10_keep_206 (lv_at hl 0 rfl) ?_
                                refine m_pu (As := [.long p0, .int (nI i)]) (rest := [.int v198, .ref (a 33)]) ⟨hx, hb, hml, hown, hts⟩ (c_X10_one l p0 (nI i) ) (va_cwS 2 hts gX10_keep_X10_one rfl rfl rfl (by decide +kernel) ⟨Nat.le_of_ble_eq_true rfl, Nat.le_of_ble_eq_true rfl⟩) hP rfl hl.1 rfl (Nat.le_of_ble_eq_true rfl) dX10_keep_208 ⟨Nat.le_of_ble_eq_true rfl, Nat.le_of_ble_eq_true rfl⟩ hS (fun r208 H locs q208 hP hS => ?_)
                                have i208 : r208.toInt = (r_one p0 (nI i)).toInt := congrArg Int32.toInt q208
                                refine lv_i2l (v := r208.toInt64) hx hb dX10_keep_211 rfl ?_
                                refine lv_goto (tgt := 265) hx hb dX10_keep_212 (by decide) ?_
                                refine m_last (w := s3) hx hb hK hP hD hS 21 rfl (vp_in_iff.mpr ⟨by omega, by omega⟩) (va_up (va_up q 33 s3) 33 (vp_updL s3 v198.toNatClampNeg r208.toInt64)) (ms_33 cy mo a _ _ _ _ _) dX10_keep_265 (fun H locs hP hS => ?_)
                                have hP := wm_eq rfl rfl rfl (es_q_33__33 q s3 (vp_updL s3 v198.toNatClampNeg r208.toInt64)) hP
                                refine lv_iinc (v := (nI (i + 1))) (lv' := [(7, .int (nI (i + 1))), (6, .int (1 : Int32)), (0, .ref mo), (1, .int d), (2, .int what), (3, .int k0), (4, .long p0)]) hx hb dX10_keep_266 hl (k := 0) rfl (nI_1 _) (by decide) rfl (fun ls hl => ?_)
                                refine lv_goto (tgt := 177) hx hb dX10_keep_269 (by decide) ?_
                                have hP := wm_eq rfl rfl (ec_r_29_30_31_32__29_30_31_32 r ((upd (r 29) d.toNatClampNeg what)) ((upd (r 30) d.toNatClampNeg v110)) ((upd (r 31) d.toNatClampNeg r149)) ((upd (r 32) d.toNatClampNeg (((-15) : Int32))))) rfl hP
                                exact ih_177 (i + 1) (vp_updL s3 v198.toNatClampNeg r208.toInt64) (by omega) (by omega) _ _ hP hS ls (lv_sub hl [0, 1, 2, 3, 4, 5, 6] rfl)
                        have hP := wm_eq rfl rfl (ec_r_29_30_31_32__29_30_31_32 r ((upd (r 29) d.toNatClampNeg what)) ((upd (r 30) d.toNatClampNeg v110)) ((upd (r 31) d.toNatClampNeg r149)) ((upd (r 32) d.toNatClampNeg (((-15) : Int32))))) (ec_q___33 q ) hP
                        exact loop_177 (60 + 1) 0 (q 33) (by omega) (by omega) _ _ hP hS ls (lv_sub hl [0, 1, 2, 3, 4, 5, 6] rfl)
                · first | exact absurd c76 (by decide) | exact absurd (by decide) c76
      · skip
        have d18 := c18
        rw [fa_eq] at d18
        refine lv_iload_n hx hb dX10_keep_21 rfl (lv_at hl 2 rfl) ?_
        refine lv_iconst (v := 4) hx hb dX10_keep_22 (by decide) ?_
        refine lv_icmp_ne (tgt := 34) hx hb dX10_keep_23 (by decide) (fun c23 => ?_) (fun c23 => ?_)
        · skip
          have d23 := c23
          rw [fa_eq] at d23
          refine lv_iload_n hx hb dX10_keep_34 rfl (lv_at hl 2 rfl) ?_
          refine lv_iconst (v := 3) hx hb dX10_keep_35 (by decide) ?_
          refine lv_icmp_ne (tgt := 71) hx hb dX10_keep_36 (by decide) (fun c36 => ?_) (fun c36 => ?_)
          · skip
            have d36 := c36
            rw [fa_eq] at d36
            refine lv_iconst (v := 0) hx hb dX10_keep_71 (by decide) ?_
            refine lv_istore (lv' := [(6, .int (0 : Int32)), (0, .ref mo), (1, .int d), (2, .int what), (3, .int k0), (4, .long p0)]) hx hb dX10_keep_72 hl (by decide) rfl (fun ls hl => ?_)
            refine lv_iload hx hb dX10_keep_74 (lv_at hl 0 rfl) ?_
            refine lv_if_ne (tgt := 81) hx hb dX10_keep_76 (by decide) (fun c76 => ?_) (fun c76 => ?_)
            · first | exact absurd c76 (by decide) | exact absurd (by decide) c76
            · skip
              have d76 := c76
              rw [fa_eq] at d76
              refine lv_iconst (v := (-1)) hx hb dX10_keep_79 (by decide) ?_
              have hP := wm_eq rfl rfl (ec_r___29_30_31_32 r ) (ec_q___33 q ) hP
              exact W.iret (v := ((-1) : Int32)) hx hb hr (fun t ht hW => ⟨⟨_, ((upd f 0 (0 : Int32)), g, (va_up (va_up (va_up (va_up r 29 (r 29)) 30 (r 30)) 31 (r 31)) 32 (r 32)), (va_up q 33 (q 33))), rfl, ⟨(r 29), (r 30), (r 31), (r 32), (q 33), rfl, ⟨(Or.inr ⟨(fun z9 => by unfold okKeep okJob at z9; rcases z9.2 with z8 | ⟨z8, z7⟩ | ⟨z8, z7, z6⟩; (first | exact b9 z9.1 | omega); (first | exact b9 z9.1 | exact b31 z7 | omega); (first | exact b9 z9.1 | exact b44 z7 | (have szw := mi_w hI (x := k0) (by omega) (by omega) rfl; have szh := mi_h hI (x := k0) (by omega) (by omega) rfl; subst e52; subst e58; exact goodP_no b64 ⟨⟨szw, szh⟩, z6⟩) | omega)), rfl⟩), (Or.inr ⟨(fun z9 => by unfold okKeep okJob at z9; rcases z9.2 with z8 | ⟨z8, z7⟩ | ⟨z8, z7, z6⟩; (first | exact b9 z9.1 | omega); (first | exact b9 z9.1 | exact b31 z7 | omega); (first | exact b9 z9.1 | exact b44 z7 | (have szw := mi_w hI (x := k0) (by omega) (by omega) rfl; have szh := mi_h hI (x := k0) (by omega) (by omega) rfl; subst e52; subst e58; exact goodP_no b64 ⟨⟨szw, szh⟩, z6⟩) | omega)), rfl, rfl⟩), by first | exact hI | exact mi_sz (d := d) hI (v := v110) (by omega) rfl rfl rfl rfl rfl rfl rfl rfl | exact mi_sz (d := d) hI (v := v131) (by omega) rfl rfl rfl rfl rfl rfl rfl rfl | exact mi_sz (d := d) hI (v := 0) (by decide) rfl rfl rfl rfl rfl rfl rfl rfl⟩⟩, by unfold mB; rw [ht]; exact hP⟩, hS.F ht⟩) hS.2.2 dX10_keep_80
          · skip
            have d36 := c36
            rw [fa_eq] at d36
            refine lv_aload_n hx hb dX10_keep_39 rfl (lv_at hl 0 rfl) ?_
            refine lv_iload_n hx hb dX10_keep_40 rfl (lv_at hl 3 rfl) ?_
            refine m_calli (As := [.int k0]) (rest := []) ⟨hx, hb, hml, hown, hts⟩ (c_X10_isJob l D cy mo a (upd f 0 (0 : Int32)) g r q k0 hD) (cwV 1 hts gX10_keep_X10_isJob rfl rfl rfl (by decide +kernel) ⟨Nat.le_of_ble_eq_true rfl, Nat.le_of_ble_eq_true rfl⟩) hK hP rfl hl.1 rfl (Nat.le_of_ble_eq_true rfl) dX10_keep_41 ⟨Nat.le_of_ble_eq_true rfl, Nat.le_of_ble_eq_true rfl⟩ hS (fun r41 u H locs q41 hP hS => ?_)
            obtain ⟨rfl, q41⟩ := q41
            have hP : va_P D vwCl (WM cy mo a (upd f 0 (0 : Int32)) g r q) H := hP
            have q41 : Bo r41 (0 ≤ k0.toInt ∧ k0.toInt < ((f 1)).toInt) := q41
            refine lv_if_eq (tgt := 71) hx hb dX10_keep_44 (by decide) (fun c44 => ?_) (fun c44 => ?_)
            · skip
              have b44 := bo_f q41 c44
              refine lv_iconst (v := 0) hx hb dX10_keep_71 (by decide) ?_
              refine lv_istore (lv' := [(6, .int (0 : Int32)), (0, .ref mo), (1, .int d), (2, .int what), (3, .int k0), (4, .long p0)]) hx hb dX10_keep_72 hl (by decide) rfl (fun ls hl => ?_)
              refine lv_iload hx hb dX10_keep_74 (lv_at hl 0 rfl) ?_
              refine lv_if_ne (tgt := 81) hx hb dX10_keep_76 (by decide) (fun c76 => ?_) (fun c76 => ?_)
              · first | exact absurd c76 (by decide) | exact absurd (by decide) c76
              · skip
                have d76 := c76
                rw [fa_eq] at d76
                refine lv_iconst (v := (-1)) hx hb dX10_keep_79 (by decide) ?_
                have hP := wm_eq rfl rfl (ec_r___29_30_31_32 r ) (ec_q___33 q ) hP
                exact W.iret (v := ((-1) : Int32)) hx hb hr (fun t ht hW => ⟨⟨_, ((upd f 0 (0 : Int32)), g, (va_up (va_up (va_up (va_up r 29 (r 29)) 30 (r 30)) 31 (r 31)) 32 (r 32)), (va_up q 33 (q 33))), rfl, ⟨(r 29), (r 30), (r 31), (r 32), (q 33), rfl, ⟨(Or.inr ⟨(fun z9 => by unfold okKeep okJob at z9; rcases z9.2 with z8 | ⟨z8, z7⟩ | ⟨z8, z7, z6⟩; (first | exact b9 z9.1 | omega); (first | exact b9 z9.1 | exact b31 z7 | omega); (first | exact b9 z9.1 | exact b44 z7 | (have szw := mi_w hI (x := k0) (by omega) (by omega) rfl; have szh := mi_h hI (x := k0) (by omega) (by omega) rfl; subst e52; subst e58; exact goodP_no b64 ⟨⟨szw, szh⟩, z6⟩) | omega)), rfl⟩), (Or.inr ⟨(fun z9 => by unfold okKeep okJob at z9; rcases z9.2 with z8 | ⟨z8, z7⟩ | ⟨z8, z7, z6⟩; (first | exact b9 z9.1 | omega); (first | exact b9 z9.1 | exact b31 z7 | omega); (first | exact b9 z9.1 | exact b44 z7 | (have szw := mi_w hI (x := k0) (by omega) (by omega) rfl; have szh := mi_h hI (x := k0) (by omega) (by omega) rfl; subst e52; subst e58; exact goodP_no b64 ⟨⟨szw, szh⟩, z6⟩) | omega)), rfl, rfl⟩), by first | exact hI | exact mi_sz (d := d) hI (v := v110) (by omega) rfl rfl rfl rfl rfl rfl rfl rfl | exact mi_sz (d := d) hI (v := v131) (by omega) rfl rfl rfl rfl rfl rfl rfl rfl | exact mi_sz (d := d) hI (v := 0) (by decide) rfl rfl rfl rfl rfl rfl rfl rfl⟩⟩, by unfold mB; rw [ht]; exact hP⟩, hS.F ht⟩) hS.2.2 dX10_keep_80
            · skip
              have b44 := bo_t q41 c44
              refine lv_aload_n hx hb dX10_keep_47 rfl (lv_at hl 0 rfl) ?_
              refine m_get (v := .ref (a 3)) hx hb hts hin hown hK hP 3 (by decide) rfl (hts (.fieldLink RX10 13 "ShadowBenchModel" "wide" "[I") (by decide +kernel)) rfl dX10_keep_48 ?_
              refine lv_iload_n hx hb dX10_keep_51 rfl (lv_at hl 3 rfl) ?_
              refine m_iald (w := (r 3)) hx hb hK hP 2 rfl (vp_in_iff.mpr ⟨by omega, by omega⟩) dX10_keep_52 ?_
              refine lv_topi (fun v52 e52 => ?_)
              have i52 : v52.toInt = ((r 3) k0.toNatClampNeg).toInt := congrArg Int32.toInt e52
              have w52 := mi_w hI (x := k0) (by omega) (by omega) e52
              refine lv_aload_n hx hb dX10_keep_53 rfl (lv_at hl 0 rfl) ?_
              refine m_get (v := .ref (a 4)) hx hb hts hin hown hK hP 4 (by decide) rfl (hts (.fieldLink RX10 16 "ShadowBenchModel" "high" "[I") (by decide +kernel)) rfl dX10_keep_54 ?_
              refine lv_iload_n hx hb dX10_keep_57 rfl (lv_at hl 3 rfl) ?_
              refine m_iald (w := (r 4)) hx hb hK hP 3 rfl (vp_in_iff.mpr ⟨by omega, by omega⟩) dX10_keep_58 ?_
              refine lv_topi (fun v58 e58 => ?_)
              have i58 : v58.toInt = ((r 4) k0.toNatClampNeg).toInt := congrArg Int32.toInt e58
              have w58 := mi_h hI (x := k0) (by omega) (by omega) e58
              refine lv_lload hx hb dX10_keep_59 (lv_at hl 4 rfl) ?_
              refine m_pu (As := [.int v52, .int v58, .long p0]) (rest := []) ⟨hx, hb, hml, hown, hts⟩ (c_X10_isPicture l v52 v58 p0 ) (va_cwS 3 hts gX10_keep_X10_isPicture rfl rfl rfl (by decide +kernel) ⟨Nat.le_of_ble_eq_true rfl, Nat.le_of_ble_eq_true rfl⟩) hP rfl hl.1 rfl (Nat.le_of_ble_eq_true rfl) dX10_keep_61 ⟨Nat.le_of_ble_eq_true rfl, Nat.le_of_ble_eq_true rfl⟩ hS (fun r61 H locs q61 hP hS => ?_)
              refine lv_if_eq (tgt := 71) hx hb dX10_keep_64 (by decide) (fun c64 => ?_) (fun c64 => ?_)
              · skip
                have b64 := bo_f q61 c64
                refine lv_iconst (v := 0) hx hb dX10_keep_71 (by decide) ?_
                refine lv_istore (lv' := [(6, .int (0 : Int32)), (0, .ref mo), (1, .int d), (2, .int what), (3, .int k0), (4, .long p0)]) hx hb dX10_keep_72 hl (by decide) rfl (fun ls hl => ?_)
                refine lv_iload hx hb dX10_keep_74 (lv_at hl 0 rfl) ?_
                refine lv_if_ne (tgt := 81) hx hb dX10_keep_76 (by decide) (fun c76 => ?_) (fun c76 => ?_)
                · first | exact absurd c76 (by decide) | exact absurd (by decide) c76
                · skip
                  have d76 := c76
                  rw [fa_eq] at d76
                  refine lv_iconst (v := (-1)) hx hb dX10_keep_79 (by decide) ?_
                  have hP := wm_eq rfl rfl (ec_r___29_30_31_32 r ) (ec_q___33 q ) hP
                  exact W.iret (v := ((-1) : Int32)) hx hb hr (fun t ht hW => ⟨⟨_, ((upd f 0 (0 : Int32)), g, (va_up (va_up (va_up (va_up r 29 (r 29)) 30 (r 30)) 31 (r 31)) 32 (r 32)), (va_up q 33 (q 33))), rfl, ⟨(r 29), (r 30), (r 31), (r 32), (q 33), rfl, ⟨(Or.inr ⟨(fun z9 => by unfold okKeep okJob at z9; rcases z9.2 with z8 | ⟨z8, z7⟩ | ⟨z8, z7, z6⟩; (first | exact b9 z9.1 | omega); (first | exact b9 z9.1 | exact b31 z7 | omega); (first | exact b9 z9.1 | exact b44 z7 | (have szw := mi_w hI (x := k0) (by omega) (by omega) rfl; have szh := mi_h hI (x := k0) (by omega) (by omega) rfl; subst e52; subst e58; exact goodP_no b64 ⟨⟨szw, szh⟩, z6⟩) | omega)), rfl⟩), (Or.inr ⟨(fun z9 => by unfold okKeep okJob at z9; rcases z9.2 with z8 | ⟨z8, z7⟩ | ⟨z8, z7, z6⟩; (first | exact b9 z9.1 | omega); (first | exact b9 z9.1 | exact b31 z7 | omega); (first | exact b9 z9.1 | exact b44 z7 | (have szw := mi_w hI (x := k0) (by omega) (by omega) rfl; have szh := mi_h hI (x := k0) (by omega) (by omega) rfl; subst e52; subst e58; exact goodP_no b64 ⟨⟨szw, szh⟩, z6⟩) | omega)), rfl, rfl⟩), by first | exact hI | exact mi_sz (d := d) hI (v := v110) (by omega) rfl rfl rfl rfl rfl rfl rfl rfl | exact mi_sz (d := d) hI (v := v131) (by omega) rfl rfl rfl rfl rfl rfl rfl rfl | exact mi_sz (d := d) hI (v := 0) (by decide) rfl rfl rfl rfl rfl rfl rfl rfl⟩⟩, by unfold mB; rw [ht]; exact hP⟩, hS.F ht⟩) hS.2.2 dX10_keep_80
              · skip
                have b64 := bo_t q61 c64
                refine lv_iconst (v := 1) hx hb dX10_keep_67 (by decide) ?_
                refine lv_goto (tgt := 72) hx hb dX10_keep_68 (by decide) ?_
                refine lv_istore (lv' := [(6, .int (1 : Int32)), (0, .ref mo), (1, .int d), (2, .int what), (3, .int k0), (4, .long p0)]) hx hb dX10_keep_72 hl (by decide) rfl (fun ls hl => ?_)
                refine lv_iload hx hb dX10_keep_74 (lv_at hl 0 rfl) ?_
                refine lv_if_ne (tgt := 81) hx hb dX10_keep_76 (by decide) (fun c76 => ?_) (fun c76 => ?_)
                · skip
                  have d76 := c76
                  rw [fa_eq] at d76
                  refine lv_aload_n hx hb dX10_keep_81 rfl (lv_at hl 1 rfl) ?_
                  refine m_get (v := .ref (a 29)) hx hb hts hin hown hK hP 29 (by decide) rfl (hts (.fieldLink RX10 61 "ShadowBenchModel" "shelf" "[I") (by decide +kernel)) rfl dX10_keep_82 ?_
                  refine lv_iload_n hx hb dX10_keep_85 rfl (lv_at hl 2 rfl) ?_
                  refine lv_iload_n hx hb dX10_keep_86 rfl (lv_at hl 3 rfl) ?_
                  refine m_iast (w := (r 29)) hx hb hK hP hD hS 17 rfl (vp_in_iff.mpr ⟨by omega, by omega⟩) (va_up r 29 (upd (r 29) d.toNatClampNeg what)) (ms_29 cy mo a _ _ _ _ _) dX10_keep_87 (fun H locs hP hS => ?_)
                  refine lv_aload_n hx hb dX10_keep_88 rfl (lv_at hl 1 rfl) ?_
                  refine m_get (v := .ref (a 30)) hx hb hts hin hown hK hP 30 (by decide) rfl (hts (.fieldLink RX10 64 "ShadowBenchModel" "shelfSize" "[I") (by decide +kernel)) rfl dX10_keep_89 ?_
                  refine lv_iload_n hx hb dX10_keep_92 rfl (lv_at hl 2 rfl) ?_
                  refine lv_iload_n hx hb dX10_keep_93 rfl (lv_at hl 3 rfl) ?_
                  refine lv_iconst (v := 3) hx hb dX10_keep_94 (by decide) ?_
                  refine lv_icmp_ne (tgt := 114) hx hb dX10_keep_95 (by decide) (fun c95 => ?_) (fun c95 => ?_)
                  · first | exact absurd c95 c36 | exact absurd c36 c95
                  · skip
                    have d95 := c95
                    rw [fa_eq] at d95
                    refine lv_aload_n hx hb dX10_keep_98 rfl (lv_at hl 1 rfl) ?_
                    refine m_get (v := .ref (a 3)) hx hb hts hin hown hK hP 3 (by decide) rfl (hts (.fieldLink RX10 13 "ShadowBenchModel" "wide" "[I") (by decide +kernel)) rfl dX10_keep_99 ?_
                    refine lv_iload_n hx hb dX10_keep_102 rfl (lv_at hl 4 rfl) ?_
                    refine m_iald (w := (r 3)) hx hb hK hP 2 rfl (vp_in_iff.mpr ⟨by omega, by omega⟩) dX10_keep_103 ?_
                    refine lv_topi (fun v103 e103 => ?_)
                    have i103 : v103.toInt = ((r 3) k0.toNatClampNeg).toInt := congrArg Int32.toInt e103
                    have w103 := mi_w hI (x := k0) (by omega) (by omega) e103
                    refine lv_aload_n hx hb dX10_keep_104 rfl (lv_at hl 1 rfl) ?_
                    refine m_get (v := .ref (a 4)) hx hb hts hin hown hK hP 4 (by decide) rfl (hts (.fieldLink RX10 16 "ShadowBenchModel" "high" "[I") (by decide +kernel)) rfl dX10_keep_105 ?_
                    refine lv_iload_n hx hb dX10_keep_108 rfl (lv_at hl 4 rfl) ?_
                    refine m_iald (w := (r 4)) hx hb hK hP 3 rfl (vp_in_iff.mpr ⟨by omega, by omega⟩) dX10_keep_109 ?_
                    refine lv_topi (fun v109 e109 => ?_)
                    have i109 : v109.toInt = ((r 4) k0.toNatClampNeg).toInt := congrArg Int32.toInt e109
                    have w109 := mi_h hI (x := k0) (by omega) (by omega) e109
                    have m110 := mul66 w103 w109
                    refine lv_imul hx hb dX10_keep_110 ?_
                    refine lv_topi (fun v110 e110 => ?_)
                    have i110 : v110.toInt = v103.toInt * v109.toInt := by rw [e110]; exact fb_mulI (by omega) (by omega)
                    refine lv_goto (tgt := 136) hx hb dX10_keep_111 (by decide) ?_
                    refine m_iast (w := (r 30)) hx hb hK hP hD hS 18 rfl (vp_in_iff.mpr ⟨by omega, by omega⟩) (va_up (va_up r 29 ((upd (r 29) d.toNatClampNeg what))) 30 (upd (r 30) d.toNatClampNeg v110)) (ms_30 cy mo a _ _ _ _ _) dX10_keep_136 (fun H locs hP hS => ?_)
                    refine lv_iload_n hx hb dX10_keep_137 rfl (lv_at hl 3 rfl) ?_
                    refine lv_iconst (v := 1) hx hb dX10_keep_138 (by decide) ?_
                    refine lv_icmp_ne (tgt := 174) hx hb dX10_keep_139 (by decide) (fun c139 => ?_) (fun c139 => ?_)
                    · skip
                      have d139 := c139
                      rw [fa_eq] at d139
                      refine lv_iconst (v := 0) hx hb dX10_keep_174 (by decide) ?_
                      refine lv_istore (lv' := [(7, .int (0 : Int32)), (6, .int (1 : Int32)), (0, .ref mo), (1, .int d), (2, .int what), (3, .int k0), (4, .long p0)]) hx hb dX10_keep_175 hl (by decide) rfl (fun ls hl => ?_)
                      have loop_177 : ∀ (n : Nat) (i : Nat) (s3 : Nat → Int64), (i ≤ 60) → 60 - i < n → ∀ (H : Heap) (locs : List Loc), va_P D vwCl (WM cy mo a (upd f 0 (0 : Int32)) g (va_up (va_up r 29 ((upd (r 29) d.toNatClampNeg what))) 30 ((upd (r 30) d.toNatClampNeg v110))) (va_up q 33 s3)) H → va_S (AM mo a) s.heap H locs → ∀ (ls : Array Slot), lv_has ls 8 [(7, .int (nI i)), (6, .int (1 : Int32)), (0, .ref mo), (1, .int d), (2, .int what), (3, .int k0), (4, .long p0)] → W p l e (headSpec wsX10_keep ({ frames := 3, cells := 0, slots := 0, locals := 69 })).room s m #[Value.ref mo, Value.int d, Value.int what, Value.int k0, Value.long p0] below meth c H locs 0 0 (MQ below (va_Qi (fun r0 u => ∃ (sh : Nat → Int32), ∃ (sz : Nat → Int32), ∃ (sw : Nat → Int32), ∃ (sf : Nat → Int32), ∃ (sr : Nat → Int64), u = ((upd f 0 (0 : Int32)), g, (va_up (va_up (va_up (va_up r 29 sh) 30 sz) 31 sw) 32 sf), (va_up q 33 sr)) ∧ (yesNo (okKeep (f 1) (fun j9 => (r 3 j9).toNatClampNeg) (fun j9 => (r 4 j9).toNatClampNeg) d what k0 p0) 0 (-1) r0 ∧ ((okKeep (f 1) (fun j9 => (r 3 j9).toNatClampNeg) (fun j9 => (r 4 j9).toNatClampNeg) d what k0 p0 ∧ sh = upd (r 29) d.toNatClampNeg what ∧ (what.toInt = 1 → sw = upd (r 31) d.toNatClampNeg (heR (r 2 k0.toNatClampNeg) (r 3 k0.toNatClampNeg).toNatClampNeg (r 4 k0.toNatClampNeg).toNatClampNeg (smN (fun s9 => r 8 (36 * k0.toNatClampNeg + s9)) 36))) ∧ (¬ what.toInt = 1 → sw = r 31)) ∨ (¬ okKeep (f 1) (fun j9 => (r 3 j9).toNatClampNeg) (fun j9 => (r 4 j9).toNatClampNeg) d what k0 p0 ∧ sh = r 29 ∧ sw = r 31)) ∧ MI (upd f 0 (0 : Int32)) (va_up (va_up (va_up (va_up r 29 sh) 30 sz) 31 sw) 32 sf))) (mB D cy mo a) (AM mo a)) #[Value.ref mo, Value.int d, Value.int what, Value.int k0, Value.long p0] s 0 0 (AM mo a)) (F0 m 177 ls []) := by
                        intro n
                        induction n with
                        | zero => intro i s3 j177_0 hn; exact absurd hn (Nat.not_lt_zero _)
                        | succ n ih_177 =>
                          intro i s3 j177_0 hn_177 H locs hP hS ls hl
                          have ii : (nI i).toInt = (i : Int) := nI_toInt (by omega)
                          refine lv_iload hx hb dX10_keep_177 (lv_at hl 0 rfl) ?_
                          refine lv_aload_n hx hb dX10_keep_179 rfl (lv_at hl 2 rfl) ?_
                          refine m_get (v := .ref (a 30)) hx hb hts hin hown hK hP 30 (by decide) rfl (hts (.fieldLink RX10 64 "ShadowBenchModel" "shelfSize" "[I") (by decide +kernel)) rfl dX10_keep_180 ?_
                          refine lv_iload_n hx hb dX10_keep_183 rfl (lv_at hl 3 rfl) ?_
                          refine m_iald (w := ((upd (r 30) d.toNatClampNeg v110))) hx hb hK hP 18 rfl (vp_in_iff.mpr ⟨by omega, by omega⟩) dX10_keep_184 ?_
                          refine lv_topi (fun v184 e184 => ?_)
                          have i184 : v184.toInt = (((upd (r 30) d.toNatClampNeg v110)) d.toNatClampNeg).toInt := congrArg Int32.toInt e184
                          have z184 := e184
                          simp only [upd, if_true] at z184
                          have y184 := congrArg Int32.toInt z184
                          refine lv_icmp_ge (tgt := 272) hx hb dX10_keep_185 (by decide) (fun c185 => ?_) (fun c185 => ?_)
                          · skip
                            have d185 := c185
                            rw [fa_le] at d185
                            refine lv_iconst (v := 0) hx hb dX10_keep_272 (by decide) ?_
                            have hP := wm_eq rfl rfl (ec_r_29_30__29_30_31_32 r ((upd (r 29) d.toNatClampNeg what)) ((upd (r 30) d.toNatClampNeg v110))) rfl hP
                            exact W.iret (v := (0 : Int32)) hx hb hr (fun t ht hW => ⟨⟨_, ((upd f 0 (0 : Int32)), g, (va_up (va_up (va_up (va_up r 29 (((upd (r 29) d.toNatClampNeg what)))) 30 (((upd (r 30) d.toNatClampNeg v110)))) 31 (r 31)) 32 (r 32)), (va_up q 33 s3)), rfl, ⟨((upd (r 29) d.toNatClampNeg what)), ((upd (r 30) d.toNatClampNeg v110)), (r 31), (r 32), s3, rfl, ⟨(Or.inl ⟨⟨b9, (by unfold okJob; first | exact Or.inl (by omega) | exact Or.inr (Or.inl ⟨by omega, b31⟩) | (have z9 := goodP_of b64; subst e52; subst e58; exact Or.inr (Or.inr ⟨by omega, b44, z9.2⟩)))⟩, rfl⟩), (Or.inl ⟨⟨b9, (by unfold okJob; first | exact Or.inl (by omega) | exact Or.inr (Or.inl ⟨by omega, b31⟩) | (have z9 := goodP_of b64; subst e52; subst e58; exact Or.inr (Or.inr ⟨by omega, b44, z9.2⟩)))⟩, rfl, (by first | exact ⟨fun _ => congrArg (fun z9 => upd (r 31) d.toNatClampNeg z9) q149, fun z9 => by exfalso; omega⟩ | exact ⟨fun z9 => by exfalso; omega, fun _ => rfl⟩)⟩), by first | exact hI | exact mi_sz (d := d) hI (v := v110) (by omega) rfl rfl rfl rfl rfl rfl rfl rfl | exact mi_sz (d := d) hI (v := v131) (by omega) rfl rfl rfl rfl rfl rfl rfl rfl | exact mi_sz (d := d) hI (v := 0) (by decide) rfl rfl rfl rfl rfl rfl rfl rfl⟩⟩, by unfold mB; rw [ht]; exact hP⟩, hS.F ht⟩) hS.2.2 dX10_keep_273
                          · skip
                            have d185 := c185
                            rw [fa_le] at d185
                            refine lv_aload_n hx hb dX10_keep_188 rfl (lv_at hl 2 rfl) ?_
                            refine m_get (v := .ref (a 33)) hx hb hts hin hown hK hP 33 (by decide) rfl (hts (.fieldLink RX10 73 "ShadowBenchModel" "shelfRow" "[J") (by decide +kernel)) rfl dX10_keep_189 ?_
                            refine lv_bipush (v := 60) hx hb dX10_keep_192 (by decide) ?_
                            refine lv_iload_n hx hb dX10_keep_194 rfl (lv_at hl 3 rfl) ?_
                            refine lv_imul hx hb dX10_keep_195 ?_
                            refine lv_topi (fun v195 e195 => ?_)
                            have i195 : v195.toInt = 60 * d.toInt := by rw [e195]; exact mulcL rfl (by omega) (by omega)
                            refine lv_iload hx hb dX10_keep_196 (lv_at hl 0 rfl) ?_
                            refine lv_iadd hx hb dX10_keep_198 ?_
                            refine lv_topi (fun v198 e198 => ?_)
                            have i198 : v198.toInt = v195.toInt + (nI i).toInt := by rw [e198]; exact fb_addI (by omega) (by omega)
                            refine lv_iload_n hx hb dX10_keep_199 rfl (lv_at hl 4 rfl) ?_
                            refine lv_iconst (v := 3) hx hb dX10_keep_200 (by decide) ?_
                            refine lv_icmp_ne (tgt := 215) hx hb dX10_keep_201 (by decide) (fun c201 => ?_) (fun c201 => ?_)
                            · first | exact absurd c201 c95 | exact absurd c95 c201
                            · skip
                              have d201 := c201
                              rw [fa_eq] at d201
                              refine lv_lload hx hb dX10_keep_204 (lv_at hl 6 rfl) ?_
                              refine lv_iload hx hb dX10_keep_206 (lv_at hl 0 rfl) ?_
                              refine m_pu (As := [.long p0, .int (nI i)]) (rest := [.int v198, .ref (a 33)]) ⟨hx, hb, hml, hown, hts⟩ (c_X10_one l p0 (nI i) ) (va_cwS 2 hts gX10_keep_X10_one rfl rfl rfl (by decide +kernel) ⟨Nat.le_of_ble_eq_true rfl, Nat.le_of_ble_eq_true rfl⟩) hP rfl hl.1 rfl (Nat.le_of_ble_eq_true rfl) dX10_keep_208 ⟨Nat.le_of_ble_eq_true rfl, Nat.le_of_ble_eq_true rfl⟩ hS (fun r208 H locs q208 hP hS => ?_)
                              have i208 : r208.toInt = (r_one p0 (nI i)).toInt := congrArg Int32.toInt q208
                              refine lv_i2l (v := r208.toInt64) hx hb dX10_keep_211 rfl ?_
                              refine lv_goto (tgt := 265) hx hb dX10_keep_212 (by decide) ?_
                              refine m_last (w := s3) hx hb hK hP hD hS 21 rfl (vp_in_iff.mpr ⟨by omega, by omega⟩) (va_up (va_up q 33 s3) 33 (vp_updL s3 v198.toNatClampNeg r208.toInt64)) (ms_33 cy mo a _ _ _ _ _) dX10_keep_265 (fun H locs hP hS => ?_)
                              have hP := wm_eq rfl rfl rfl (es_q_33__33 q s3 (vp_updL s3 v198.toNatClampNeg r208.toInt64)) hP
                              refine lv_iinc (v := (nI (i + 1))) (lv' := [(7, .int (nI (i + 1))), (6, .int (1 : Int32)), (0, .ref mo), (1, .int d), (2, .int what), (3, .int k0), (4, .long p0)]) hx hb dX10_keep_266 hl (k := 0) rfl (nI_1 _) (by decide) rfl (fun ls hl => ?_)
                              refine lv_goto (tgt := 177) hx hb dX10_keep_269 (by decide) ?_
                              have hP := wm_eq rfl rfl (ec_r_29_30__29_30 r ((upd (r 29) d.toNatClampNeg what)) ((upd (r 30) d.toNatClampNeg v110))) rfl hP
                              exact ih_177 (i + 1) (vp_updL s3 v198.toNatClampNeg r208.toInt64) (by omega) (by omega) _ _ hP hS ls (lv_sub hl [0, 1, 2, 3, 4, 5, 6] rfl)
                      have hP := wm_eq rfl rfl (ec_r_29_30__29_30 r ((upd (r 29) d.toNatClampNeg what)) ((upd (r 30) d.toNatClampNeg v110))) (ec_q___33 q ) hP
                      exact loop_177 (60 + 1) 0 (q 33) (by omega) (by omega) _ _ hP hS ls (lv_sub hl [0, 1, 2, 3, 4, 5, 6] rfl)
                    · skip
                      have d139 := c139
                      rw [fa_eq] at d139
                      refine lv_aload_n hx hb dX10_keep_142 rfl (lv_at hl 1 rfl) ?_
                      refine m_get (v := .ref (a 31)) hx hb hts hin hown hK hP 31 (by decide) rfl (hts (.fieldLink RX10 67 "ShadowBenchModel" "shelfWeight" "[I") (by decide +kernel)) rfl dX10_keep_143 ?_
                      refine lv_iload_n hx hb dX10_keep_146 rfl (lv_at hl 2 rfl) ?_
                      refine lv_aload_n hx hb dX10_keep_147 rfl (lv_at hl 1 rfl) ?_
                      refine lv_iload_n hx hb dX10_keep_148 rfl (lv_at hl 4 rfl) ?_
                      refine m_calli (As := [.int k0]) (rest := [.int d, .ref (a 31)]) ⟨hx, hb, hml, hown, hts⟩ (c_X10_weightOf_x l D cy mo a (upd f 0 (0 : Int32)) g (va_up (va_up r 29 ((upd (r 29) d.toNatClampNeg what))) 30 ((upd (r 30) d.toNatClampNeg v110))) q k0 hD (by first | exact hI | exact mi_sz (d := d) hI (v := 0) (by first | omega | decide) rfl rfl rfl rfl rfl rfl rfl rfl | exact mi_sz (d := d) hI (v := v131) (by first | omega | decide) rfl rfl rfl rfl rfl rfl rfl rfl | exact mi_sz (d := d) hI (v := v110) (by first | omega | decide) rfl rfl rfl rfl rfl rfl rfl rfl) (show 0 ≤ k0.toInt ∧ k0.toInt < (f 1).toInt by omega)) (cwV 1 hts gX10_keep_X10_weightOf rfl rfl rfl (by decide +kernel) ⟨Nat.le_of_ble_eq_true rfl, Nat.le_of_ble_eq_true rfl⟩) hK hP rfl hl.1 rfl (Nat.le_of_ble_eq_true rfl) dX10_keep_149 ⟨Nat.le_of_ble_eq_true rfl, Nat.le_of_ble_eq_true rfl⟩ hS (fun r149 u H locs q149 hP hS => ?_)
                      obtain ⟨rfl, q149⟩ := q149
                      have hP : va_P D vwCl (WM cy mo a (upd f 0 (0 : Int32)) g (va_up (va_up r 29 ((upd (r 29) d.toNatClampNeg what))) 30 ((upd (r 30) d.toNatClampNeg v110))) q) H := hP
                      have q149 : r149 = (heR ((r 2) k0.toNatClampNeg) ((r 3) k0.toNatClampNeg).toNatClampNeg ((r 4) k0.toNatClampNeg).toNatClampNeg (smN (fun s9 => (va_up (va_up r 29 ((upd (r 29) d.toNatClampNeg what))) 30 ((upd (r 30) d.toNatClampNeg v110))) 8 (36 * k0.toNatClampNeg + s9)) 36)) := q149
                      refine m_iast (w := (r 31)) hx hb hK hP hD hS 19 rfl (vp_in_iff.mpr ⟨by omega, by omega⟩) (va_up (va_up (va_up r 29 ((upd (r 29) d.toNatClampNeg what))) 30 ((upd (r 30) d.toNatClampNeg v110))) 31 (upd (r 31) d.toNatClampNeg r149)) (ms_31 cy mo a _ _ _ _ _) dX10_keep_152 (fun H locs hP hS => ?_)
                      refine lv_aload_n hx hb dX10_keep_153 rfl (lv_at hl 1 rfl) ?_
                      refine m_get (v := .ref (a 32)) hx hb hts hin hown hK hP 32 (by decide) rfl (hts (.fieldLink RX10 70 "ShadowBenchModel" "shelfFailure" "[I") (by decide +kernel)) rfl dX10_keep_154 ?_
                      refine lv_iload_n hx hb dX10_keep_157 rfl (lv_at hl 2 rfl) ?_
                      refine lv_aload_n hx hb dX10_keep_158 rfl (lv_at hl 1 rfl) ?_
                      refine m_get (v := .ref (a 2)) hx hb hts hin hown hK hP 2 (by decide) rfl (hts (.fieldLink RX10 7 "ShadowBenchModel" "kind" "[I") (by decide +kernel)) rfl dX10_keep_159 ?_
                      refine lv_iload_n hx hb dX10_keep_162 rfl (lv_at hl 4 rfl) ?_
                      refine m_iald (w := (r 2)) hx hb hK hP 1 rfl (vp_in_iff.mpr ⟨by omega, by omega⟩) dX10_keep_163 ?_
                      refine lv_topi (fun v163 e163 => ?_)
                      have i163 : v163.toInt = ((r 2) k0.toNatClampNeg).toInt := congrArg Int32.toInt e163
                      refine lv_if_ne (tgt := 172) hx hb dX10_keep_164 (by decide) (fun c164 => ?_) (fun c164 => ?_)
                      · skip
                        have d164 := c164
                        rw [fa_eq] at d164
                        refine lv_iload_n hx hb dX10_keep_172 rfl (lv_at hl 4 rfl) ?_
                        refine m_iast (w := (r 32)) hx hb hK hP hD hS 20 rfl (vp_in_iff.mpr ⟨by omega, by omega⟩) (va_up (va_up (va_up (va_up r 29 ((upd (r 29) d.toNatClampNeg what))) 30 ((upd (r 30) d.toNatClampNeg v110))) 31 ((upd (r 31) d.toNatClampNeg r149))) 32 (upd (r 32) d.toNatClampNeg k0)) (ms_32 cy mo a _ _ _ _ _) dX10_keep_173 (fun H locs hP hS => ?_)
                        refine lv_iconst (v := 0) hx hb dX10_keep_174 (by decide) ?_
                        refine lv_istore (lv' := [(7, .int (0 : Int32)), (6, .int (1 : Int32)), (0, .ref mo), (1, .int d), (2, .int what), (3, .int k0), (4, .long p0)]) hx hb dX10_keep_175 hl (by decide) rfl (fun ls hl => ?_)
                        have loop_177 : ∀ (n : Nat) (i : Nat) (s3 : Nat → Int64), (i ≤ 60) → 60 - i < n → ∀ (H : Heap) (locs : List Loc), va_P D vwCl (WM cy mo a (upd f 0 (0 : Int32)) g (va_up (va_up (va_up (va_up r 29 ((upd (r 29) d.toNatClampNeg what))) 30 ((upd (r 30) d.toNatClampNeg v110))) 31 ((upd (r 31) d.toNatClampNeg r149))) 32 ((upd (r 32) d.toNatClampNeg k0))) (va_up q 33 s3)) H → va_S (AM mo a) s.heap H locs → ∀ (ls : Array Slot), lv_has ls 8 [(7, .int (nI i)), (6, .int (1 : Int32)), (0, .ref mo), (1, .int d), (2, .int what), (3, .int k0), (4, .long p0)] → W p l e (headSpec wsX10_keep ({ frames := 3, cells := 0, slots := 0, locals := 69 })).room s m #[Value.ref mo, Value.int d, Value.int what, Value.int k0, Value.long p0] below meth c H locs 0 0 (MQ below (va_Qi (fun r0 u => ∃ (sh : Nat → Int32), ∃ (sz : Nat → Int32), ∃ (sw : Nat → Int32), ∃ (sf : Nat → Int32), ∃ (sr : Nat → Int64), u = ((upd f 0 (0 : Int32)), g, (va_up (va_up (va_up (va_up r 29 sh) 30 sz) 31 sw) 32 sf), (va_up q 33 sr)) ∧ (yesNo (okKeep (f 1) (fun j9 => (r 3 j9).toNatClampNeg) (fun j9 => (r 4 j9).toNatClampNeg) d what k0 p0) 0 (-1) r0 ∧ ((okKeep (f 1) (fun j9 => (r 3 j9).toNatClampNeg) (fun j9 => (r 4 j9).toNatClampNeg) d what k0 p0 ∧ sh = upd (r 29) d.toNatClampNeg what ∧ (what.toInt = 1 → sw = upd (r 31) d.toNatClampNeg (heR (r 2 k0.toNatClampNeg) (r 3 k0.toNatClampNeg).toNatClampNeg (r 4 k0.toNatClampNeg).toNatClampNeg (smN (fun s9 => r 8 (36 * k0.toNatClampNeg + s9)) 36))) ∧ (¬ what.toInt = 1 → sw = r 31)) ∨ (¬ okKeep (f 1) (fun j9 => (r 3 j9).toNatClampNeg) (fun j9 => (r 4 j9).toNatClampNeg) d what k0 p0 ∧ sh = r 29 ∧ sw = r 31)) ∧ MI (upd f 0 (0 : Int32)) (va_up (va_up (va_up (va_up r 29 sh) 30 sz) 31 sw) 32 sf))) (mB D cy mo a) (AM mo a)) #[Value.ref mo, Value.int d, Value.int what, Value.int k0, Value.long p0] s 0 0 (AM mo a)) (F0 m 177 ls []) := by
                          intro n
                          induction n with
                          | zero => intro i s3 j177_0 hn; exact absurd hn (Nat.not_lt_zero _)
                          | succ n ih_177 =>
                            intro i s3 j177_0 hn_177 H locs hP hS ls hl
                            have ii : (nI i).toInt = (i : Int) := nI_toInt (by omega)
                            refine lv_iload hx hb dX10_keep_177 (lv_at hl 0 rfl) ?_
                            refine lv_aload_n hx hb dX10_keep_179 rfl (lv_at hl 2 rfl) ?_
                            refine m_get (v := .ref (a 30)) hx hb hts hin hown hK hP 30 (by decide) rfl (hts (.fieldLink RX10 64 "ShadowBenchModel" "shelfSize" "[I") (by decide +kernel)) rfl dX10_keep_180 ?_
                            refine lv_iload_n hx hb dX10_keep_183 rfl (lv_at hl 3 rfl) ?_
                            refine m_iald (w := ((upd (r 30) d.toNatClampNeg v110))) hx hb hK hP 18 rfl (vp_in_iff.mpr ⟨by omega, by omega⟩) dX10_keep_184 ?_
                            refine lv_topi (fun v184 e184 => ?_)
                            have i184 : v184.toInt = (((upd (r 30) d.toNatClampNeg v110)) d.toNatClampNeg).toInt := congrArg Int32.toInt e184
                            have z184 := e184
                            simp only [upd, if_true] at z184
                            have y184 := congrArg Int32.toInt z184
                            refine lv_icmp_ge (tgt := 272) hx hb dX10_keep_185 (by decide) (fun c185 => ?_) (fun c185 => ?_)
                            · skip
                              have d185 := c185
                              rw [fa_le] at d185
                              refine lv_iconst (v := 0) hx hb dX10_keep_272 (by decide) ?_
                              have hP := wm_eq rfl rfl (ec_r_29_30_31_32__29_30_31_32 r ((upd (r 29) d.toNatClampNeg what)) ((upd (r 30) d.toNatClampNeg v110)) ((upd (r 31) d.toNatClampNeg r149)) ((upd (r 32) d.toNatClampNeg k0))) rfl hP
                              exact W.iret (v := (0 : Int32)) hx hb hr (fun t ht hW => ⟨⟨_, ((upd f 0 (0 : Int32)), g, (va_up (va_up (va_up (va_up r 29 (((upd (r 29) d.toNatClampNeg what)))) 30 (((upd (r 30) d.toNatClampNeg v110)))) 31 (((upd (r 31) d.toNatClampNeg r149)))) 32 (((upd (r 32) d.toNatClampNeg k0)))), (va_up q 33 s3)), rfl, ⟨((upd (r 29) d.toNatClampNeg what)), ((upd (r 30) d.toNatClampNeg v110)), ((upd (r 31) d.toNatClampNeg r149)), ((upd (r 32) d.toNatClampNeg k0)), s3, rfl, ⟨(Or.inl ⟨⟨b9, (by unfold okJob; first | exact Or.inl (by omega) | exact Or.inr (Or.inl ⟨by omega, b31⟩) | (have z9 := goodP_of b64; subst e52; subst e58; exact Or.inr (Or.inr ⟨by omega, b44, z9.2⟩)))⟩, rfl⟩), (Or.inl ⟨⟨b9, (by unfold okJob; first | exact Or.inl (by omega) | exact Or.inr (Or.inl ⟨by omega, b31⟩) | (have z9 := goodP_of b64; subst e52; subst e58; exact Or.inr (Or.inr ⟨by omega, b44, z9.2⟩)))⟩, rfl, (by first | exact ⟨fun _ => congrArg (fun z9 => upd (r 31) d.toNatClampNeg z9) q149, fun z9 => by exfalso; omega⟩ | exact ⟨fun z9 => by exfalso; omega, fun _ => rfl⟩)⟩), by first | exact hI | exact mi_sz (d := d) hI (v := v110) (by omega) rfl rfl rfl rfl rfl rfl rfl rfl | exact mi_sz (d := d) hI (v := v131) (by omega) rfl rfl rfl rfl rfl rfl rfl rfl | exact mi_sz (d := d) hI (v := 0) (by decide) rfl rfl rfl rfl rfl rfl rfl rfl⟩⟩, by unfold mB; rw [ht]; exact hP⟩, hS.F ht⟩) hS.2.2 dX10_keep_273
                            · skip
                              have d185 := c185
                              rw [fa_le] at d185
                              refine lv_aload_n hx hb dX10_keep_188 rfl (lv_at hl 2 rfl) ?_
                              refine m_get (v := .ref (a 33)) hx hb hts hin hown hK hP 33 (by decide) rfl (hts (.fieldLink RX10 73 "ShadowBenchModel" "shelfRow" "[J") (by decide +kernel)) rfl dX10_keep_189 ?_
                              refine lv_bipush (v := 60) hx hb dX10_keep_192 (by decide) ?_
                              refine lv_iload_n hx hb dX10_keep_194 rfl (lv_at hl 3 rfl) ?_
                              refine lv_imul hx hb dX10_keep_195 ?_
                              refine lv_topi (fun v195 e195 => ?_)
                              have i195 : v195.toInt = 60 * d.toInt := by rw [e195]; exact mulcL rfl (by omega) (by omega)
                              refine lv_iload hx hb dX10_keep_196 (lv_at hl 0 rfl) ?_
                              refine lv_iadd hx hb dX10_keep_198 ?_
                              refine lv_topi (fun v198 e198 => ?_)
                              have i198 : v198.toInt = v195.toInt + (nI i).toInt := by rw [e198]; exact fb_addI (by omega) (by omega)
                              refine lv_iload_n hx hb dX10_keep_199 rfl (lv_at hl 4 rfl) ?_
                              refine lv_iconst (v := 3) hx hb dX10_keep_200 (by decide) ?_
                              refine lv_icmp_ne (tgt := 215) hx hb dX10_keep_201 (by decide) (fun c201 => ?_) (fun c201 => ?_)
                              · first | exact absurd c201 c95 | exact absurd c95 c201
                              · skip
                                have d201 := c201
                                rw [fa_eq] at d201
                                refine lv_lload hx hb dX10_keep_204 (lv_at hl 6 rfl) ?_
                                refine lv_iload hx hb dX10_keep_206 (lv_at hl 0 rfl) ?_
                                refine m_pu (As := [.long p0, .int (nI i)]) (rest := [.int v198, .ref (a 33)]) ⟨hx, hb, hml, hown, hts⟩ (c_X10_one l p0 (nI i) ) (va_cwS 2 hts gX10_keep_X10_one rfl rfl rfl (by decide +kernel) ⟨Nat.le_of_ble_eq_true rfl, Nat.le_of_ble_eq_true rfl⟩) hP rfl hl.1 rfl (Nat.le_of_ble_eq_true rfl) dX10_keep_208 ⟨Nat.le_of_ble_eq_true rfl, Nat.le_of_ble_eq_true rfl⟩ hS (fun r208 H locs q208 hP hS => ?_)
                                have i208 : r208.toInt = (r_one p0 (nI i)).toInt := congrArg Int32.toInt q208
                                refine lv_i2l (v := r208.toInt64) hx hb dX10_keep_211 rfl ?_
                                refine lv_goto (tgt := 265) hx hb dX10_keep_212 (by decide) ?_
                                refine m_last (w := s3) hx hb hK hP hD hS 21 rfl (vp_in_iff.mpr ⟨by omega, by omega⟩) (va_up (va_up q 33 s3) 33 (vp_updL s3 v198.toNatClampNeg r208.toInt64)) (ms_33 cy mo a _ _ _ _ _) dX10_keep_265 (fun H locs hP hS => ?_)
                                have hP := wm_eq rfl rfl rfl (es_q_33__33 q s3 (vp_updL s3 v198.toNatClampNeg r208.toInt64)) hP
                                refine lv_iinc (v := (nI (i + 1))) (lv' := [(7, .int (nI (i + 1))), (6, .int (1 : Int32)), (0, .ref mo), (1, .int d), (2, .int what), (3, .int k0), (4, .long p0)]) hx hb dX10_keep_266 hl (k := 0) rfl (nI_1 _) (by decide) rfl (fun ls hl => ?_)
                                refine lv_goto (tgt := 177) hx hb dX10_keep_269 (by decide) ?_
                                have hP := wm_eq rfl rfl (ec_r_29_30_31_32__29_30_31_32 r ((upd (r 29) d.toNatClampNeg what)) ((upd (r 30) d.toNatClampNeg v110)) ((upd (r 31) d.toNatClampNeg r149)) ((upd (r 32) d.toNatClampNeg k0))) rfl hP
                                exact ih_177 (i + 1) (vp_updL s3 v198.toNatClampNeg r208.toInt64) (by omega) (by omega) _ _ hP hS ls (lv_sub hl [0, 1, 2, 3, 4, 5, 6] rfl)
                        have hP := wm_eq rfl rfl (ec_r_29_30_31_32__29_30_31_32 r ((upd (r 29) d.toNatClampNeg what)) ((upd (r 30) d.toNatClampNeg v110)) ((upd (r 31) d.toNatClampNeg r149)) ((upd (r 32) d.toNatClampNeg k0))) (ec_q___33 q ) hP
                        exact loop_177 (60 + 1) 0 (q 33) (by omega) (by omega) _ _ hP hS ls (lv_sub hl [0, 1, 2, 3, 4, 5, 6] rfl)
                      · skip
                        have d164 := c164
                        rw [fa_eq] at d164
                        refine lv_bipush (v := (-15)) hx hb dX10_keep_167 (by decide) ?_
                        refine lv_goto (tgt := 173) hx hb dX10_keep_169 (by decide) ?_
                        refine m_iast (w := (r 32)) hx hb hK hP hD hS 20 rfl (vp_in_iff.mpr ⟨by omega, by omega⟩) (va_up (va_up (va_up (va_up r 29 ((upd (r 29) d.toNatClampNeg what))) 30 ((upd (r 30) d.toNatClampNeg v110))) 31 ((upd (r 31) d.toNatClampNeg r149))) 32 (upd (r 32) d.toNatClampNeg (((-15) : Int32)))) (ms_32 cy mo a _ _ _ _ _) dX10_keep_173 (fun H locs hP hS => ?_)
                        refine lv_iconst (v := 0) hx hb dX10_keep_174 (by decide) ?_
                        refine lv_istore (lv' := [(7, .int (0 : Int32)), (6, .int (1 : Int32)), (0, .ref mo), (1, .int d), (2, .int what), (3, .int k0), (4, .long p0)]) hx hb dX10_keep_175 hl (by decide) rfl (fun ls hl => ?_)
                        have loop_177 : ∀ (n : Nat) (i : Nat) (s3 : Nat → Int64), (i ≤ 60) → 60 - i < n → ∀ (H : Heap) (locs : List Loc), va_P D vwCl (WM cy mo a (upd f 0 (0 : Int32)) g (va_up (va_up (va_up (va_up r 29 ((upd (r 29) d.toNatClampNeg what))) 30 ((upd (r 30) d.toNatClampNeg v110))) 31 ((upd (r 31) d.toNatClampNeg r149))) 32 ((upd (r 32) d.toNatClampNeg (((-15) : Int32))))) (va_up q 33 s3)) H → va_S (AM mo a) s.heap H locs → ∀ (ls : Array Slot), lv_has ls 8 [(7, .int (nI i)), (6, .int (1 : Int32)), (0, .ref mo), (1, .int d), (2, .int what), (3, .int k0), (4, .long p0)] → W p l e (headSpec wsX10_keep ({ frames := 3, cells := 0, slots := 0, locals := 69 })).room s m #[Value.ref mo, Value.int d, Value.int what, Value.int k0, Value.long p0] below meth c H locs 0 0 (MQ below (va_Qi (fun r0 u => ∃ (sh : Nat → Int32), ∃ (sz : Nat → Int32), ∃ (sw : Nat → Int32), ∃ (sf : Nat → Int32), ∃ (sr : Nat → Int64), u = ((upd f 0 (0 : Int32)), g, (va_up (va_up (va_up (va_up r 29 sh) 30 sz) 31 sw) 32 sf), (va_up q 33 sr)) ∧ (yesNo (okKeep (f 1) (fun j9 => (r 3 j9).toNatClampNeg) (fun j9 => (r 4 j9).toNatClampNeg) d what k0 p0) 0 (-1) r0 ∧ ((okKeep (f 1) (fun j9 => (r 3 j9).toNatClampNeg) (fun j9 => (r 4 j9).toNatClampNeg) d what k0 p0 ∧ sh = upd (r 29) d.toNatClampNeg what ∧ (what.toInt = 1 → sw = upd (r 31) d.toNatClampNeg (heR (r 2 k0.toNatClampNeg) (r 3 k0.toNatClampNeg).toNatClampNeg (r 4 k0.toNatClampNeg).toNatClampNeg (smN (fun s9 => r 8 (36 * k0.toNatClampNeg + s9)) 36))) ∧ (¬ what.toInt = 1 → sw = r 31)) ∨ (¬ okKeep (f 1) (fun j9 => (r 3 j9).toNatClampNeg) (fun j9 => (r 4 j9).toNatClampNeg) d what k0 p0 ∧ sh = r 29 ∧ sw = r 31)) ∧ MI (upd f 0 (0 : Int32)) (va_up (va_up (va_up (va_up r 29 sh) 30 sz) 31 sw) 32 sf))) (mB D cy mo a) (AM mo a)) #[Value.ref mo, Value.int d, Value.int what, Value.int k0, Value.long p0] s 0 0 (AM mo a)) (F0 m 177 ls []) := by
                          intro n
                          induction n with
                          | zero => intro i s3 j177_0 hn; exact absurd hn (Nat.not_lt_zero _)
                          | succ n ih_177 =>
                            intro i s3 j177_0 hn_177 H locs hP hS ls hl
                            have ii : (nI i).toInt = (i : Int) := nI_toInt (by omega)
                            refine lv_iload hx hb dX10_keep_177 (lv_at hl 0 rfl) ?_
                            refine lv_aload_n hx hb dX10_keep_179 rfl (lv_at hl 2 rfl) ?_
                            refine m_get (v := .ref (a 30)) hx hb hts hin hown hK hP 30 (by decide) rfl (hts (.fieldLink RX10 64 "ShadowBenchModel" "shelfSize" "[I") (by decide +kernel)) rfl dX10_keep_180 ?_
                            refine lv_iload_n hx hb dX10_keep_183 rfl (lv_at hl 3 rfl) ?_
                            refine m_iald (w := ((upd (r 30) d.toNatClampNeg v110))) hx hb hK hP 18 rfl (vp_in_iff.mpr ⟨by omega, by omega⟩) dX10_keep_184 ?_
                            refine lv_topi (fun v184 e184 => ?_)
                            have i184 : v184.toInt = (((upd (r 30) d.toNatClampNeg v110)) d.toNatClampNeg).toInt := congrArg Int32.toInt e184
                            have z184 := e184
                            simp only [upd, if_true] at z184
                            have y184 := congrArg Int32.toInt z184
                            refine lv_icmp_ge (tgt := 272) hx hb dX10_keep_185 (by decide) (fun c185 => ?_) (fun c185 => ?_)
                            · skip
                              have d185 := c185
                              rw [fa_le] at d185
                              refine lv_iconst (v := 0) hx hb dX10_keep_272 (by decide) ?_
                              have hP := wm_eq rfl rfl (ec_r_29_30_31_32__29_30_31_32 r ((upd (r 29) d.toNatClampNeg what)) ((upd (r 30) d.toNatClampNeg v110)) ((upd (r 31) d.toNatClampNeg r149)) ((upd (r 32) d.toNatClampNeg (((-15) : Int32))))) rfl hP
                              exact W.iret (v := (0 : Int32)) hx hb hr (fun t ht hW => ⟨⟨_, ((upd f 0 (0 : Int32)), g, (va_up (va_up (va_up (va_up r 29 (((upd (r 29) d.toNatClampNeg what)))) 30 (((upd (r 30) d.toNatClampNeg v110)))) 31 (((upd (r 31) d.toNatClampNeg r149)))) 32 (((upd (r 32) d.toNatClampNeg (((-15) : Int32)))))), (va_up q 33 s3)), rfl, ⟨((upd (r 29) d.toNatClampNeg what)), ((upd (r 30) d.toNatClampNeg v110)), ((upd (r 31) d.toNatClampNeg r149)), ((upd (r 32) d.toNatClampNeg (((-15) : Int32)))), s3, rfl, ⟨(Or.inl ⟨⟨b9, (by unfold okJob; first | exact Or.inl (by omega) | exact Or.inr (Or.inl ⟨by omega, b31⟩) | (have z9 := goodP_of b64; subst e52; subst e58; exact Or.inr (Or.inr ⟨by omega, b44, z9.2⟩)))⟩, rfl⟩), (Or.inl ⟨⟨b9, (by unfold okJob; first | exact Or.inl (by omega) | exact Or.inr (Or.inl ⟨by omega, b31⟩) | (have z9 := goodP_of b64; subst e52; subst e58; exact Or.inr (Or.inr ⟨by omega, b44, z9.2⟩)))⟩, rfl, (by first | exact ⟨fun _ => congrArg (fun z9 => upd (r 31) d.toNatClampNeg z9) q149, fun z9 => by exfalso; omega⟩ | exact ⟨fun z9 => by exfalso; omega, fun _ => rfl⟩)⟩), by first | exact hI | exact mi_sz (d := d) hI (v := v110) (by omega) rfl rfl rfl rfl rfl rfl rfl rfl | exact mi_sz (d := d) hI (v := v131) (by omega) rfl rfl rfl rfl rfl rfl rfl rfl | exact mi_sz (d := d) hI (v := 0) (by decide) rfl rfl rfl rfl rfl rfl rfl rfl⟩⟩, by unfold mB; rw [ht]; exact hP⟩, hS.F ht⟩) hS.2.2 dX10_keep_273
                            · skip
                              have d185 := c185
                              rw [fa_le] at d185
                              refine lv_aload_n hx hb dX10_keep_188 rfl (lv_at hl 2 rfl) ?_
                              refine m_get (v := .ref (a 33)) hx hb hts hin hown hK hP 33 (by decide) rfl (hts (.fieldLink RX10 73 "ShadowBenchModel" "shelfRow" "[J") (by decide +kernel)) rfl dX10_keep_189 ?_
                              refine lv_bipush (v := 60) hx hb dX10_keep_192 (by decide) ?_
                              refine lv_iload_n hx hb dX10_keep_194 rfl (lv_at hl 3 rfl) ?_
                              refine lv_imul hx hb dX10_keep_195 ?_
                              refine lv_topi (fun v195 e195 => ?_)
                              have i195 : v195.toInt = 60 * d.toInt := by rw [e195]; exact mulcL rfl (by omega) (by omega)
                              refine lv_iload hx hb dX10_keep_196 (lv_at hl 0 rfl) ?_
                              refine lv_iadd hx hb dX10_keep_198 ?_
                              refine lv_topi (fun v198 e198 => ?_)
                              have i198 : v198.toInt = v195.toInt + (nI i).toInt := by rw [e198]; exact fb_addI (by omega) (by omega)
                              refine lv_iload_n hx hb dX10_keep_199 rfl (lv_at hl 4 rfl) ?_
                              refine lv_iconst (v := 3) hx hb dX10_keep_200 (by decide) ?_
                              refine lv_icmp_ne (tgt := 215) hx hb dX10_keep_201 (by decide) (fun c201 => ?_) (fun c201 => ?_)
                              · first | exact absurd c201 c95 | exact absurd c95 c201
                              · skip
                                have d201 := c201
                                rw [fa_eq] at d201
                                refine lv_lload hx hb dX10_keep_204 (lv_at hl 6 rfl) ?_
                                refine lv_iload hx hb dX10_keep_206 (lv_at hl 0 rfl) ?_
                                refine m_pu (As := [.long p0, .int (nI i)]) (rest := [.int v198, .ref (a 33)]) ⟨hx, hb, hml, hown, hts⟩ (c_X10_one l p0 (nI i) ) (va_cwS 2 hts gX10_keep_X10_one rfl rfl rfl (by decide +kernel) ⟨Nat.le_of_ble_eq_true rfl, Nat.le_of_ble_eq_true rfl⟩) hP rfl hl.1 rfl (Nat.le_of_ble_eq_true rfl) dX10_keep_208 ⟨Nat.le_of_ble_eq_true rfl, Nat.le_of_ble_eq_true rfl⟩ hS (fun r208 H locs q208 hP hS => ?_)
                                have i208 : r208.toInt = (r_one p0 (nI i)).toInt := congrArg Int32.toInt q208
                                refine lv_i2l (v := r208.toInt64) hx hb dX10_keep_211 rfl ?_
                                refine lv_goto (tgt := 265) hx hb dX10_keep_212 (by decide) ?_
                                refine m_last (w := s3) hx hb hK hP hD hS 21 rfl (vp_in_iff.mpr ⟨by omega, by omega⟩) (va_up (va_up q 33 s3) 33 (vp_updL s3 v198.toNatClampNeg r208.toInt64)) (ms_33 cy mo a _ _ _ _ _) dX10_keep_265 (fun H locs hP hS => ?_)
                                have hP := wm_eq rfl rfl rfl (es_q_33__33 q s3 (vp_updL s3 v198.toNatClampNeg r208.toInt64)) hP
                                refine lv_iinc (v := (nI (i + 1))) (lv' := [(7, .int (nI (i + 1))), (6, .int (1 : Int32)), (0, .ref mo), (1, .int d), (2, .int what), (3, .int k0), (4, .long p0)]) hx hb dX10_keep_266 hl (k := 0) rfl (nI_1 _) (by decide) rfl (fun ls hl => ?_)
                                refine lv_goto (tgt := 177) hx hb dX10_keep_269 (by decide) ?_
                                have hP := wm_eq rfl rfl (ec_r_29_30_31_32__29_30_31_32 r ((upd (r 29) d.toNatClampNeg what)) ((upd (r 30) d.toNatClampNeg v110)) ((upd (r 31) d.toNatClampNeg r149)) ((upd (r 32) d.toNatClampNeg (((-15) : Int32))))) rfl hP
                                exact ih_177 (i + 1) (vp_updL s3 v198.toNatClampNeg r208.toInt64) (by omega) (by omega) _ _ hP hS ls (lv_sub hl [0, 1, 2, 3, 4, 5, 6] rfl)
                        have hP := wm_eq rfl rfl (ec_r_29_30_31_32__29_30_31_32 r ((upd (r 29) d.toNatClampNeg what)) ((upd (r 30) d.toNatClampNeg v110)) ((upd (r 31) d.toNatClampNeg r149)) ((upd (r 32) d.toNatClampNeg (((-15) : Int32))))) (ec_q___33 q ) hP
                        exact loop_177 (60 + 1) 0 (q 33) (by omega) (by omega) _ _ hP hS ls (lv_sub hl [0, 1, 2, 3, 4, 5, 6] rfl)
                · first | exact absurd c76 (by decide) | exact absurd (by decide) c76
        · skip
          have d23 := c23
          rw [fa_eq] at d23
          refine lv_aload_n hx hb dX10_keep_26 rfl (lv_at hl 0 rfl) ?_
          refine lv_iload_n hx hb dX10_keep_27 rfl (lv_at hl 3 rfl) ?_
          refine m_calli (As := [.int k0]) (rest := []) ⟨hx, hb, hml, hown, hts⟩ (c_X10_isJob l D cy mo a (upd f 0 (0 : Int32)) g r q k0 hD) (cwV 1 hts gX10_keep_X10_isJob rfl rfl rfl (by decide +kernel) ⟨Nat.le_of_ble_eq_true rfl, Nat.le_of_ble_eq_true rfl⟩) hK hP rfl hl.1 rfl (Nat.le_of_ble_eq_true rfl) dX10_keep_28 ⟨Nat.le_of_ble_eq_true rfl, Nat.le_of_ble_eq_true rfl⟩ hS (fun r28 u H locs q28 hP hS => ?_)
          obtain ⟨rfl, q28⟩ := q28
          have hP : va_P D vwCl (WM cy mo a (upd f 0 (0 : Int32)) g r q) H := hP
          have q28 : Bo r28 (0 ≤ k0.toInt ∧ k0.toInt < ((f 1)).toInt) := q28
          refine lv_if_ne (tgt := 67) hx hb dX10_keep_31 (by decide) (fun c31 => ?_) (fun c31 => ?_)
          · skip
            have b31 := bo_t q28 c31
            refine lv_iconst (v := 1) hx hb dX10_keep_67 (by decide) ?_
            refine lv_goto (tgt := 72) hx hb dX10_keep_68 (by decide) ?_
            refine lv_istore (lv' := [(6, .int (1 : Int32)), (0, .ref mo), (1, .int d), (2, .int what), (3, .int k0), (4, .long p0)]) hx hb dX10_keep_72 hl (by decide) rfl (fun ls hl => ?_)
            refine lv_iload hx hb dX10_keep_74 (lv_at hl 0 rfl) ?_
            refine lv_if_ne (tgt := 81) hx hb dX10_keep_76 (by decide) (fun c76 => ?_) (fun c76 => ?_)
            · skip
              have d76 := c76
              rw [fa_eq] at d76
              refine lv_aload_n hx hb dX10_keep_81 rfl (lv_at hl 1 rfl) ?_
              refine m_get (v := .ref (a 29)) hx hb hts hin hown hK hP 29 (by decide) rfl (hts (.fieldLink RX10 61 "ShadowBenchModel" "shelf" "[I") (by decide +kernel)) rfl dX10_keep_82 ?_
              refine lv_iload_n hx hb dX10_keep_85 rfl (lv_at hl 2 rfl) ?_
              refine lv_iload_n hx hb dX10_keep_86 rfl (lv_at hl 3 rfl) ?_
              refine m_iast (w := (r 29)) hx hb hK hP hD hS 17 rfl (vp_in_iff.mpr ⟨by omega, by omega⟩) (va_up r 29 (upd (r 29) d.toNatClampNeg what)) (ms_29 cy mo a _ _ _ _ _) dX10_keep_87 (fun H locs hP hS => ?_)
              refine lv_aload_n hx hb dX10_keep_88 rfl (lv_at hl 1 rfl) ?_
              refine m_get (v := .ref (a 30)) hx hb hts hin hown hK hP 30 (by decide) rfl (hts (.fieldLink RX10 64 "ShadowBenchModel" "shelfSize" "[I") (by decide +kernel)) rfl dX10_keep_89 ?_
              refine lv_iload_n hx hb dX10_keep_92 rfl (lv_at hl 2 rfl) ?_
              refine lv_iload_n hx hb dX10_keep_93 rfl (lv_at hl 3 rfl) ?_
              refine lv_iconst (v := 3) hx hb dX10_keep_94 (by decide) ?_
              refine lv_icmp_ne (tgt := 114) hx hb dX10_keep_95 (by decide) (fun c95 => ?_) (fun c95 => ?_)
              · skip
                have d95 := c95
                rw [fa_eq] at d95
                refine lv_iload_n hx hb dX10_keep_114 rfl (lv_at hl 3 rfl) ?_
                refine lv_iconst (v := 4) hx hb dX10_keep_115 (by decide) ?_
                refine lv_icmp_ne (tgt := 135) hx hb dX10_keep_116 (by decide) (fun c116 => ?_) (fun c116 => ?_)
                · first | exact absurd c116 c23 | exact absurd c23 c116
                · skip
                  have d116 := c116
                  rw [fa_eq] at d116
                  refine lv_aload_n hx hb dX10_keep_119 rfl (lv_at hl 1 rfl) ?_
                  refine m_get (v := .ref (a 4)) hx hb hts hin hown hK hP 4 (by decide) rfl (hts (.fieldLink RX10 16 "ShadowBenchModel" "high" "[I") (by decide +kernel)) rfl dX10_keep_120 ?_
                  refine lv_iload_n hx hb dX10_keep_123 rfl (lv_at hl 4 rfl) ?_
                  refine m_iald (w := (r 4)) hx hb hK hP 3 rfl (vp_in_iff.mpr ⟨by omega, by omega⟩) dX10_keep_124 ?_
                  refine lv_topi (fun v124 e124 => ?_)
                  have i124 : v124.toInt = ((r 4) k0.toNatClampNeg).toInt := congrArg Int32.toInt e124
                  have w124 := mi_h hI (x := k0) (by omega) (by omega) e124
                  refine lv_aload_n hx hb dX10_keep_125 rfl (lv_at hl 1 rfl) ?_
                  refine m_get (v := .ref (a 3)) hx hb hts hin hown hK hP 3 (by decide) rfl (hts (.fieldLink RX10 13 "ShadowBenchModel" "wide" "[I") (by decide +kernel)) rfl dX10_keep_126 ?_
                  refine lv_iload_n hx hb dX10_keep_129 rfl (lv_at hl 4 rfl) ?_
                  refine m_iald (w := (r 3)) hx hb hK hP 2 rfl (vp_in_iff.mpr ⟨by omega, by omega⟩) dX10_keep_130 ?_
                  refine lv_topi (fun v130 e130 => ?_)
                  have i130 : v130.toInt = ((r 3) k0.toNatClampNeg).toInt := congrArg Int32.toInt e130
                  have w130 := mi_w hI (x := k0) (by omega) (by omega) e130
                  refine lv_iadd hx hb dX10_keep_131 ?_
                  refine lv_topi (fun v131 e131 => ?_)
                  have i131 : v131.toInt = v124.toInt + v130.toInt := by rw [e131]; exact fb_addI (by omega) (by omega)
                  refine lv_goto (tgt := 136) hx hb dX10_keep_132 (by decide) ?_
                  refine m_iast (w := (r 30)) hx hb hK hP hD hS 18 rfl (vp_in_iff.mpr ⟨by omega, by omega⟩) (va_up (va_up r 29 ((upd (r 29) d.toNatClampNeg what))) 30 (upd (r 30) d.toNatClampNeg v131)) (ms_30 cy mo a _ _ _ _ _) dX10_keep_136 (fun H locs hP hS => ?_)
                  refine lv_iload_n hx hb dX10_keep_137 rfl (lv_at hl 3 rfl) ?_
                  refine lv_iconst (v := 1) hx hb dX10_keep_138 (by decide) ?_
                  refine lv_icmp_ne (tgt := 174) hx hb dX10_keep_139 (by decide) (fun c139 => ?_) (fun c139 => ?_)
                  · skip
                    have d139 := c139
                    rw [fa_eq] at d139
                    refine lv_iconst (v := 0) hx hb dX10_keep_174 (by decide) ?_
                    refine lv_istore (lv' := [(7, .int (0 : Int32)), (6, .int (1 : Int32)), (0, .ref mo), (1, .int d), (2, .int what), (3, .int k0), (4, .long p0)]) hx hb dX10_keep_175 hl (by decide) rfl (fun ls hl => ?_)
                    have loop_177 : ∀ (n : Nat) (i : Nat) (s3 : Nat → Int64), (i ≤ 60) → 60 - i < n → ∀ (H : Heap) (locs : List Loc), va_P D vwCl (WM cy mo a (upd f 0 (0 : Int32)) g (va_up (va_up r 29 ((upd (r 29) d.toNatClampNeg what))) 30 ((upd (r 30) d.toNatClampNeg v131))) (va_up q 33 s3)) H → va_S (AM mo a) s.heap H locs → ∀ (ls : Array Slot), lv_has ls 8 [(7, .int (nI i)), (6, .int (1 : Int32)), (0, .ref mo), (1, .int d), (2, .int what), (3, .int k0), (4, .long p0)] → W p l e (headSpec wsX10_keep ({ frames := 3, cells := 0, slots := 0, locals := 69 })).room s m #[Value.ref mo, Value.int d, Value.int what, Value.int k0, Value.long p0] below meth c H locs 0 0 (MQ below (va_Qi (fun r0 u => ∃ (sh : Nat → Int32), ∃ (sz : Nat → Int32), ∃ (sw : Nat → Int32), ∃ (sf : Nat → Int32), ∃ (sr : Nat → Int64), u = ((upd f 0 (0 : Int32)), g, (va_up (va_up (va_up (va_up r 29 sh) 30 sz) 31 sw) 32 sf), (va_up q 33 sr)) ∧ (yesNo (okKeep (f 1) (fun j9 => (r 3 j9).toNatClampNeg) (fun j9 => (r 4 j9).toNatClampNeg) d what k0 p0) 0 (-1) r0 ∧ ((okKeep (f 1) (fun j9 => (r 3 j9).toNatClampNeg) (fun j9 => (r 4 j9).toNatClampNeg) d what k0 p0 ∧ sh = upd (r 29) d.toNatClampNeg what ∧ (what.toInt = 1 → sw = upd (r 31) d.toNatClampNeg (heR (r 2 k0.toNatClampNeg) (r 3 k0.toNatClampNeg).toNatClampNeg (r 4 k0.toNatClampNeg).toNatClampNeg (smN (fun s9 => r 8 (36 * k0.toNatClampNeg + s9)) 36))) ∧ (¬ what.toInt = 1 → sw = r 31)) ∨ (¬ okKeep (f 1) (fun j9 => (r 3 j9).toNatClampNeg) (fun j9 => (r 4 j9).toNatClampNeg) d what k0 p0 ∧ sh = r 29 ∧ sw = r 31)) ∧ MI (upd f 0 (0 : Int32)) (va_up (va_up (va_up (va_up r 29 sh) 30 sz) 31 sw) 32 sf))) (mB D cy mo a) (AM mo a)) #[Value.ref mo, Value.int d, Value.int what, Value.int k0, Value.long p0] s 0 0 (AM mo a)) (F0 m 177 ls []) := by
                      intro n
                      induction n with
                      | zero => intro i s3 j177_0 hn; exact absurd hn (Nat.not_lt_zero _)
                      | succ n ih_177 =>
                        intro i s3 j177_0 hn_177 H locs hP hS ls hl
                        have ii : (nI i).toInt = (i : Int) := nI_toInt (by omega)
                        refine lv_iload hx hb dX10_keep_177 (lv_at hl 0 rfl) ?_
                        refine lv_aload_n hx hb dX10_keep_179 rfl (lv_at hl 2 rfl) ?_
                        refine m_get (v := .ref (a 30)) hx hb hts hin hown hK hP 30 (by decide) rfl (hts (.fieldLink RX10 64 "ShadowBenchModel" "shelfSize" "[I") (by decide +kernel)) rfl dX10_keep_180 ?_
                        refine lv_iload_n hx hb dX10_keep_183 rfl (lv_at hl 3 rfl) ?_
                        refine m_iald (w := ((upd (r 30) d.toNatClampNeg v131))) hx hb hK hP 18 rfl (vp_in_iff.mpr ⟨by omega, by omega⟩) dX10_keep_184 ?_
                        refine lv_topi (fun v184 e184 => ?_)
                        have i184 : v184.toInt = (((upd (r 30) d.toNatClampNeg v131)) d.toNatClampNeg).toInt := congrArg Int32.toInt e184
                        have z184 := e184
                        simp only [upd, if_true] at z184
                        have y184 := congrArg Int32.toInt z184
                        refine lv_icmp_ge (tgt := 272) hx hb dX10_keep_185 (by decide) (fun c185 => ?_) (fun c185 => ?_)
                        · skip
                          have d185 := c185
                          rw [fa_le] at d185
                          refine lv_iconst (v := 0) hx hb dX10_keep_272 (by decide) ?_
                          have hP := wm_eq rfl rfl (ec_r_29_30__29_30_31_32 r ((upd (r 29) d.toNatClampNeg what)) ((upd (r 30) d.toNatClampNeg v131))) rfl hP
                          exact W.iret (v := (0 : Int32)) hx hb hr (fun t ht hW => ⟨⟨_, ((upd f 0 (0 : Int32)), g, (va_up (va_up (va_up (va_up r 29 (((upd (r 29) d.toNatClampNeg what)))) 30 (((upd (r 30) d.toNatClampNeg v131)))) 31 (r 31)) 32 (r 32)), (va_up q 33 s3)), rfl, ⟨((upd (r 29) d.toNatClampNeg what)), ((upd (r 30) d.toNatClampNeg v131)), (r 31), (r 32), s3, rfl, ⟨(Or.inl ⟨⟨b9, (by unfold okJob; first | exact Or.inl (by omega) | exact Or.inr (Or.inl ⟨by omega, b31⟩) | (have z9 := goodP_of b64; subst e52; subst e58; exact Or.inr (Or.inr ⟨by omega, b44, z9.2⟩)))⟩, rfl⟩), (Or.inl ⟨⟨b9, (by unfold okJob; first | exact Or.inl (by omega) | exact Or.inr (Or.inl ⟨by omega, b31⟩) | (have z9 := goodP_of b64; subst e52; subst e58; exact Or.inr (Or.inr ⟨by omega, b44, z9.2⟩)))⟩, rfl, (by first | exact ⟨fun _ => congrArg (fun z9 => upd (r 31) d.toNatClampNeg z9) q149, fun z9 => by exfalso; omega⟩ | exact ⟨fun z9 => by exfalso; omega, fun _ => rfl⟩)⟩), by first | exact hI | exact mi_sz (d := d) hI (v := v110) (by omega) rfl rfl rfl rfl rfl rfl rfl rfl | exact mi_sz (d := d) hI (v := v131) (by omega) rfl rfl rfl rfl rfl rfl rfl rfl | exact mi_sz (d := d) hI (v := 0) (by decide) rfl rfl rfl rfl rfl rfl rfl rfl⟩⟩, by unfold mB; rw [ht]; exact hP⟩, hS.F ht⟩) hS.2.2 dX10_keep_273
                        · skip
                          have d185 := c185
                          rw [fa_le] at d185
                          refine lv_aload_n hx hb dX10_keep_188 rfl (lv_at hl 2 rfl) ?_
                          refine m_get (v := .ref (a 33)) hx hb hts hin hown hK hP 33 (by decide) rfl (hts (.fieldLink RX10 73 "ShadowBenchModel" "shelfRow" "[J") (by decide +kernel)) rfl dX10_keep_189 ?_
                          refine lv_bipush (v := 60) hx hb dX10_keep_192 (by decide) ?_
                          refine lv_iload_n hx hb dX10_keep_194 rfl (lv_at hl 3 rfl) ?_
                          refine lv_imul hx hb dX10_keep_195 ?_
                          refine lv_topi (fun v195 e195 => ?_)
                          have i195 : v195.toInt = 60 * d.toInt := by rw [e195]; exact mulcL rfl (by omega) (by omega)
                          refine lv_iload hx hb dX10_keep_196 (lv_at hl 0 rfl) ?_
                          refine lv_iadd hx hb dX10_keep_198 ?_
                          refine lv_topi (fun v198 e198 => ?_)
                          have i198 : v198.toInt = v195.toInt + (nI i).toInt := by rw [e198]; exact fb_addI (by omega) (by omega)
                          refine lv_iload_n hx hb dX10_keep_199 rfl (lv_at hl 4 rfl) ?_
                          refine lv_iconst (v := 3) hx hb dX10_keep_200 (by decide) ?_
                          refine lv_icmp_ne (tgt := 215) hx hb dX10_keep_201 (by decide) (fun c201 => ?_) (fun c201 => ?_)
                          · skip
                            have d201 := c201
                            rw [fa_eq] at d201
                            refine lv_iload hx hb dX10_keep_215 (lv_at hl 0 rfl) ?_
                            refine lv_aload_n hx hb dX10_keep_217 rfl (lv_at hl 2 rfl) ?_
                            refine m_get (v := .ref (a 4)) hx hb hts hin hown hK hP 4 (by decide) rfl (hts (.fieldLink RX10 16 "ShadowBenchModel" "high" "[I") (by decide +kernel)) rfl dX10_keep_218 ?_
                            refine lv_iload_n hx hb dX10_keep_221 rfl (lv_at hl 5 rfl) ?_
                            refine m_iald (w := (r 4)) hx hb hK hP 3 rfl (vp_in_iff.mpr ⟨by omega, by omega⟩) dX10_keep_222 ?_
                            refine lv_topi (fun v222 e222 => ?_)
                            have i222 : v222.toInt = ((r 4) k0.toNatClampNeg).toInt := congrArg Int32.toInt e222
                            have w222 := mi_h hI (x := k0) (by omega) (by omega) e222
                            refine lv_icmp_ge (tgt := 242) hx hb dX10_keep_223 (by decide) (fun c223 => ?_) (fun c223 => ?_)
                            · skip
                              have d223 := c223
                              rw [fa_le] at d223
                              refine lv_aload_n hx hb dX10_keep_242 rfl (lv_at hl 2 rfl) ?_
                              refine m_get (v := .ref (a 5)) hx hb hts hin hown hK hP 5 (by decide) rfl (hts (.fieldLink RX10 19 "ShadowBenchModel" "sums" "[I") (by decide +kernel)) rfl dX10_keep_243 ?_
                              refine lv_bipush (v := 44) hx hb dX10_keep_246 (by decide) ?_
                              refine lv_iload_n hx hb dX10_keep_248 rfl (lv_at hl 5 rfl) ?_
                              refine lv_imul hx hb dX10_keep_249 ?_
                              refine lv_topi (fun v249 e249 => ?_)
                              have i249 : v249.toInt = 44 * k0.toInt := by rw [e249]; exact mulcL rfl (by omega) (by omega)
                              refine lv_bipush (v := 11) hx hb dX10_keep_250 (by decide) ?_
                              refine lv_iadd hx hb dX10_keep_252 ?_
                              refine lv_topi (fun v252 e252 => ?_)
                              have i252 : v252.toInt = v249.toInt + (11 : Int32).toInt := by rw [e252]; exact fb_addI (by omega) (by omega)
                              refine lv_iload hx hb dX10_keep_253 (lv_at hl 0 rfl) ?_
                              refine lv_iadd hx hb dX10_keep_255 ?_
                              refine lv_topi (fun v255 e255 => ?_)
                              have i255 : v255.toInt = v252.toInt + (nI i).toInt := by rw [e255]; exact fb_addI (by omega) (by omega)
                              refine lv_aload_n hx hb dX10_keep_256 rfl (lv_at hl 2 rfl) ?_
                              refine m_get (v := .ref (a 4)) hx hb hts hin hown hK hP 4 (by decide) rfl (hts (.fieldLink RX10 16 "ShadowBenchModel" "high" "[I") (by decide +kernel)) rfl dX10_keep_257 ?_
                              refine lv_iload_n hx hb dX10_keep_260 rfl (lv_at hl 5 rfl) ?_
                              refine m_iald (w := (r 4)) hx hb hK hP 3 rfl (vp_in_iff.mpr ⟨by omega, by omega⟩) dX10_keep_261 ?_
                              refine lv_topi (fun v261 e261 => ?_)
                              have i261 : v261.toInt = ((r 4) k0.toNatClampNeg).toInt := congrArg Int32.toInt e261
                              have w261 := mi_h hI (x := k0) (by omega) (by omega) e261
                              refine lv_isub hx hb dX10_keep_262 ?_
                              refine lv_topi (fun v262 e262 => ?_)
                              have i262 : v262.toInt = v255.toInt - v261.toInt := by rw [e262]; exact fb_subI (by omega) (by omega)
                              refine m_iald (w := (r 5)) hx hb hK hP 4 rfl (vp_in_iff.mpr ⟨by omega, by omega⟩) dX10_keep_263 ?_
                              refine lv_topi (fun v263 e263 => ?_)
                              have i263 : v263.toInt = ((r 5) v262.toNatClampNeg).toInt := congrArg Int32.toInt e263
                              refine lv_i2l (v := v263.toInt64) hx hb dX10_keep_264 rfl ?_
                              refine m_last (w := s3) hx hb hK hP hD hS 21 rfl (vp_in_iff.mpr ⟨by omega, by omega⟩) (va_up (va_up q 33 s3) 33 (vp_updL s3 v198.toNatClampNeg v263.toInt64)) (ms_33 cy mo a _ _ _ _ _) dX10_keep_265 (fun H locs hP hS => ?_)
                              have hP := wm_eq rfl rfl rfl (es_q_33__33 q s3 (vp_updL s3 v198.toNatClampNeg v263.toInt64)) hP
                              refine lv_iinc (v := (nI (i + 1))) (lv' := [(7, .int (nI (i + 1))), (6, .int (1 : Int32)), (0, .ref mo), (1, .int d), (2, .int what), (3, .int k0), (4, .long p0)]) hx hb dX10_keep_266 hl (k := 0) rfl (nI_1 _) (by decide) rfl (fun ls hl => ?_)
                              refine lv_goto (tgt := 177) hx hb dX10_keep_269 (by decide) ?_
                              have hP := wm_eq rfl rfl (ec_r_29_30__29_30 r ((upd (r 29) d.toNatClampNeg what)) ((upd (r 30) d.toNatClampNeg v131))) rfl hP
                              exact ih_177 (i + 1) (vp_updL s3 v198.toNatClampNeg v263.toInt64) (by omega) (by omega) _ _ hP hS ls (lv_sub hl [0, 1, 2, 3, 4, 5, 6] rfl)
                            · skip
                              have d223 := c223
                              rw [fa_le] at d223
                              refine lv_aload_n hx hb dX10_keep_226 rfl (lv_at hl 2 rfl) ?_
                              refine m_get (v := .ref (a 5)) hx hb hts hin hown hK hP 5 (by decide) rfl (hts (.fieldLink RX10 19 "ShadowBenchModel" "sums" "[I") (by decide +kernel)) rfl dX10_keep_227 ?_
                              refine lv_bipush (v := 44) hx hb dX10_keep_230 (by decide) ?_
                              refine lv_iload_n hx hb dX10_keep_232 rfl (lv_at hl 5 rfl) ?_
                              refine lv_imul hx hb dX10_keep_233 ?_
                              refine lv_topi (fun v233 e233 => ?_)
                              have i233 : v233.toInt = 44 * k0.toInt := by rw [e233]; exact mulcL rfl (by omega) (by omega)
                              refine lv_iload hx hb dX10_keep_234 (lv_at hl 0 rfl) ?_
                              refine lv_iadd hx hb dX10_keep_236 ?_
                              refine lv_topi (fun v236 e236 => ?_)
                              have i236 : v236.toInt = v233.toInt + (nI i).toInt := by rw [e236]; exact fb_addI (by omega) (by omega)
                              refine m_iald (w := (r 5)) hx hb hK hP 4 rfl (vp_in_iff.mpr ⟨by omega, by omega⟩) dX10_keep_237 ?_
                              refine lv_topi (fun v237 e237 => ?_)
                              have i237 : v237.toInt = ((r 5) v236.toNatClampNeg).toInt := congrArg Int32.toInt e237
                              refine lv_i2l (v := v237.toInt64) hx hb dX10_keep_238 rfl ?_
                              refine lv_goto (tgt := 265) hx hb dX10_keep_239 (by decide) ?_
                              refine m_last (w := s3) hx hb hK hP hD hS 21 rfl (vp_in_iff.mpr ⟨by omega, by omega⟩) (va_up (va_up q 33 s3) 33 (vp_updL s3 v198.toNatClampNeg v237.toInt64)) (ms_33 cy mo a _ _ _ _ _) dX10_keep_265 (fun H locs hP hS => ?_)
                              have hP := wm_eq rfl rfl rfl (es_q_33__33 q s3 (vp_updL s3 v198.toNatClampNeg v237.toInt64)) hP
                              refine lv_iinc (v := (nI (i + 1))) (lv' := [(7, .int (nI (i + 1))), (6, .int (1 : Int32)), (0, .ref mo), (1, .int d), (2, .int what), (3, .int k0), (4, .long p0)]) hx hb dX10_keep_266 hl (k := 0) rfl (nI_1 _) (by decide) rfl (fun ls hl => ?_)
                              refine lv_goto (tgt := 177) hx hb dX10_keep_269 (by decide) ?_
                              have hP := wm_eq rfl rfl (ec_r_29_30__29_30 r ((upd (r 29) d.toNatClampNeg what)) ((upd (r 30) d.toNatClampNeg v131))) rfl hP
                              exact ih_177 (i + 1) (vp_updL s3 v198.toNatClampNeg v237.toInt64) (by omega) (by omega) _ _ hP hS ls (lv_sub hl [0, 1, 2, 3, 4, 5, 6] rfl)
                          · first | exact absurd c201 c95 | exact absurd c95 c201
                    have hP := wm_eq rfl rfl (ec_r_29_30__29_30 r ((upd (r 29) d.toNatClampNeg what)) ((upd (r 30) d.toNatClampNeg v131))) (ec_q___33 q ) hP
                    exact loop_177 (60 + 1) 0 (q 33) (by omega) (by omega) _ _ hP hS ls (lv_sub hl [0, 1, 2, 3, 4, 5, 6] rfl)
                  · skip
                    have d139 := c139
                    rw [fa_eq] at d139
                    refine lv_aload_n hx hb dX10_keep_142 rfl (lv_at hl 1 rfl) ?_
                    refine m_get (v := .ref (a 31)) hx hb hts hin hown hK hP 31 (by decide) rfl (hts (.fieldLink RX10 67 "ShadowBenchModel" "shelfWeight" "[I") (by decide +kernel)) rfl dX10_keep_143 ?_
                    refine lv_iload_n hx hb dX10_keep_146 rfl (lv_at hl 2 rfl) ?_
                    refine lv_aload_n hx hb dX10_keep_147 rfl (lv_at hl 1 rfl) ?_
                    refine lv_iload_n hx hb dX10_keep_148 rfl (lv_at hl 4 rfl) ?_
                    refine m_calli (As := [.int k0]) (rest := [.int d, .ref (a 31)]) ⟨hx, hb, hml, hown, hts⟩ (c_X10_weightOf_x l D cy mo a (upd f 0 (0 : Int32)) g (va_up (va_up r 29 ((upd (r 29) d.toNatClampNeg what))) 30 ((upd (r 30) d.toNatClampNeg v131))) q k0 hD (by first | exact hI | exact mi_sz (d := d) hI (v := 0) (by first | omega | decide) rfl rfl rfl rfl rfl rfl rfl rfl | exact mi_sz (d := d) hI (v := v131) (by first | omega | decide) rfl rfl rfl rfl rfl rfl rfl rfl | exact mi_sz (d := d) hI (v := v110) (by first | omega | decide) rfl rfl rfl rfl rfl rfl rfl rfl) (show 0 ≤ k0.toInt ∧ k0.toInt < (f 1).toInt by omega)) (cwV 1 hts gX10_keep_X10_weightOf rfl rfl rfl (by decide +kernel) ⟨Nat.le_of_ble_eq_true rfl, Nat.le_of_ble_eq_true rfl⟩) hK hP rfl hl.1 rfl (Nat.le_of_ble_eq_true rfl) dX10_keep_149 ⟨Nat.le_of_ble_eq_true rfl, Nat.le_of_ble_eq_true rfl⟩ hS (fun r149 u H locs q149 hP hS => ?_)
                    obtain ⟨rfl, q149⟩ := q149
                    have hP : va_P D vwCl (WM cy mo a (upd f 0 (0 : Int32)) g (va_up (va_up r 29 ((upd (r 29) d.toNatClampNeg what))) 30 ((upd (r 30) d.toNatClampNeg v131))) q) H := hP
                    have q149 : r149 = (heR ((r 2) k0.toNatClampNeg) ((r 3) k0.toNatClampNeg).toNatClampNeg ((r 4) k0.toNatClampNeg).toNatClampNeg (smN (fun s9 => (va_up (va_up r 29 ((upd (r 29) d.toNatClampNeg what))) 30 ((upd (r 30) d.toNatClampNeg v131))) 8 (36 * k0.toNatClampNeg + s9)) 36)) := q149
                    refine m_iast (w := (r 31)) hx hb hK hP hD hS 19 rfl (vp_in_iff.mpr ⟨by omega, by omega⟩) (va_up (va_up (va_up r 29 ((upd (r 29) d.toNatClampNeg what))) 30 ((upd (r 30) d.toNatClampNeg v131))) 31 (upd (r 31) d.toNatClampNeg r149)) (ms_31 cy mo a _ _ _ _ _) dX10_keep_152 (fun H locs hP hS => ?_)
                    refine lv_aload_n hx hb dX10_keep_153 rfl (lv_at hl 1 rfl) ?_
                    refine m_get (v := .ref (a 32)) hx hb hts hin hown hK hP 32 (by decide) rfl (hts (.fieldLink RX10 70 "ShadowBenchModel" "shelfFailure" "[I") (by decide +kernel)) rfl dX10_keep_154 ?_
                    refine lv_iload_n hx hb dX10_keep_157 rfl (lv_at hl 2 rfl) ?_
                    refine lv_aload_n hx hb dX10_keep_158 rfl (lv_at hl 1 rfl) ?_
                    refine m_get (v := .ref (a 2)) hx hb hts hin hown hK hP 2 (by decide) rfl (hts (.fieldLink RX10 7 "ShadowBenchModel" "kind" "[I") (by decide +kernel)) rfl dX10_keep_159 ?_
                    refine lv_iload_n hx hb dX10_keep_162 rfl (lv_at hl 4 rfl) ?_
                    refine m_iald (w := (r 2)) hx hb hK hP 1 rfl (vp_in_iff.mpr ⟨by omega, by omega⟩) dX10_keep_163 ?_
                    refine lv_topi (fun v163 e163 => ?_)
                    have i163 : v163.toInt = ((r 2) k0.toNatClampNeg).toInt := congrArg Int32.toInt e163
                    refine lv_if_ne (tgt := 172) hx hb dX10_keep_164 (by decide) (fun c164 => ?_) (fun c164 => ?_)
                    · skip
                      have d164 := c164
                      rw [fa_eq] at d164
                      refine lv_iload_n hx hb dX10_keep_172 rfl (lv_at hl 4 rfl) ?_
                      refine m_iast (w := (r 32)) hx hb hK hP hD hS 20 rfl (vp_in_iff.mpr ⟨by omega, by omega⟩) (va_up (va_up (va_up (va_up r 29 ((upd (r 29) d.toNatClampNeg what))) 30 ((upd (r 30) d.toNatClampNeg v131))) 31 ((upd (r 31) d.toNatClampNeg r149))) 32 (upd (r 32) d.toNatClampNeg k0)) (ms_32 cy mo a _ _ _ _ _) dX10_keep_173 (fun H locs hP hS => ?_)
                      refine lv_iconst (v := 0) hx hb dX10_keep_174 (by decide) ?_
                      refine lv_istore (lv' := [(7, .int (0 : Int32)), (6, .int (1 : Int32)), (0, .ref mo), (1, .int d), (2, .int what), (3, .int k0), (4, .long p0)]) hx hb dX10_keep_175 hl (by decide) rfl (fun ls hl => ?_)
                      have loop_177 : ∀ (n : Nat) (i : Nat) (s3 : Nat → Int64), (i ≤ 60) → 60 - i < n → ∀ (H : Heap) (locs : List Loc), va_P D vwCl (WM cy mo a (upd f 0 (0 : Int32)) g (va_up (va_up (va_up (va_up r 29 ((upd (r 29) d.toNatClampNeg what))) 30 ((upd (r 30) d.toNatClampNeg v131))) 31 ((upd (r 31) d.toNatClampNeg r149))) 32 ((upd (r 32) d.toNatClampNeg k0))) (va_up q 33 s3)) H → va_S (AM mo a) s.heap H locs → ∀ (ls : Array Slot), lv_has ls 8 [(7, .int (nI i)), (6, .int (1 : Int32)), (0, .ref mo), (1, .int d), (2, .int what), (3, .int k0), (4, .long p0)] → W p l e (headSpec wsX10_keep ({ frames := 3, cells := 0, slots := 0, locals := 69 })).room s m #[Value.ref mo, Value.int d, Value.int what, Value.int k0, Value.long p0] below meth c H locs 0 0 (MQ below (va_Qi (fun r0 u => ∃ (sh : Nat → Int32), ∃ (sz : Nat → Int32), ∃ (sw : Nat → Int32), ∃ (sf : Nat → Int32), ∃ (sr : Nat → Int64), u = ((upd f 0 (0 : Int32)), g, (va_up (va_up (va_up (va_up r 29 sh) 30 sz) 31 sw) 32 sf), (va_up q 33 sr)) ∧ (yesNo (okKeep (f 1) (fun j9 => (r 3 j9).toNatClampNeg) (fun j9 => (r 4 j9).toNatClampNeg) d what k0 p0) 0 (-1) r0 ∧ ((okKeep (f 1) (fun j9 => (r 3 j9).toNatClampNeg) (fun j9 => (r 4 j9).toNatClampNeg) d what k0 p0 ∧ sh = upd (r 29) d.toNatClampNeg what ∧ (what.toInt = 1 → sw = upd (r 31) d.toNatClampNeg (heR (r 2 k0.toNatClampNeg) (r 3 k0.toNatClampNeg).toNatClampNeg (r 4 k0.toNatClampNeg).toNatClampNeg (smN (fun s9 => r 8 (36 * k0.toNatClampNeg + s9)) 36))) ∧ (¬ what.toInt = 1 → sw = r 31)) ∨ (¬ okKeep (f 1) (fun j9 => (r 3 j9).toNatClampNeg) (fun j9 => (r 4 j9).toNatClampNeg) d what k0 p0 ∧ sh = r 29 ∧ sw = r 31)) ∧ MI (upd f 0 (0 : Int32)) (va_up (va_up (va_up (va_up r 29 sh) 30 sz) 31 sw) 32 sf))) (mB D cy mo a) (AM mo a)) #[Value.ref mo, Value.int d, Value.int what, Value.int k0, Value.long p0] s 0 0 (AM mo a)) (F0 m 177 ls []) := by
                        intro n
                        induction n with
                        | zero => intro i s3 j177_0 hn; exact absurd hn (Nat.not_lt_zero _)
                        | succ n ih_177 =>
                          intro i s3 j177_0 hn_177 H locs hP hS ls hl
                          have ii : (nI i).toInt = (i : Int) := nI_toInt (by omega)
                          refine lv_iload hx hb dX10_keep_177 (lv_at hl 0 rfl) ?_
                          refine lv_aload_n hx hb dX10_keep_179 rfl (lv_at hl 2 rfl) ?_
                          refine m_get (v := .ref (a 30)) hx hb hts hin hown hK hP 30 (by decide) rfl (hts (.fieldLink RX10 64 "ShadowBenchModel" "shelfSize" "[I") (by decide +kernel)) rfl dX10_keep_180 ?_
                          refine lv_iload_n hx hb dX10_keep_183 rfl (lv_at hl 3 rfl) ?_
                          refine m_iald (w := ((upd (r 30) d.toNatClampNeg v131))) hx hb hK hP 18 rfl (vp_in_iff.mpr ⟨by omega, by omega⟩) dX10_keep_184 ?_
                          refine lv_topi (fun v184 e184 => ?_)
                          have i184 : v184.toInt = (((upd (r 30) d.toNatClampNeg v131)) d.toNatClampNeg).toInt := congrArg Int32.toInt e184
                          have z184 := e184
                          simp only [upd, if_true] at z184
                          have y184 := congrArg Int32.toInt z184
                          refine lv_icmp_ge (tgt := 272) hx hb dX10_keep_185 (by decide) (fun c185 => ?_) (fun c185 => ?_)
                          · skip
                            have d185 := c185
                            rw [fa_le] at d185
                            refine lv_iconst (v := 0) hx hb dX10_keep_272 (by decide) ?_
                            have hP := wm_eq rfl rfl (ec_r_29_30_31_32__29_30_31_32 r ((upd (r 29) d.toNatClampNeg what)) ((upd (r 30) d.toNatClampNeg v131)) ((upd (r 31) d.toNatClampNeg r149)) ((upd (r 32) d.toNatClampNeg k0))) rfl hP
                            exact W.iret (v := (0 : Int32)) hx hb hr (fun t ht hW => ⟨⟨_, ((upd f 0 (0 : Int32)), g, (va_up (va_up (va_up (va_up r 29 (((upd (r 29) d.toNatClampNeg what)))) 30 (((upd (r 30) d.toNatClampNeg v131)))) 31 (((upd (r 31) d.toNatClampNeg r149)))) 32 (((upd (r 32) d.toNatClampNeg k0)))), (va_up q 33 s3)), rfl, ⟨((upd (r 29) d.toNatClampNeg what)), ((upd (r 30) d.toNatClampNeg v131)), ((upd (r 31) d.toNatClampNeg r149)), ((upd (r 32) d.toNatClampNeg k0)), s3, rfl, ⟨(Or.inl ⟨⟨b9, (by unfold okJob; first | exact Or.inl (by omega) | exact Or.inr (Or.inl ⟨by omega, b31⟩) | (have z9 := goodP_of b64; subst e52; subst e58; exact Or.inr (Or.inr ⟨by omega, b44, z9.2⟩)))⟩, rfl⟩), (Or.inl ⟨⟨b9, (by unfold okJob; first | exact Or.inl (by omega) | exact Or.inr (Or.inl ⟨by omega, b31⟩) | (have z9 := goodP_of b64; subst e52; subst e58; exact Or.inr (Or.inr ⟨by omega, b44, z9.2⟩)))⟩, rfl, (by first | exact ⟨fun _ => congrArg (fun z9 => upd (r 31) d.toNatClampNeg z9) q149, fun z9 => by exfalso; omega⟩ | exact ⟨fun z9 => by exfalso; omega, fun _ => rfl⟩)⟩), by first | exact hI | exact mi_sz (d := d) hI (v := v110) (by omega) rfl rfl rfl rfl rfl rfl rfl rfl | exact mi_sz (d := d) hI (v := v131) (by omega) rfl rfl rfl rfl rfl rfl rfl rfl | exact mi_sz (d := d) hI (v := 0) (by decide) rfl rfl rfl rfl rfl rfl rfl rfl⟩⟩, by unfold mB; rw [ht]; exact hP⟩, hS.F ht⟩) hS.2.2 dX10_keep_273
                          · skip
                            have d185 := c185
                            rw [fa_le] at d185
                            refine lv_aload_n hx hb dX10_keep_188 rfl (lv_at hl 2 rfl) ?_
                            refine m_get (v := .ref (a 33)) hx hb hts hin hown hK hP 33 (by decide) rfl (hts (.fieldLink RX10 73 "ShadowBenchModel" "shelfRow" "[J") (by decide +kernel)) rfl dX10_keep_189 ?_
                            refine lv_bipush (v := 60) hx hb dX10_keep_192 (by decide) ?_
                            refine lv_iload_n hx hb dX10_keep_194 rfl (lv_at hl 3 rfl) ?_
                            refine lv_imul hx hb dX10_keep_195 ?_
                            refine lv_topi (fun v195 e195 => ?_)
                            have i195 : v195.toInt = 60 * d.toInt := by rw [e195]; exact mulcL rfl (by omega) (by omega)
                            refine lv_iload hx hb dX10_keep_196 (lv_at hl 0 rfl) ?_
                            refine lv_iadd hx hb dX10_keep_198 ?_
                            refine lv_topi (fun v198 e198 => ?_)
                            have i198 : v198.toInt = v195.toInt + (nI i).toInt := by rw [e198]; exact fb_addI (by omega) (by omega)
                            refine lv_iload_n hx hb dX10_keep_199 rfl (lv_at hl 4 rfl) ?_
                            refine lv_iconst (v := 3) hx hb dX10_keep_200 (by decide) ?_
                            refine lv_icmp_ne (tgt := 215) hx hb dX10_keep_201 (by decide) (fun c201 => ?_) (fun c201 => ?_)
                            · skip
                              have d201 := c201
                              rw [fa_eq] at d201
                              refine lv_iload hx hb dX10_keep_215 (lv_at hl 0 rfl) ?_
                              refine lv_aload_n hx hb dX10_keep_217 rfl (lv_at hl 2 rfl) ?_
                              refine m_get (v := .ref (a 4)) hx hb hts hin hown hK hP 4 (by decide) rfl (hts (.fieldLink RX10 16 "ShadowBenchModel" "high" "[I") (by decide +kernel)) rfl dX10_keep_218 ?_
                              refine lv_iload_n hx hb dX10_keep_221 rfl (lv_at hl 5 rfl) ?_
                              refine m_iald (w := (r 4)) hx hb hK hP 3 rfl (vp_in_iff.mpr ⟨by omega, by omega⟩) dX10_keep_222 ?_
                              refine lv_topi (fun v222 e222 => ?_)
                              have i222 : v222.toInt = ((r 4) k0.toNatClampNeg).toInt := congrArg Int32.toInt e222
                              have w222 := mi_h hI (x := k0) (by omega) (by omega) e222
                              refine lv_icmp_ge (tgt := 242) hx hb dX10_keep_223 (by decide) (fun c223 => ?_) (fun c223 => ?_)
                              · skip
                                have d223 := c223
                                rw [fa_le] at d223
                                refine lv_aload_n hx hb dX10_keep_242 rfl (lv_at hl 2 rfl) ?_
                                refine m_get (v := .ref (a 5)) hx hb hts hin hown hK hP 5 (by decide) rfl (hts (.fieldLink RX10 19 "ShadowBenchModel" "sums" "[I") (by decide +kernel)) rfl dX10_keep_243 ?_
                                refine lv_bipush (v := 44) hx hb dX10_keep_246 (by decide) ?_
                                refine lv_iload_n hx hb dX10_keep_248 rfl (lv_at hl 5 rfl) ?_
                                refine lv_imul hx hb dX10_keep_249 ?_
                                refine lv_topi (fun v249 e249 => ?_)
                                have i249 : v249.toInt = 44 * k0.toInt := by rw [e249]; exact mulcL rfl (by omega) (by omega)
                                refine lv_bipush (v := 11) hx hb dX10_keep_250 (by decide) ?_
                                refine lv_iadd hx hb dX10_keep_252 ?_
                                refine lv_topi (fun v252 e252 => ?_)
                                have i252 : v252.toInt = v249.toInt + (11 : Int32).toInt := by rw [e252]; exact fb_addI (by omega) (by omega)
                                refine lv_iload hx hb dX10_keep_253 (lv_at hl 0 rfl) ?_
                                refine lv_iadd hx hb dX10_keep_255 ?_
                                refine lv_topi (fun v255 e255 => ?_)
                                have i255 : v255.toInt = v252.toInt + (nI i).toInt := by rw [e255]; exact fb_addI (by omega) (by omega)
                                refine lv_aload_n hx hb dX10_keep_256 rfl (lv_at hl 2 rfl) ?_
                                refine m_get (v := .ref (a 4)) hx hb hts hin hown hK hP 4 (by decide) rfl (hts (.fieldLink RX10 16 "ShadowBenchModel" "high" "[I") (by decide +kernel)) rfl dX10_keep_257 ?_
                                refine lv_iload_n hx hb dX10_keep_260 rfl (lv_at hl 5 rfl) ?_
                                refine m_iald (w := (r 4)) hx hb hK hP 3 rfl (vp_in_iff.mpr ⟨by omega, by omega⟩) dX10_keep_261 ?_
                                refine lv_topi (fun v261 e261 => ?_)
                                have i261 : v261.toInt = ((r 4) k0.toNatClampNeg).toInt := congrArg Int32.toInt e261
                                have w261 := mi_h hI (x := k0) (by omega) (by omega) e261
                                refine lv_isub hx hb dX10_keep_262 ?_
                                refine lv_topi (fun v262 e262 => ?_)
                                have i262 : v262.toInt = v255.toInt - v261.toInt := by rw [e262]; exact fb_subI (by omega) (by omega)
                                refine m_iald (w := (r 5)) hx hb hK hP 4 rfl (vp_in_iff.mpr ⟨by omega, by omega⟩) dX10_keep_263 ?_
                                refine lv_topi (fun v263 e263 => ?_)
                                have i263 : v263.toInt = ((r 5) v262.toNatClampNeg).toInt := congrArg Int32.toInt e263
                                refine lv_i2l (v := v263.toInt64) hx hb dX10_keep_264 rfl ?_
                                refine m_last (w := s3) hx hb hK hP hD hS 21 rfl (vp_in_iff.mpr ⟨by omega, by omega⟩) (va_up (va_up q 33 s3) 33 (vp_updL s3 v198.toNatClampNeg v263.toInt64)) (ms_33 cy mo a _ _ _ _ _) dX10_keep_265 (fun H locs hP hS => ?_)
                                have hP := wm_eq rfl rfl rfl (es_q_33__33 q s3 (vp_updL s3 v198.toNatClampNeg v263.toInt64)) hP
                                refine lv_iinc (v := (nI (i + 1))) (lv' := [(7, .int (nI (i + 1))), (6, .int (1 : Int32)), (0, .ref mo), (1, .int d), (2, .int what), (3, .int k0), (4, .long p0)]) hx hb dX10_keep_266 hl (k := 0) rfl (nI_1 _) (by decide) rfl (fun ls hl => ?_)
                                refine lv_goto (tgt := 177) hx hb dX10_keep_269 (by decide) ?_
                                have hP := wm_eq rfl rfl (ec_r_29_30_31_32__29_30_31_32 r ((upd (r 29) d.toNatClampNeg what)) ((upd (r 30) d.toNatClampNeg v131)) ((upd (r 31) d.toNatClampNeg r149)) ((upd (r 32) d.toNatClampNeg k0))) rfl hP
                                exact ih_177 (i + 1) (vp_updL s3 v198.toNatClampNeg v263.toInt64) (by omega) (by omega) _ _ hP hS ls (lv_sub hl [0, 1, 2, 3, 4, 5, 6] rfl)
                              · skip
                                have d223 := c223
                                rw [fa_le] at d223
                                refine lv_aload_n hx hb dX10_keep_226 rfl (lv_at hl 2 rfl) ?_
                                refine m_get (v := .ref (a 5)) hx hb hts hin hown hK hP 5 (by decide) rfl (hts (.fieldLink RX10 19 "ShadowBenchModel" "sums" "[I") (by decide +kernel)) rfl dX10_keep_227 ?_
                                refine lv_bipush (v := 44) hx hb dX10_keep_230 (by decide) ?_
                                refine lv_iload_n hx hb dX10_keep_232 rfl (lv_at hl 5 rfl) ?_
                                refine lv_imul hx hb dX10_keep_233 ?_
                                refine lv_topi (fun v233 e233 => ?_)
                                have i233 : v233.toInt = 44 * k0.toInt := by rw [e233]; exact mulcL rfl (by omega) (by omega)
                                refine lv_iload hx hb dX10_keep_234 (lv_at hl 0 rfl) ?_
                                refine lv_iadd hx hb dX10_keep_236 ?_
                                refine lv_topi (fun v236 e236 => ?_)
                                have i236 : v236.toInt = v233.toInt + (nI i).toInt := by rw [e236]; exact fb_addI (by omega) (by omega)
                                refine m_iald (w := (r 5)) hx hb hK hP 4 rfl (vp_in_iff.mpr ⟨by omega, by omega⟩) dX10_keep_237 ?_
                                refine lv_topi (fun v237 e237 => ?_)
                                have i237 : v237.toInt = ((r 5) v236.toNatClampNeg).toInt := congrArg Int32.toInt e237
                                refine lv_i2l (v := v237.toInt64) hx hb dX10_keep_238 rfl ?_
                                refine lv_goto (tgt := 265) hx hb dX10_keep_239 (by decide) ?_
                                refine m_last (w := s3) hx hb hK hP hD hS 21 rfl (vp_in_iff.mpr ⟨by omega, by omega⟩) (va_up (va_up q 33 s3) 33 (vp_updL s3 v198.toNatClampNeg v237.toInt64)) (ms_33 cy mo a _ _ _ _ _) dX10_keep_265 (fun H locs hP hS => ?_)
                                have hP := wm_eq rfl rfl rfl (es_q_33__33 q s3 (vp_updL s3 v198.toNatClampNeg v237.toInt64)) hP
                                refine lv_iinc (v := (nI (i + 1))) (lv' := [(7, .int (nI (i + 1))), (6, .int (1 : Int32)), (0, .ref mo), (1, .int d), (2, .int what), (3, .int k0), (4, .long p0)]) hx hb dX10_keep_266 hl (k := 0) rfl (nI_1 _) (by decide) rfl (fun ls hl => ?_)
                                refine lv_goto (tgt := 177) hx hb dX10_keep_269 (by decide) ?_
                                have hP := wm_eq rfl rfl (ec_r_29_30_31_32__29_30_31_32 r ((upd (r 29) d.toNatClampNeg what)) ((upd (r 30) d.toNatClampNeg v131)) ((upd (r 31) d.toNatClampNeg r149)) ((upd (r 32) d.toNatClampNeg k0))) rfl hP
                                exact ih_177 (i + 1) (vp_updL s3 v198.toNatClampNeg v237.toInt64) (by omega) (by omega) _ _ hP hS ls (lv_sub hl [0, 1, 2, 3, 4, 5, 6] rfl)
                            · first | exact absurd c201 c95 | exact absurd c95 c201
                      have hP := wm_eq rfl rfl (ec_r_29_30_31_32__29_30_31_32 r ((upd (r 29) d.toNatClampNeg what)) ((upd (r 30) d.toNatClampNeg v131)) ((upd (r 31) d.toNatClampNeg r149)) ((upd (r 32) d.toNatClampNeg k0))) (ec_q___33 q ) hP
                      exact loop_177 (60 + 1) 0 (q 33) (by omega) (by omega) _ _ hP hS ls (lv_sub hl [0, 1, 2, 3, 4, 5, 6] rfl)
                    · skip
                      have d164 := c164
                      rw [fa_eq] at d164
                      refine lv_bipush (v := (-15)) hx hb dX10_keep_167 (by decide) ?_
                      refine lv_goto (tgt := 173) hx hb dX10_keep_169 (by decide) ?_
                      refine m_iast (w := (r 32)) hx hb hK hP hD hS 20 rfl (vp_in_iff.mpr ⟨by omega, by omega⟩) (va_up (va_up (va_up (va_up r 29 ((upd (r 29) d.toNatClampNeg what))) 30 ((upd (r 30) d.toNatClampNeg v131))) 31 ((upd (r 31) d.toNatClampNeg r149))) 32 (upd (r 32) d.toNatClampNeg (((-15) : Int32)))) (ms_32 cy mo a _ _ _ _ _) dX10_keep_173 (fun H locs hP hS => ?_)
                      refine lv_iconst (v := 0) hx hb dX10_keep_174 (by decide) ?_
                      refine lv_istore (lv' := [(7, .int (0 : Int32)), (6, .int (1 : Int32)), (0, .ref mo), (1, .int d), (2, .int what), (3, .int k0), (4, .long p0)]) hx hb dX10_keep_175 hl (by decide) rfl (fun ls hl => ?_)
                      have loop_177 : ∀ (n : Nat) (i : Nat) (s3 : Nat → Int64), (i ≤ 60) → 60 - i < n → ∀ (H : Heap) (locs : List Loc), va_P D vwCl (WM cy mo a (upd f 0 (0 : Int32)) g (va_up (va_up (va_up (va_up r 29 ((upd (r 29) d.toNatClampNeg what))) 30 ((upd (r 30) d.toNatClampNeg v131))) 31 ((upd (r 31) d.toNatClampNeg r149))) 32 ((upd (r 32) d.toNatClampNeg (((-15) : Int32))))) (va_up q 33 s3)) H → va_S (AM mo a) s.heap H locs → ∀ (ls : Array Slot), lv_has ls 8 [(7, .int (nI i)), (6, .int (1 : Int32)), (0, .ref mo), (1, .int d), (2, .int what), (3, .int k0), (4, .long p0)] → W p l e (headSpec wsX10_keep ({ frames := 3, cells := 0, slots := 0, locals := 69 })).room s m #[Value.ref mo, Value.int d, Value.int what, Value.int k0, Value.long p0] below meth c H locs 0 0 (MQ below (va_Qi (fun r0 u => ∃ (sh : Nat → Int32), ∃ (sz : Nat → Int32), ∃ (sw : Nat → Int32), ∃ (sf : Nat → Int32), ∃ (sr : Nat → Int64), u = ((upd f 0 (0 : Int32)), g, (va_up (va_up (va_up (va_up r 29 sh) 30 sz) 31 sw) 32 sf), (va_up q 33 sr)) ∧ (yesNo (okKeep (f 1) (fun j9 => (r 3 j9).toNatClampNeg) (fun j9 => (r 4 j9).toNatClampNeg) d what k0 p0) 0 (-1) r0 ∧ ((okKeep (f 1) (fun j9 => (r 3 j9).toNatClampNeg) (fun j9 => (r 4 j9).toNatClampNeg) d what k0 p0 ∧ sh = upd (r 29) d.toNatClampNeg what ∧ (what.toInt = 1 → sw = upd (r 31) d.toNatClampNeg (heR (r 2 k0.toNatClampNeg) (r 3 k0.toNatClampNeg).toNatClampNeg (r 4 k0.toNatClampNeg).toNatClampNeg (smN (fun s9 => r 8 (36 * k0.toNatClampNeg + s9)) 36))) ∧ (¬ what.toInt = 1 → sw = r 31)) ∨ (¬ okKeep (f 1) (fun j9 => (r 3 j9).toNatClampNeg) (fun j9 => (r 4 j9).toNatClampNeg) d what k0 p0 ∧ sh = r 29 ∧ sw = r 31)) ∧ MI (upd f 0 (0 : Int32)) (va_up (va_up (va_up (va_up r 29 sh) 30 sz) 31 sw) 32 sf))) (mB D cy mo a) (AM mo a)) #[Value.ref mo, Value.int d, Value.int what, Value.int k0, Value.long p0] s 0 0 (AM mo a)) (F0 m 177 ls []) := by
                        intro n
                        induction n with
                        | zero => intro i s3 j177_0 hn; exact absurd hn (Nat.not_lt_zero _)
                        | succ n ih_177 =>
                          intro i s3 j177_0 hn_177 H locs hP hS ls hl
                          have ii : (nI i).toInt = (i : Int) := nI_toInt (by omega)
                          refine lv_iload hx hb dX10_keep_177 (lv_at hl 0 rfl) ?_
                          refine lv_aload_n hx hb dX10_keep_179 rfl (lv_at hl 2 rfl) ?_
                          refine m_get (v := .ref (a 30)) hx hb hts hin hown hK hP 30 (by decide) rfl (hts (.fieldLink RX10 64 "ShadowBenchModel" "shelfSize" "[I") (by decide +kernel)) rfl dX10_keep_180 ?_
                          refine lv_iload_n hx hb dX10_keep_183 rfl (lv_at hl 3 rfl) ?_
                          refine m_iald (w := ((upd (r 30) d.toNatClampNeg v131))) hx hb hK hP 18 rfl (vp_in_iff.mpr ⟨by omega, by omega⟩) dX10_keep_184 ?_
                          refine lv_topi (fun v184 e184 => ?_)
                          have i184 : v184.toInt = (((upd (r 30) d.toNatClampNeg v131)) d.toNatClampNeg).toInt := congrArg Int32.toInt e184
                          have z184 := e184
                          simp only [upd, if_true] at z184
                          have y184 := congrArg Int32.toInt z184
                          refine lv_icmp_ge (tgt := 272) hx hb dX10_keep_185 (by decide) (fun c185 => ?_) (fun c185 => ?_)
                          · skip
                            have d185 := c185
                            rw [fa_le] at d185
                            refine lv_iconst (v := 0) hx hb dX10_keep_272 (by decide) ?_
                            have hP := wm_eq rfl rfl (ec_r_29_30_31_32__29_30_31_32 r ((upd (r 29) d.toNatClampNeg what)) ((upd (r 30) d.toNatClampNeg v131)) ((upd (r 31) d.toNatClampNeg r149)) ((upd (r 32) d.toNatClampNeg (((-15) : Int32))))) rfl hP
                            exact W.iret (v := (0 : Int32)) hx hb hr (fun t ht hW => ⟨⟨_, ((upd f 0 (0 : Int32)), g, (va_up (va_up (va_up (va_up r 29 (((upd (r 29) d.toNatClampNeg what)))) 30 (((upd (r 30) d.toNatClampNeg v131)))) 31 (((upd (r 31) d.toNatClampNeg r149)))) 32 (((upd (r 32) d.toNatClampNeg (((-15) : Int32)))))), (va_up q 33 s3)), rfl, ⟨((upd (r 29) d.toNatClampNeg what)), ((upd (r 30) d.toNatClampNeg v131)), ((upd (r 31) d.toNatClampNeg r149)), ((upd (r 32) d.toNatClampNeg (((-15) : Int32)))), s3, rfl, ⟨(Or.inl ⟨⟨b9, (by unfold okJob; first | exact Or.inl (by omega) | exact Or.inr (Or.inl ⟨by omega, b31⟩) | (have z9 := goodP_of b64; subst e52; subst e58; exact Or.inr (Or.inr ⟨by omega, b44, z9.2⟩)))⟩, rfl⟩), (Or.inl ⟨⟨b9, (by unfold okJob; first | exact Or.inl (by omega) | exact Or.inr (Or.inl ⟨by omega, b31⟩) | (have z9 := goodP_of b64; subst e52; subst e58; exact Or.inr (Or.inr ⟨by omega, b44, z9.2⟩)))⟩, rfl, (by first | exact ⟨fun _ => congrArg (fun z9 => upd (r 31) d.toNatClampNeg z9) q149, fun z9 => by exfalso; omega⟩ | exact ⟨fun z9 => by exfalso; omega, fun _ => rfl⟩)⟩), by first | exact hI | exact mi_sz (d := d) hI (v := v110) (by omega) rfl rfl rfl rfl rfl rfl rfl rfl | exact mi_sz (d := d) hI (v := v131) (by omega) rfl rfl rfl rfl rfl rfl rfl rfl | exact mi_sz (d := d) hI (v := 0) (by decide) rfl rfl rfl rfl rfl rfl rfl rfl⟩⟩, by unfold mB; rw [ht]; exact hP⟩, hS.F ht⟩) hS.2.2 dX10_keep_273
                          · skip
                            have d185 := c185
                            rw [fa_le] at d185
                            refine lv_aload_n hx hb dX10_keep_188 rfl (lv_at hl 2 rfl) ?_
                            refine m_get (v := .ref (a 33)) hx hb hts hin hown hK hP 33 (by decide) rfl (hts (.fieldLink RX10 73 "ShadowBenchModel" "shelfRow" "[J") (by decide +kernel)) rfl dX10_keep_189 ?_
                            refine lv_bipush (v := 60) hx hb dX10_keep_192 (by decide) ?_
                            refine lv_iload_n hx hb dX10_keep_194 rfl (lv_at hl 3 rfl) ?_
                            refine lv_imul hx hb dX10_keep_195 ?_
                            refine lv_topi (fun v195 e195 => ?_)
                            have i195 : v195.toInt = 60 * d.toInt := by rw [e195]; exact mulcL rfl (by omega) (by omega)
                            refine lv_iload hx hb dX10_keep_196 (lv_at hl 0 rfl) ?_
                            refine lv_iadd hx hb dX10_keep_198 ?_
                            refine lv_topi (fun v198 e198 => ?_)
                            have i198 : v198.toInt = v195.toInt + (nI i).toInt := by rw [e198]; exact fb_addI (by omega) (by omega)
                            refine lv_iload_n hx hb dX10_keep_199 rfl (lv_at hl 4 rfl) ?_
                            refine lv_iconst (v := 3) hx hb dX10_keep_200 (by decide) ?_
                            refine lv_icmp_ne (tgt := 215) hx hb dX10_keep_201 (by decide) (fun c201 => ?_) (fun c201 => ?_)
                            · skip
                              have d201 := c201
                              rw [fa_eq] at d201
                              refine lv_iload hx hb dX10_keep_215 (lv_at hl 0 rfl) ?_
                              refine lv_aload_n hx hb dX10_keep_217 rfl (lv_at hl 2 rfl) ?_
                              refine m_get (v := .ref (a 4)) hx hb hts hin hown hK hP 4 (by decide) rfl (hts (.fieldLink RX10 16 "ShadowBenchModel" "high" "[I") (by decide +kernel)) rfl dX10_keep_218 ?_
                              refine lv_iload_n hx hb dX10_keep_221 rfl (lv_at hl 5 rfl) ?_
                              refine m_iald (w := (r 4)) hx hb hK hP 3 rfl (vp_in_iff.mpr ⟨by omega, by omega⟩) dX10_keep_222 ?_
                              refine lv_topi (fun v222 e222 => ?_)
                              have i222 : v222.toInt = ((r 4) k0.toNatClampNeg).toInt := congrArg Int32.toInt e222
                              have w222 := mi_h hI (x := k0) (by omega) (by omega) e222
                              refine lv_icmp_ge (tgt := 242) hx hb dX10_keep_223 (by decide) (fun c223 => ?_) (fun c223 => ?_)
                              · skip
                                have d223 := c223
                                rw [fa_le] at d223
                                refine lv_aload_n hx hb dX10_keep_242 rfl (lv_at hl 2 rfl) ?_
                                refine m_get (v := .ref (a 5)) hx hb hts hin hown hK hP 5 (by decide) rfl (hts (.fieldLink RX10 19 "ShadowBenchModel" "sums" "[I") (by decide +kernel)) rfl dX10_keep_243 ?_
                                refine lv_bipush (v := 44) hx hb dX10_keep_246 (by decide) ?_
                                refine lv_iload_n hx hb dX10_keep_248 rfl (lv_at hl 5 rfl) ?_
                                refine lv_imul hx hb dX10_keep_249 ?_
                                refine lv_topi (fun v249 e249 => ?_)
                                have i249 : v249.toInt = 44 * k0.toInt := by rw [e249]; exact mulcL rfl (by omega) (by omega)
                                refine lv_bipush (v := 11) hx hb dX10_keep_250 (by decide) ?_
                                refine lv_iadd hx hb dX10_keep_252 ?_
                                refine lv_topi (fun v252 e252 => ?_)
                                have i252 : v252.toInt = v249.toInt + (11 : Int32).toInt := by rw [e252]; exact fb_addI (by omega) (by omega)
                                refine lv_iload hx hb dX10_keep_253 (lv_at hl 0 rfl) ?_
                                refine lv_iadd hx hb dX10_keep_255 ?_
                                refine lv_topi (fun v255 e255 => ?_)
                                have i255 : v255.toInt = v252.toInt + (nI i).toInt := by rw [e255]; exact fb_addI (by omega) (by omega)
                                refine lv_aload_n hx hb dX10_keep_256 rfl (lv_at hl 2 rfl) ?_
                                refine m_get (v := .ref (a 4)) hx hb hts hin hown hK hP 4 (by decide) rfl (hts (.fieldLink RX10 16 "ShadowBenchModel" "high" "[I") (by decide +kernel)) rfl dX10_keep_257 ?_
                                refine lv_iload_n hx hb dX10_keep_260 rfl (lv_at hl 5 rfl) ?_
                                refine m_iald (w := (r 4)) hx hb hK hP 3 rfl (vp_in_iff.mpr ⟨by omega, by omega⟩) dX10_keep_261 ?_
                                refine lv_topi (fun v261 e261 => ?_)
                                have i261 : v261.toInt = ((r 4) k0.toNatClampNeg).toInt := congrArg Int32.toInt e261
                                have w261 := mi_h hI (x := k0) (by omega) (by omega) e261
                                refine lv_isub hx hb dX10_keep_262 ?_
                                refine lv_topi (fun v262 e262 => ?_)
                                have i262 : v262.toInt = v255.toInt - v261.toInt := by rw [e262]; exact fb_subI (by omega) (by omega)
                                refine m_iald (w := (r 5)) hx hb hK hP 4 rfl (vp_in_iff.mpr ⟨by omega, by omega⟩) dX10_keep_263 ?_
                                refine lv_topi (fun v263 e263 => ?_)
                                have i263 : v263.toInt = ((r 5) v262.toNatClampNeg).toInt := congrArg Int32.toInt e263
                                refine lv_i2l (v := v263.toInt64) hx hb dX10_keep_264 rfl ?_
                                refine m_last (w := s3) hx hb hK hP hD hS 21 rfl (vp_in_iff.mpr ⟨by omega, by omega⟩) (va_up (va_up q 33 s3) 33 (vp_updL s3 v198.toNatClampNeg v263.toInt64)) (ms_33 cy mo a _ _ _ _ _) dX10_keep_265 (fun H locs hP hS => ?_)
                                have hP := wm_eq rfl rfl rfl (es_q_33__33 q s3 (vp_updL s3 v198.toNatClampNeg v263.toInt64)) hP
                                refine lv_iinc (v := (nI (i + 1))) (lv' := [(7, .int (nI (i + 1))), (6, .int (1 : Int32)), (0, .ref mo), (1, .int d), (2, .int what), (3, .int k0), (4, .long p0)]) hx hb dX10_keep_266 hl (k := 0) rfl (nI_1 _) (by decide) rfl (fun ls hl => ?_)
                                refine lv_goto (tgt := 177) hx hb dX10_keep_269 (by decide) ?_
                                have hP := wm_eq rfl rfl (ec_r_29_30_31_32__29_30_31_32 r ((upd (r 29) d.toNatClampNeg what)) ((upd (r 30) d.toNatClampNeg v131)) ((upd (r 31) d.toNatClampNeg r149)) ((upd (r 32) d.toNatClampNeg (((-15) : Int32))))) rfl hP
                                exact ih_177 (i + 1) (vp_updL s3 v198.toNatClampNeg v263.toInt64) (by omega) (by omega) _ _ hP hS ls (lv_sub hl [0, 1, 2, 3, 4, 5, 6] rfl)
                              · skip
                                have d223 := c223
                                rw [fa_le] at d223
                                refine lv_aload_n hx hb dX10_keep_226 rfl (lv_at hl 2 rfl) ?_
                                refine m_get (v := .ref (a 5)) hx hb hts hin hown hK hP 5 (by decide) rfl (hts (.fieldLink RX10 19 "ShadowBenchModel" "sums" "[I") (by decide +kernel)) rfl dX10_keep_227 ?_
                                refine lv_bipush (v := 44) hx hb dX10_keep_230 (by decide) ?_
                                refine lv_iload_n hx hb dX10_keep_232 rfl (lv_at hl 5 rfl) ?_
                                refine lv_imul hx hb dX10_keep_233 ?_
                                refine lv_topi (fun v233 e233 => ?_)
                                have i233 : v233.toInt = 44 * k0.toInt := by rw [e233]; exact mulcL rfl (by omega) (by omega)
                                refine lv_iload hx hb dX10_keep_234 (lv_at hl 0 rfl) ?_
                                refine lv_iadd hx hb dX10_keep_236 ?_
                                refine lv_topi (fun v236 e236 => ?_)
                                have i236 : v236.toInt = v233.toInt + (nI i).toInt := by rw [e236]; exact fb_addI (by omega) (by omega)
                                refine m_iald (w := (r 5)) hx hb hK hP 4 rfl (vp_in_iff.mpr ⟨by omega, by omega⟩) dX10_keep_237 ?_
                                refine lv_topi (fun v237 e237 => ?_)
                                have i237 : v237.toInt = ((r 5) v236.toNatClampNeg).toInt := congrArg Int32.toInt e237
                                refine lv_i2l (v := v237.toInt64) hx hb dX10_keep_238 rfl ?_
                                refine lv_goto (tgt := 265) hx hb dX10_keep_239 (by decide) ?_
                                refine m_last (w := s3) hx hb hK hP hD hS 21 rfl (vp_in_iff.mpr ⟨by omega, by omega⟩) (va_up (va_up q 33 s3) 33 (vp_updL s3 v198.toNatClampNeg v237.toInt64)) (ms_33 cy mo a _ _ _ _ _) dX10_keep_265 (fun H locs hP hS => ?_)
                                have hP := wm_eq rfl rfl rfl (es_q_33__33 q s3 (vp_updL s3 v198.toNatClampNeg v237.toInt64)) hP
                                refine lv_iinc (v := (nI (i + 1))) (lv' := [(7, .int (nI (i + 1))), (6, .int (1 : Int32)), (0, .ref mo), (1, .int d), (2, .int what), (3, .int k0), (4, .long p0)]) hx hb dX10_keep_266 hl (k := 0) rfl (nI_1 _) (by decide) rfl (fun ls hl => ?_)
                                refine lv_goto (tgt := 177) hx hb dX10_keep_269 (by decide) ?_
                                have hP := wm_eq rfl rfl (ec_r_29_30_31_32__29_30_31_32 r ((upd (r 29) d.toNatClampNeg what)) ((upd (r 30) d.toNatClampNeg v131)) ((upd (r 31) d.toNatClampNeg r149)) ((upd (r 32) d.toNatClampNeg (((-15) : Int32))))) rfl hP
                                exact ih_177 (i + 1) (vp_updL s3 v198.toNatClampNeg v237.toInt64) (by omega) (by omega) _ _ hP hS ls (lv_sub hl [0, 1, 2, 3, 4, 5, 6] rfl)
                            · first | exact absurd c201 c95 | exact absurd c95 c201
                      have hP := wm_eq rfl rfl (ec_r_29_30_31_32__29_30_31_32 r ((upd (r 29) d.toNatClampNeg what)) ((upd (r 30) d.toNatClampNeg v131)) ((upd (r 31) d.toNatClampNeg r149)) ((upd (r 32) d.toNatClampNeg (((-15) : Int32))))) (ec_q___33 q ) hP
                      exact loop_177 (60 + 1) 0 (q 33) (by omega) (by omega) _ _ hP hS ls (lv_sub hl [0, 1, 2, 3, 4, 5, 6] rfl)
              · skip
                have d95 := c95
                rw [fa_eq] at d95
                refine lv_aload_n hx hb dX10_keep_98 rfl (lv_at hl 1 rfl) ?_
                refine m_get (v := .ref (a 3)) hx hb hts hin hown hK hP 3 (by decide) rfl (hts (.fieldLink RX10 13 "ShadowBenchModel" "wide" "[I") (by decide +kernel)) rfl dX10_keep_99 ?_
                refine lv_iload_n hx hb dX10_keep_102 rfl (lv_at hl 4 rfl) ?_
                refine m_iald (w := (r 3)) hx hb hK hP 2 rfl (vp_in_iff.mpr ⟨by omega, by omega⟩) dX10_keep_103 ?_
                refine lv_topi (fun v103 e103 => ?_)
                have i103 : v103.toInt = ((r 3) k0.toNatClampNeg).toInt := congrArg Int32.toInt e103
                have w103 := mi_w hI (x := k0) (by omega) (by omega) e103
                refine lv_aload_n hx hb dX10_keep_104 rfl (lv_at hl 1 rfl) ?_
                refine m_get (v := .ref (a 4)) hx hb hts hin hown hK hP 4 (by decide) rfl (hts (.fieldLink RX10 16 "ShadowBenchModel" "high" "[I") (by decide +kernel)) rfl dX10_keep_105 ?_
                refine lv_iload_n hx hb dX10_keep_108 rfl (lv_at hl 4 rfl) ?_
                refine m_iald (w := (r 4)) hx hb hK hP 3 rfl (vp_in_iff.mpr ⟨by omega, by omega⟩) dX10_keep_109 ?_
                refine lv_topi (fun v109 e109 => ?_)
                have i109 : v109.toInt = ((r 4) k0.toNatClampNeg).toInt := congrArg Int32.toInt e109
                have w109 := mi_h hI (x := k0) (by omega) (by omega) e109
                have m110 := mul66 w103 w109
                refine lv_imul hx hb dX10_keep_110 ?_
                refine lv_topi (fun v110 e110 => ?_)
                have i110 : v110.toInt = v103.toInt * v109.toInt := by rw [e110]; exact fb_mulI (by omega) (by omega)
                refine lv_goto (tgt := 136) hx hb dX10_keep_111 (by decide) ?_
                refine m_iast (w := (r 30)) hx hb hK hP hD hS 18 rfl (vp_in_iff.mpr ⟨by omega, by omega⟩) (va_up (va_up r 29 ((upd (r 29) d.toNatClampNeg what))) 30 (upd (r 30) d.toNatClampNeg v110)) (ms_30 cy mo a _ _ _ _ _) dX10_keep_136 (fun H locs hP hS => ?_)
                refine lv_iload_n hx hb dX10_keep_137 rfl (lv_at hl 3 rfl) ?_
                refine lv_iconst (v := 1) hx hb dX10_keep_138 (by decide) ?_
                refine lv_icmp_ne (tgt := 174) hx hb dX10_keep_139 (by decide) (fun c139 => ?_) (fun c139 => ?_)
                · skip
                  have d139 := c139
                  rw [fa_eq] at d139
                  refine lv_iconst (v := 0) hx hb dX10_keep_174 (by decide) ?_
                  refine lv_istore (lv' := [(7, .int (0 : Int32)), (6, .int (1 : Int32)), (0, .ref mo), (1, .int d), (2, .int what), (3, .int k0), (4, .long p0)]) hx hb dX10_keep_175 hl (by decide) rfl (fun ls hl => ?_)
                  have loop_177 : ∀ (n : Nat) (i : Nat) (s3 : Nat → Int64), (i ≤ 60) → 60 - i < n → ∀ (H : Heap) (locs : List Loc), va_P D vwCl (WM cy mo a (upd f 0 (0 : Int32)) g (va_up (va_up r 29 ((upd (r 29) d.toNatClampNeg what))) 30 ((upd (r 30) d.toNatClampNeg v110))) (va_up q 33 s3)) H → va_S (AM mo a) s.heap H locs → ∀ (ls : Array Slot), lv_has ls 8 [(7, .int (nI i)), (6, .int (1 : Int32)), (0, .ref mo), (1, .int d), (2, .int what), (3, .int k0), (4, .long p0)] → W p l e (headSpec wsX10_keep ({ frames := 3, cells := 0, slots := 0, locals := 69 })).room s m #[Value.ref mo, Value.int d, Value.int what, Value.int k0, Value.long p0] below meth c H locs 0 0 (MQ below (va_Qi (fun r0 u => ∃ (sh : Nat → Int32), ∃ (sz : Nat → Int32), ∃ (sw : Nat → Int32), ∃ (sf : Nat → Int32), ∃ (sr : Nat → Int64), u = ((upd f 0 (0 : Int32)), g, (va_up (va_up (va_up (va_up r 29 sh) 30 sz) 31 sw) 32 sf), (va_up q 33 sr)) ∧ (yesNo (okKeep (f 1) (fun j9 => (r 3 j9).toNatClampNeg) (fun j9 => (r 4 j9).toNatClampNeg) d what k0 p0) 0 (-1) r0 ∧ ((okKeep (f 1) (fun j9 => (r 3 j9).toNatClampNeg) (fun j9 => (r 4 j9).toNatClampNeg) d what k0 p0 ∧ sh = upd (r 29) d.toNatClampNeg what ∧ (what.toInt = 1 → sw = upd (r 31) d.toNatClampNeg (heR (r 2 k0.toNatClampNeg) (r 3 k0.toNatClampNeg).toNatClampNeg (r 4 k0.toNatClampNeg).toNatClampNeg (smN (fun s9 => r 8 (36 * k0.toNatClampNeg + s9)) 36))) ∧ (¬ what.toInt = 1 → sw = r 31)) ∨ (¬ okKeep (f 1) (fun j9 => (r 3 j9).toNatClampNeg) (fun j9 => (r 4 j9).toNatClampNeg) d what k0 p0 ∧ sh = r 29 ∧ sw = r 31)) ∧ MI (upd f 0 (0 : Int32)) (va_up (va_up (va_up (va_up r 29 sh) 30 sz) 31 sw) 32 sf))) (mB D cy mo a) (AM mo a)) #[Value.ref mo, Value.int d, Value.int what, Value.int k0, Value.long p0] s 0 0 (AM mo a)) (F0 m 177 ls []) := by
                    intro n
                    induction n with
                    | zero => intro i s3 j177_0 hn; exact absurd hn (Nat.not_lt_zero _)
                    | succ n ih_177 =>
                      intro i s3 j177_0 hn_177 H locs hP hS ls hl
                      have ii : (nI i).toInt = (i : Int) := nI_toInt (by omega)
                      refine lv_iload hx hb dX10_keep_177 (lv_at hl 0 rfl) ?_
                      refine lv_aload_n hx hb dX10_keep_179 rfl (lv_at hl 2 rfl) ?_
                      refine m_get (v := .ref (a 30)) hx hb hts hin hown hK hP 30 (by decide) rfl (hts (.fieldLink RX10 64 "ShadowBenchModel" "shelfSize" "[I") (by decide +kernel)) rfl dX10_keep_180 ?_
                      refine lv_iload_n hx hb dX10_keep_183 rfl (lv_at hl 3 rfl) ?_
                      refine m_iald (w := ((upd (r 30) d.toNatClampNeg v110))) hx hb hK hP 18 rfl (vp_in_iff.mpr ⟨by omega, by omega⟩) dX10_keep_184 ?_
                      refine lv_topi (fun v184 e184 => ?_)
                      have i184 : v184.toInt = (((upd (r 30) d.toNatClampNeg v110)) d.toNatClampNeg).toInt := congrArg Int32.toInt e184
                      have z184 := e184
                      simp only [upd, if_true] at z184
                      have y184 := congrArg Int32.toInt z184
                      refine lv_icmp_ge (tgt := 272) hx hb dX10_keep_185 (by decide) (fun c185 => ?_) (fun c185 => ?_)
                      · skip
                        have d185 := c185
                        rw [fa_le] at d185
                        refine lv_iconst (v := 0) hx hb dX10_keep_272 (by decide) ?_
                        have hP := wm_eq rfl rfl (ec_r_29_30__29_30_31_32 r ((upd (r 29) d.toNatClampNeg what)) ((upd (r 30) d.toNatClampNeg v110))) rfl hP
                        exact W.iret (v := (0 : Int32)) hx hb hr (fun t ht hW => ⟨⟨_, ((upd f 0 (0 : Int32)), g, (va_up (va_up (va_up (va_up r 29 (((upd (r 29) d.toNatClampNeg what)))) 30 (((upd (r 30) d.toNatClampNeg v110)))) 31 (r 31)) 32 (r 32)), (va_up q 33 s3)), rfl, ⟨((upd (r 29) d.toNatClampNeg what)), ((upd (r 30) d.toNatClampNeg v110)), (r 31), (r 32), s3, rfl, ⟨(Or.inl ⟨⟨b9, (by unfold okJob; first | exact Or.inl (by omega) | exact Or.inr (Or.inl ⟨by omega, b31⟩) | (have z9 := goodP_of b64; subst e52; subst e58; exact Or.inr (Or.inr ⟨by omega, b44, z9.2⟩)))⟩, rfl⟩), (Or.inl ⟨⟨b9, (by unfold okJob; first | exact Or.inl (by omega) | exact Or.inr (Or.inl ⟨by omega, b31⟩) | (have z9 := goodP_of b64; subst e52; subst e58; exact Or.inr (Or.inr ⟨by omega, b44, z9.2⟩)))⟩, rfl, (by first | exact ⟨fun _ => congrArg (fun z9 => upd (r 31) d.toNatClampNeg z9) q149, fun z9 => by exfalso; omega⟩ | exact ⟨fun z9 => by exfalso; omega, fun _ => rfl⟩)⟩), by first | exact hI | exact mi_sz (d := d) hI (v := v110) (by omega) rfl rfl rfl rfl rfl rfl rfl rfl | exact mi_sz (d := d) hI (v := v131) (by omega) rfl rfl rfl rfl rfl rfl rfl rfl | exact mi_sz (d := d) hI (v := 0) (by decide) rfl rfl rfl rfl rfl rfl rfl rfl⟩⟩, by unfold mB; rw [ht]; exact hP⟩, hS.F ht⟩) hS.2.2 dX10_keep_273
                      · skip
                        have d185 := c185
                        rw [fa_le] at d185
                        refine lv_aload_n hx hb dX10_keep_188 rfl (lv_at hl 2 rfl) ?_
                        refine m_get (v := .ref (a 33)) hx hb hts hin hown hK hP 33 (by decide) rfl (hts (.fieldLink RX10 73 "ShadowBenchModel" "shelfRow" "[J") (by decide +kernel)) rfl dX10_keep_189 ?_
                        refine lv_bipush (v := 60) hx hb dX10_keep_192 (by decide) ?_
                        refine lv_iload_n hx hb dX10_keep_194 rfl (lv_at hl 3 rfl) ?_
                        refine lv_imul hx hb dX10_keep_195 ?_
                        refine lv_topi (fun v195 e195 => ?_)
                        have i195 : v195.toInt = 60 * d.toInt := by rw [e195]; exact mulcL rfl (by omega) (by omega)
                        refine lv_iload hx hb dX10_keep_196 (lv_at hl 0 rfl) ?_
                        refine lv_iadd hx hb dX10_keep_198 ?_
                        refine lv_topi (fun v198 e198 => ?_)
                        have i198 : v198.toInt = v195.toInt + (nI i).toInt := by rw [e198]; exact fb_addI (by omega) (by omega)
                        refine lv_iload_n hx hb dX10_keep_199 rfl (lv_at hl 4 rfl) ?_
                        refine lv_iconst (v := 3) hx hb dX10_keep_200 (by decide) ?_
                        refine lv_icmp_ne (tgt := 215) hx hb dX10_keep_201 (by decide) (fun c201 => ?_) (fun c201 => ?_)
                        · first | exact absurd c201 c95 | exact absurd c95 c201
                        · skip
                          have d201 := c201
                          rw [fa_eq] at d201
                          refine lv_lload hx hb dX10_keep_204 (lv_at hl 6 rfl) ?_
                          refine lv_iload hx hb dX10_keep_206 (lv_at hl 0 rfl) ?_
                          refine m_pu (As := [.long p0, .int (nI i)]) (rest := [.int v198, .ref (a 33)]) ⟨hx, hb, hml, hown, hts⟩ (c_X10_one l p0 (nI i) ) (va_cwS 2 hts gX10_keep_X10_one rfl rfl rfl (by decide +kernel) ⟨Nat.le_of_ble_eq_true rfl, Nat.le_of_ble_eq_true rfl⟩) hP rfl hl.1 rfl (Nat.le_of_ble_eq_true rfl) dX10_keep_208 ⟨Nat.le_of_ble_eq_true rfl, Nat.le_of_ble_eq_true rfl⟩ hS (fun r208 H locs q208 hP hS => ?_)
                          have i208 : r208.toInt = (r_one p0 (nI i)).toInt := congrArg Int32.toInt q208
                          refine lv_i2l (v := r208.toInt64) hx hb dX10_keep_211 rfl ?_
                          refine lv_goto (tgt := 265) hx hb dX10_keep_212 (by decide) ?_
                          refine m_last (w := s3) hx hb hK hP hD hS 21 rfl (vp_in_iff.mpr ⟨by omega, by omega⟩) (va_up (va_up q 33 s3) 33 (vp_updL s3 v198.toNatClampNeg r208.toInt64)) (ms_33 cy mo a _ _ _ _ _) dX10_keep_265 (fun H locs hP hS => ?_)
                          have hP := wm_eq rfl rfl rfl (es_q_33__33 q s3 (vp_updL s3 v198.toNatClampNeg r208.toInt64)) hP
                          refine lv_iinc (v := (nI (i + 1))) (lv' := [(7, .int (nI (i + 1))), (6, .int (1 : Int32)), (0, .ref mo), (1, .int d), (2, .int what), (3, .int k0), (4, .long p0)]) hx hb dX10_keep_266 hl (k := 0) rfl (nI_1 _) (by decide) rfl (fun ls hl => ?_)
                          refine lv_goto (tgt := 177) hx hb dX10_keep_269 (by decide) ?_
                          have hP := wm_eq rfl rfl (ec_r_29_30__29_30 r ((upd (r 29) d.toNatClampNeg what)) ((upd (r 30) d.toNatClampNeg v110))) rfl hP
                          exact ih_177 (i + 1) (vp_updL s3 v198.toNatClampNeg r208.toInt64) (by omega) (by omega) _ _ hP hS ls (lv_sub hl [0, 1, 2, 3, 4, 5, 6] rfl)
                  have hP := wm_eq rfl rfl (ec_r_29_30__29_30 r ((upd (r 29) d.toNatClampNeg what)) ((upd (r 30) d.toNatClampNeg v110))) (ec_q___33 q ) hP
                  exact loop_177 (60 + 1) 0 (q 33) (by omega) (by omega) _ _ hP hS ls (lv_sub hl [0, 1, 2, 3, 4, 5, 6] rfl)
                · skip
                  have d139 := c139
                  rw [fa_eq] at d139
                  refine lv_aload_n hx hb dX10_keep_142 rfl (lv_at hl 1 rfl) ?_
                  refine m_get (v := .ref (a 31)) hx hb hts hin hown hK hP 31 (by decide) rfl (hts (.fieldLink RX10 67 "ShadowBenchModel" "shelfWeight" "[I") (by decide +kernel)) rfl dX10_keep_143 ?_
                  refine lv_iload_n hx hb dX10_keep_146 rfl (lv_at hl 2 rfl) ?_
                  refine lv_aload_n hx hb dX10_keep_147 rfl (lv_at hl 1 rfl) ?_
                  refine lv_iload_n hx hb dX10_keep_148 rfl (lv_at hl 4 rfl) ?_
                  refine m_calli (As := [.int k0]) (rest := [.int d, .ref (a 31)]) ⟨hx, hb, hml, hown, hts⟩ (c_X10_weightOf_x l D cy mo a (upd f 0 (0 : Int32)) g (va_up (va_up r 29 ((upd (r 29) d.toNatClampNeg what))) 30 ((upd (r 30) d.toNatClampNeg v110))) q k0 hD (by first | exact hI | exact mi_sz (d := d) hI (v := 0) (by first | omega | decide) rfl rfl rfl rfl rfl rfl rfl rfl | exact mi_sz (d := d) hI (v := v131) (by first | omega | decide) rfl rfl rfl rfl rfl rfl rfl rfl | exact mi_sz (d := d) hI (v := v110) (by first | omega | decide) rfl rfl rfl rfl rfl rfl rfl rfl) (show 0 ≤ k0.toInt ∧ k0.toInt < (f 1).toInt by omega)) (cwV 1 hts gX10_keep_X10_weightOf rfl rfl rfl (by decide +kernel) ⟨Nat.le_of_ble_eq_true rfl, Nat.le_of_ble_eq_true rfl⟩) hK hP rfl hl.1 rfl (Nat.le_of_ble_eq_true rfl) dX10_keep_149 ⟨Nat.le_of_ble_eq_true rfl, Nat.le_of_ble_eq_true rfl⟩ hS (fun r149 u H locs q149 hP hS => ?_)
                  obtain ⟨rfl, q149⟩ := q149
                  have hP : va_P D vwCl (WM cy mo a (upd f 0 (0 : Int32)) g (va_up (va_up r 29 ((upd (r 29) d.toNatClampNeg what))) 30 ((upd (r 30) d.toNatClampNeg v110))) q) H := hP
                  have q149 : r149 = (heR ((r 2) k0.toNatClampNeg) ((r 3) k0.toNatClampNeg).toNatClampNeg ((r 4) k0.toNatClampNeg).toNatClampNeg (smN (fun s9 => (va_up (va_up r 29 ((upd (r 29) d.toNatClampNeg what))) 30 ((upd (r 30) d.toNatClampNeg v110))) 8 (36 * k0.toNatClampNeg + s9)) 36)) := q149
                  refine m_iast (w := (r 31)) hx hb hK hP hD hS 19 rfl (vp_in_iff.mpr ⟨by omega, by omega⟩) (va_up (va_up (va_up r 29 ((upd (r 29) d.toNatClampNeg what))) 30 ((upd (r 30) d.toNatClampNeg v110))) 31 (upd (r 31) d.toNatClampNeg r149)) (ms_31 cy mo a _ _ _ _ _) dX10_keep_152 (fun H locs hP hS => ?_)
                  refine lv_aload_n hx hb dX10_keep_153 rfl (lv_at hl 1 rfl) ?_
                  refine m_get (v := .ref (a 32)) hx hb hts hin hown hK hP 32 (by decide) rfl (hts (.fieldLink RX10 70 "ShadowBenchModel" "shelfFailure" "[I") (by decide +kernel)) rfl dX10_keep_154 ?_
                  refine lv_iload_n hx hb dX10_keep_157 rfl (lv_at hl 2 rfl) ?_
                  refine lv_aload_n hx hb dX10_keep_158 rfl (lv_at hl 1 rfl) ?_
                  refine m_get (v := .ref (a 2)) hx hb hts hin hown hK hP 2 (by decide) rfl (hts (.fieldLink RX10 7 "ShadowBenchModel" "kind" "[I") (by decide +kernel)) rfl dX10_keep_159 ?_
                  refine lv_iload_n hx hb dX10_keep_162 rfl (lv_at hl 4 rfl) ?_
                  refine m_iald (w := (r 2)) hx hb hK hP 1 rfl (vp_in_iff.mpr ⟨by omega, by omega⟩) dX10_keep_163 ?_
                  refine lv_topi (fun v163 e163 => ?_)
                  have i163 : v163.toInt = ((r 2) k0.toNatClampNeg).toInt := congrArg Int32.toInt e163
                  refine lv_if_ne (tgt := 172) hx hb dX10_keep_164 (by decide) (fun c164 => ?_) (fun c164 => ?_)
                  · skip
                    have d164 := c164
                    rw [fa_eq] at d164
                    refine lv_iload_n hx hb dX10_keep_172 rfl (lv_at hl 4 rfl) ?_
                    refine m_iast (w := (r 32)) hx hb hK hP hD hS 20 rfl (vp_in_iff.mpr ⟨by omega, by omega⟩) (va_up (va_up (va_up (va_up r 29 ((upd (r 29) d.toNatClampNeg what))) 30 ((upd (r 30) d.toNatClampNeg v110))) 31 ((upd (r 31) d.toNatClampNeg r149))) 32 (upd (r 32) d.toNatClampNeg k0)) (ms_32 cy mo a _ _ _ _ _) dX10_keep_173 (fun H locs hP hS => ?_)
                    refine lv_iconst (v := 0) hx hb dX10_keep_174 (by decide) ?_
                    refine lv_istore (lv' := [(7, .int (0 : Int32)), (6, .int (1 : Int32)), (0, .ref mo), (1, .int d), (2, .int what), (3, .int k0), (4, .long p0)]) hx hb dX10_keep_175 hl (by decide) rfl (fun ls hl => ?_)
                    have loop_177 : ∀ (n : Nat) (i : Nat) (s3 : Nat → Int64), (i ≤ 60) → 60 - i < n → ∀ (H : Heap) (locs : List Loc), va_P D vwCl (WM cy mo a (upd f 0 (0 : Int32)) g (va_up (va_up (va_up (va_up r 29 ((upd (r 29) d.toNatClampNeg what))) 30 ((upd (r 30) d.toNatClampNeg v110))) 31 ((upd (r 31) d.toNatClampNeg r149))) 32 ((upd (r 32) d.toNatClampNeg k0))) (va_up q 33 s3)) H → va_S (AM mo a) s.heap H locs → ∀ (ls : Array Slot), lv_has ls 8 [(7, .int (nI i)), (6, .int (1 : Int32)), (0, .ref mo), (1, .int d), (2, .int what), (3, .int k0), (4, .long p0)] → W p l e (headSpec wsX10_keep ({ frames := 3, cells := 0, slots := 0, locals := 69 })).room s m #[Value.ref mo, Value.int d, Value.int what, Value.int k0, Value.long p0] below meth c H locs 0 0 (MQ below (va_Qi (fun r0 u => ∃ (sh : Nat → Int32), ∃ (sz : Nat → Int32), ∃ (sw : Nat → Int32), ∃ (sf : Nat → Int32), ∃ (sr : Nat → Int64), u = ((upd f 0 (0 : Int32)), g, (va_up (va_up (va_up (va_up r 29 sh) 30 sz) 31 sw) 32 sf), (va_up q 33 sr)) ∧ (yesNo (okKeep (f 1) (fun j9 => (r 3 j9).toNatClampNeg) (fun j9 => (r 4 j9).toNatClampNeg) d what k0 p0) 0 (-1) r0 ∧ ((okKeep (f 1) (fun j9 => (r 3 j9).toNatClampNeg) (fun j9 => (r 4 j9).toNatClampNeg) d what k0 p0 ∧ sh = upd (r 29) d.toNatClampNeg what ∧ (what.toInt = 1 → sw = upd (r 31) d.toNatClampNeg (heR (r 2 k0.toNatClampNeg) (r 3 k0.toNatClampNeg).toNatClampNeg (r 4 k0.toNatClampNeg).toNatClampNeg (smN (fun s9 => r 8 (36 * k0.toNatClampNeg + s9)) 36))) ∧ (¬ what.toInt = 1 → sw = r 31)) ∨ (¬ okKeep (f 1) (fun j9 => (r 3 j9).toNatClampNeg) (fun j9 => (r 4 j9).toNatClampNeg) d what k0 p0 ∧ sh = r 29 ∧ sw = r 31)) ∧ MI (upd f 0 (0 : Int32)) (va_up (va_up (va_up (va_up r 29 sh) 30 sz) 31 sw) 32 sf))) (mB D cy mo a) (AM mo a)) #[Value.ref mo, Value.int d, Value.int what, Value.int k0, Value.long p0] s 0 0 (AM mo a)) (F0 m 177 ls []) := by
                      intro n
                      induction n with
                      | zero => intro i s3 j177_0 hn; exact absurd hn (Nat.not_lt_zero _)
                      | succ n ih_177 =>
                        intro i s3 j177_0 hn_177 H locs hP hS ls hl
                        have ii : (nI i).toInt = (i : Int) := nI_toInt (by omega)
                        refine lv_iload hx hb dX10_keep_177 (lv_at hl 0 rfl) ?_
                        refine lv_aload_n hx hb dX10_keep_179 rfl (lv_at hl 2 rfl) ?_
                        refine m_get (v := .ref (a 30)) hx hb hts hin hown hK hP 30 (by decide) rfl (hts (.fieldLink RX10 64 "ShadowBenchModel" "shelfSize" "[I") (by decide +kernel)) rfl dX10_keep_180 ?_
                        refine lv_iload_n hx hb dX10_keep_183 rfl (lv_at hl 3 rfl) ?_
                        refine m_iald (w := ((upd (r 30) d.toNatClampNeg v110))) hx hb hK hP 18 rfl (vp_in_iff.mpr ⟨by omega, by omega⟩) dX10_keep_184 ?_
                        refine lv_topi (fun v184 e184 => ?_)
                        have i184 : v184.toInt = (((upd (r 30) d.toNatClampNeg v110)) d.toNatClampNeg).toInt := congrArg Int32.toInt e184
                        have z184 := e184
                        simp only [upd, if_true] at z184
                        have y184 := congrArg Int32.toInt z184
                        refine lv_icmp_ge (tgt := 272) hx hb dX10_keep_185 (by decide) (fun c185 => ?_) (fun c185 => ?_)
                        · skip
                          have d185 := c185
                          rw [fa_le] at d185
                          refine lv_iconst (v := 0) hx hb dX10_keep_272 (by decide) ?_
                          have hP := wm_eq rfl rfl (ec_r_29_30_31_32__29_30_31_32 r ((upd (r 29) d.toNatClampNeg what)) ((upd (r 30) d.toNatClampNeg v110)) ((upd (r 31) d.toNatClampNeg r149)) ((upd (r 32) d.toNatClampNeg k0))) rfl hP
                          exact W.iret (v := (0 : Int32)) hx hb hr (fun t ht hW => ⟨⟨_, ((upd f 0 (0 : Int32)), g, (va_up (va_up (va_up (va_up r 29 (((upd (r 29) d.toNatClampNeg what)))) 30 (((upd (r 30) d.toNatClampNeg v110)))) 31 (((upd (r 31) d.toNatClampNeg r149)))) 32 (((upd (r 32) d.toNatClampNeg k0)))), (va_up q 33 s3)), rfl, ⟨((upd (r 29) d.toNatClampNeg what)), ((upd (r 30) d.toNatClampNeg v110)), ((upd (r 31) d.toNatClampNeg r149)), ((upd (r 32) d.toNatClampNeg k0)), s3, rfl, ⟨(Or.inl ⟨⟨b9, (by unfold okJob; first | exact Or.inl (by omega) | exact Or.inr (Or.inl ⟨by omega, b31⟩) | (have z9 := goodP_of b64; subst e52; subst e58; exact Or.inr (Or.inr ⟨by omega, b44, z9.2⟩)))⟩, rfl⟩), (Or.inl ⟨⟨b9, (by unfold okJob; first | exact Or.inl (by omega) | exact Or.inr (Or.inl ⟨by omega, b31⟩) | (have z9 := goodP_of b64; subst e52; subst e58; exact Or.inr (Or.inr ⟨by omega, b44, z9.2⟩)))⟩, rfl, (by first | exact ⟨fun _ => congrArg (fun z9 => upd (r 31) d.toNatClampNeg z9) q149, fun z9 => by exfalso; omega⟩ | exact ⟨fun z9 => by exfalso; omega, fun _ => rfl⟩)⟩), by first | exact hI | exact mi_sz (d := d) hI (v := v110) (by omega) rfl rfl rfl rfl rfl rfl rfl rfl | exact mi_sz (d := d) hI (v := v131) (by omega) rfl rfl rfl rfl rfl rfl rfl rfl | exact mi_sz (d := d) hI (v := 0) (by decide) rfl rfl rfl rfl rfl rfl rfl rfl⟩⟩, by unfold mB; rw [ht]; exact hP⟩, hS.F ht⟩) hS.2.2 dX10_keep_273
                        · skip
                          have d185 := c185
                          rw [fa_le] at d185
                          refine lv_aload_n hx hb dX10_keep_188 rfl (lv_at hl 2 rfl) ?_
                          refine m_get (v := .ref (a 33)) hx hb hts hin hown hK hP 33 (by decide) rfl (hts (.fieldLink RX10 73 "ShadowBenchModel" "shelfRow" "[J") (by decide +kernel)) rfl dX10_keep_189 ?_
                          refine lv_bipush (v := 60) hx hb dX10_keep_192 (by decide) ?_
                          refine lv_iload_n hx hb dX10_keep_194 rfl (lv_at hl 3 rfl) ?_
                          refine lv_imul hx hb dX10_keep_195 ?_
                          refine lv_topi (fun v195 e195 => ?_)
                          have i195 : v195.toInt = 60 * d.toInt := by rw [e195]; exact mulcL rfl (by omega) (by omega)
                          refine lv_iload hx hb dX10_keep_196 (lv_at hl 0 rfl) ?_
                          refine lv_iadd hx hb dX10_keep_198 ?_
                          refine lv_topi (fun v198 e198 => ?_)
                          have i198 : v198.toInt = v195.toInt + (nI i).toInt := by rw [e198]; exact fb_addI (by omega) (by omega)
                          refine lv_iload_n hx hb dX10_keep_199 rfl (lv_at hl 4 rfl) ?_
                          refine lv_iconst (v := 3) hx hb dX10_keep_200 (by decide) ?_
                          refine lv_icmp_ne (tgt := 215) hx hb dX10_keep_201 (by decide) (fun c201 => ?_) (fun c201 => ?_)
                          · first | exact absurd c201 c95 | exact absurd c95 c201
                          · skip
                            have d201 := c201
                            rw [fa_eq] at d201
                            refine lv_lload hx hb dX10_keep_204 (lv_at hl 6 rfl) ?_
                            refine lv_iload hx hb dX10_keep_206 (lv_at hl 0 rfl) ?_
                            refine m_pu (As := [.long p0, .int (nI i)]) (rest := [.int v198, .ref (a 33)]) ⟨hx, hb, hml, hown, hts⟩ (c_X10_one l p0 (nI i) ) (va_cwS 2 hts gX10_keep_X10_one rfl rfl rfl (by decide +kernel) ⟨Nat.le_of_ble_eq_true rfl, Nat.le_of_ble_eq_true rfl⟩) hP rfl hl.1 rfl (Nat.le_of_ble_eq_true rfl) dX10_keep_208 ⟨Nat.le_of_ble_eq_true rfl, Nat.le_of_ble_eq_true rfl⟩ hS (fun r208 H locs q208 hP hS => ?_)
                            have i208 : r208.toInt = (r_one p0 (nI i)).toInt := congrArg Int32.toInt q208
                            refine lv_i2l (v := r208.toInt64) hx hb dX10_keep_211 rfl ?_
                            refine lv_goto (tgt := 265) hx hb dX10_keep_212 (by decide) ?_
                            refine m_last (w := s3) hx hb hK hP hD hS 21 rfl (vp_in_iff.mpr ⟨by omega, by omega⟩) (va_up (va_up q 33 s3) 33 (vp_updL s3 v198.toNatClampNeg r208.toInt64)) (ms_33 cy mo a _ _ _ _ _) dX10_keep_265 (fun H locs hP hS => ?_)
                            have hP := wm_eq rfl rfl rfl (es_q_33__33 q s3 (vp_updL s3 v198.toNatClampNeg r208.toInt64)) hP
                            refine lv_iinc (v := (nI (i + 1))) (lv' := [(7, .int (nI (i + 1))), (6, .int (1 : Int32)), (0, .ref mo), (1, .int d), (2, .int what), (3, .int k0), (4, .long p0)]) hx hb dX10_keep_266 hl (k := 0) rfl (nI_1 _) (by decide) rfl (fun ls hl => ?_)
                            refine lv_goto (tgt := 177) hx hb dX10_keep_269 (by decide) ?_
                            have hP := wm_eq rfl rfl (ec_r_29_30_31_32__29_30_31_32 r ((upd (r 29) d.toNatClampNeg what)) ((upd (r 30) d.toNatClampNeg v110)) ((upd (r 31) d.toNatClampNeg r149)) ((upd (r 32) d.toNatClampNeg k0))) rfl hP
                            exact ih_177 (i + 1) (vp_updL s3 v198.toNatClampNeg r208.toInt64) (by omega) (by omega) _ _ hP hS ls (lv_sub hl [0, 1, 2, 3, 4, 5, 6] rfl)
                    have hP := wm_eq rfl rfl (ec_r_29_30_31_32__29_30_31_32 r ((upd (r 29) d.toNatClampNeg what)) ((upd (r 30) d.toNatClampNeg v110)) ((upd (r 31) d.toNatClampNeg r149)) ((upd (r 32) d.toNatClampNeg k0))) (ec_q___33 q ) hP
                    exact loop_177 (60 + 1) 0 (q 33) (by omega) (by omega) _ _ hP hS ls (lv_sub hl [0, 1, 2, 3, 4, 5, 6] rfl)
                  · skip
                    have d164 := c164
                    rw [fa_eq] at d164
                    refine lv_bipush (v := (-15)) hx hb dX10_keep_167 (by decide) ?_
                    refine lv_goto (tgt := 173) hx hb dX10_keep_169 (by decide) ?_
                    refine m_iast (w := (r 32)) hx hb hK hP hD hS 20 rfl (vp_in_iff.mpr ⟨by omega, by omega⟩) (va_up (va_up (va_up (va_up r 29 ((upd (r 29) d.toNatClampNeg what))) 30 ((upd (r 30) d.toNatClampNeg v110))) 31 ((upd (r 31) d.toNatClampNeg r149))) 32 (upd (r 32) d.toNatClampNeg (((-15) : Int32)))) (ms_32 cy mo a _ _ _ _ _) dX10_keep_173 (fun H locs hP hS => ?_)
                    refine lv_iconst (v := 0) hx hb dX10_keep_174 (by decide) ?_
                    refine lv_istore (lv' := [(7, .int (0 : Int32)), (6, .int (1 : Int32)), (0, .ref mo), (1, .int d), (2, .int what), (3, .int k0), (4, .long p0)]) hx hb dX10_keep_175 hl (by decide) rfl (fun ls hl => ?_)
                    have loop_177 : ∀ (n : Nat) (i : Nat) (s3 : Nat → Int64), (i ≤ 60) → 60 - i < n → ∀ (H : Heap) (locs : List Loc), va_P D vwCl (WM cy mo a (upd f 0 (0 : Int32)) g (va_up (va_up (va_up (va_up r 29 ((upd (r 29) d.toNatClampNeg what))) 30 ((upd (r 30) d.toNatClampNeg v110))) 31 ((upd (r 31) d.toNatClampNeg r149))) 32 ((upd (r 32) d.toNatClampNeg (((-15) : Int32))))) (va_up q 33 s3)) H → va_S (AM mo a) s.heap H locs → ∀ (ls : Array Slot), lv_has ls 8 [(7, .int (nI i)), (6, .int (1 : Int32)), (0, .ref mo), (1, .int d), (2, .int what), (3, .int k0), (4, .long p0)] → W p l e (headSpec wsX10_keep ({ frames := 3, cells := 0, slots := 0, locals := 69 })).room s m #[Value.ref mo, Value.int d, Value.int what, Value.int k0, Value.long p0] below meth c H locs 0 0 (MQ below (va_Qi (fun r0 u => ∃ (sh : Nat → Int32), ∃ (sz : Nat → Int32), ∃ (sw : Nat → Int32), ∃ (sf : Nat → Int32), ∃ (sr : Nat → Int64), u = ((upd f 0 (0 : Int32)), g, (va_up (va_up (va_up (va_up r 29 sh) 30 sz) 31 sw) 32 sf), (va_up q 33 sr)) ∧ (yesNo (okKeep (f 1) (fun j9 => (r 3 j9).toNatClampNeg) (fun j9 => (r 4 j9).toNatClampNeg) d what k0 p0) 0 (-1) r0 ∧ ((okKeep (f 1) (fun j9 => (r 3 j9).toNatClampNeg) (fun j9 => (r 4 j9).toNatClampNeg) d what k0 p0 ∧ sh = upd (r 29) d.toNatClampNeg what ∧ (what.toInt = 1 → sw = upd (r 31) d.toNatClampNeg (heR (r 2 k0.toNatClampNeg) (r 3 k0.toNatClampNeg).toNatClampNeg (r 4 k0.toNatClampNeg).toNatClampNeg (smN (fun s9 => r 8 (36 * k0.toNatClampNeg + s9)) 36))) ∧ (¬ what.toInt = 1 → sw = r 31)) ∨ (¬ okKeep (f 1) (fun j9 => (r 3 j9).toNatClampNeg) (fun j9 => (r 4 j9).toNatClampNeg) d what k0 p0 ∧ sh = r 29 ∧ sw = r 31)) ∧ MI (upd f 0 (0 : Int32)) (va_up (va_up (va_up (va_up r 29 sh) 30 sz) 31 sw) 32 sf))) (mB D cy mo a) (AM mo a)) #[Value.ref mo, Value.int d, Value.int what, Value.int k0, Value.long p0] s 0 0 (AM mo a)) (F0 m 177 ls []) := by
                      intro n
                      induction n with
                      | zero => intro i s3 j177_0 hn; exact absurd hn (Nat.not_lt_zero _)
                      | succ n ih_177 =>
                        intro i s3 j177_0 hn_177 H locs hP hS ls hl
                        have ii : (nI i).toInt = (i : Int) := nI_toInt (by omega)
                        refine lv_iload hx hb dX10_keep_177 (lv_at hl 0 rfl) ?_
                        refine lv_aload_n hx hb dX10_keep_179 rfl (lv_at hl 2 rfl) ?_
                        refine m_get (v := .ref (a 30)) hx hb hts hin hown hK hP 30 (by decide) rfl (hts (.fieldLink RX10 64 "ShadowBenchModel" "shelfSize" "[I") (by decide +kernel)) rfl dX10_keep_180 ?_
                        refine lv_iload_n hx hb dX10_keep_183 rfl (lv_at hl 3 rfl) ?_
                        refine m_iald (w := ((upd (r 30) d.toNatClampNeg v110))) hx hb hK hP 18 rfl (vp_in_iff.mpr ⟨by omega, by omega⟩) dX10_keep_184 ?_
                        refine lv_topi (fun v184 e184 => ?_)
                        have i184 : v184.toInt = (((upd (r 30) d.toNatClampNeg v110)) d.toNatClampNeg).toInt := congrArg Int32.toInt e184
                        have z184 := e184
                        simp only [upd, if_true] at z184
                        have y184 := congrArg Int32.toInt z184
                        refine lv_icmp_ge (tgt := 272) hx hb dX10_keep_185 (by decide) (fun c185 => ?_) (fun c185 => ?_)
                        · skip
                          have d185 := c185
                          rw [fa_le] at d185
                          refine lv_iconst (v := 0) hx hb dX10_keep_272 (by decide) ?_
                          have hP := wm_eq rfl rfl (ec_r_29_30_31_32__29_30_31_32 r ((upd (r 29) d.toNatClampNeg what)) ((upd (r 30) d.toNatClampNeg v110)) ((upd (r 31) d.toNatClampNeg r149)) ((upd (r 32) d.toNatClampNeg (((-15) : Int32))))) rfl hP
                          exact W.iret (v := (0 : Int32)) hx hb hr (fun t ht hW => ⟨⟨_, ((upd f 0 (0 : Int32)), g, (va_up (va_up (va_up (va_up r 29 (((upd (r 29) d.toNatClampNeg what)))) 30 (((upd (r 30) d.toNatClampNeg v110)))) 31 (((upd (r 31) d.toNatClampNeg r149)))) 32 (((upd (r 32) d.toNatClampNeg (((-15) : Int32)))))), (va_up q 33 s3)), rfl, ⟨((upd (r 29) d.toNatClampNeg what)), ((upd (r 30) d.toNatClampNeg v110)), ((upd (r 31) d.toNatClampNeg r149)), ((upd (r 32) d.toNatClampNeg (((-15) : Int32)))), s3, rfl, ⟨(Or.inl ⟨⟨b9, (by unfold okJob; first | exact Or.inl (by omega) | exact Or.inr (Or.inl ⟨by omega, b31⟩) | (have z9 := goodP_of b64; subst e52; subst e58; exact Or.inr (Or.inr ⟨by omega, b44, z9.2⟩)))⟩, rfl⟩), (Or.inl ⟨⟨b9, (by unfold okJob; first | exact Or.inl (by omega) | exact Or.inr (Or.inl ⟨by omega, b31⟩) | (have z9 := goodP_of b64; subst e52; subst e58; exact Or.inr (Or.inr ⟨by omega, b44, z9.2⟩)))⟩, rfl, (by first | exact ⟨fun _ => congrArg (fun z9 => upd (r 31) d.toNatClampNeg z9) q149, fun z9 => by exfalso; omega⟩ | exact ⟨fun z9 => by exfalso; omega, fun _ => rfl⟩)⟩), by first | exact hI | exact mi_sz (d := d) hI (v := v110) (by omega) rfl rfl rfl rfl rfl rfl rfl rfl | exact mi_sz (d := d) hI (v := v131) (by omega) rfl rfl rfl rfl rfl rfl rfl rfl | exact mi_sz (d := d) hI (v := 0) (by decide) rfl rfl rfl rfl rfl rfl rfl rfl⟩⟩, by unfold mB; rw [ht]; exact hP⟩, hS.F ht⟩) hS.2.2 dX10_keep_273
                        · skip
                          have d185 := c185
                          rw [fa_le] at d185
                          refine lv_aload_n hx hb dX10_keep_188 rfl (lv_at hl 2 rfl) ?_
                          refine m_get (v := .ref (a 33)) hx hb hts hin hown hK hP 33 (by decide) rfl (hts (.fieldLink RX10 73 "ShadowBenchModel" "shelfRow" "[J") (by decide +kernel)) rfl dX10_keep_189 ?_
                          refine lv_bipush (v := 60) hx hb dX10_keep_192 (by decide) ?_
                          refine lv_iload_n hx hb dX10_keep_194 rfl (lv_at hl 3 rfl) ?_
                          refine lv_imul hx hb dX10_keep_195 ?_
                          refine lv_topi (fun v195 e195 => ?_)
                          have i195 : v195.toInt = 60 * d.toInt := by rw [e195]; exact mulcL rfl (by omega) (by omega)
                          refine lv_iload hx hb dX10_keep_196 (lv_at hl 0 rfl) ?_
                          refine lv_iadd hx hb dX10_keep_198 ?_
                          refine lv_topi (fun v198 e198 => ?_)
                          have i198 : v198.toInt = v195.toInt + (nI i).toInt := by rw [e198]; exact fb_addI (by omega) (by omega)
                          refine lv_iload_n hx hb dX10_keep_199 rfl (lv_at hl 4 rfl) ?_
                          refine lv_iconst (v := 3) hx hb dX10_keep_200 (by decide) ?_
                          refine lv_icmp_ne (tgt := 215) hx hb dX10_keep_201 (by decide) (fun c201 => ?_) (fun c201 => ?_)
                          · first | exact absurd c201 c95 | exact absurd c95 c201
                          · skip
                            have d201 := c201
                            rw [fa_eq] at d201
                            refine lv_lload hx hb dX10_keep_204 (lv_at hl 6 rfl) ?_
                            refine lv_iload hx hb dX10_keep_206 (lv_at hl 0 rfl) ?_
                            refine m_pu (As := [.long p0, .int (nI i)]) (rest := [.int v198, .ref (a 33)]) ⟨hx, hb, hml, hown, hts⟩ (c_X10_one l p0 (nI i) ) (va_cwS 2 hts gX10_keep_X10_one rfl rfl rfl (by decide +kernel) ⟨Nat.le_of_ble_eq_true rfl, Nat.le_of_ble_eq_true rfl⟩) hP rfl hl.1 rfl (Nat.le_of_ble_eq_true rfl) dX10_keep_208 ⟨Nat.le_of_ble_eq_true rfl, Nat.le_of_ble_eq_true rfl⟩ hS (fun r208 H locs q208 hP hS => ?_)
                            have i208 : r208.toInt = (r_one p0 (nI i)).toInt := congrArg Int32.toInt q208
                            refine lv_i2l (v := r208.toInt64) hx hb dX10_keep_211 rfl ?_
                            refine lv_goto (tgt := 265) hx hb dX10_keep_212 (by decide) ?_
                            refine m_last (w := s3) hx hb hK hP hD hS 21 rfl (vp_in_iff.mpr ⟨by omega, by omega⟩) (va_up (va_up q 33 s3) 33 (vp_updL s3 v198.toNatClampNeg r208.toInt64)) (ms_33 cy mo a _ _ _ _ _) dX10_keep_265 (fun H locs hP hS => ?_)
                            have hP := wm_eq rfl rfl rfl (es_q_33__33 q s3 (vp_updL s3 v198.toNatClampNeg r208.toInt64)) hP
                            refine lv_iinc (v := (nI (i + 1))) (lv' := [(7, .int (nI (i + 1))), (6, .int (1 : Int32)), (0, .ref mo), (1, .int d), (2, .int what), (3, .int k0), (4, .long p0)]) hx hb dX10_keep_266 hl (k := 0) rfl (nI_1 _) (by decide) rfl (fun ls hl => ?_)
                            refine lv_goto (tgt := 177) hx hb dX10_keep_269 (by decide) ?_
                            have hP := wm_eq rfl rfl (ec_r_29_30_31_32__29_30_31_32 r ((upd (r 29) d.toNatClampNeg what)) ((upd (r 30) d.toNatClampNeg v110)) ((upd (r 31) d.toNatClampNeg r149)) ((upd (r 32) d.toNatClampNeg (((-15) : Int32))))) rfl hP
                            exact ih_177 (i + 1) (vp_updL s3 v198.toNatClampNeg r208.toInt64) (by omega) (by omega) _ _ hP hS ls (lv_sub hl [0, 1, 2, 3, 4, 5, 6] rfl)
                    have hP := wm_eq rfl rfl (ec_r_29_30_31_32__29_30_31_32 r ((upd (r 29) d.toNatClampNeg what)) ((upd (r 30) d.toNatClampNeg v110)) ((upd (r 31) d.toNatClampNeg r149)) ((upd (r 32) d.toNatClampNeg (((-15) : Int32))))) (ec_q___33 q ) hP
                    exact loop_177 (60 + 1) 0 (q 33) (by omega) (by omega) _ _ hP hS ls (lv_sub hl [0, 1, 2, 3, 4, 5, 6] rfl)
            · first | exact absurd c76 (by decide) | exact absurd (by decide) c76
          · skip
            have b31 := bo_f q28 c31
            refine lv_iload_n hx hb dX10_keep_34 rfl (lv_at hl 2 rfl) ?_
            refine lv_iconst (v := 3) hx hb dX10_keep_35 (by decide) ?_
            refine lv_icmp_ne (tgt := 71) hx hb dX10_keep_36 (by decide) (fun c36 => ?_) (fun c36 => ?_)
            · skip
              have d36 := c36
              rw [fa_eq] at d36
              refine lv_iconst (v := 0) hx hb dX10_keep_71 (by decide) ?_
              refine lv_istore (lv' := [(6, .int (0 : Int32)), (0, .ref mo), (1, .int d), (2, .int what), (3, .int k0), (4, .long p0)]) hx hb dX10_keep_72 hl (by decide) rfl (fun ls hl => ?_)
              refine lv_iload hx hb dX10_keep_74 (lv_at hl 0 rfl) ?_
              refine lv_if_ne (tgt := 81) hx hb dX10_keep_76 (by decide) (fun c76 => ?_) (fun c76 => ?_)
              · first | exact absurd c76 (by decide) | exact absurd (by decide) c76
              · skip
                have d76 := c76
                rw [fa_eq] at d76
                refine lv_iconst (v := (-1)) hx hb dX10_keep_79 (by decide) ?_
                have hP := wm_eq rfl rfl (ec_r___29_30_31_32 r ) (ec_q___33 q ) hP
                exact W.iret (v := ((-1) : Int32)) hx hb hr (fun t ht hW => ⟨⟨_, ((upd f 0 (0 : Int32)), g, (va_up (va_up (va_up (va_up r 29 (r 29)) 30 (r 30)) 31 (r 31)) 32 (r 32)), (va_up q 33 (q 33))), rfl, ⟨(r 29), (r 30), (r 31), (r 32), (q 33), rfl, ⟨(Or.inr ⟨(fun z9 => by unfold okKeep okJob at z9; rcases z9.2 with z8 | ⟨z8, z7⟩ | ⟨z8, z7, z6⟩; (first | exact b9 z9.1 | omega); (first | exact b9 z9.1 | exact b31 z7 | omega); (first | exact b9 z9.1 | exact b44 z7 | (have szw := mi_w hI (x := k0) (by omega) (by omega) rfl; have szh := mi_h hI (x := k0) (by omega) (by omega) rfl; subst e52; subst e58; exact goodP_no b64 ⟨⟨szw, szh⟩, z6⟩) | omega)), rfl⟩), (Or.inr ⟨(fun z9 => by unfold okKeep okJob at z9; rcases z9.2 with z8 | ⟨z8, z7⟩ | ⟨z8, z7, z6⟩; (first | exact b9 z9.1 | omega); (first | exact b9 z9.1 | exact b31 z7 | omega); (first | exact b9 z9.1 | exact b44 z7 | (have szw := mi_w hI (x := k0) (by omega) (by omega) rfl; have szh := mi_h hI (x := k0) (by omega) (by omega) rfl; subst e52; subst e58; exact goodP_no b64 ⟨⟨szw, szh⟩, z6⟩) | omega)), rfl, rfl⟩), by first | exact hI | exact mi_sz (d := d) hI (v := v110) (by omega) rfl rfl rfl rfl rfl rfl rfl rfl | exact mi_sz (d := d) hI (v := v131) (by omega) rfl rfl rfl rfl rfl rfl rfl rfl | exact mi_sz (d := d) hI (v := 0) (by decide) rfl rfl rfl rfl rfl rfl rfl rfl⟩⟩, by unfold mB; rw [ht]; exact hP⟩, hS.F ht⟩) hS.2.2 dX10_keep_80
            · skip
              have d36 := c36
              rw [fa_eq] at d36
              refine lv_aload_n hx hb dX10_keep_39 rfl (lv_at hl 0 rfl) ?_
              refine lv_iload_n hx hb dX10_keep_40 rfl (lv_at hl 3 rfl) ?_
              refine m_calli (As := [.int k0]) (rest := []) ⟨hx, hb, hml, hown, hts⟩ (c_X10_isJob l D cy mo a (upd f 0 (0 : Int32)) g r q k0 hD) (cwV 1 hts gX10_keep_X10_isJob rfl rfl rfl (by decide +kernel) ⟨Nat.le_of_ble_eq_true rfl, Nat.le_of_ble_eq_true rfl⟩) hK hP rfl hl.1 rfl (Nat.le_of_ble_eq_true rfl) dX10_keep_41 ⟨Nat.le_of_ble_eq_true rfl, Nat.le_of_ble_eq_true rfl⟩ hS (fun r41 u H locs q41 hP hS => ?_)
              obtain ⟨rfl, q41⟩ := q41
              have hP : va_P D vwCl (WM cy mo a (upd f 0 (0 : Int32)) g r q) H := hP
              have q41 : Bo r41 (0 ≤ k0.toInt ∧ k0.toInt < ((f 1)).toInt) := q41
              refine lv_if_eq (tgt := 71) hx hb dX10_keep_44 (by decide) (fun c44 => ?_) (fun c44 => ?_)
              · skip
                have b44 := bo_f q41 c44
                refine lv_iconst (v := 0) hx hb dX10_keep_71 (by decide) ?_
                refine lv_istore (lv' := [(6, .int (0 : Int32)), (0, .ref mo), (1, .int d), (2, .int what), (3, .int k0), (4, .long p0)]) hx hb dX10_keep_72 hl (by decide) rfl (fun ls hl => ?_)
                refine lv_iload hx hb dX10_keep_74 (lv_at hl 0 rfl) ?_
                refine lv_if_ne (tgt := 81) hx hb dX10_keep_76 (by decide) (fun c76 => ?_) (fun c76 => ?_)
                · first | exact absurd c76 (by decide) | exact absurd (by decide) c76
                · skip
                  have d76 := c76
                  rw [fa_eq] at d76
                  refine lv_iconst (v := (-1)) hx hb dX10_keep_79 (by decide) ?_
                  have hP := wm_eq rfl rfl (ec_r___29_30_31_32 r ) (ec_q___33 q ) hP
                  exact W.iret (v := ((-1) : Int32)) hx hb hr (fun t ht hW => ⟨⟨_, ((upd f 0 (0 : Int32)), g, (va_up (va_up (va_up (va_up r 29 (r 29)) 30 (r 30)) 31 (r 31)) 32 (r 32)), (va_up q 33 (q 33))), rfl, ⟨(r 29), (r 30), (r 31), (r 32), (q 33), rfl, ⟨(Or.inr ⟨(fun z9 => by unfold okKeep okJob at z9; rcases z9.2 with z8 | ⟨z8, z7⟩ | ⟨z8, z7, z6⟩; (first | exact b9 z9.1 | omega); (first | exact b9 z9.1 | exact b31 z7 | omega); (first | exact b9 z9.1 | exact b44 z7 | (have szw := mi_w hI (x := k0) (by omega) (by omega) rfl; have szh := mi_h hI (x := k0) (by omega) (by omega) rfl; subst e52; subst e58; exact goodP_no b64 ⟨⟨szw, szh⟩, z6⟩) | omega)), rfl⟩), (Or.inr ⟨(fun z9 => by unfold okKeep okJob at z9; rcases z9.2 with z8 | ⟨z8, z7⟩ | ⟨z8, z7, z6⟩; (first | exact b9 z9.1 | omega); (first | exact b9 z9.1 | exact b31 z7 | omega); (first | exact b9 z9.1 | exact b44 z7 | (have szw := mi_w hI (x := k0) (by omega) (by omega) rfl; have szh := mi_h hI (x := k0) (by omega) (by omega) rfl; subst e52; subst e58; exact goodP_no b64 ⟨⟨szw, szh⟩, z6⟩) | omega)), rfl, rfl⟩), by first | exact hI | exact mi_sz (d := d) hI (v := v110) (by omega) rfl rfl rfl rfl rfl rfl rfl rfl | exact mi_sz (d := d) hI (v := v131) (by omega) rfl rfl rfl rfl rfl rfl rfl rfl | exact mi_sz (d := d) hI (v := 0) (by decide) rfl rfl rfl rfl rfl rfl rfl rfl⟩⟩, by unfold mB; rw [ht]; exact hP⟩, hS.F ht⟩) hS.2.2 dX10_keep_80
              · skip
                have b44 := bo_t q41 c44
                refine lv_aload_n hx hb dX10_keep_47 rfl (lv_at hl 0 rfl) ?_
                refine m_get (v := .ref (a 3)) hx hb hts hin hown hK hP 3 (by decide) rfl (hts (.fieldLink RX10 13 "ShadowBenchModel" "wide" "[I") (by decide +kernel)) rfl dX10_keep_48 ?_
                refine lv_iload_n hx hb dX10_keep_51 rfl (lv_at hl 3 rfl) ?_
                refine m_iald (w := (r 3)) hx hb hK hP 2 rfl (vp_in_iff.mpr ⟨by omega, by omega⟩) dX10_keep_52 ?_
                refine lv_topi (fun v52 e52 => ?_)
                have i52 : v52.toInt = ((r 3) k0.toNatClampNeg).toInt := congrArg Int32.toInt e52
                have w52 := mi_w hI (x := k0) (by omega) (by omega) e52
                refine lv_aload_n hx hb dX10_keep_53 rfl (lv_at hl 0 rfl) ?_
                refine m_get (v := .ref (a 4)) hx hb hts hin hown hK hP 4 (by decide) rfl (hts (.fieldLink RX10 16 "ShadowBenchModel" "high" "[I") (by decide +kernel)) rfl dX10_keep_54 ?_
                refine lv_iload_n hx hb dX10_keep_57 rfl (lv_at hl 3 rfl) ?_
                refine m_iald (w := (r 4)) hx hb hK hP 3 rfl (vp_in_iff.mpr ⟨by omega, by omega⟩) dX10_keep_58 ?_
                refine lv_topi (fun v58 e58 => ?_)
                have i58 : v58.toInt = ((r 4) k0.toNatClampNeg).toInt := congrArg Int32.toInt e58
                have w58 := mi_h hI (x := k0) (by omega) (by omega) e58
                refine lv_lload hx hb dX10_keep_59 (lv_at hl 4 rfl) ?_
                refine m_pu (As := [.int v52, .int v58, .long p0]) (rest := []) ⟨hx, hb, hml, hown, hts⟩ (c_X10_isPicture l v52 v58 p0 ) (va_cwS 3 hts gX10_keep_X10_isPicture rfl rfl rfl (by decide +kernel) ⟨Nat.le_of_ble_eq_true rfl, Nat.le_of_ble_eq_true rfl⟩) hP rfl hl.1 rfl (Nat.le_of_ble_eq_true rfl) dX10_keep_61 ⟨Nat.le_of_ble_eq_true rfl, Nat.le_of_ble_eq_true rfl⟩ hS (fun r61 H locs q61 hP hS => ?_)
                refine lv_if_eq (tgt := 71) hx hb dX10_keep_64 (by decide) (fun c64 => ?_) (fun c64 => ?_)
                · skip
                  have b64 := bo_f q61 c64
                  refine lv_iconst (v := 0) hx hb dX10_keep_71 (by decide) ?_
                  refine lv_istore (lv' := [(6, .int (0 : Int32)), (0, .ref mo), (1, .int d), (2, .int what), (3, .int k0), (4, .long p0)]) hx hb dX10_keep_72 hl (by decide) rfl (fun ls hl => ?_)
                  refine lv_iload hx hb dX10_keep_74 (lv_at hl 0 rfl) ?_
                  refine lv_if_ne (tgt := 81) hx hb dX10_keep_76 (by decide) (fun c76 => ?_) (fun c76 => ?_)
                  · first | exact absurd c76 (by decide) | exact absurd (by decide) c76
                  · skip
                    have d76 := c76
                    rw [fa_eq] at d76
                    refine lv_iconst (v := (-1)) hx hb dX10_keep_79 (by decide) ?_
                    have hP := wm_eq rfl rfl (ec_r___29_30_31_32 r ) (ec_q___33 q ) hP
                    exact W.iret (v := ((-1) : Int32)) hx hb hr (fun t ht hW => ⟨⟨_, ((upd f 0 (0 : Int32)), g, (va_up (va_up (va_up (va_up r 29 (r 29)) 30 (r 30)) 31 (r 31)) 32 (r 32)), (va_up q 33 (q 33))), rfl, ⟨(r 29), (r 30), (r 31), (r 32), (q 33), rfl, ⟨(Or.inr ⟨(fun z9 => by unfold okKeep okJob at z9; rcases z9.2 with z8 | ⟨z8, z7⟩ | ⟨z8, z7, z6⟩; (first | exact b9 z9.1 | omega); (first | exact b9 z9.1 | exact b31 z7 | omega); (first | exact b9 z9.1 | exact b44 z7 | (have szw := mi_w hI (x := k0) (by omega) (by omega) rfl; have szh := mi_h hI (x := k0) (by omega) (by omega) rfl; subst e52; subst e58; exact goodP_no b64 ⟨⟨szw, szh⟩, z6⟩) | omega)), rfl⟩), (Or.inr ⟨(fun z9 => by unfold okKeep okJob at z9; rcases z9.2 with z8 | ⟨z8, z7⟩ | ⟨z8, z7, z6⟩; (first | exact b9 z9.1 | omega); (first | exact b9 z9.1 | exact b31 z7 | omega); (first | exact b9 z9.1 | exact b44 z7 | (have szw := mi_w hI (x := k0) (by omega) (by omega) rfl; have szh := mi_h hI (x := k0) (by omega) (by omega) rfl; subst e52; subst e58; exact goodP_no b64 ⟨⟨szw, szh⟩, z6⟩) | omega)), rfl, rfl⟩), by first | exact hI | exact mi_sz (d := d) hI (v := v110) (by omega) rfl rfl rfl rfl rfl rfl rfl rfl | exact mi_sz (d := d) hI (v := v131) (by omega) rfl rfl rfl rfl rfl rfl rfl rfl | exact mi_sz (d := d) hI (v := 0) (by decide) rfl rfl rfl rfl rfl rfl rfl rfl⟩⟩, by unfold mB; rw [ht]; exact hP⟩, hS.F ht⟩) hS.2.2 dX10_keep_80
                · skip
                  have b64 := bo_t q61 c64
                  refine lv_iconst (v := 1) hx hb dX10_keep_67 (by decide) ?_
                  refine lv_goto (tgt := 72) hx hb dX10_keep_68 (by decide) ?_
                  refine lv_istore (lv' := [(6, .int (1 : Int32)), (0, .ref mo), (1, .int d), (2, .int what), (3, .int k0), (4, .long p0)]) hx hb dX10_keep_72 hl (by decide) rfl (fun ls hl => ?_)
                  refine lv_iload hx hb dX10_keep_74 (lv_at hl 0 rfl) ?_
                  refine lv_if_ne (tgt := 81) hx hb dX10_keep_76 (by decide) (fun c76 => ?_) (fun c76 => ?_)
                  · skip
                    have d76 := c76
                    rw [fa_eq] at d76
                    refine lv_aload_n hx hb dX10_keep_81 rfl (lv_at hl 1 rfl) ?_
                    refine m_get (v := .ref (a 29)) hx hb hts hin hown hK hP 29 (by decide) rfl (hts (.fieldLink RX10 61 "ShadowBenchModel" "shelf" "[I") (by decide +kernel)) rfl dX10_keep_82 ?_
                    refine lv_iload_n hx hb dX10_keep_85 rfl (lv_at hl 2 rfl) ?_
                    refine lv_iload_n hx hb dX10_keep_86 rfl (lv_at hl 3 rfl) ?_
                    refine m_iast (w := (r 29)) hx hb hK hP hD hS 17 rfl (vp_in_iff.mpr ⟨by omega, by omega⟩) (va_up r 29 (upd (r 29) d.toNatClampNeg what)) (ms_29 cy mo a _ _ _ _ _) dX10_keep_87 (fun H locs hP hS => ?_)
                    refine lv_aload_n hx hb dX10_keep_88 rfl (lv_at hl 1 rfl) ?_
                    refine m_get (v := .ref (a 30)) hx hb hts hin hown hK hP 30 (by decide) rfl (hts (.fieldLink RX10 64 "ShadowBenchModel" "shelfSize" "[I") (by decide +kernel)) rfl dX10_keep_89 ?_
                    refine lv_iload_n hx hb dX10_keep_92 rfl (lv_at hl 2 rfl) ?_
                    refine lv_iload_n hx hb dX10_keep_93 rfl (lv_at hl 3 rfl) ?_
                    refine lv_iconst (v := 3) hx hb dX10_keep_94 (by decide) ?_
                    refine lv_icmp_ne (tgt := 114) hx hb dX10_keep_95 (by decide) (fun c95 => ?_) (fun c95 => ?_)
                    · first | exact absurd c95 c36 | exact absurd c36 c95
                    · skip
                      have d95 := c95
                      rw [fa_eq] at d95
                      refine lv_aload_n hx hb dX10_keep_98 rfl (lv_at hl 1 rfl) ?_
                      refine m_get (v := .ref (a 3)) hx hb hts hin hown hK hP 3 (by decide) rfl (hts (.fieldLink RX10 13 "ShadowBenchModel" "wide" "[I") (by decide +kernel)) rfl dX10_keep_99 ?_
                      refine lv_iload_n hx hb dX10_keep_102 rfl (lv_at hl 4 rfl) ?_
                      refine m_iald (w := (r 3)) hx hb hK hP 2 rfl (vp_in_iff.mpr ⟨by omega, by omega⟩) dX10_keep_103 ?_
                      refine lv_topi (fun v103 e103 => ?_)
                      have i103 : v103.toInt = ((r 3) k0.toNatClampNeg).toInt := congrArg Int32.toInt e103
                      have w103 := mi_w hI (x := k0) (by omega) (by omega) e103
                      refine lv_aload_n hx hb dX10_keep_104 rfl (lv_at hl 1 rfl) ?_
                      refine m_get (v := .ref (a 4)) hx hb hts hin hown hK hP 4 (by decide) rfl (hts (.fieldLink RX10 16 "ShadowBenchModel" "high" "[I") (by decide +kernel)) rfl dX10_keep_105 ?_
                      refine lv_iload_n hx hb dX10_keep_108 rfl (lv_at hl 4 rfl) ?_
                      refine m_iald (w := (r 4)) hx hb hK hP 3 rfl (vp_in_iff.mpr ⟨by omega, by omega⟩) dX10_keep_109 ?_
                      refine lv_topi (fun v109 e109 => ?_)
                      have i109 : v109.toInt = ((r 4) k0.toNatClampNeg).toInt := congrArg Int32.toInt e109
                      have w109 := mi_h hI (x := k0) (by omega) (by omega) e109
                      have m110 := mul66 w103 w109
                      refine lv_imul hx hb dX10_keep_110 ?_
                      refine lv_topi (fun v110 e110 => ?_)
                      have i110 : v110.toInt = v103.toInt * v109.toInt := by rw [e110]; exact fb_mulI (by omega) (by omega)
                      refine lv_goto (tgt := 136) hx hb dX10_keep_111 (by decide) ?_
                      refine m_iast (w := (r 30)) hx hb hK hP hD hS 18 rfl (vp_in_iff.mpr ⟨by omega, by omega⟩) (va_up (va_up r 29 ((upd (r 29) d.toNatClampNeg what))) 30 (upd (r 30) d.toNatClampNeg v110)) (ms_30 cy mo a _ _ _ _ _) dX10_keep_136 (fun H locs hP hS => ?_)
                      refine lv_iload_n hx hb dX10_keep_137 rfl (lv_at hl 3 rfl) ?_
                      refine lv_iconst (v := 1) hx hb dX10_keep_138 (by decide) ?_
                      refine lv_icmp_ne (tgt := 174) hx hb dX10_keep_139 (by decide) (fun c139 => ?_) (fun c139 => ?_)
                      · skip
                        have d139 := c139
                        rw [fa_eq] at d139
                        refine lv_iconst (v := 0) hx hb dX10_keep_174 (by decide) ?_
                        refine lv_istore (lv' := [(7, .int (0 : Int32)), (6, .int (1 : Int32)), (0, .ref mo), (1, .int d), (2, .int what), (3, .int k0), (4, .long p0)]) hx hb dX10_keep_175 hl (by decide) rfl (fun ls hl => ?_)
                        have loop_177 : ∀ (n : Nat) (i : Nat) (s3 : Nat → Int64), (i ≤ 60) → 60 - i < n → ∀ (H : Heap) (locs : List Loc), va_P D vwCl (WM cy mo a (upd f 0 (0 : Int32)) g (va_up (va_up r 29 ((upd (r 29) d.toNatClampNeg what))) 30 ((upd (r 30) d.toNatClampNeg v110))) (va_up q 33 s3)) H → va_S (AM mo a) s.heap H locs → ∀ (ls : Array Slot), lv_has ls 8 [(7, .int (nI i)), (6, .int (1 : Int32)), (0, .ref mo), (1, .int d), (2, .int what), (3, .int k0), (4, .long p0)] → W p l e (headSpec wsX10_keep ({ frames := 3, cells := 0, slots := 0, locals := 69 })).room s m #[Value.ref mo, Value.int d, Value.int what, Value.int k0, Value.long p0] below meth c H locs 0 0 (MQ below (va_Qi (fun r0 u => ∃ (sh : Nat → Int32), ∃ (sz : Nat → Int32), ∃ (sw : Nat → Int32), ∃ (sf : Nat → Int32), ∃ (sr : Nat → Int64), u = ((upd f 0 (0 : Int32)), g, (va_up (va_up (va_up (va_up r 29 sh) 30 sz) 31 sw) 32 sf), (va_up q 33 sr)) ∧ (yesNo (okKeep (f 1) (fun j9 => (r 3 j9).toNatClampNeg) (fun j9 => (r 4 j9).toNatClampNeg) d what k0 p0) 0 (-1) r0 ∧ ((okKeep (f 1) (fun j9 => (r 3 j9).toNatClampNeg) (fun j9 => (r 4 j9).toNatClampNeg) d what k0 p0 ∧ sh = upd (r 29) d.toNatClampNeg what ∧ (what.toInt = 1 → sw = upd (r 31) d.toNatClampNeg (heR (r 2 k0.toNatClampNeg) (r 3 k0.toNatClampNeg).toNatClampNeg (r 4 k0.toNatClampNeg).toNatClampNeg (smN (fun s9 => r 8 (36 * k0.toNatClampNeg + s9)) 36))) ∧ (¬ what.toInt = 1 → sw = r 31)) ∨ (¬ okKeep (f 1) (fun j9 => (r 3 j9).toNatClampNeg) (fun j9 => (r 4 j9).toNatClampNeg) d what k0 p0 ∧ sh = r 29 ∧ sw = r 31)) ∧ MI (upd f 0 (0 : Int32)) (va_up (va_up (va_up (va_up r 29 sh) 30 sz) 31 sw) 32 sf))) (mB D cy mo a) (AM mo a)) #[Value.ref mo, Value.int d, Value.int what, Value.int k0, Value.long p0] s 0 0 (AM mo a)) (F0 m 177 ls []) := by
                          intro n
                          induction n with
                          | zero => intro i s3 j177_0 hn; exact absurd hn (Nat.not_lt_zero _)
                          | succ n ih_177 =>
                            intro i s3 j177_0 hn_177 H locs hP hS ls hl
                            have ii : (nI i).toInt = (i : Int) := nI_toInt (by omega)
                            refine lv_iload hx hb dX10_keep_177 (lv_at hl 0 rfl) ?_
                            refine lv_aload_n hx hb dX10_keep_179 rfl (lv_at hl 2 rfl) ?_
                            refine m_get (v := .ref (a 30)) hx hb hts hin hown hK hP 30 (by decide) rfl (hts (.fieldLink RX10 64 "ShadowBenchModel" "shelfSize" "[I") (by decide +kernel)) rfl dX10_keep_180 ?_
                            refine lv_iload_n hx hb dX10_keep_183 rfl (lv_at hl 3 rfl) ?_
                            refine m_iald (w := ((upd (r 30) d.toNatClampNeg v110))) hx hb hK hP 18 rfl (vp_in_iff.mpr ⟨by omega, by omega⟩) dX10_keep_184 ?_
                            refine lv_topi (fun v184 e184 => ?_)
                            have i184 : v184.toInt = (((upd (r 30) d.toNatClampNeg v110)) d.toNatClampNeg).toInt := congrArg Int32.toInt e184
                            have z184 := e184
                            simp only [upd, if_true] at z184
                            have y184 := congrArg Int32.toInt z184
                            refine lv_icmp_ge (tgt := 272) hx hb dX10_keep_185 (by decide) (fun c185 => ?_) (fun c185 => ?_)
                            · skip
                              have d185 := c185
                              rw [fa_le] at d185
                              refine lv_iconst (v := 0) hx hb dX10_keep_272 (by decide) ?_
                              have hP := wm_eq rfl rfl (ec_r_29_30__29_30_31_32 r ((upd (r 29) d.toNatClampNeg what)) ((upd (r 30) d.toNatClampNeg v110))) rfl hP
                              exact W.iret (v := (0 : Int32)) hx hb hr (fun t ht hW => ⟨⟨_, ((upd f 0 (0 : Int32)), g, (va_up (va_up (va_up (va_up r 29 (((upd (r 29) d.toNatClampNeg what)))) 30 (((upd (r 30) d.toNatClampNeg v110)))) 31 (r 31)) 32 (r 32)), (va_up q 33 s3)), rfl, ⟨((upd (r 29) d.toNatClampNeg what)), ((upd (r 30) d.toNatClampNeg v110)), (r 31), (r 32), s3, rfl, ⟨(Or.inl ⟨⟨b9, (by unfold okJob; first | exact Or.inl (by omega) | exact Or.inr (Or.inl ⟨by omega, b31⟩) | (have z9 := goodP_of b64; subst e52; subst e58; exact Or.inr (Or.inr ⟨by omega, b44, z9.2⟩)))⟩, rfl⟩), (Or.inl ⟨⟨b9, (by unfold okJob; first | exact Or.inl (by omega) | exact Or.inr (Or.inl ⟨by omega, b31⟩) | (have z9 := goodP_of b64; subst e52; subst e58; exact Or.inr (Or.inr ⟨by omega, b44, z9.2⟩)))⟩, rfl, (by first | exact ⟨fun _ => congrArg (fun z9 => upd (r 31) d.toNatClampNeg z9) q149, fun z9 => by exfalso; omega⟩ | exact ⟨fun z9 => by exfalso; omega, fun _ => rfl⟩)⟩), by first | exact hI | exact mi_sz (d := d) hI (v := v110) (by omega) rfl rfl rfl rfl rfl rfl rfl rfl | exact mi_sz (d := d) hI (v := v131) (by omega) rfl rfl rfl rfl rfl rfl rfl rfl | exact mi_sz (d := d) hI (v := 0) (by decide) rfl rfl rfl rfl rfl rfl rfl rfl⟩⟩, by unfold mB; rw [ht]; exact hP⟩, hS.F ht⟩) hS.2.2 dX10_keep_273
                            · skip
                              have d185 := c185
                              rw [fa_le] at d185
                              refine lv_aload_n hx hb dX10_keep_188 rfl (lv_at hl 2 rfl) ?_
                              refine m_get (v := .ref (a 33)) hx hb hts hin hown hK hP 33 (by decide) rfl (hts (.fieldLink RX10 73 "ShadowBenchModel" "shelfRow" "[J") (by decide +kernel)) rfl dX10_keep_189 ?_
                              refine lv_bipush (v := 60) hx hb dX10_keep_192 (by decide) ?_
                              refine lv_iload_n hx hb dX10_keep_194 rfl (lv_at hl 3 rfl) ?_
                              refine lv_imul hx hb dX10_keep_195 ?_
                              refine lv_topi (fun v195 e195 => ?_)
                              have i195 : v195.toInt = 60 * d.toInt := by rw [e195]; exact mulcL rfl (by omega) (by omega)
                              refine lv_iload hx hb dX10_keep_196 (lv_at hl 0 rfl) ?_
                              refine lv_iadd hx hb dX10_keep_198 ?_
                              refine lv_topi (fun v198 e198 => ?_)
                              have i198 : v198.toInt = v195.toInt + (nI i).toInt := by rw [e198]; exact fb_addI (by omega) (by omega)
                              refine lv_iload_n hx hb dX10_keep_199 rfl (lv_at hl 4 rfl) ?_
                              refine lv_iconst (v := 3) hx hb dX10_keep_200 (by decide) ?_
                              refine lv_icmp_ne (tgt := 215) hx hb dX10_keep_201 (by decide) (fun c201 => ?_) (fun c201 => ?_)
                              · first | exact absurd c201 c95 | exact absurd c95 c201
                              · skip
                                have d201 := c201
                                rw [fa_eq] at d201
                                refine lv_lload hx hb dX10_keep_204 (lv_at hl 6 rfl) ?_
                                refine lv_iload hx hb dX10_keep_206 (lv_at hl 0 rfl) ?_
                                refine m_pu (As := [.long p0, .int (nI i)]) (rest := [.int v198, .ref (a 33)]) ⟨hx, hb, hml, hown, hts⟩ (c_X10_one l p0 (nI i) ) (va_cwS 2 hts gX10_keep_X10_one rfl rfl rfl (by decide +kernel) ⟨Nat.le_of_ble_eq_true rfl, Nat.le_of_ble_eq_true rfl⟩) hP rfl hl.1 rfl (Nat.le_of_ble_eq_true rfl) dX10_keep_208 ⟨Nat.le_of_ble_eq_true rfl, Nat.le_of_ble_eq_true rfl⟩ hS (fun r208 H locs q208 hP hS => ?_)
                                have i208 : r208.toInt = (r_one p0 (nI i)).toInt := congrArg Int32.toInt q208
                                refine lv_i2l (v := r208.toInt64) hx hb dX10_keep_211 rfl ?_
                                refine lv_goto (tgt := 265) hx hb dX10_keep_212 (by decide) ?_
                                refine m_last (w := s3) hx hb hK hP hD hS 21 rfl (vp_in_iff.mpr ⟨by omega, by omega⟩) (va_up (va_up q 33 s3) 33 (vp_updL s3 v198.toNatClampNeg r208.toInt64)) (ms_33 cy mo a _ _ _ _ _) dX10_keep_265 (fun H locs hP hS => ?_)
                                have hP := wm_eq rfl rfl rfl (es_q_33__33 q s3 (vp_updL s3 v198.toNatClampNeg r208.toInt64)) hP
                                refine lv_iinc (v := (nI (i + 1))) (lv' := [(7, .int (nI (i + 1))), (6, .int (1 : Int32)), (0, .ref mo), (1, .int d), (2, .int what), (3, .int k0), (4, .long p0)]) hx hb dX10_keep_266 hl (k := 0) rfl (nI_1 _) (by decide) rfl (fun ls hl => ?_)
                                refine lv_goto (tgt := 177) hx hb dX10_keep_269 (by decide) ?_
                                have hP := wm_eq rfl rfl (ec_r_29_30__29_30 r ((upd (r 29) d.toNatClampNeg what)) ((upd (r 30) d.toNatClampNeg v110))) rfl hP
                                exact ih_177 (i + 1) (vp_updL s3 v198.toNatClampNeg r208.toInt64) (by omega) (by omega) _ _ hP hS ls (lv_sub hl [0, 1, 2, 3, 4, 5, 6] rfl)
                        have hP := wm_eq rfl rfl (ec_r_29_30__29_30 r ((upd (r 29) d.toNatClampNeg what)) ((upd (r 30) d.toNatClampNeg v110))) (ec_q___33 q ) hP
                        exact loop_177 (60 + 1) 0 (q 33) (by omega) (by omega) _ _ hP hS ls (lv_sub hl [0, 1, 2, 3, 4, 5, 6] rfl)
                      · skip
                        have d139 := c139
                        rw [fa_eq] at d139
                        refine lv_aload_n hx hb dX10_keep_142 rfl (lv_at hl 1 rfl) ?_
                        refine m_get (v := .ref (a 31)) hx hb hts hin hown hK hP 31 (by decide) rfl (hts (.fieldLink RX10 67 "ShadowBenchModel" "shelfWeight" "[I") (by decide +kernel)) rfl dX10_keep_143 ?_
                        refine lv_iload_n hx hb dX10_keep_146 rfl (lv_at hl 2 rfl) ?_
                        refine lv_aload_n hx hb dX10_keep_147 rfl (lv_at hl 1 rfl) ?_
                        refine lv_iload_n hx hb dX10_keep_148 rfl (lv_at hl 4 rfl) ?_
                        refine m_calli (As := [.int k0]) (rest := [.int d, .ref (a 31)]) ⟨hx, hb, hml, hown, hts⟩ (c_X10_weightOf_x l D cy mo a (upd f 0 (0 : Int32)) g (va_up (va_up r 29 ((upd (r 29) d.toNatClampNeg what))) 30 ((upd (r 30) d.toNatClampNeg v110))) q k0 hD (by first | exact hI | exact mi_sz (d := d) hI (v := 0) (by first | omega | decide) rfl rfl rfl rfl rfl rfl rfl rfl | exact mi_sz (d := d) hI (v := v131) (by first | omega | decide) rfl rfl rfl rfl rfl rfl rfl rfl | exact mi_sz (d := d) hI (v := v110) (by first | omega | decide) rfl rfl rfl rfl rfl rfl rfl rfl) (show 0 ≤ k0.toInt ∧ k0.toInt < (f 1).toInt by omega)) (cwV 1 hts gX10_keep_X10_weightOf rfl rfl rfl (by decide +kernel) ⟨Nat.le_of_ble_eq_true rfl, Nat.le_of_ble_eq_true rfl⟩) hK hP rfl hl.1 rfl (Nat.le_of_ble_eq_true rfl) dX10_keep_149 ⟨Nat.le_of_ble_eq_true rfl, Nat.le_of_ble_eq_true rfl⟩ hS (fun r149 u H locs q149 hP hS => ?_)
                        obtain ⟨rfl, q149⟩ := q149
                        have hP : va_P D vwCl (WM cy mo a (upd f 0 (0 : Int32)) g (va_up (va_up r 29 ((upd (r 29) d.toNatClampNeg what))) 30 ((upd (r 30) d.toNatClampNeg v110))) q) H := hP
                        have q149 : r149 = (heR ((r 2) k0.toNatClampNeg) ((r 3) k0.toNatClampNeg).toNatClampNeg ((r 4) k0.toNatClampNeg).toNatClampNeg (smN (fun s9 => (va_up (va_up r 29 ((upd (r 29) d.toNatClampNeg what))) 30 ((upd (r 30) d.toNatClampNeg v110))) 8 (36 * k0.toNatClampNeg + s9)) 36)) := q149
                        refine m_iast (w := (r 31)) hx hb hK hP hD hS 19 rfl (vp_in_iff.mpr ⟨by omega, by omega⟩) (va_up (va_up (va_up r 29 ((upd (r 29) d.toNatClampNeg what))) 30 ((upd (r 30) d.toNatClampNeg v110))) 31 (upd (r 31) d.toNatClampNeg r149)) (ms_31 cy mo a _ _ _ _ _) dX10_keep_152 (fun H locs hP hS => ?_)
                        refine lv_aload_n hx hb dX10_keep_153 rfl (lv_at hl 1 rfl) ?_
                        refine m_get (v := .ref (a 32)) hx hb hts hin hown hK hP 32 (by decide) rfl (hts (.fieldLink RX10 70 "ShadowBenchModel" "shelfFailure" "[I") (by decide +kernel)) rfl dX10_keep_154 ?_
                        refine lv_iload_n hx hb dX10_keep_157 rfl (lv_at hl 2 rfl) ?_
                        refine lv_aload_n hx hb dX10_keep_158 rfl (lv_at hl 1 rfl) ?_
                        refine m_get (v := .ref (a 2)) hx hb hts hin hown hK hP 2 (by decide) rfl (hts (.fieldLink RX10 7 "ShadowBenchModel" "kind" "[I") (by decide +kernel)) rfl dX10_keep_159 ?_
                        refine lv_iload_n hx hb dX10_keep_162 rfl (lv_at hl 4 rfl) ?_
                        refine m_iald (w := (r 2)) hx hb hK hP 1 rfl (vp_in_iff.mpr ⟨by omega, by omega⟩) dX10_keep_163 ?_
                        refine lv_topi (fun v163 e163 => ?_)
                        have i163 : v163.toInt = ((r 2) k0.toNatClampNeg).toInt := congrArg Int32.toInt e163
                        refine lv_if_ne (tgt := 172) hx hb dX10_keep_164 (by decide) (fun c164 => ?_) (fun c164 => ?_)
                        · skip
                          have d164 := c164
                          rw [fa_eq] at d164
                          refine lv_iload_n hx hb dX10_keep_172 rfl (lv_at hl 4 rfl) ?_
                          refine m_iast (w := (r 32)) hx hb hK hP hD hS 20 rfl (vp_in_iff.mpr ⟨by omega, by omega⟩) (va_up (va_up (va_up (va_up r 29 ((upd (r 29) d.toNatClampNeg what))) 30 ((upd (r 30) d.toNatClampNeg v110))) 31 ((upd (r 31) d.toNatClampNeg r149))) 32 (upd (r 32) d.toNatClampNeg k0)) (ms_32 cy mo a _ _ _ _ _) dX10_keep_173 (fun H locs hP hS => ?_)
                          refine lv_iconst (v := 0) hx hb dX10_keep_174 (by decide) ?_
                          refine lv_istore (lv' := [(7, .int (0 : Int32)), (6, .int (1 : Int32)), (0, .ref mo), (1, .int d), (2, .int what), (3, .int k0), (4, .long p0)]) hx hb dX10_keep_175 hl (by decide) rfl (fun ls hl => ?_)
                          have loop_177 : ∀ (n : Nat) (i : Nat) (s3 : Nat → Int64), (i ≤ 60) → 60 - i < n → ∀ (H : Heap) (locs : List Loc), va_P D vwCl (WM cy mo a (upd f 0 (0 : Int32)) g (va_up (va_up (va_up (va_up r 29 ((upd (r 29) d.toNatClampNeg what))) 30 ((upd (r 30) d.toNatClampNeg v110))) 31 ((upd (r 31) d.toNatClampNeg r149))) 32 ((upd (r 32) d.toNatClampNeg k0))) (va_up q 33 s3)) H → va_S (AM mo a) s.heap H locs → ∀ (ls : Array Slot), lv_has ls 8 [(7, .int (nI i)), (6, .int (1 : Int32)), (0, .ref mo), (1, .int d), (2, .int what), (3, .int k0), (4, .long p0)] → W p l e (headSpec wsX10_keep ({ frames := 3, cells := 0, slots := 0, locals := 69 })).room s m #[Value.ref mo, Value.int d, Value.int what, Value.int k0, Value.long p0] below meth c H locs 0 0 (MQ below (va_Qi (fun r0 u => ∃ (sh : Nat → Int32), ∃ (sz : Nat → Int32), ∃ (sw : Nat → Int32), ∃ (sf : Nat → Int32), ∃ (sr : Nat → Int64), u = ((upd f 0 (0 : Int32)), g, (va_up (va_up (va_up (va_up r 29 sh) 30 sz) 31 sw) 32 sf), (va_up q 33 sr)) ∧ (yesNo (okKeep (f 1) (fun j9 => (r 3 j9).toNatClampNeg) (fun j9 => (r 4 j9).toNatClampNeg) d what k0 p0) 0 (-1) r0 ∧ ((okKeep (f 1) (fun j9 => (r 3 j9).toNatClampNeg) (fun j9 => (r 4 j9).toNatClampNeg) d what k0 p0 ∧ sh = upd (r 29) d.toNatClampNeg what ∧ (what.toInt = 1 → sw = upd (r 31) d.toNatClampNeg (heR (r 2 k0.toNatClampNeg) (r 3 k0.toNatClampNeg).toNatClampNeg (r 4 k0.toNatClampNeg).toNatClampNeg (smN (fun s9 => r 8 (36 * k0.toNatClampNeg + s9)) 36))) ∧ (¬ what.toInt = 1 → sw = r 31)) ∨ (¬ okKeep (f 1) (fun j9 => (r 3 j9).toNatClampNeg) (fun j9 => (r 4 j9).toNatClampNeg) d what k0 p0 ∧ sh = r 29 ∧ sw = r 31)) ∧ MI (upd f 0 (0 : Int32)) (va_up (va_up (va_up (va_up r 29 sh) 30 sz) 31 sw) 32 sf))) (mB D cy mo a) (AM mo a)) #[Value.ref mo, Value.int d, Value.int what, Value.int k0, Value.long p0] s 0 0 (AM mo a)) (F0 m 177 ls []) := by
                            intro n
                            induction n with
                            | zero => intro i s3 j177_0 hn; exact absurd hn (Nat.not_lt_zero _)
                            | succ n ih_177 =>
                              intro i s3 j177_0 hn_177 H locs hP hS ls hl
                              have ii : (nI i).toInt = (i : Int) := nI_toInt (by omega)
                              refine lv_iload hx hb dX10_keep_177 (lv_at hl 0 rfl) ?_
                              refine lv_aload_n hx hb dX10_keep_179 rfl (lv_at hl 2 rfl) ?_
                              refine m_get (v := .ref (a 30)) hx hb hts hin hown hK hP 30 (by decide) rfl (hts (.fieldLink RX10 64 "ShadowBenchModel" "shelfSize" "[I") (by decide +kernel)) rfl dX10_keep_180 ?_
                              refine lv_iload_n hx hb dX10_keep_183 rfl (lv_at hl 3 rfl) ?_
                              refine m_iald (w := ((upd (r 30) d.toNatClampNeg v110))) hx hb hK hP 18 rfl (vp_in_iff.mpr ⟨by omega, by omega⟩) dX10_keep_184 ?_
                              refine lv_topi (fun v184 e184 => ?_)
                              have i184 : v184.toInt = (((upd (r 30) d.toNatClampNeg v110)) d.toNatClampNeg).toInt := congrArg Int32.toInt e184
                              have z184 := e184
                              simp only [upd, if_true] at z184
                              have y184 := congrArg Int32.toInt z184
                              refine lv_icmp_ge (tgt := 272) hx hb dX10_keep_185 (by decide) (fun c185 => ?_) (fun c185 => ?_)
                              · skip
                                have d185 := c185
                                rw [fa_le] at d185
                                refine lv_iconst (v := 0) hx hb dX10_keep_272 (by decide) ?_
                                have hP := wm_eq rfl rfl (ec_r_29_30_31_32__29_30_31_32 r ((upd (r 29) d.toNatClampNeg what)) ((upd (r 30) d.toNatClampNeg v110)) ((upd (r 31) d.toNatClampNeg r149)) ((upd (r 32) d.toNatClampNeg k0))) rfl hP
                                exact W.iret (v := (0 : Int32)) hx hb hr (fun t ht hW => ⟨⟨_, ((upd f 0 (0 : Int32)), g, (va_up (va_up (va_up (va_up r 29 (((upd (r 29) d.toNatClampNeg what)))) 30 (((upd (r 30) d.toNatClampNeg v110)))) 31 (((upd (r 31) d.toNatClampNeg r149)))) 32 (((upd (r 32) d.toNatClampNeg k0)))), (va_up q 33 s3)), rfl, ⟨((upd (r 29) d.toNatClampNeg what)), ((upd (r 30) d.toNatClampNeg v110)), ((upd (r 31) d.toNatClampNeg r149)), ((upd (r 32) d.toNatClampNeg k0)), s3, rfl, ⟨(Or.inl ⟨⟨b9, (by unfold okJob; first | exact Or.inl (by omega) | exact Or.inr (Or.inl ⟨by omega, b31⟩) | (have z9 := goodP_of b64; subst e52; subst e58; exact Or.inr (Or.inr ⟨by omega, b44, z9.2⟩)))⟩, rfl⟩), (Or.inl ⟨⟨b9, (by unfold okJob; first | exact Or.inl (by omega) | exact Or.inr (Or.inl ⟨by omega, b31⟩) | (have z9 := goodP_of b64; subst e52; subst e58; exact Or.inr (Or.inr ⟨by omega, b44, z9.2⟩)))⟩, rfl, (by first | exact ⟨fun _ => congrArg (fun z9 => upd (r 31) d.toNatClampNeg z9) q149, fun z9 => by exfalso; omega⟩ | exact ⟨fun z9 => by exfalso; omega, fun _ => rfl⟩)⟩), by first | exact hI | exact mi_sz (d := d) hI (v := v110) (by omega) rfl rfl rfl rfl rfl rfl rfl rfl | exact mi_sz (d := d) hI (v := v131) (by omega) rfl rfl rfl rfl rfl rfl rfl rfl | exact mi_sz (d := d) hI (v := 0) (by decide) rfl rfl rfl rfl rfl rfl rfl rfl⟩⟩, by unfold mB; rw [ht]; exact hP⟩, hS.F ht⟩) hS.2.2 dX10_keep_273
                              · skip
                                have d185 := c185
                                rw [fa_le] at d185
                                refine lv_aload_n hx hb dX10_keep_188 rfl (lv_at hl 2 rfl) ?_
                                refine m_get (v := .ref (a 33)) hx hb hts hin hown hK hP 33 (by decide) rfl (hts (.fieldLink RX10 73 "ShadowBenchModel" "shelfRow" "[J") (by decide +kernel)) rfl dX10_keep_189 ?_
                                refine lv_bipush (v := 60) hx hb dX10_keep_192 (by decide) ?_
                                refine lv_iload_n hx hb dX10_keep_194 rfl (lv_at hl 3 rfl) ?_
                                refine lv_imul hx hb dX10_keep_195 ?_
                                refine lv_topi (fun v195 e195 => ?_)
                                have i195 : v195.toInt = 60 * d.toInt := by rw [e195]; exact mulcL rfl (by omega) (by omega)
                                refine lv_iload hx hb dX10_keep_196 (lv_at hl 0 rfl) ?_
                                refine lv_iadd hx hb dX10_keep_198 ?_
                                refine lv_topi (fun v198 e198 => ?_)
                                have i198 : v198.toInt = v195.toInt + (nI i).toInt := by rw [e198]; exact fb_addI (by omega) (by omega)
                                refine lv_iload_n hx hb dX10_keep_199 rfl (lv_at hl 4 rfl) ?_
                                refine lv_iconst (v := 3) hx hb dX10_keep_200 (by decide) ?_
                                refine lv_icmp_ne (tgt := 215) hx hb dX10_keep_201 (by decide) (fun c201 => ?_) (fun c201 => ?_)
                                · first | exact absurd c201 c95 | exact absurd c95 c201
                                · skip
                                  have d201 := c201
                                  rw [fa_eq] at d201
                                  refine lv_lload hx hb dX10_keep_204 (lv_at hl 6 rfl) ?_
                                  refine lv_iload hx hb dX10_keep_206 (lv_at hl 0 rfl) ?_
                                  refine m_pu (As := [.long p0, .int (nI i)]) (rest := [.int v198, .ref (a 33)]) ⟨hx, hb, hml, hown, hts⟩ (c_X10_one l p0 (nI i) ) (va_cwS 2 hts gX10_keep_X10_one rfl rfl rfl (by decide +kernel) ⟨Nat.le_of_ble_eq_true rfl, Nat.le_of_ble_eq_true rfl⟩) hP rfl hl.1 rfl (Nat.le_of_ble_eq_true rfl) dX10_keep_208 ⟨Nat.le_of_ble_eq_true rfl, Nat.le_of_ble_eq_true rfl⟩ hS (fun r208 H locs q208 hP hS => ?_)
                                  have i208 : r208.toInt = (r_one p0 (nI i)).toInt := congrArg Int32.toInt q208
                                  refine lv_i2l (v := r208.toInt64) hx hb dX10_keep_211 rfl ?_
                                  refine lv_goto (tgt := 265) hx hb dX10_keep_212 (by decide) ?_
                                  refine m_last (w := s3) hx hb hK hP hD hS 21 rfl (vp_in_iff.mpr ⟨by omega, by omega⟩) (va_up (va_up q 33 s3) 33 (vp_updL s3 v198.toNatClampNeg r208.toInt64)) (ms_33 cy mo a _ _ _ _ _) dX10_keep_265 (fun H locs hP hS => ?_)
                                  have hP := wm_eq rfl rfl rfl (es_q_33__33 q s3 (vp_updL s3 v198.toNatClampNeg r208.toInt64)) hP
                                  refine lv_iinc (v := (nI (i + 1))) (lv' := [(7, .int (nI (i + 1))), (6, .int (1 : Int32)), (0, .ref mo), (1, .int d), (2, .int what), (3, .int k0), (4, .long p0)]) hx hb dX10_keep_266 hl (k := 0) rfl (nI_1 _) (by decide) rfl (fun ls hl => ?_)
                                  refine lv_goto (tgt := 177) hx hb dX10_keep_269 (by decide) ?_
                                  have hP := wm_eq rfl rfl (ec_r_29_30_31_32__29_30_31_32 r ((upd (r 29) d.toNatClampNeg what)) ((upd (r 30) d.toNatClampNeg v110)) ((upd (r 31) d.toNatClampNeg r149)) ((upd (r 32) d.toNatClampNeg k0))) rfl hP
                                  exact ih_177 (i + 1) (vp_updL s3 v198.toNatClampNeg r208.toInt64) (by omega) (by omega) _ _ hP hS ls (lv_sub hl [0, 1, 2, 3, 4, 5, 6] rfl)
                          have hP := wm_eq rfl rfl (ec_r_29_30_31_32__29_30_31_32 r ((upd (r 29) d.toNatClampNeg what)) ((upd (r 30) d.toNatClampNeg v110)) ((upd (r 31) d.toNatClampNeg r149)) ((upd (r 32) d.toNatClampNeg k0))) (ec_q___33 q ) hP
                          exact loop_177 (60 + 1) 0 (q 33) (by omega) (by omega) _ _ hP hS ls (lv_sub hl [0, 1, 2, 3, 4, 5, 6] rfl)
                        · skip
                          have d164 := c164
                          rw [fa_eq] at d164
                          refine lv_bipush (v := (-15)) hx hb dX10_keep_167 (by decide) ?_
                          refine lv_goto (tgt := 173) hx hb dX10_keep_169 (by decide) ?_
                          refine m_iast (w := (r 32)) hx hb hK hP hD hS 20 rfl (vp_in_iff.mpr ⟨by omega, by omega⟩) (va_up (va_up (va_up (va_up r 29 ((upd (r 29) d.toNatClampNeg what))) 30 ((upd (r 30) d.toNatClampNeg v110))) 31 ((upd (r 31) d.toNatClampNeg r149))) 32 (upd (r 32) d.toNatClampNeg (((-15) : Int32)))) (ms_32 cy mo a _ _ _ _ _) dX10_keep_173 (fun H locs hP hS => ?_)
                          refine lv_iconst (v := 0) hx hb dX10_keep_174 (by decide) ?_
                          refine lv_istore (lv' := [(7, .int (0 : Int32)), (6, .int (1 : Int32)), (0, .ref mo), (1, .int d), (2, .int what), (3, .int k0), (4, .long p0)]) hx hb dX10_keep_175 hl (by decide) rfl (fun ls hl => ?_)
                          have loop_177 : ∀ (n : Nat) (i : Nat) (s3 : Nat → Int64), (i ≤ 60) → 60 - i < n → ∀ (H : Heap) (locs : List Loc), va_P D vwCl (WM cy mo a (upd f 0 (0 : Int32)) g (va_up (va_up (va_up (va_up r 29 ((upd (r 29) d.toNatClampNeg what))) 30 ((upd (r 30) d.toNatClampNeg v110))) 31 ((upd (r 31) d.toNatClampNeg r149))) 32 ((upd (r 32) d.toNatClampNeg (((-15) : Int32))))) (va_up q 33 s3)) H → va_S (AM mo a) s.heap H locs → ∀ (ls : Array Slot), lv_has ls 8 [(7, .int (nI i)), (6, .int (1 : Int32)), (0, .ref mo), (1, .int d), (2, .int what), (3, .int k0), (4, .long p0)] → W p l e (headSpec wsX10_keep ({ frames := 3, cells := 0, slots := 0, locals := 69 })).room s m #[Value.ref mo, Value.int d, Value.int what, Value.int k0, Value.long p0] below meth c H locs 0 0 (MQ below (va_Qi (fun r0 u => ∃ (sh : Nat → Int32), ∃ (sz : Nat → Int32), ∃ (sw : Nat → Int32), ∃ (sf : Nat → Int32), ∃ (sr : Nat → Int64), u = ((upd f 0 (0 : Int32)), g, (va_up (va_up (va_up (va_up r 29 sh) 30 sz) 31 sw) 32 sf), (va_up q 33 sr)) ∧ (yesNo (okKeep (f 1) (fun j9 => (r 3 j9).toNatClampNeg) (fun j9 => (r 4 j9).toNatClampNeg) d what k0 p0) 0 (-1) r0 ∧ ((okKeep (f 1) (fun j9 => (r 3 j9).toNatClampNeg) (fun j9 => (r 4 j9).toNatClampNeg) d what k0 p0 ∧ sh = upd (r 29) d.toNatClampNeg what ∧ (what.toInt = 1 → sw = upd (r 31) d.toNatClampNeg (heR (r 2 k0.toNatClampNeg) (r 3 k0.toNatClampNeg).toNatClampNeg (r 4 k0.toNatClampNeg).toNatClampNeg (smN (fun s9 => r 8 (36 * k0.toNatClampNeg + s9)) 36))) ∧ (¬ what.toInt = 1 → sw = r 31)) ∨ (¬ okKeep (f 1) (fun j9 => (r 3 j9).toNatClampNeg) (fun j9 => (r 4 j9).toNatClampNeg) d what k0 p0 ∧ sh = r 29 ∧ sw = r 31)) ∧ MI (upd f 0 (0 : Int32)) (va_up (va_up (va_up (va_up r 29 sh) 30 sz) 31 sw) 32 sf))) (mB D cy mo a) (AM mo a)) #[Value.ref mo, Value.int d, Value.int what, Value.int k0, Value.long p0] s 0 0 (AM mo a)) (F0 m 177 ls []) := by
                            intro n
                            induction n with
                            | zero => intro i s3 j177_0 hn; exact absurd hn (Nat.not_lt_zero _)
                            | succ n ih_177 =>
                              intro i s3 j177_0 hn_177 H locs hP hS ls hl
                              have ii : (nI i).toInt = (i : Int) := nI_toInt (by omega)
                              refine lv_iload hx hb dX10_keep_177 (lv_at hl 0 rfl) ?_
                              refine lv_aload_n hx hb dX10_keep_179 rfl (lv_at hl 2 rfl) ?_
                              refine m_get (v := .ref (a 30)) hx hb hts hin hown hK hP 30 (by decide) rfl (hts (.fieldLink RX10 64 "ShadowBenchModel" "shelfSize" "[I") (by decide +kernel)) rfl dX10_keep_180 ?_
                              refine lv_iload_n hx hb dX10_keep_183 rfl (lv_at hl 3 rfl) ?_
                              refine m_iald (w := ((upd (r 30) d.toNatClampNeg v110))) hx hb hK hP 18 rfl (vp_in_iff.mpr ⟨by omega, by omega⟩) dX10_keep_184 ?_
                              refine lv_topi (fun v184 e184 => ?_)
                              have i184 : v184.toInt = (((upd (r 30) d.toNatClampNeg v110)) d.toNatClampNeg).toInt := congrArg Int32.toInt e184
                              have z184 := e184
                              simp only [upd, if_true] at z184
                              have y184 := congrArg Int32.toInt z184
                              refine lv_icmp_ge (tgt := 272) hx hb dX10_keep_185 (by decide) (fun c185 => ?_) (fun c185 => ?_)
                              · skip
                                have d185 := c185
                                rw [fa_le] at d185
                                refine lv_iconst (v := 0) hx hb dX10_keep_272 (by decide) ?_
                                have hP := wm_eq rfl rfl (ec_r_29_30_31_32__29_30_31_32 r ((upd (r 29) d.toNatClampNeg what)) ((upd (r 30) d.toNatClampNeg v110)) ((upd (r 31) d.toNatClampNeg r149)) ((upd (r 32) d.toNatClampNeg (((-15) : Int32))))) rfl hP
                                exact W.iret (v := (0 : Int32)) hx hb hr (fun t ht hW => ⟨⟨_, ((upd f 0 (0 : Int32)), g, (va_up (va_up (va_up (va_up r 29 (((upd (r 29) d.toNatClampNeg what)))) 30 (((upd (r 30) d.toNatClampNeg v110)))) 31 (((upd (r 31) d.toNatClampNeg r149)))) 32 (((upd (r 32) d.toNatClampNeg (((-15) : Int32)))))), (va_up q 33 s3)), rfl, ⟨((upd (r 29) d.toNatClampNeg what)), ((upd (r 30) d.toNatClampNeg v110)), ((upd (r 31) d.toNatClampNeg r149)), ((upd (r 32) d.toNatClampNeg (((-15) : Int32)))), s3, rfl, ⟨(Or.inl ⟨⟨b9, (by unfold okJob; first | exact Or.inl (by omega) | exact Or.inr (Or.inl ⟨by omega, b31⟩) | (have z9 := goodP_of b64; subst e52; subst e58; exact Or.inr (Or.inr ⟨by omega, b44, z9.2⟩)))⟩, rfl⟩), (Or.inl ⟨⟨b9, (by unfold okJob; first | exact Or.inl (by omega) | exact Or.inr (Or.inl ⟨by omega, b31⟩) | (have z9 := goodP_of b64; subst e52; subst e58; exact Or.inr (Or.inr ⟨by omega, b44, z9.2⟩)))⟩, rfl, (by first | exact ⟨fun _ => congrArg (fun z9 => upd (r 31) d.toNatClampNeg z9) q149, fun z9 => by exfalso; omega⟩ | exact ⟨fun z9 => by exfalso; omega, fun _ => rfl⟩)⟩), by first | exact hI | exact mi_sz (d := d) hI (v := v110) (by omega) rfl rfl rfl rfl rfl rfl rfl rfl | exact mi_sz (d := d) hI (v := v131) (by omega) rfl rfl rfl rfl rfl rfl rfl rfl | exact mi_sz (d := d) hI (v := 0) (by decide) rfl rfl rfl rfl rfl rfl rfl rfl⟩⟩, by unfold mB; rw [ht]; exact hP⟩, hS.F ht⟩) hS.2.2 dX10_keep_273
                              · skip
                                have d185 := c185
                                rw [fa_le] at d185
                                refine lv_aload_n hx hb dX10_keep_188 rfl (lv_at hl 2 rfl) ?_
                                refine m_get (v := .ref (a 33)) hx hb hts hin hown hK hP 33 (by decide) rfl (hts (.fieldLink RX10 73 "ShadowBenchModel" "shelfRow" "[J") (by decide +kernel)) rfl dX10_keep_189 ?_
                                refine lv_bipush (v := 60) hx hb dX10_keep_192 (by decide) ?_
                                refine lv_iload_n hx hb dX10_keep_194 rfl (lv_at hl 3 rfl) ?_
                                refine lv_imul hx hb dX10_keep_195 ?_
                                refine lv_topi (fun v195 e195 => ?_)
                                have i195 : v195.toInt = 60 * d.toInt := by rw [e195]; exact mulcL rfl (by omega) (by omega)
                                refine lv_iload hx hb dX10_keep_196 (lv_at hl 0 rfl) ?_
                                refine lv_iadd hx hb dX10_keep_198 ?_
                                refine lv_topi (fun v198 e198 => ?_)
                                have i198 : v198.toInt = v195.toInt + (nI i).toInt := by rw [e198]; exact fb_addI (by omega) (by omega)
                                refine lv_iload_n hx hb dX10_keep_199 rfl (lv_at hl 4 rfl) ?_
                                refine lv_iconst (v := 3) hx hb dX10_keep_200 (by decide) ?_
                                refine lv_icmp_ne (tgt := 215) hx hb dX10_keep_201 (by decide) (fun c201 => ?_) (fun c201 => ?_)
                                · first | exact absurd c201 c95 | exact absurd c95 c201
                                · skip
                                  have d201 := c201
                                  rw [fa_eq] at d201
                                  refine lv_lload hx hb dX10_keep_204 (lv_at hl 6 rfl) ?_
                                  refine lv_iload hx hb dX10_keep_206 (lv_at hl 0 rfl) ?_
                                  refine m_pu (As := [.long p0, .int (nI i)]) (rest := [.int v198, .ref (a 33)]) ⟨hx, hb, hml, hown, hts⟩ (c_X10_one l p0 (nI i) ) (va_cwS 2 hts gX10_keep_X10_one rfl rfl rfl (by decide +kernel) ⟨Nat.le_of_ble_eq_true rfl, Nat.le_of_ble_eq_true rfl⟩) hP rfl hl.1 rfl (Nat.le_of_ble_eq_true rfl) dX10_keep_208 ⟨Nat.le_of_ble_eq_true rfl, Nat.le_of_ble_eq_true rfl⟩ hS (fun r208 H locs q208 hP hS => ?_)
                                  have i208 : r208.toInt = (r_one p0 (nI i)).toInt := congrArg Int32.toInt q208
                                  refine lv_i2l (v := r208.toInt64) hx hb dX10_keep_211 rfl ?_
                                  refine lv_goto (tgt := 265) hx hb dX10_keep_212 (by decide) ?_
                                  refine m_last (w := s3) hx hb hK hP hD hS 21 rfl (vp_in_iff.mpr ⟨by omega, by omega⟩) (va_up (va_up q 33 s3) 33 (vp_updL s3 v198.toNatClampNeg r208.toInt64)) (ms_33 cy mo a _ _ _ _ _) dX10_keep_265 (fun H locs hP hS => ?_)
                                  have hP := wm_eq rfl rfl rfl (es_q_33__33 q s3 (vp_updL s3 v198.toNatClampNeg r208.toInt64)) hP
                                  refine lv_iinc (v := (nI (i + 1))) (lv' := [(7, .int (nI (i + 1))), (6, .int (1 : Int32)), (0, .ref mo), (1, .int d), (2, .int what), (3, .int k0), (4, .long p0)]) hx hb dX10_keep_266 hl (k := 0) rfl (nI_1 _) (by decide) rfl (fun ls hl => ?_)
                                  refine lv_goto (tgt := 177) hx hb dX10_keep_269 (by decide) ?_
                                  have hP := wm_eq rfl rfl (ec_r_29_30_31_32__29_30_31_32 r ((upd (r 29) d.toNatClampNeg what)) ((upd (r 30) d.toNatClampNeg v110)) ((upd (r 31) d.toNatClampNeg r149)) ((upd (r 32) d.toNatClampNeg (((-15) : Int32))))) rfl hP
                                  exact ih_177 (i + 1) (vp_updL s3 v198.toNatClampNeg r208.toInt64) (by omega) (by omega) _ _ hP hS ls (lv_sub hl [0, 1, 2, 3, 4, 5, 6] rfl)
                          have hP := wm_eq rfl rfl (ec_r_29_30_31_32__29_30_31_32 r ((upd (r 29) d.toNatClampNeg what)) ((upd (r 30) d.toNatClampNeg v110)) ((upd (r 31) d.toNatClampNeg r149)) ((upd (r 32) d.toNatClampNeg (((-15) : Int32))))) (ec_q___33 q ) hP
                          exact loop_177 (60 + 1) 0 (q 33) (by omega) (by omega) _ _ hP hS ls (lv_sub hl [0, 1, 2, 3, 4, 5, 6] rfl)
                  · first | exact absurd c76 (by decide) | exact absurd (by decide) c76
