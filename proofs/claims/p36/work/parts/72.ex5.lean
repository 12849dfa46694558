set_option maxHeartbeats 4000000 in
set_option maxRecDepth 100000 in
theorem c_X10_weight_w (l : Launch) (D : va_G) (cy : Nat → ClassId) (mo : Nat) (a : Nat → Nat) (f : Nat → Int32) (g : Nat → Int64) (r : Nat → Nat → Int32) (q : Nat → Nat → Int64) (d : Int32) (hD : DM cy mo a)  : Mi l D cy mo a yX10_weight wsX10_weight ({ frames := 1, cells := 0, slots := 0, locals := 20 }) f g r q [.int d] (fun r0 u => ∃ (th : Int32), u = ((upd f 0 th), g, r, q) ∧ (wtA (r 29 d.toNatClampNeg) (r 31 d.toNatClampNeg) d th r0)) := by
  refine Met.ofW (cc := cX10_weight) (maxL := 2) (ret := (some .int)) (by decide) rfl ?_
  intro p e s m args below meth c s₁ B hml hv
  obtain ⟨rfl, hP, hK⟩ := hv
  have hx := B.exec
  have hb := B.bytes
  have hr := B.returns
  have hts := atoms_spec (ws := wsX10_weight) B.pre
  have hin : ∀ w ∈ u_ws RX10 TX10 35, w ∈ wsX10_weight := by decide +kernel
  have hown : s.vm.findClass RX10 = some m.cls := findClass_of_methodNamed B.named
  have hlocks := B.notSynchronized
  have hS : va_S (AM mo a) s.heap s.heap [] := va_S.rf
  have hl := lv_entry ([.ref mo, .int d]) (n := 2) (Nat.le_of_ble_eq_true rfl)
  rw [lg_entry_eq]
  generalize (lg_sl ([.ref mo, .int d]) ++ List.replicate (2 - (lg_sl ([.ref mo, .int d])).length) Slot.unset).toArray = ls at hl ⊢
  have hl : lv_has ls 2 [(0, .ref mo), (1, .int d)] := hl
  have k_0 : (0 : Int32).toInt = 0 := by decide
  have k_1 : (1 : Int32).toInt = 1 := by decide
  have k_2 : (2 : Int32).toInt = 2 := by decide
  refine lv_aload_n hx hb dX10_weight_0 rfl (lv_at hl 0 rfl) ?_
  refine lv_iload_n hx hb dX10_weight_1 rfl (lv_at hl 1 rfl) ?_
  refine m_pu (As := [.int d]) (rest := [.ref mo]) ⟨hx, hb, hml, hown, hts⟩ (c_X10_isShelf l d ) (va_cwS 1 hts gX10_weight_X10_isShelf rfl rfl rfl (by decide +kernel) ⟨Nat.le_of_ble_eq_true rfl, Nat.le_of_ble_eq_true rfl⟩) hP rfl hl.1 rfl (Nat.le_of_ble_eq_true rfl) dX10_weight_2 ⟨Nat.le_of_ble_eq_true rfl, Nat.le_of_ble_eq_true rfl⟩ hS (fun r2 H locs q2 hP hS => ?_)
  refine lv_if_ne (tgt := 12) hx hb dX10_weight_5 (by decide) (fun c5 => ?_) (fun c5 => ?_)
  · skip
    have b5 := bo_t q2 c5
    refine lv_aload_n hx hb dX10_weight_12 rfl (lv_at hl 0 rfl) ?_
    refine m_get (v := .ref (a 29)) hx hb hts hin hown hK hP 29 (by decide) rfl (hts (.fieldLink RX10 61 "ShadowBenchModel" "shelf" "[I") (by decide +kernel)) rfl dX10_weight_13 ?_
    refine lv_iload_n hx hb dX10_weight_16 rfl (lv_at hl 1 rfl) ?_
    refine m_iald (w := (r 29)) hx hb hK hP 17 rfl (vp_in_iff.mpr ⟨by omega, by omega⟩) dX10_weight_17 ?_
    refine lv_topi (fun v17 e17 => ?_)
    have i17 : v17.toInt = ((r 29) d.toNatClampNeg).toInt := congrArg Int32.toInt e17
    refine lv_iconst (v := 1) hx hb dX10_weight_18 (by decide) ?_
    refine lv_icmp_eq (tgt := 26) hx hb dX10_weight_19 (by decide) (fun c19 => ?_) (fun c19 => ?_)
    · skip
      have d19 := c19
      rw [fa_eq] at d19
      refine lv_iconst (v := 0) hx hb dX10_weight_26 (by decide) ?_
      refine m_put (v := .int (0 : Int32)) (ty := .int) hx hb hts hin hown hK hP hD hS 0 (by decide) rfl (hts (.fieldLink RX10 79 "ShadowBenchModel" "thrown" "I") (by decide +kernel)) rfl (by decide +kernel) rfl rfl (upd f 0 (0 : Int32)) g rfl dX10_weight_27 (fun H locs hP hS => ?_)
      refine lv_aload_n hx hb dX10_weight_30 rfl (lv_at hl 0 rfl) ?_
      refine m_get (v := .int (0 : Int32)) hx hb hts hin hown hK hP 0 (by decide) rfl (hts (.fieldLink RX10 79 "ShadowBenchModel" "thrown" "I") (by decide +kernel)) rfl dX10_weight_31 ?_
      refine lv_if_le (tgt := 41) hx hb dX10_weight_34 (by decide) (fun c34 => ?_) (fun c34 => ?_)
      · skip
        have d34 := c34
        rw [fa_le] at d34
        refine lv_aload_n hx hb dX10_weight_41 rfl (lv_at hl 0 rfl) ?_
        refine m_get (v := .ref (a 31)) hx hb hts hin hown hK hP 31 (by decide) rfl (hts (.fieldLink RX10 67 "ShadowBenchModel" "shelfWeight" "[I") (by decide +kernel)) rfl dX10_weight_42 ?_
        refine lv_iload_n hx hb dX10_weight_45 rfl (lv_at hl 1 rfl) ?_
        refine m_iald (w := (r 31)) hx hb hK hP 19 rfl (vp_in_iff.mpr ⟨by omega, by omega⟩) dX10_weight_46 ?_
        refine lv_topi (fun v46 e46 => ?_)
        have i46 : v46.toInt = ((r 31) d.toNatClampNeg).toInt := congrArg Int32.toInt e46
        exact W.iret (v := v46) hx hb hr (fun t ht hW => ⟨⟨_, ((upd f 0 (0 : Int32)), g, r, q), rfl, ⟨(0 : Int32), rfl, (by first | exact Or.inl ⟨b5, rfl⟩ | exact Or.inr ⟨b5, Or.inl ⟨e17.symm.trans c19, rfl, e46⟩⟩ | exact Or.inr ⟨b5, Or.inr ⟨fun z9 => c19 (e17.trans z9), rfl⟩⟩ | (exfalso; first | omega | exact absurd c34 (by decide)))⟩, by unfold mB; rw [ht]; exact hP⟩, hS.F ht⟩) hS.2.2 dX10_weight_47
      · first | exact absurd c34 (by decide) | exact absurd (by decide) c34
    · skip
      have d19 := c19
      rw [fa_eq] at d19
      refine lv_iconst (v := 2) hx hb dX10_weight_22 (by decide) ?_
      refine lv_goto (tgt := 27) hx hb dX10_weight_23 (by decide) ?_
      refine m_put (v := .int (2 : Int32)) (ty := .int) hx hb hts hin hown hK hP hD hS 0 (by decide) rfl (hts (.fieldLink RX10 79 "ShadowBenchModel" "thrown" "I") (by decide +kernel)) rfl (by decide +kernel) rfl rfl (upd f 0 (2 : Int32)) g rfl dX10_weight_27 (fun H locs hP hS => ?_)
      refine lv_aload_n hx hb dX10_weight_30 rfl (lv_at hl 0 rfl) ?_
      refine m_get (v := .int (2 : Int32)) hx hb hts hin hown hK hP 0 (by decide) rfl (hts (.fieldLink RX10 79 "ShadowBenchModel" "thrown" "I") (by decide +kernel)) rfl dX10_weight_31 ?_
      refine lv_if_le (tgt := 41) hx hb dX10_weight_34 (by decide) (fun c34 => ?_) (fun c34 => ?_)
      · first | exact absurd c34 (by decide) | exact absurd (by decide) c34
      · skip
        have d34 := c34
        rw [fa_le] at d34
        refine lv_iconst (v := 0) hx hb dX10_weight_37 (by decide) ?_
        refine lv_goto (tgt := 47) hx hb dX10_weight_38 (by decide) ?_
        exact W.iret (v := (0 : Int32)) hx hb hr (fun t ht hW => ⟨⟨_, ((upd f 0 (2 : Int32)), g, r, q), rfl, ⟨(2 : Int32), rfl, (by first | exact Or.inl ⟨b5, rfl⟩ | exact Or.inr ⟨b5, Or.inl ⟨e17.symm.trans c19, rfl, e46⟩⟩ | exact Or.inr ⟨b5, Or.inr ⟨fun z9 => c19 (e17.trans z9), rfl⟩⟩ | (exfalso; first | omega | exact absurd c34 (by decide)))⟩, by unfold mB; rw [ht]; exact hP⟩, hS.F ht⟩) hS.2.2 dX10_weight_47
  · skip
    have b5 := bo_f q2 c5
    refine lv_iconst (v := 1) hx hb dX10_weight_8 (by decide) ?_
    refine lv_goto (tgt := 27) hx hb dX10_weight_9 (by decide) ?_
    refine m_put (v := .int (1 : Int32)) (ty := .int) hx hb hts hin hown hK hP hD hS 0 (by decide) rfl (hts (.fieldLink RX10 79 "ShadowBenchModel" "thrown" "I") (by decide +kernel)) rfl (by decide +kernel) rfl rfl (upd f 0 (1 : Int32)) g rfl dX10_weight_27 (fun H locs hP hS => ?_)
    refine lv_aload_n hx hb dX10_weight_30 rfl (lv_at hl 0 rfl) ?_
    refine m_get (v := .int (1 : Int32)) hx hb hts hin hown hK hP 0 (by decide) rfl (hts (.fieldLink RX10 79 "ShadowBenchModel" "thrown" "I") (by decide +kernel)) rfl dX10_weight_31 ?_
    refine lv_if_le (tgt := 41) hx hb dX10_weight_34 (by decide) (fun c34 => ?_) (fun c34 => ?_)
    · first | exact absurd c34 (by decide) | exact absurd (by decide) c34
    · skip
      have d34 := c34
      rw [fa_le] at d34
      refine lv_iconst (v := 0) hx hb dX10_weight_37 (by decide) ?_
      refine lv_goto (tgt := 47) hx hb dX10_weight_38 (by decide) ?_
      exact W.iret (v := (0 : Int32)) hx hb hr (fun t ht hW => ⟨⟨_, ((upd f 0 (1 : Int32)), g, r, q), rfl, ⟨(1 : Int32), rfl, (by first | exact Or.inl ⟨b5, rfl⟩ | exact Or.inr ⟨b5, Or.inl ⟨e17.symm.trans c19, rfl, e46⟩⟩ | exact Or.inr ⟨b5, Or.inr ⟨fun z9 => c19 (e17.trans z9), rfl⟩⟩ | (exfalso; first | omega | exact absurd c34 (by decide)))⟩, by unfold mB; rw [ht]; exact hP⟩, hS.F ht⟩) hS.2.2 dX10_weight_47
set_option maxHeartbeats 4000000 in
set_option maxRecDepth 100000 in
theorem c_X10_thrown_x (l : Launch) (D : va_G) (cy : Nat → ClassId) (mo : Nat) (a : Nat → Nat) (f : Nat → Int32) (g : Nat → Int64) (r : Nat → Nat → Int32) (q : Nat → Nat → Int64)  (hD : DM cy mo a)  : Mi l D cy mo a yX10_thrown wsX10_thrown ({ frames := 0, cells := 0, slots := 0, locals := 0 }) f g r q [] (fun r0 u => u = (f, g, r, q) ∧ (r0 = f 0)) := by
  refine Met.ofW (cc := cX10_thrown) (maxL := 1) (ret := (some .int)) (by decide) rfl ?_
  intro p e s m args below meth c s₁ B hml hv
  obtain ⟨rfl, hP, hK⟩ := hv
  have hx := B.exec
  have hb := B.bytes
  have hr := B.returns
  have hts := atoms_spec (ws := wsX10_thrown) B.pre
  have hin : ∀ w ∈ u_ws RX10 TX10 35, w ∈ wsX10_thrown := by decide +kernel
  have hown : s.vm.findClass RX10 = some m.cls := findClass_of_methodNamed B.named
  have hlocks := B.notSynchronized
  have hS : va_S (AM mo a) s.heap s.heap [] := va_S.rf
  have hl := lv_entry ([.ref mo]) (n := 1) (Nat.le_of_ble_eq_true rfl)
  rw [lg_entry_eq]
  generalize (lg_sl ([.ref mo]) ++ List.replicate (1 - (lg_sl ([.ref mo])).length) Slot.unset).toArray = ls at hl ⊢
  have hl : lv_has ls 1 [(0, .ref mo)] := hl
  have k_0 : (0 : Int32).toInt = 0 := by decide
  refine lv_aload_n hx hb dX10_thrown_0 rfl (lv_at hl 0 rfl) ?_
  refine m_get (v := .int (f 0)) hx hb hts hin hown hK hP 0 (by decide) rfl (hts (.fieldLink RX10 79 "ShadowBenchModel" "thrown" "I") (by decide +kernel)) rfl dX10_thrown_1 ?_
  exact W.iret (v := (f 0)) hx hb hr (fun t ht hW => ⟨⟨_, (f, g, r, q), rfl, ⟨rfl, rfl⟩, by unfold mB; rw [ht]; exact hP⟩, hS.F ht⟩) hS.2.2 dX10_thrown_4

/-- cells of marked jobs on shelves are no cells of the bench's jobs -/
def dW (G : cG) (jc : Int32) (J : Nat → JT) (fb : Nat → Option Nat) (sx sa : Nat → Nat) : Prop := ∀ i n, i < 8 → fb i = some (sx i) → G (sx i) = some (3, 4, n) → ∀ j : Nat, (j : Int) < jc.toInt → sx i ≠ jX (J j) ∧ sa i ≠ jS (J j) ∧ (jK (J j) = 4 → sa i ≠ jC (J j))
def RlW (cy : Nat → ClassId) (xo : Nat) (G : cG) (W : va_W) (f : Nat → Int32) (r : Nat → Nat → Int32) : Prop := ∃ (bs js sh wk ll : Nat) (lc : Int32) (mo lb : Option Nat) (fa : Nat → Option Nat) (J : Nat → JT) (fb : Nat → Option Nat) (sx sa : Nat → Nat), cIn W xo (.inr (8, [.ref bs, .ref js, .int (f 1), .ref sh, .ref wk, va_rf mo, .ref ll, .int lc, va_rf lb])) ∧ cIn W js (.inl (cy 4, cqa 8 fa)) ∧ RJ cy G W fa (f 1) J r ∧ cIn W sh (.inl (cy 5, cqa 8 fb)) ∧ (∀ i, i < 8 → shW cy G W (fb i) (sx i) (sa i) (r 29 i) (r 31 i)) ∧ dW G (f 1) J fb sx sa
section RLW
variable {cy : Nat → ClassId} {A : Nat → Prop} {xo z1 z2 : Nat} {G G1 : cG} {W W1 : va_W} {f f1 : Nat → Int32} {r r1 : Nat → Nat → Int32} {fa fb : Nat → Option Nat} {J J1 : Nat → JT} {sx sa : Nat → Nat} {jc : Int32} {o : Option Nat} {x a : Nat} {k t : Int32}
/-- a shelf's thing stays where the cells of a marked job stay -/
theorem shW.mv (h : shW cy G W o x a k t) (hD : va_D A W) (hT : cT cy G W) (hE : cE G G1) (hx : ∀ n m, o = some x → G x = some (3, 4, n) → G a = some (14, m, 0) → (∀ e, cIn W x e → cIn W1 x e) ∧ (∀ e, cIn W a e → cIn W1 a e)) : shW cy G1 W1 o x a k t := by
  rcases h with h | ⟨h1, h2, K, w, hh, h3, h4, h5⟩ | ⟨h1, h2, m, h3⟩
  · exact Or.inl h
  · refine Or.inr (Or.inl ⟨h1, h2, K, w, hh, hE _ _ h3, h4, ?_⟩)
    rcases h5 with h5 | ⟨rfl, b, s, tw, y, z, fm, h6, h7, h8⟩
    · exact Or.inl h5
    · obtain ⟨-, -, j9⟩ := w3sh hD hT h3 h4 h6
      obtain ⟨k1, k2⟩ := hx _ _ h1 h3 (cJ4c j9)
      exact Or.inr ⟨rfl, b, s, tw, y, z, fm, k1 _ h6, k2 _ h7, h8⟩
  · exact Or.inr (Or.inr ⟨h1, h2, m, hE _ _ h3⟩)
/-- the shelf's kind in the older table -/
theorem shW.old (h : shW cy G W o x a k t) (ho : o = some x) (hE : cE G G1) {n : Nat} (hg : G1 x = some (3, 4, n)) : G x = some (3, 4, n) := by
  rcases h with ⟨h, -⟩ | ⟨-, -, K, w, hh, h3, -⟩ | ⟨-, -, m, h3⟩
  · rw [h] at ho; cases ho
  · have := hE _ _ h3
    rw [hg] at this
    rw [h3, ← this]
  · have := hE _ _ h3
    rw [hg] at this
    cases this
theorem dW.mv (h : dW G jc J fb sx sa) (hS : ∀ i, i < 8 → shW cy G W (fb i) (sx i) (sa i) (r 29 i) (r 31 i)) (hE : cE G G1) : dW G1 jc J fb sx sa := fun i n hi hf hg => h i n hi hf ((hS i hi).old hf hE hg)
theorem dW.ad (h : dW G jc J fb sx sa) (hA : sAd J J1) : dW G jc J1 fb sx sa := fun i n hi hf hg j hj => by
  obtain ⟨e1, e2, e3, e4⟩ := hA j
  rw [e1, e2, e3, e4]
  exact h i n hi hf hg j hj
theorem RlW.at (h : RlW cy xo G W f r) (hD : va_D A W) {bs js sh wk ll : Nat} {jc lc : Int32} {mo lb : Option Nat} (hM : cIn W xo (.inr (8, [.ref bs, .ref js, .int jc, .ref sh, .ref wk, va_rf mo, .ref ll, .int lc, va_rf lb]))) : jc = f 1 ∧ ∃ fa J fb sx sa, cIn W js (.inl (cy 4, cqa 8 fa)) ∧ RJ cy G W fa jc J r ∧ cIn W sh (.inl (cy 5, cqa 8 fb)) ∧ (∀ i, i < 8 → shW cy G W (fb i) (sx i) (sa i) (r 29 i) (r 31 i)) ∧ dW G jc J fb sx sa := by
  obtain ⟨bs', js', sh', wk', ll', lc', mo', lb', fa, J, fb, sx, sa, h1, h2, h3, h4, h5, h6⟩ := h
  have z := cIn.eq hD hM h1
  simp only [Sum.inr.injEq, Prod.mk.injEq, List.cons.injEq, Value.int.injEq, Value.ref.injEq, and_true, true_and] at z
  obtain ⟨-, e2, e3, e4, -⟩ := z
  subst e2
  subst e3
  subst e4
  exact ⟨rfl, fa, J, fb, sx, sa, h2, h3, h4, h5, h6⟩
/-- shelves stay where kinds 3, 10, 14 stay -/
theorem shWs.keep (hD : va_D A W) (hT : cT cy G W) (hS : ∀ i, i < 8 → shW cy G W (fb i) (sx i) (sa i) (r 29 i) (r 31 i)) {ch : List Nat} (hX : cX none (chs ch) G W G1 W1) (h3 : chs ch 3 = false) (h14 : chs ch 14 = false) (e29 : r1 29 = r 29) (e31 : r1 31 = r 31) : ∀ i, i < 8 → shW cy G1 W1 (fb i) (sx i) (sa i) (r1 29 i) (r1 31 i) := fun i hi => by
  rw [e29, e31]
  exact (hS i hi).mv hD hT hX.1 (fun n m _ g1 g2 => ⟨fun e hi => hX.2.1 _ _ (cP.no g1 h3) hi, fun e hi => hX.2.1 _ _ (cP.no g2 h14) hi⟩)
theorem RlW.shp (h : RlW cy xo G W f r) (hD : va_D A W) (hT : cT cy G W) (hG : G xo = some (7, z1, z2)) {ch : List Nat} (hX : cX none (chs ch) G W G1 W1) (h9 : chs ch 9 = false) (h3 : chs ch 3 = false) (h14 : chs ch 14 = false) (h10 : chs ch 10 = false) {bs js sh wk ll bs1 wk1 ll1 : Nat} {jc lc lc1 : Int32} {mo lb mo1 lb1 : Option Nat} (hM : cIn W xo (.inr (8, [.ref bs, .ref js, .int jc, .ref sh, .ref wk, va_rf mo, .ref ll, .int lc, va_rf lb]))) (hM1 : cIn W1 xo (.inr (8, [.ref bs1, .ref js, .int jc, .ref sh, .ref wk1, va_rf mo1, .ref ll1, .int lc1, va_rf lb1]))) (ef : f1 1 = f 1) (e2 : r1 2 = r 2) (e3 : r1 3 = r 3) (e4 : r1 4 = r 4) (e5 : r1 5 = r 5) (e6 : r1 6 = r 6) (e7 : r1 7 = r 7) (e8 : r1 8 = r 8) (e29 : r1 29 = r 29) (e31 : r1 31 = r 31) : RlW cy xo G1 W1 f1 r1 := by
  obtain ⟨e, fa, J, fb, sx, sa, a1, a2, a3, a4, a5⟩ := h.at hD hM
  obtain ⟨-, -, -, hGj, hGs, -⟩ := w7sh hD hT hG hM
  refine ⟨bs1, js, sh, wk1, ll1, lc1, mo1, lb1, fa, J, fb, sx, sa, (by rw [ef, ← e]; exact hM1), hX.2.1 _ _ (cP.no hGj h9) a1, ?_, hX.2.1 _ _ (cP.no hGs h10) a3, shWs.keep hD hT a4 hX h3 h14 e29 e31, ?_⟩
  · rw [ef, ← e]
    exact a2.keep hD hT hX h3 h14 e2 e3 e4 e5 e6 e7 e8
  · rw [ef, ← e]
    exact a5.mv a4 hX.1
theorem RlW.keep (h : RlW cy xo G W f r) (hD : va_D A W) (hT : cT cy G W) (hG : G xo = some (7, z1, z2)) {ch : List Nat} (hX : cX none (chs ch) G W G1 W1) (h7 : chs ch 7 = false) (h9 : chs ch 9 = false) (h3 : chs ch 3 = false) (h14 : chs ch 14 = false) (h10 : chs ch 10 = false) (ef : f1 1 = f 1) (e2 : r1 2 = r 2) (e3 : r1 3 = r 3) (e4 : r1 4 = r 4) (e5 : r1 5 = r 5) (e6 : r1 6 = r 6) (e7 : r1 7 = r 7) (e8 : r1 8 = r 8) (e29 : r1 29 = r 29) (e31 : r1 31 = r 31) : RlW cy xo G1 W1 f1 r1 := by
  obtain ⟨bs, js, sh, wk, ll, lc, mo, lb, fa, J, fb, sx, sa, a1, -⟩ := id h
  exact h.shp hD hT hG hX h9 h3 h14 h10 a1 (hX.2.1 _ _ (cP.no hG h7) a1) ef e2 e3 e4 e5 e6 e7 e8 e29 e31
/-- one job of the bench changes at its own cells -/
theorem RlW.mut (hD : va_D A W) (hT : cT cy G W) (hJ : RJ cy G W fa jc J r) (hS : ∀ i, i < 8 → shW cy G W (fb i) (sx i) (sa i) (r 29 i) (r 31 i)) (hd : dW G jc J fb sx sa) {j : Int32} {P : Nat → Prop} (hF : cF P W W1) (hq : (okJob jc j ∧ ∀ z, P z → z = jX (J j.toNatClampNeg) ∨ z = jS (J j.toNatClampNeg) ∨ (jK (J j.toNatClampNeg) = 4 ∧ z = jC (J j.toNatClampNeg))) ∨ W1 = W) (e29 : r1 29 = r 29) (e31 : r1 31 = r 31) : ∀ i, i < 8 → shW cy G W1 (fb i) (sx i) (sa i) (r1 29 i) (r1 31 i) := fun i hi => by
  rw [e29, e31]
  rcases hq with ⟨ok, hP⟩ | rfl
  · refine (hS i hi).mv hD hT cE.rf (fun n m hf g1 g2 => ?_)
    have cj := m_cl (x := j) ok.1
    have hj : ((j.toNatClampNeg : Nat) : Int) < jc.toInt := by have := ok.2; omega
    obtain ⟨d1, d2, d3⟩ := hd i n hi hf g1 _ hj
    obtain ⟨k1, k2, k3⟩ := (hJ.at ok).kinds hD hT
    refine ⟨fun e he => hF _ _ (fun y => ?_) he, fun e he => hF _ _ (fun y => ?_) he⟩
    · rcases hP _ y with y | y | ⟨y4, y⟩
      · exact d1 y
      · exact cne g1 k2 (show (3 : Nat) ≠ 14 by decide) y
      · exact cne g1 (k3 y4) (show (3 : Nat) ≠ 14 by decide) y
    · rcases hP _ y with y | y | ⟨y4, y⟩
      · exact cne g2 k1 (show (14 : Nat) ≠ 3 by decide) y
      · exact d2 y
      · exact d3 y4 y
  · exact hS i hi
/-- a shelf gets another thing -/
theorem shWs.put (hD : va_D A W) (hT : cT cy G W) (hJ : RJ cy G W fa jc J r) (hS : ∀ i, i < 8 → shW cy G W (fb i) (sx i) (sa i) (r 29 i) (r 31 i)) (hd : dW G jc J fb sx sa) (hX : cX none (chs [10]) G W G1 W1) {d : Nat} {k' t' : Int32} {m31 : Nat → Int32} (hn : shW cy G1 W1 o x a k' t') (hfr : ∀ n, o = some x → G1 x = some (3, 4, n) → (∀ e, ¬ cIn W x e) ∧ ∀ e, ¬ cIn W a e) (e29 : r1 29 = upd (r 29) d k') (e31 : r1 31 = m31) (m1 : m31 d = t') (m2 : ∀ i, i ≠ d → m31 i = r 31 i) : (∀ i, i < 8 → shW cy G1 W1 (va_up fb d o i) (if i = d then x else sx i) (if i = d then a else sa i) (r1 29 i) (r1 31 i)) ∧ dW G1 jc J (va_up fb d o) (fun i => if i = d then x else sx i) (fun i => if i = d then a else sa i) := by
  refine ⟨fun i hi => ?_, fun i n hi hf hg j hj => ?_⟩
  · rw [e29, e31]
    by_cases z : i = d
    · subst z
      simp only [va_up, upd, if_true]
      rw [m1]
      exact hn
    · simp only [va_up, upd, z, if_false]
      rw [m2 i z]
      exact (hS i hi).mv hD hT hX.1 (fun n m _ g1 g2 => ⟨fun e hi => hX.2.1 _ _ (cP.no g1 rfl) hi, fun e hi => hX.2.1 _ _ (cP.no g2 rfl) hi⟩)
  · by_cases z : i = d
    · subst z
      simp only [va_up, if_true] at hf hg ⊢
      obtain ⟨n1, n2⟩ := hfr n hf hg
      obtain ⟨⟨-, -, -, -, i5, i6⟩, i7, -⟩ := hJ.1 j hj
      exact ⟨fun y => n1 _ (y ▸ i5), fun y => n2 _ (y ▸ i6), fun k4 y => n2 _ (y ▸ (i7 k4).2)⟩
    · simp only [va_up, z, if_false] at hf hg ⊢
      exact hd.mv hS hX.1 i n hi hf hg j hj
/-- a job more on the bench -/
theorem dW.add (h : dW G jc J fb sx sa) (hS : ∀ i, i < 8 → shW cy G W (fb i) (sx i) (sa i) (r 29 i) (r 31 i)) (hE : cE G G1) (h0 : 0 ≤ jc.toInt) {jc1 : Int32} (e1 : jc1.toInt = jc.toInt + 1) (hi9 : ∀ i : Nat, (i : Int) < jc.toInt → J1 i = J i) (hx : ∀ e, ¬ cIn W (jX (J1 jc.toNatClampNeg)) e) (hs : ∀ e, ¬ cIn W (jS (J1 jc.toNatClampNeg)) e) (hc : jK (J1 jc.toNatClampNeg) = 4 → ∀ e, ¬ cIn W (jC (J1 jc.toNatClampNeg)) e) : dW G1 jc1 J1 fb sx sa := fun i n hi hf hg j hj => by
  have cj := m_cl (x := jc) h0
  by_cases z : (j : Int) < jc.toInt
  · rw [hi9 j z]
    exact h.mv hS hE i n hi hf hg j z
  · rw [show j = jc.toNatClampNeg by omega]
    have g0 := (hS i hi).old hf hE hg
    rcases hS i hi with ⟨y, -⟩ | ⟨-, -, K, w, hh, h3, h4, h5⟩ | ⟨-, -, m, h3⟩
    · rw [y] at hf; cases hf
    · rcases h5 with ⟨h5, -⟩ | ⟨-, b, s, tw, y, z', fm, h6, h7, -⟩
      · rw [g0] at h3
        simp only [Option.some.injEq, Prod.mk.injEq, true_and] at h3
        exact absurd h3.1.symm h5
      · exact ⟨fun y => hx _ (y ▸ h6), fun y => hs _ (y ▸ h7), fun k4 y => hc k4 _ (y ▸ h7)⟩
    · rw [g0] at h3; cases h3
/-- keep on both sides -/
theorem RlW.kept (hD : va_D A W) (hT : cT cy G W) (hG : G xo = some (7, z1, z2)) (hX : cX none (chs [10]) G W G1 W1) {bs js sh wk ll : Nat} {lc : Int32} {mo lb : Option Nat} (hM : cIn W xo (.inr (8, [.ref bs, .ref js, .int (f 1), .ref sh, .ref wk, va_rf mo, .ref ll, .int lc, va_rf lb]))) (hfa : cIn W js (.inl (cy 4, cqa 8 fa))) (hJ : RJ cy G W fa (f 1) J r) (hS : ∀ i, i < 8 → shW cy G W (fb i) (sx i) (sa i) (r 29 i) (r 31 i)) (hd : dW G (f 1) J fb sx sa) (hI : MI f r) {d what k0 : Int32} {P Q : Prop} (hP : P → what.toInt = 1 → okJob (f 1) k0) (hPQ : P ↔ Q)
    (hc : (P ∧ ∃ o9 x9 a9, cIn W1 sh (.inl (cy 5, cqa 8 (va_up fb d.toNatClampNeg o9))) ∧ kpW cy W G1 W1 o9 x9 a9 what (jK (J k0.toNatClampNeg)) (jW (J k0.toNatClampNeg)) (jH (J k0.toNatClampNeg)) (jG (J k0.toNatClampNeg))) ∨ (¬ P ∧ cIn W1 sh (.inl (cy 5, cqa 8 fb))))
    (hr : (Q ∧ r1 29 = upd (r 29) d.toNatClampNeg what ∧ (what.toInt = 1 → r1 31 = upd (r 31) d.toNatClampNeg (heR (r 2 k0.toNatClampNeg) (r 3 k0.toNatClampNeg).toNatClampNeg (r 4 k0.toNatClampNeg).toNatClampNeg (smN (fun s9 => r 8 (36 * k0.toNatClampNeg + s9)) 36))) ∧ (¬ what.toInt = 1 → r1 31 = r 31)) ∨ (¬ Q ∧ r1 29 = r 29 ∧ r1 31 = r 31)) (ef : f1 1 = f 1) (e2 : r1 2 = r 2) (e3 : r1 3 = r 3) (e4 : r1 4 = r 4) (e5 : r1 5 = r 5) (e6 : r1 6 = r 6) (e7 : r1 7 = r 7) (e8 : r1 8 = r 8) : RlW cy xo G1 W1 f1 r1 := by
  obtain ⟨-, -, -, hGj, -, -⟩ := w7sh hD hT hG hM
  have hM1 := hX.2.1 _ _ (cP.no hG rfl) hM
  have hfa1 := hX.2.1 _ _ (cP.no hGj rfl) hfa
  have hJ1 := hJ.keep hD hT hX rfl rfl e2 e3 e4 e5 e6 e7 e8
  have cc : ∀ {v : Int32}, what.toInt = v.toInt → what = v := fun e => Int32.toInt_inj.mp e
  have fin : ∀ (fb' : Nat → Option Nat) (sx' sa' : Nat → Nat), cIn W1 sh (.inl (cy 5, cqa 8 fb')) → (∀ i, i < 8 → shW cy G1 W1 (fb' i) (sx' i) (sa' i) (r1 29 i) (r1 31 i)) → dW G1 (f 1) J fb' sx' sa' → RlW cy xo G1 W1 f1 r1 := fun fb' sx' sa' g1 g2 g3 =>
    ⟨_, _, _, _, _, _, _, _, fa, J, fb', sx', sa', (by rw [ef]; exact hM1), hfa1, (by rw [ef]; exact hJ1), g1, g2, (by rw [ef]; exact g3)⟩
  rcases hc with ⟨ok, o9, x9, a9, c1, c2⟩ | ⟨no, c1⟩
  · rcases hr with ⟨-, m1, m2, m3⟩ | ⟨no, -⟩
    · rcases c2 with ⟨y1, y2⟩ | ⟨y1, y2, y3⟩ | ⟨y1, y2, y3⟩
      · obtain ⟨p1, p2⟩ := shWs.put (x := 0) (a := 0) (t' := r 31 d.toNatClampNeg) hD hT hJ hS hd hX (Or.inl ⟨y2, cc (v := 0) y1⟩) (fun n y => by rw [y2] at y; cases y) m1 (m3 (by omega)) rfl (fun _ _ => rfl)
        exact fin _ _ _ c1 p1 p2
      · have oj := hP ok y1
        have at9 := hJ.at oj
        have b := at9.2.2
        have sz := hJ.sz oj
        have kd := hI.2.1 k0 oj.1 oj.2
        obtain ⟨q1, q2, q3⟩ := y3
        have hv : heR (r 2 k0.toNatClampNeg) (r 3 k0.toNatClampNeg).toNatClampNeg (r 4 k0.toNatClampNeg).toNatClampNeg (smN (fun s9 => r 8 (36 * k0.toNatClampNeg + s9)) 36) = heV (jK (J k0.toNatClampNeg)) (jW (J k0.toNatClampNeg)) (jH (J k0.toNatClampNeg)) (if jK (J k0.toNatClampNeg) = 4 then smN (jG (J k0.toNatClampNeg)) (jW (J k0.toNatClampNeg) * jH (J k0.toNatClampNeg)) else 0) := by
          rw [heR_eq kd.2.2, ← b.1, ← sz.1, ← sz.2]
          by_cases k4 : jK (J k0.toNatClampNeg) = 4
          · rw [if_pos k4, smN_z (m := jW (J k0.toNatClampNeg) * jH (J k0.toNatClampNeg)) 36 (cb_mul at9.1.2.2.1).2 (fun e h1 h2 => b.2.2.2.2.2.2.2.2.1 e h1 h2), smN_cg (g := jG (J k0.toNatClampNeg)) _ (fun e he => (b.2.2.2.2.2.2.2.1 k4 e he).symm)]
          · rw [if_neg k4]
            unfold heV
            split
            · rfl
            · split
              · rfl
              · split
                · rfl
                · exfalso
                  have := at9.1.2.1
                  obtain ⟨_, hi, b', s', w', h', t', x', y', ms', rfl, -, -, hJk⟩ := hT _ _ at9.1.2.1
                  have kc := hJk.kc
                  unfold cKc at kc
                  omega
        obtain ⟨p1, p2⟩ := shWs.put (a := a9) hD hT hJ hS hd hX (k' := what) (t' := heV (jK (J k0.toNatClampNeg)) (jW (J k0.toNatClampNeg)) (jH (J k0.toNatClampNeg)) (if jK (J k0.toNatClampNeg) = 4 then smN (jG (J k0.toNatClampNeg)) (jW (J k0.toNatClampNeg) * jH (J k0.toNatClampNeg)) else 0)) (Or.inr (Or.inl ⟨y2, cc (v := 1) y1, _, _, _, q1, at9.1.2.2.1, (by
          by_cases k4 : jK (J k0.toNatClampNeg) = 4
          · obtain ⟨-, -, b9, s9, t9, yy, zz, F, r1', r2', r3'⟩ := q3 k4
            exact Or.inr ⟨k4, b9, s9, t9, yy, zz, F, r1', r2', by rw [k4, if_pos rfl, smN_cg _ r3']⟩
          · exact Or.inl ⟨k4, by rw [if_neg k4]⟩)⟩)) (fun n _ hg => by
          rw [q1] at hg
          simp only [Option.some.injEq, Prod.mk.injEq, true_and] at hg
          exact ⟨q2, (q3 hg.1).1⟩) m1 (m2 y1) (by rw [hv]; simp only [upd, if_true]) (fun i hi => by simp only [upd, hi, if_false])
        exact fin _ _ _ c1 p1 p2
      · obtain ⟨m, y3⟩ := y3
        obtain ⟨p1, p2⟩ := shWs.put (a := 0) (t' := r 31 d.toNatClampNeg) hD hT hJ hS hd hX (Or.inr (Or.inr ⟨y2, y1, m, y3⟩)) (fun n _ hg => by rw [y3] at hg; cases hg) m1 (m3 (by omega)) rfl (fun _ _ => rfl)
        exact fin _ _ _ c1 p1 p2
    · exact absurd (hPQ.mp ok) no
  · rcases hr with ⟨ok, -⟩ | ⟨-, m1, m2⟩
    · exact absurd (hPQ.mpr ok) no
    · exact fin _ _ _ c1 (shWs.keep hD hT hS hX rfl rfl m1 m2) (hd.mv hS hX.1)
/-- make on both sides -/
theorem RlW.made (hD : va_D A W) (hT : cT cy G W) (hG : G xo = some (7, z1, z2)) (hX : cX none (chs [10]) G W G1 W1) {bs js sh wk ll : Nat} {lc : Int32} {mo lb : Option Nat} (hM : cIn W xo (.inr (8, [.ref bs, .ref js, .int (f 1), .ref sh, .ref wk, va_rf mo, .ref ll, .int lc, va_rf lb]))) (hfa : cIn W js (.inl (cy 4, cqa 8 fa))) (hJ : RJ cy G W fa (f 1) J r) (hS : ∀ i, i < 8 → shW cy G W (fb i) (sx i) (sa i) (r 29 i) (r 31 i)) (hd : dW G (f 1) J fb sx sa) {d what n : Int32}
    (hc : (mkOk d what n ∧ ∃ x a z, cIn W1 sh (.inl (cy 5, cqa 8 (va_up fb d.toNatClampNeg (some x)))) ∧ G1 x = some (4, n.toNatClampNeg, 0) ∧ G1 a = some (16, n.toNatClampNeg, 0) ∧ (∀ e, ¬ cIn W a e) ∧ cIn W1 x (.inr (6, [.int z, .ref a])) ∧ cIn W1 a (.inl (cy 1, n.toNatClampNeg, .inr (.inl (fun _ => 0)))) ∧ ((z = 1 ∧ what.toInt = 3) ∨ (z = 0 ∧ what.toInt = 4))) ∨ (¬ mkOk d what n ∧ cIn W1 sh (.inl (cy 5, cqa 8 fb))))
    (hr : (mkOk d what n ∧ r1 29 = upd (r 29) d.toNatClampNeg what) ∨ (¬ mkOk d what n ∧ r1 29 = r 29)) (e31 : r1 31 = r 31) (ef : f1 1 = f 1) (e2 : r1 2 = r 2) (e3 : r1 3 = r 3) (e4 : r1 4 = r 4) (e5 : r1 5 = r 5) (e6 : r1 6 = r 6) (e7 : r1 7 = r 7) (e8 : r1 8 = r 8) : RlW cy xo G1 W1 f1 r1 := by
  obtain ⟨-, -, -, hGj, -, -⟩ := w7sh hD hT hG hM
  have hM1 := hX.2.1 _ _ (cP.no hG rfl) hM
  have hfa1 := hX.2.1 _ _ (cP.no hGj rfl) hfa
  have hJ1 := hJ.keep hD hT hX rfl rfl e2 e3 e4 e5 e6 e7 e8
  have fin : ∀ (fb' : Nat → Option Nat) (sx' sa' : Nat → Nat), cIn W1 sh (.inl (cy 5, cqa 8 fb')) → (∀ i, i < 8 → shW cy G1 W1 (fb' i) (sx' i) (sa' i) (r1 29 i) (r1 31 i)) → dW G1 (f 1) J fb' sx' sa' → RlW cy xo G1 W1 f1 r1 := fun fb' sx' sa' g1 g2 g3 =>
    ⟨_, _, _, _, _, _, _, _, fa, J, fb', sx', sa', (by rw [ef]; exact hM1), hfa1, (by rw [ef]; exact hJ1), g1, g2, (by rw [ef]; exact g3)⟩
  rcases hc with ⟨ok, x, a, z, c1, c2, -, -, -, -, c7⟩ | ⟨no, c1⟩
  · rcases hr with ⟨-, m1⟩ | ⟨no, -⟩
    · obtain ⟨p1, p2⟩ := shWs.put (x := x) (a := 0) (t' := r 31 d.toNatClampNeg) hD hT hJ hS hd hX (Or.inr (Or.inr ⟨rfl, (by rcases c7 with ⟨-, y⟩ | ⟨-, y⟩ <;> omega), _, c2⟩)) (fun n _ hg => by rw [c2] at hg; cases hg) m1 e31 rfl (fun _ _ => rfl)
      exact fin _ _ _ c1 p1 p2
    · exact absurd ok no
  · rcases hr with ⟨ok, -⟩ | ⟨-, m1⟩
    · exact absurd ok no
    · exact fin _ _ _ c1 (shWs.keep hD hT hS hX rfl rfl m1 e31) (hd.mv hS hX.1)
end RLW

theorem okKeep_cg {jc d what k : Int32} {p : Int64} {w h : Nat} {Wd Ht : Nat → Nat} (e : okJob jc k → w = Wd k.toNatClampNeg ∧ h = Ht k.toNatClampNeg) : okKeep jc (fun _ => w) (fun _ => h) d what k p ↔ okKeep jc Wd Ht d what k p := by
  unfold okKeep
  constructor
  · rintro ⟨a, b | b | ⟨b, c, f⟩⟩
    · exact ⟨a, Or.inl b⟩
    · exact ⟨a, Or.inr (Or.inl b)⟩
    · exact ⟨a, Or.inr (Or.inr ⟨b, c, by rw [← (e c).1, ← (e c).2]; exact f⟩)⟩
  · rintro ⟨a, b | b | ⟨b, c, f⟩⟩
    · exact ⟨a, Or.inl b⟩
    · exact ⟨a, Or.inr (Or.inl b)⟩
    · exact ⟨a, Or.inr (Or.inr ⟨b, c, by rw [(e c).1, (e c).2]; exact f⟩)⟩
section RLJ
variable {cy : Nat → ClassId} {A : Nat → Prop} {G G1 : cG} {W W1 : va_W} {r r1 : Nat → Nat → Int32} {fa : Nat → Option Nat} {J : Nat → JT} {jc : Int32}
/-- cells of other kinds stay where one job changes -/
theorem RJ.fr (h : RJ cy G W fa jc J r) (hD : va_D A W) (hT : cT cy G W) {j : Int32} {P : Nat → Prop} (hF : cF P W W1) (hq : (okJob jc j ∧ ∀ z, P z → z = jX (J j.toNatClampNeg) ∨ z = jS (J j.toNatClampNeg) ∨ (jK (J j.toNatClampNeg) = 4 ∧ z = jC (J j.toNatClampNeg))) ∨ W1 = W) {z : Nat} {t : Nat × Nat × Nat} (hg : G z = some t) (h3 : t.1 ≠ 3) (h14 : t.1 ≠ 14) {e : va_E} (he : cIn W z e) : cIn W1 z e := by
  rcases hq with ⟨ok, hP⟩ | rfl
  · obtain ⟨k1, k2, k3⟩ := (h.at ok).kinds hD hT
    refine hF _ _ (fun y => ?_) he
    rcases hP _ y with y | y | ⟨y4, y⟩
    · exact cne hg k1 h3 y
    · exact cne hg k2 h14 y
    · exact cne hg (k3 y4) h14 y
  · exact he
end RLJ
section LW6
variable {p : Program} {l : Launch} {e : Env} {R : Room} {s : State} {m : MethodId} {args : Array Value} {below : List Frame} {meth : Method} {c : Code} {H : Heap} {locs : List Loc} {cells slots : Nat} {Q : State → Prop}
variable {y : MethodName} {bytes cc : ByteArray} {maxL nL n index mc ms : Nat} {ret : Option FieldType} {wc Ts : List Cond} {rm : Room} {own C : String} {As rest st0 av : List Value} {pc : Nat} {ls : Array Slot} {D : va_G} {cy : Nat → ClassId} {xo mo ou : Nat} {a : Nat → Nat} {M : Option Nat} {G : cG} {W' : va_W} {f : Nat → Int32} {g : Nat → Int64} {r : Nat → Nat → Int32} {q : Nat → Nat → Int64} {a9 : Array Value}
theorem lk6 {post : Int32 → va_W → Prop} {P : Nat → Prop} (I : LI D cy s xo mo ou a M G W' f g r q H locs) (hr : va_Run p l e R s m args below meth c H locs cells slots mc ms (F0 m pc ls st0) rest (va_Qi (fun r0 u => ∃ w1, u = (G, w1) ∧ cF P W' w1 ∧ post r0 w1) (cB D cy (AC s mo a)) (AC s mo a) a9) (AC s mo a))
    (hsh : ∀ r0 w1, cF P W' w1 → post r0 w1 → ∀ e, cIn W' xo e → cIn w1 xo e)
    (kk : ∀ (r0 : Int32) (w1 : va_W) (H1 : Heap) (locs1 : List Loc), cF P W' w1 → post r0 w1 → LI D cy s xo mo ou a M G w1 f g r q H1 locs1 → W p l e R s m args below meth c H1 locs1 (cells + mc) (slots + ms) Q (F0 m (pc + 3) ls (.int r0 :: rest))) : W p l e R s m args below meth c H locs cells slots Q (F0 m pc ls st0) :=
  va_calli hr I.2.2.2.2.2.2.2.2.1 (fun _ _ h => h.1) (fun _ h => h.1) (fun r0 u t H1 locs1 ht hvm hp hB hz hk hS => by
    obtain ⟨h1, h2, h3⟩ := hB
    obtain ⟨w1, rfl, hF, hp⟩ := hp
    rw [ht] at h1
    obtain ⟨bs, js, sh, wk, ll, jc, lc, lb, hM⟩ := I.2.2.2.2.2.2.2.1
    exact kk r0 w1 H1 locs1 hF hp (I.cla h1 h2 h3 cE.rf ⟨bs, js, sh, wk, ll, jc, lc, lb, hsh r0 w1 hF hp _ hM⟩ hz hk hS))
end LW6
section LWR
variable {p : Program} {l : Launch} {e : Env} {R : Room} {s : State} {m : MethodId} {args : Array Value} {below : List Frame} {meth : Method} {c : Code} {H : Heap} {locs : List Loc} {cells slots : Nat} {Q : State → Prop}
variable {y : MethodName} {bytes cc : ByteArray} {maxL nL n index mc ms : Nat} {ret : Option FieldType} {wc Ts : List Cond} {rm : Room} {own C : String} {As rest st0 av : List Value} {pc : Nat} {ls : Array Slot} {D : va_G} {cy : Nat → ClassId} {xo mo ou : Nat} {a : Nat → Nat} {M : Option Nat} {G : cG} {W' : va_W} {f : Nat → Int32} {g : Nat → Int64} {r : Nat → Nat → Int32} {q : Nat → Nat → Int64} {a9 : Array Value}
theorem lk3_i {ch : List Nat} {post : Int32 → cS → Prop} (I : LI D cy s xo mo ou a M G W' f g r q H locs) (hr : va_Run p l e R s m args below meth c H locs cells slots mc ms (F0 m pc ls st0) rest (va_Qi (fun r0 u => cX none (chs ch) G W' u.1 u.2 ∧ post r0 u) (cB D cy (AC s mo a)) (AC s mo a) a9) (AC s mo a)) (h7 : chs ch 7 = false)
    (kk : ∀ (r0 : Int32) (u : cS) (H1 : Heap) (locs1 : List Loc), post r0 u → cX none (chs ch) G W' u.1 u.2 → LI D cy s xo mo ou a M u.1 u.2 f g r q H1 locs1 → W p l e R s m args below meth c H1 locs1 (cells + mc) (slots + ms) Q (F0 m (pc + 3) ls (.int r0 :: rest))) : W p l e R s m args below meth c H locs cells slots Q (F0 m pc ls st0) :=
  va_calli hr I.2.2.2.2.2.2.2.2.1 (fun _ _ h => h.1) (fun _ h => h.1) (fun r0 u t H1 locs1 ht hvm hp hB hz hk hS => by
    obtain ⟨h1, h2, h3⟩ := hB
    rw [ht] at h1
    obtain ⟨bs, js, sh, wk, ll, jc, lc, lb, hM⟩ := I.2.2.2.2.2.2.2.1
    exact kk r0 u H1 locs1 hp.2 hp.1 (I.cla h1 h2 h3 hp.1.1 ⟨bs, js, sh, wk, ll, jc, lc, lb, hp.1.2.1 _ _ (cP.no I.2.2.2.2.1 h7) hM⟩ hz hk hS))
theorem lk3_l {ch : List Nat} {post : Int64 → cS → Prop} (I : LI D cy s xo mo ou a M G W' f g r q H locs) (hr : va_Run p l e R s m args below meth c H locs cells slots mc ms (F0 m pc ls st0) rest (va_Ql (fun r0 u => cX none (chs ch) G W' u.1 u.2 ∧ post r0 u) (cB D cy (AC s mo a)) (AC s mo a) a9) (AC s mo a)) (h7 : chs ch 7 = false)
    (kk : ∀ (r0 : Int64) (u : cS) (H1 : Heap) (locs1 : List Loc), post r0 u → cX none (chs ch) G W' u.1 u.2 → LI D cy s xo mo ou a M u.1 u.2 f g r q H1 locs1 → W p l e R s m args below meth c H1 locs1 (cells + mc) (slots + ms) Q (F0 m (pc + 3) ls (.long r0 :: rest))) : W p l e R s m args below meth c H locs cells slots Q (F0 m pc ls st0) :=
  va_calll hr I.2.2.2.2.2.2.2.2.1 (fun _ _ h => h.1) (fun _ h => h.1) (fun r0 u t H1 locs1 ht hvm hp hB hz hk hS => by
    obtain ⟨h1, h2, h3⟩ := hB
    rw [ht] at h1
    obtain ⟨bs, js, sh, wk, ll, jc, lc, lb, hM⟩ := I.2.2.2.2.2.2.2.1
    exact kk r0 u H1 locs1 hp.2 hp.1 (I.cla h1 h2 h3 hp.1.1 ⟨bs, js, sh, wk, ll, jc, lc, lb, hp.1.2.1 _ _ (cP.no I.2.2.2.2.1 h7) hM⟩ hz hk hS))
theorem lk3_ri {post : Int32 → cS → Prop} (I : LI D cy s xo mo ou a M G W' f g r q H locs) (hr : va_Run p l e R s m args below meth c H locs cells slots mc ms (F0 m pc ls st0) rest (va_Qi (fun r0 u => u = (G, W') ∧ post r0 u) (cB D cy (AC s mo a)) (AC s mo a) a9) (AC s mo a))
    (kk : ∀ (r0 : Int32) (u : cS) (H1 : Heap) (locs1 : List Loc), post r0 u → cX none (chs []) G W' u.1 u.2 → LI D cy s xo mo ou a M u.1 u.2 f g r q H1 locs1 → W p l e R s m args below meth c H1 locs1 (cells + mc) (slots + ms) Q (F0 m (pc + 3) ls (.int r0 :: rest))) : W p l e R s m args below meth c H locs cells slots Q (F0 m pc ls st0) :=
  va_calli hr I.2.2.2.2.2.2.2.2.1 (fun _ _ h => h.1) (fun _ h => h.1) (fun r0 u t H1 locs1 ht hvm hp hB hz hk hS => by
    obtain ⟨h1, h2, h3⟩ := hB
    obtain ⟨rfl, hp⟩ := hp
    rw [ht] at h1
    exact kk r0 _ H1 locs1 hp cX.rf (I.cla h1 h2 h3 cE.rf I.2.2.2.2.2.2.2.1 hz hk hS))
theorem lk3_rl {post : Int64 → cS → Prop} (I : LI D cy s xo mo ou a M G W' f g r q H locs) (hr : va_Run p l e R s m args below meth c H locs cells slots mc ms (F0 m pc ls st0) rest (va_Ql (fun r0 u => u = (G, W') ∧ post r0 u) (cB D cy (AC s mo a)) (AC s mo a) a9) (AC s mo a))
    (kk : ∀ (r0 : Int64) (u : cS) (H1 : Heap) (locs1 : List Loc), post r0 u → cX none (chs []) G W' u.1 u.2 → LI D cy s xo mo ou a M u.1 u.2 f g r q H1 locs1 → W p l e R s m args below meth c H1 locs1 (cells + mc) (slots + ms) Q (F0 m (pc + 3) ls (.long r0 :: rest))) : W p l e R s m args below meth c H locs cells slots Q (F0 m pc ls st0) :=
  va_calll hr I.2.2.2.2.2.2.2.2.1 (fun _ _ h => h.1) (fun _ h => h.1) (fun r0 u t H1 locs1 ht hvm hp hB hz hk hS => by
    obtain ⟨h1, h2, h3⟩ := hB
    obtain ⟨rfl, hp⟩ := hp
    rw [ht] at h1
    exact kk r0 _ H1 locs1 hp cX.rf (I.cla h1 h2 h3 cE.rf I.2.2.2.2.2.2.2.1 hz hk hS))
theorem lk3_s {ch : List Nat} {post : Int32 → cS → Prop} (I : LI D cy s xo mo ou a M G W' f g r q H locs) (hr : va_Run p l e R s m args below meth c H locs cells slots mc ms (F0 m pc ls st0) rest (va_Qi (fun r0 u => cX none (chs ch) G W' u.1 u.2 ∧ post r0 u) (cB D cy (AC s mo a)) (AC s mo a) a9) (AC s mo a))
    (hsh : ∀ r0 u, post r0 u → ∃ (bs js sh wk ll : Nat) (jc lc : Int32) (lb : Option Nat), cIn u.2 xo (.inr (8, [.ref bs, .ref js, .int jc, .ref sh, .ref wk, va_rf M, .ref ll, .int lc, va_rf lb])))
    (kk : ∀ (r0 : Int32) (u : cS) (H1 : Heap) (locs1 : List Loc), post r0 u → cX none (chs ch) G W' u.1 u.2 → LI D cy s xo mo ou a M u.1 u.2 f g r q H1 locs1 → W p l e R s m args below meth c H1 locs1 (cells + mc) (slots + ms) Q (F0 m (pc + 3) ls (.int r0 :: rest))) : W p l e R s m args below meth c H locs cells slots Q (F0 m pc ls st0) :=
  va_calli hr I.2.2.2.2.2.2.2.2.1 (fun _ _ h => h.1) (fun _ h => h.1) (fun r0 u t H1 locs1 ht hvm hp hB hz hk hS => by
    obtain ⟨h1, h2, h3⟩ := hB
    obtain ⟨hX, hp⟩ := hp
    rw [ht] at h1
    exact kk r0 _ H1 locs1 hp hX (I.cla h1 h2 h3 hX.1 (hsh r0 u hp) hz hk hS))
end LWR

section ANS6
variable {cy : Nat → ClassId} {G : cG} {W : va_W} {fa : Nat → Option Nat} {jc : Int32} {J : Nat → JT} {r : Nat → Nat → Int32} {j x y : Int32}
theorem un_eq (h : RJ cy G W fa jc J r) {way : Int32} (hx : (okUn9 jc j way ∧ x = (if tB (jL (J j.toNatClampNeg)) way.toNatClampNeg then 1 else 0)) ∨ (¬ okUn9 jc j way ∧ x = -1)) (hy : (okUn9 jc j way ∧ y = (if r 6 (4 * j.toNatClampNeg + way.toNatClampNeg) = 0 then 0 else 1)) ∨ (¬ okUn9 jc j way ∧ y = -1)) : x = y := by
  rcases hx with ⟨a, b⟩ | ⟨a, b⟩ <;> rcases hy with ⟨c, d⟩ | ⟨c, d⟩
  · have w0 := a.2
    have cw := m_cl (x := way) (by omega)
    have e := (h.at a.1).2.2.2.2.2.1 way.toNatClampNeg (by omega)
    rw [b, d]
    cases hb : tB (jL (J j.toNatClampNeg)) way.toNatClampNeg
    · rw [if_pos (e.mpr hb)]; rfl
    · rw [if_neg (show ¬ r 6 (4 * j.toNatClampNeg + way.toNatClampNeg) = 0 from fun z => by rw [e.mp z] at hb; cases hb)]; rfl
  · exact absurd a c
  · exact absurd c a
  · rw [b, d]
theorem ho_eq (h : RJ cy G W fa jc J r) {s how : Int32} (hx : (okHold9 jc (jW (J j.toNatClampNeg)) (jH (J j.toNatClampNeg)) j s how ∧ x = hH (jO (J j.toNatClampNeg)) (jNn (J j.toNatClampNeg)) s.toNatClampNeg) ∨ (¬ okHold9 jc (jW (J j.toNatClampNeg)) (jH (J j.toNatClampNeg)) j s how ∧ x = -1)) (hy : (okHold9 jc (r 3 j.toNatClampNeg).toNatClampNeg (r 4 j.toNatClampNeg).toNatClampNeg j s how ∧ y = r 7 (36 * j.toNatClampNeg + s.toNatClampNeg)) ∨ (¬ okHold9 jc (r 3 j.toNatClampNeg).toNatClampNeg (r 4 j.toNatClampNeg).toNatClampNeg j s how ∧ y = -1)) : x = y := by
  rcases hx with ⟨a, b⟩ | ⟨a, b⟩ <;> rcases hy with ⟨c, d⟩ | ⟨c, d⟩
  · have w0 := a.2.1
    have cw := m_cl (x := s) w0.1
    rw [b, d]
    exact ((h.at a.1).2.2.2.2.2.2.2.1 s.toNatClampNeg (by omega)).1.symm
  · have sz := h.sz a.1; exact absurd ⟨a.1, by rw [← sz.1, ← sz.2]; exact a.2.1, a.2.2⟩ c
  · have sz := h.sz c.1; exact absurd ⟨c.1, by rw [sz.1, sz.2]; exact c.2.1, c.2.2⟩ a
  · rw [b, d]
theorem ma_eq (h : RJ cy G W fa jc J r) {s v : Int32} (hx : (okMark9 jc (jW (J j.toNatClampNeg)) (jH (J j.toNatClampNeg)) j s v ∧ ((jK (J j.toNatClampNeg) = 4 ∧ Bo x (¬ jG (J j.toNatClampNeg) s.toNatClampNeg = v)) ∨ (¬ jK (J j.toNatClampNeg) = 4 ∧ x = -4))) ∨ (¬ okMark9 jc (jW (J j.toNatClampNeg)) (jH (J j.toNatClampNeg)) j s v ∧ x = -1)) (hy : (okMark9 jc (r 3 j.toNatClampNeg).toNatClampNeg (r 4 j.toNatClampNeg).toNatClampNeg j s v ∧ ((r 2 j.toNatClampNeg = 3 ∧ y = (if r 8 (36 * j.toNatClampNeg + s.toNatClampNeg) = v then 0 else 1)) ∨ (¬ r 2 j.toNatClampNeg = 3 ∧ y = -4))) ∨ (¬ okMark9 jc (r 3 j.toNatClampNeg).toNatClampNeg (r 4 j.toNatClampNeg).toNatClampNeg j s v ∧ y = -1)) : x = y := by
  rcases hx with ⟨a, b⟩ | ⟨a, b⟩ <;> rcases hy with ⟨c, d⟩ | ⟨c, d⟩
  · have w0 := a.2.1
    have cw := m_cl (x := s) w0.1
    have kk := (h.at a.1).2.2.1
    rcases b with ⟨k4, b⟩ | ⟨k4, b⟩ <;> rcases d with ⟨r3, d⟩ | ⟨r3, d⟩
    · have e := (h.at a.1).2.2.2.2.2.2.2.2.2.1 k4 s.toNatClampNeg (by omega)
      rw [d, ← e]
      rcases b with ⟨b1, b2⟩ | ⟨b1, b2⟩
      · rw [b1, if_neg b2]
      · rw [b1, if_pos (Classical.not_not.mp b2)]
    · exact absurd (kcl_4.mp (kk.symm.trans k4)) r3
    · exact absurd (kk.trans (kcl_4.mpr r3)) k4
    · rw [b, d]
  · have sz := h.sz a.1; exact absurd ⟨a.1, by rw [← sz.1, ← sz.2]; exact a.2.1, a.2.2⟩ c
  · have sz := h.sz c.1; exact absurd ⟨c.1, by rw [sz.1, sz.2]; exact c.2.1, c.2.2⟩ a
  · rw [b, d]
theorem su_eq (h : RJ cy G W fa jc J r) {way line v : Int32} (hx : (okSum9 jc (jW (J j.toNatClampNeg)) (jH (J j.toNatClampNeg)) j way line v ∧ x = 0) ∨ (¬ okSum9 jc (jW (J j.toNatClampNeg)) (jH (J j.toNatClampNeg)) j way line v ∧ x = -1)) (hy : (okSum9 jc (r 3 j.toNatClampNeg).toNatClampNeg (r 4 j.toNatClampNeg).toNatClampNeg j way line v ∧ y = 0) ∨ (¬ okSum9 jc (r 3 j.toNatClampNeg).toNatClampNeg (r 4 j.toNatClampNeg).toNatClampNeg j way line v ∧ y = -1)) : x = y := by
  rcases hx with ⟨a, b⟩ | ⟨a, b⟩ <;> rcases hy with ⟨c, d⟩ | ⟨c, d⟩
  · rw [b, d]
  · have sz := h.sz a.1; exact absurd ⟨a.1, by rw [← sz.1, ← sz.2]; exact a.2.1, a.2.2⟩ c
  · have sz := h.sz c.1; exact absurd ⟨c.1, by rw [sz.1, sz.2]; exact c.2.1, c.2.2⟩ a
  · rw [b, d]
theorem ca_eq (h : RJ cy G W fa jc J r) {way b0 : Int32} {p : Int64} (hx : (okCast9 jc (jW (J j.toNatClampNeg)) (jH (J j.toNatClampNeg)) j way p ∧ x = b0) ∨ (¬ okCast9 jc (jW (J j.toNatClampNeg)) (jH (J j.toNatClampNeg)) j way p ∧ x = -1)) (hy : (okCast9 jc (r 3 j.toNatClampNeg).toNatClampNeg (r 4 j.toNatClampNeg).toNatClampNeg j way p ∧ y = b0) ∨ (¬ okCast9 jc (r 3 j.toNatClampNeg).toNatClampNeg (r 4 j.toNatClampNeg).toNatClampNeg j way p ∧ y = -1)) : x = y := by
  rcases hx with ⟨a, b⟩ | ⟨a, b⟩ <;> rcases hy with ⟨c, d⟩ | ⟨c, d⟩
  · rw [b, d]
  · have sz := h.sz a.1; exact absurd ⟨a.1, a.2.1, by rw [← sz.1, ← sz.2]; exact a.2.2⟩ c
  · have sz := h.sz c.1; exact absurd ⟨c.1, c.2.1, by rw [sz.1, sz.2]; exact c.2.2⟩ a
  · rw [b, d]
theorem to_eq (h : RJ cy G W fa jc J r) {way line : Int32} (hx : toA jc (jW (J j.toNatClampNeg)) (jH (J j.toNatClampNeg)) (fun l => if tB (jL (J j.toNatClampNeg)) way.toNatClampNeg then jF (J j.toNatClampNeg) (way.toNatClampNeg * 11 + l) else -2) j way line x) (hy : toA jc (r 3 j.toNatClampNeg).toNatClampNeg (r 4 j.toNatClampNeg).toNatClampNeg (fun l => if r 6 (4 * j.toNatClampNeg + way.toNatClampNeg) = 0 then -2 else r 5 (44 * j.toNatClampNeg + 11 * way.toNatClampNeg + l)) j way line y) : x = y := by
  rcases hx with ⟨a, b⟩ | ⟨a, b⟩ <;> rcases hy with ⟨c, d⟩ | ⟨c, d⟩
  · have sz := h.sz a.1.1
    by_cases z : line.toInt = -1
    · rw [if_pos z] at b d
      apply Int32.toInt_inj.mp
      rw [b, d, sz.1, sz.2]
    · rw [if_neg z] at b d
      have w0 := a.1.2
      have cw := m_cl (x := way) (by omega)
      rcases a.2 with z2 | z2
      · exact absurd z2 z
      · have e := (h.at a.1.1).2.2.2.2.2.1 way.toNatClampNeg (by omega)
        have cl := m_cl (x := line) z2.2.1
        have l2 := z2.2.2
        have e5 := (h.at a.1.1).2.2.2.2.2.2.1 way.toNatClampNeg line.toNatClampNeg (by omega) (by omega)
        rw [b, d]
        show (if _ then _ else _) = (if _ then _ else _)
        cases hb : tB (jL (J j.toNatClampNeg)) way.toNatClampNeg
        · rw [if_pos (e.mpr hb)]; rfl
        · rw [hb] at e5
          rw [if_neg (show ¬ r 6 (4 * j.toNatClampNeg + way.toNatClampNeg) = 0 from fun z => by rw [e.mp z] at hb; cases hb)]
          exact e5
  · have sz := h.sz a.1.1
    rw [sz.1, sz.2] at a
    exact absurd a c
  · have sz := h.sz c.1.1
    rw [← sz.1, ← sz.2] at c
    exact absurd c a
  · rw [b, d]
end ANS6

