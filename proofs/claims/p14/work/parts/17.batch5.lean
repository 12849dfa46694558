
/-- how many squares are not met yet -/
def cz (mt : Nat → Int32) : Nat := fb_ct (fun k => decide (mt k = 0)) 36
def mz (x : Int32) (mt : Nat → Int32) : Nat := if x = 0 then 0 else cz mt + 1
theorem cz_upd {mt : Nat → Int32} {i : Nat} {v : Int32} (hi : i < 36) (h0 : mt i = 0) (hv : ¬ v = 0) : cz (upd mt i v) + 1 = cz mt := by
  have h := fb_ct_upd (fun k => decide (mt k = 0)) false (i := i) (n := 36) hi
  have e : (fun k => decide (upd mt i v k = 0)) = (fun k => if k = i then false else decide (mt k = 0)) := by
    funext k
    unfold upd
    split
    · simp [hv]
    · rfl
  have h2 : (if (fun k => decide (mt k = 0)) i = true then 1 else 0 : Nat) = 1 := by simp [h0]
  have h3 : (if (false : Bool) = true then 1 else 0 : Nat) = 0 := by simp
  rw [h2, h3] at h
  unfold cz
  rw [e]
  exact h
theorem nI_cl {i : Nat} (h : i < 36) : (nI i).toNatClampNeg < 36 := by rw [nI_clamp (by omega)]; exact h
set_option maxHeartbeats 4000000 in
set_option maxRecDepth 100000 in
theorem c_X10_isJoined (l : Launch) (D : va_G) (cy : Nat → ClassId) (mo : Nat) (a : Nat → Nat) (f : Nat → Int32) (g : Nat → Int64) (r : Nat → Nat → Int32) (q : Nat → Nat → Int64) (w : Int32) (h : Int32) (p0 : Int64) (hD : DM cy mo a) (hw : 1 ≤ w.toInt ∧ w.toInt ≤ 6) (hh : 1 ≤ h.toInt ∧ h.toInt ≤ 6) : Mi l D cy mo a yX10_isJoined wsX10_isJoined ({ frames := 1, cells := 0, slots := 0, locals := 22 }) f g r q [.int w, .int h, .long p0] (fun r0 u => ∃ (mt : Nat → Int32), u = (f, g, (va_up r 9 mt), q) ∧ (r0 = 0 ∨ r0 = 1)) := by
  refine Met.ofW (cc := cX10_isJoined) (maxL := 9) (ret := (some .boolean)) (by decide) rfl ?_
  intro p e s m args below meth c s₁ B hml hv
  obtain ⟨rfl, hP, hK⟩ := hv
  have hx := B.exec
  have hb := B.bytes
  have hr := B.returns
  have hts := atoms_spec (ws := wsX10_isJoined) B.pre
  have hin : ∀ w ∈ u_ws RX10 TX10 35, w ∈ wsX10_isJoined := by decide +kernel
  have hown : s.vm.findClass RX10 = some m.cls := findClass_of_methodNamed B.named
  have hlocks := B.notSynchronized
  have hS : va_S (AM mo a) s.heap s.heap [] := va_S.rf
  have hl := lv_entry ([.ref mo, .int w, .int h, .long p0]) (n := 9) (Nat.le_of_ble_eq_true rfl)
  rw [lg_entry_eq]
  generalize (lg_sl ([.ref mo, .int w, .int h, .long p0]) ++ List.replicate (9 - (lg_sl ([.ref mo, .int w, .int h, .long p0])).length) Slot.unset).toArray = ls at hl ⊢
  have hl : lv_has ls 9 [(0, .ref mo), (1, .int w), (2, .int h), (3, .long p0)] := hl
  have k_m1 : (-1 : Int32).toInt = -1 := by decide
  have k_0 : (0 : Int32).toInt = 0 := by decide
  have k_1 : (1 : Int32).toInt = 1 := by decide
  have hwh := mul66 hw hh
  refine lv_iconst (v := (-1)) hx hb dX10_isJoined_0 (by decide) ?_
  refine lv_istore (lv' := [(5, .int ((-1) : Int32)), (0, .ref mo), (1, .int w), (2, .int h), (3, .long p0)]) hx hb dX10_isJoined_1 hl (by decide) rfl (fun ls hl => ?_)
  refine lv_iload_n hx hb dX10_isJoined_3 rfl (lv_at hl 2 rfl) ?_
  refine lv_iload_n hx hb dX10_isJoined_4 rfl (lv_at hl 3 rfl) ?_
  refine lv_imul hx hb dX10_isJoined_5 ?_
  refine lv_topi (fun v5 e5 => ?_)
  have i5 : v5.toInt = w.toInt * h.toInt := by rw [e5]; exact fb_mulI (by omega) (by omega)
  refine lv_iconst (v := 1) hx hb dX10_isJoined_6 (by decide) ?_
  refine lv_isub hx hb dX10_isJoined_7 ?_
  refine lv_topi (fun v7 e7 => ?_)
  have i7 : v7.toInt = v5.toInt - (1 : Int32).toInt := by rw [e7]; exact fb_subI (by omega) (by omega)
  refine lv_istore (lv' := [(6, .int v7), (5, .int ((-1) : Int32)), (0, .ref mo), (1, .int w), (2, .int h), (3, .long p0)]) hx hb dX10_isJoined_8 hl (by decide) rfl (fun ls hl => ?_)
  have loop_10 : ∀ (n : Nat) (x6 : Int32) (x5 : Int32) (mt0 : Nat → Int32), (-1 ≤ x6.toInt ∧ x6.toInt < w.toInt * h.toInt) → (-1 ≤ x5.toInt ∧ x5.toInt < w.toInt * h.toInt) → (x6.toInt + 1).toNat < n → ∀ (H : Heap) (locs : List Loc), va_P D vwCl (WM cy mo a f g (va_up r 9 mt0) q) H → va_S (AM mo a) s.heap H locs → ∀ (ls : Array Slot), lv_has ls 9 [(6, .int x6), (5, .int x5), (0, .ref mo), (1, .int w), (2, .int h), (3, .long p0)] → W p l e (headSpec wsX10_isJoined ({ frames := 1, cells := 0, slots := 0, locals := 22 })).room s m #[Value.ref mo, Value.int w, Value.int h, Value.long p0] below meth c H locs 0 0 (MQ below (va_Qi (fun r0 u => ∃ (mt : Nat → Int32), u = (f, g, (va_up r 9 mt), q) ∧ (r0 = 0 ∨ r0 = 1)) (mB D cy mo a) (AM mo a)) #[Value.ref mo, Value.int w, Value.int h, Value.long p0] s 0 0 (AM mo a)) (F0 m 10 ls []) := by
    intro n
    induction n with
    | zero => intro x6 x5 mt0 j10_0 j10_1 hn; exact absurd hn (Nat.not_lt_zero _)
    | succ n ih_10 =>
      intro x6 x5 mt0 j10_0 j10_1 hn_10 H locs hP hS ls hl
      refine lv_iload hx hb dX10_isJoined_10 (lv_at hl 0 rfl) ?_
      refine lv_if_lt (tgt := 48) hx hb dX10_isJoined_12 (by decide) (fun c12 => ?_) (fun c12 => ?_)
      · skip
        have d12 := c12
        rw [fa_lt] at d12
        refine lv_iload hx hb dX10_isJoined_48 (lv_at hl 1 rfl) ?_
        refine lv_if_ge (tgt := 55) hx hb dX10_isJoined_50 (by decide) (fun c50 => ?_) (fun c50 => ?_)
        · skip
          have d50 := c50
          rw [fa_le] at d50
          refine lv_aload_n hx hb dX10_isJoined_55 rfl (lv_at hl 2 rfl) ?_
          refine m_get (v := .ref (a 9)) hx hb hts hin hown hK hP 9 (by decide) rfl (hts (.fieldLink RX10 32 "ShadowBenchModel" "met" "[Z") (by decide +kernel)) rfl dX10_isJoined_56 ?_
          refine lv_iload hx hb dX10_isJoined_59 (lv_at hl 1 rfl) ?_
          refine lv_iconst (v := 1) hx hb dX10_isJoined_61 (by decide) ?_
          refine m_zast (w := mt0) hx hb hK hP hD hS 8 rfl (vp_in_iff.mpr ⟨by omega, by omega⟩) (va_up r 9 ((upd mt0 x5.toNatClampNeg ((1 : Int32) &&& 1)))) rfl dX10_isJoined_62 (fun H locs hP hS => ?_)
          refine lv_iconst (v := 1) hx hb dX10_isJoined_63 (by decide) ?_
          refine lv_istore (lv' := [(6, .int (1 : Int32)), (5, .int x5), (0, .ref mo), (1, .int w), (2, .int h), (3, .long p0)]) hx hb dX10_isJoined_64 hl (by decide) rfl (fun ls hl => ?_)
          have loop_66 : ∀ (n : Nat) (xm : Int32) (mt : Nat → Int32), (xm = 0 ∨ xm = 1) → mz xm mt < n → ∀ (H : Heap) (locs : List Loc), va_P D vwCl (WM cy mo a f g (va_up r 9 mt) q) H → va_S (AM mo a) s.heap H locs → ∀ (ls : Array Slot), lv_has ls 9 [(6, .int xm), (5, .int x5), (0, .ref mo), (1, .int w), (2, .int h), (3, .long p0)] → W p l e (headSpec wsX10_isJoined ({ frames := 1, cells := 0, slots := 0, locals := 22 })).room s m #[Value.ref mo, Value.int w, Value.int h, Value.long p0] below meth c H locs 0 0 (MQ below (va_Qi (fun r0 u => ∃ (mt : Nat → Int32), u = (f, g, (va_up r 9 mt), q) ∧ (r0 = 0 ∨ r0 = 1)) (mB D cy mo a) (AM mo a)) #[Value.ref mo, Value.int w, Value.int h, Value.long p0] s 0 0 (AM mo a)) (F0 m 66 ls []) := by
            intro n
            induction n with
            | zero => intro xm mt j66_0 hn; exact absurd hn (Nat.not_lt_zero _)
            | succ n ih_66 =>
              intro xm mt j66_0 hn_66 H locs hP hS ls hl
              refine lv_iload hx hb dX10_isJoined_66 (lv_at hl 0 rfl) ?_
              refine lv_if_eq (tgt := 218) hx hb dX10_isJoined_68 (by decide) (fun c68 => ?_) (fun c68 => ?_)
              · skip
                have d68 := c68
                rw [fa_eq] at d68
                refine lv_iconst (v := 1) hx hb dX10_isJoined_218 (by decide) ?_
                refine lv_istore (lv' := [(7, .int (1 : Int32)), (6, .int xm), (5, .int x5), (0, .ref mo), (1, .int w), (2, .int h), (3, .long p0)]) hx hb dX10_isJoined_219 hl (by decide) rfl (fun ls hl => ?_)
                refine lv_iconst (v := 0) hx hb dX10_isJoined_221 (by decide) ?_
                refine lv_istore (lv' := [(8, .int (0 : Int32)), (7, .int (1 : Int32)), (6, .int xm), (5, .int x5), (0, .ref mo), (1, .int w), (2, .int h), (3, .long p0)]) hx hb dX10_isJoined_222 hl (by decide) rfl (fun ls hl => ?_)
                have loop_224 : ∀ (n : Nat) (i : Nat) (xa : Int32), (i ≤ 36) → (xa = 0 ∨ xa = 1) → 36 - i < n → ∀ (H : Heap) (locs : List Loc), va_P D vwCl (WM cy mo a f g (va_up r 9 mt) q) H → va_S (AM mo a) s.heap H locs → ∀ (ls : Array Slot), lv_has ls 9 [(8, .int (nI i)), (7, .int xa), (6, .int xm), (5, .int x5), (0, .ref mo), (1, .int w), (2, .int h), (3, .long p0)] → W p l e (headSpec wsX10_isJoined ({ frames := 1, cells := 0, slots := 0, locals := 22 })).room s m #[Value.ref mo, Value.int w, Value.int h, Value.long p0] below meth c H locs 0 0 (MQ below (va_Qi (fun r0 u => ∃ (mt : Nat → Int32), u = (f, g, (va_up r 9 mt), q) ∧ (r0 = 0 ∨ r0 = 1)) (mB D cy mo a) (AM mo a)) #[Value.ref mo, Value.int w, Value.int h, Value.long p0] s 0 0 (AM mo a)) (F0 m 224 ls []) := by
                  intro n
                  induction n with
                  | zero => intro i xa  j224_0 j224_1 hn; exact absurd hn (Nat.not_lt_zero _)
                  | succ n ih_224 =>
                    intro i xa  j224_0 j224_1 hn_224 H locs hP hS ls hl
                    have ii : (nI i).toInt = (i : Int) := nI_toInt (by omega)
                    refine lv_iload hx hb dX10_isJoined_224 (lv_at hl 0 rfl) ?_
                    refine lv_iload_n hx hb dX10_isJoined_226 rfl (lv_at hl 5 rfl) ?_
                    refine lv_iload_n hx hb dX10_isJoined_227 rfl (lv_at hl 6 rfl) ?_
                    refine lv_imul hx hb dX10_isJoined_228 ?_
                    refine lv_topi (fun v228 e228 => ?_)
                    have i228 : v228.toInt = w.toInt * h.toInt := by rw [e228]; exact fb_mulI (by omega) (by omega)
                    refine lv_icmp_ge (tgt := 269) hx hb dX10_isJoined_229 (by decide) (fun c229 => ?_) (fun c229 => ?_)
                    · skip
                      have d229 := c229
                      rw [fa_le] at d229
                      refine lv_iload hx hb dX10_isJoined_269 (lv_at hl 1 rfl) ?_
                      exact W.zret (v := xa) hx hb hr (by first | decide | (rcases j224_1 with z | z <;> rw [z] <;> rfl)) (fun t ht hW => ⟨⟨_, (f, g, (va_up r 9 mt), q), rfl, ⟨mt, rfl, j224_1⟩, by unfold mB; rw [ht]; exact hP⟩, hS.F ht⟩) hS.2.2 dX10_isJoined_271
                    · skip
                      have d229 := c229
                      rw [fa_le] at d229
                      refine lv_iload hx hb dX10_isJoined_232 (lv_at hl 1 rfl) ?_
                      refine lv_if_eq (tgt := 260) hx hb dX10_isJoined_234 (by decide) (fun c234 => ?_) (fun c234 => ?_)
                      · skip
                        have d234 := c234
                        rw [fa_eq] at d234
                        refine lv_iconst (v := 0) hx hb dX10_isJoined_260 (by decide) ?_
                        refine lv_istore (lv' := [(7, .int (0 : Int32)), (8, .int (nI i)), (6, .int xm), (5, .int x5), (0, .ref mo), (1, .int w), (2, .int h), (3, .long p0)]) hx hb dX10_isJoined_261 hl (by decide) rfl (fun ls hl => ?_)
                        refine lv_iinc (v := (nI (i + 1))) (lv' := [(8, .int (nI (i + 1))), (7, .int (0 : Int32)), (6, .int xm), (5, .int x5), (0, .ref mo), (1, .int w), (2, .int h), (3, .long p0)]) hx hb dX10_isJoined_263 hl (k := 1) rfl (nI_1 _) (by decide) rfl (fun ls hl => ?_)
                        refine lv_goto (tgt := 224) hx hb dX10_isJoined_266 (by decide) ?_
                        exact ih_224 (i + 1) (0 : Int32) (by omega) (by decide) (by omega) _ _ hP hS ls (lv_sub hl [0, 1, 2, 3, 4, 5, 6, 7] rfl)
                      · skip
                        have d234 := c234
                        rw [fa_eq] at d234
                        refine lv_lload_n hx hb dX10_isJoined_237 rfl (lv_at hl 7 rfl) ?_
                        refine lv_iload hx hb dX10_isJoined_238 (lv_at hl 0 rfl) ?_
                        refine m_pu (As := [.long p0, .int (nI i)]) (rest := []) ⟨hx, hb, hml, hown, hts⟩ (c_X10_one l p0 (nI i) ) (va_cwS 2 hts gX10_isJoined_X10_one rfl rfl rfl (by decide +kernel) ⟨Nat.le_of_ble_eq_true rfl, Nat.le_of_ble_eq_true rfl⟩) hP rfl hl.1 rfl (Nat.le_of_ble_eq_true rfl) dX10_isJoined_240 ⟨Nat.le_of_ble_eq_true rfl, Nat.le_of_ble_eq_true rfl⟩ hS (fun r240 H locs q240 hP hS => ?_)
                        have i240 : r240.toInt = (r_one p0 (nI i)).toInt := congrArg Int32.toInt q240
                        refine lv_if_eq (tgt := 256) hx hb dX10_isJoined_243 (by decide) (fun c243 => ?_) (fun c243 => ?_)
                        · skip
                          have d243 := c243
                          rw [fa_eq] at d243
                          refine lv_iconst (v := 1) hx hb dX10_isJoined_256 (by decide) ?_
                          refine lv_goto (tgt := 261) hx hb dX10_isJoined_257 (by decide) ?_
                          refine lv_istore (lv' := [(7, .int (1 : Int32)), (8, .int (nI i)), (6, .int xm), (5, .int x5), (0, .ref mo), (1, .int w), (2, .int h), (3, .long p0)]) hx hb dX10_isJoined_261 hl (by decide) rfl (fun ls hl => ?_)
                          refine lv_iinc (v := (nI (i + 1))) (lv' := [(8, .int (nI (i + 1))), (7, .int (1 : Int32)), (6, .int xm), (5, .int x5), (0, .ref mo), (1, .int w), (2, .int h), (3, .long p0)]) hx hb dX10_isJoined_263 hl (k := 1) rfl (nI_1 _) (by decide) rfl (fun ls hl => ?_)
                          refine lv_goto (tgt := 224) hx hb dX10_isJoined_266 (by decide) ?_
                          exact ih_224 (i + 1) (1 : Int32) (by omega) (by decide) (by omega) _ _ hP hS ls (lv_sub hl [0, 1, 2, 3, 4, 5, 6, 7] rfl)
                        · skip
                          have d243 := c243
                          rw [fa_eq] at d243
                          refine lv_aload_n hx hb dX10_isJoined_246 rfl (lv_at hl 4 rfl) ?_
                          refine m_get (v := .ref (a 9)) hx hb hts hin hown hK hP 9 (by decide) rfl (hts (.fieldLink RX10 32 "ShadowBenchModel" "met" "[Z") (by decide +kernel)) rfl dX10_isJoined_247 ?_
                          refine lv_iload hx hb dX10_isJoined_250 (lv_at hl 0 rfl) ?_
                          refine m_zald (w := mt) hx hb hK hP 8 rfl (vp_in_iff.mpr ⟨by omega, by omega⟩) dX10_isJoined_252 ?_
                          refine lv_topi (fun v252 e252 => ?_)
                          have i252 : v252.toInt = (mt (nI i).toNatClampNeg).toInt := congrArg Int32.toInt e252
                          refine lv_if_eq (tgt := 260) hx hb dX10_isJoined_253 (by decide) (fun c253 => ?_) (fun c253 => ?_)
                          · skip
                            have d253 := c253
                            rw [fa_eq] at d253
                            refine lv_iconst (v := 0) hx hb dX10_isJoined_260 (by decide) ?_
                            refine lv_istore (lv' := [(7, .int (0 : Int32)), (8, .int (nI i)), (6, .int xm), (5, .int x5), (0, .ref mo), (1, .int w), (2, .int h), (3, .long p0)]) hx hb dX10_isJoined_261 hl (by decide) rfl (fun ls hl => ?_)
                            refine lv_iinc (v := (nI (i + 1))) (lv' := [(8, .int (nI (i + 1))), (7, .int (0 : Int32)), (6, .int xm), (5, .int x5), (0, .ref mo), (1, .int w), (2, .int h), (3, .long p0)]) hx hb dX10_isJoined_263 hl (k := 1) rfl (nI_1 _) (by decide) rfl (fun ls hl => ?_)
                            refine lv_goto (tgt := 224) hx hb dX10_isJoined_266 (by decide) ?_
                            exact ih_224 (i + 1) (0 : Int32) (by omega) (by decide) (by omega) _ _ hP hS ls (lv_sub hl [0, 1, 2, 3, 4, 5, 6, 7] rfl)
                          · skip
                            have d253 := c253
                            rw [fa_eq] at d253
                            refine lv_iconst (v := 1) hx hb dX10_isJoined_256 (by decide) ?_
                            refine lv_goto (tgt := 261) hx hb dX10_isJoined_257 (by decide) ?_
                            refine lv_istore (lv' := [(7, .int (1 : Int32)), (8, .int (nI i)), (6, .int xm), (5, .int x5), (0, .ref mo), (1, .int w), (2, .int h), (3, .long p0)]) hx hb dX10_isJoined_261 hl (by decide) rfl (fun ls hl => ?_)
                            refine lv_iinc (v := (nI (i + 1))) (lv' := [(8, .int (nI (i + 1))), (7, .int (1 : Int32)), (6, .int xm), (5, .int x5), (0, .ref mo), (1, .int w), (2, .int h), (3, .long p0)]) hx hb dX10_isJoined_263 hl (k := 1) rfl (nI_1 _) (by decide) rfl (fun ls hl => ?_)
                            refine lv_goto (tgt := 224) hx hb dX10_isJoined_266 (by decide) ?_
                            exact ih_224 (i + 1) (1 : Int32) (by omega) (by decide) (by omega) _ _ hP hS ls (lv_sub hl [0, 1, 2, 3, 4, 5, 6, 7] rfl)
                exact loop_224 (36 + 1) 0 (1 : Int32) (by omega) (by decide) (by omega) _ _ hP hS ls (lv_sub hl [0, 1, 2, 3, 4, 5, 6, 7] rfl)
              · skip
                have d68 := c68
                rw [fa_eq] at d68
                refine lv_iconst (v := 0) hx hb dX10_isJoined_71 (by decide) ?_
                refine lv_istore (lv' := [(6, .int (0 : Int32)), (5, .int x5), (0, .ref mo), (1, .int w), (2, .int h), (3, .long p0)]) hx hb dX10_isJoined_72 hl (by decide) rfl (fun ls hl => ?_)
                refine lv_iconst (v := 0) hx hb dX10_isJoined_74 (by decide) ?_
                refine lv_istore (lv' := [(7, .int (0 : Int32)), (6, .int (0 : Int32)), (5, .int x5), (0, .ref mo), (1, .int w), (2, .int h), (3, .long p0)]) hx hb dX10_isJoined_75 hl (by decide) rfl (fun ls hl => ?_)
                have loop_77 : ∀ (n : Nat) (i : Nat) (xn : Int32) (mt1 : Nat → Int32), (i ≤ 36) → ((xn = 0 ∧ cz mt1 ≤ cz mt) ∨ (xn = 1 ∧ cz mt1 < cz mt)) → 36 - i < n → ∀ (H : Heap) (locs : List Loc), va_P D vwCl (WM cy mo a f g (va_up r 9 mt1) q) H → va_S (AM mo a) s.heap H locs → ∀ (ls : Array Slot), lv_has ls 9 [(7, .int (nI i)), (6, .int xn), (5, .int x5), (0, .ref mo), (1, .int w), (2, .int h), (3, .long p0)] → W p l e (headSpec wsX10_isJoined ({ frames := 1, cells := 0, slots := 0, locals := 22 })).room s m #[Value.ref mo, Value.int w, Value.int h, Value.long p0] below meth c H locs 0 0 (MQ below (va_Qi (fun r0 u => ∃ (mt : Nat → Int32), u = (f, g, (va_up r 9 mt), q) ∧ (r0 = 0 ∨ r0 = 1)) (mB D cy mo a) (AM mo a)) #[Value.ref mo, Value.int w, Value.int h, Value.long p0] s 0 0 (AM mo a)) (F0 m 77 ls []) := by
                  intro n
                  induction n with
                  | zero => intro i xn mt1 j77_0 j77_1 hn; exact absurd hn (Nat.not_lt_zero _)
                  | succ n ih_77 =>
                    intro i xn mt1 j77_0 j77_1 hn_77 H locs hP hS ls hl
                    have ii : (nI i).toInt = (i : Int) := nI_toInt (by omega)
                    refine lv_iload hx hb dX10_isJoined_77 (lv_at hl 0 rfl) ?_
                    refine lv_iload_n hx hb dX10_isJoined_79 rfl (lv_at hl 4 rfl) ?_
                    refine lv_iload_n hx hb dX10_isJoined_80 rfl (lv_at hl 5 rfl) ?_
                    refine lv_imul hx hb dX10_isJoined_81 ?_
                    refine lv_topi (fun v81 e81 => ?_)
                    have i81 : v81.toInt = w.toInt * h.toInt := by rw [e81]; exact fb_mulI (by omega) (by omega)
                    refine lv_icmp_ge (tgt := 215) hx hb dX10_isJoined_82 (by decide) (fun c82 => ?_) (fun c82 => ?_)
                    · skip
                      have d82 := c82
                      rw [fa_le] at d82
                      refine lv_goto (tgt := 66) hx hb dX10_isJoined_215 (by decide) ?_
                      exact ih_66 xn mt1 (by rcases j77_1 with z | z <;> simp [z.1]) (by rcases j77_1 with ⟨z, y⟩ | ⟨z, y⟩ <;> simp [mz, z, c68] at hn_66 ⊢ <;> omega) _ _ hP hS ls (lv_sub hl [1, 2, 3, 4, 5, 6] rfl)
                    · skip
                      have d82 := c82
                      rw [fa_le] at d82
                      refine lv_iload hx hb dX10_isJoined_85 (lv_at hl 0 rfl) ?_
                      refine lv_iload_n hx hb dX10_isJoined_87 rfl (lv_at hl 4 rfl) ?_
                      refine lv_irem hx hb dX10_isJoined_88 (fun z => by rw [fa_eq] at z; omega) ?_
                      refine lv_topi (fun v88 e88 => ?_)
                      have i88 : v88.toInt = (nI i).toInt % w.toInt := by rw [e88]; exact my_irem (by omega) (by omega)
                      have j88 : 0 ≤ v88.toInt ∧ v88.toInt < w.toInt ∧ v88.toInt ≤ (nI i).toInt := by rw [e88]; exact my_remb (by omega) (by omega)
                      refine lv_if_le (tgt := 104) hx hb dX10_isJoined_89 (by decide) (fun c89 => ?_) (fun c89 => ?_)
                      · skip
                        have d89 := c89
                        rw [fa_le] at d89
                        refine lv_iload hx hb dX10_isJoined_104 (lv_at hl 0 rfl) ?_
                        refine lv_iload_n hx hb dX10_isJoined_106 rfl (lv_at hl 4 rfl) ?_
                        refine lv_irem hx hb dX10_isJoined_107 (fun z => by rw [fa_eq] at z; omega) ?_
                        refine lv_topi (fun v107 e107 => ?_)
                        have i107 : v107.toInt = (nI i).toInt % w.toInt := by rw [e107]; exact my_irem (by omega) (by omega)
                        have j107 : 0 ≤ v107.toInt ∧ v107.toInt < w.toInt ∧ v107.toInt ≤ (nI i).toInt := by rw [e107]; exact my_remb (by omega) (by omega)
                        refine lv_iconst (v := 1) hx hb dX10_isJoined_108 (by decide) ?_
                        refine lv_iadd hx hb dX10_isJoined_109 ?_
                        refine lv_topi (fun v109 e109 => ?_)
                        have i109 : v109.toInt = v107.toInt + (1 : Int32).toInt := by rw [e109]; exact fb_addI (by omega) (by omega)
                        refine lv_iload_n hx hb dX10_isJoined_110 rfl (lv_at hl 4 rfl) ?_
                        refine lv_icmp_ge (tgt := 126) hx hb dX10_isJoined_111 (by decide) (fun c111 => ?_) (fun c111 => ?_)
                        · skip
                          have d111 := c111
                          rw [fa_le] at d111
                          refine lv_iload hx hb dX10_isJoined_126 (lv_at hl 0 rfl) ?_
                          refine lv_iload_n hx hb dX10_isJoined_128 rfl (lv_at hl 4 rfl) ?_
                          refine lv_icmp_lt (tgt := 144) hx hb dX10_isJoined_129 (by decide) (fun c129 => ?_) (fun c129 => ?_)
                          · skip
                            have d129 := c129
                            rw [fa_lt] at d129
                            refine lv_iload hx hb dX10_isJoined_144 (lv_at hl 0 rfl) ?_
                            refine lv_iload_n hx hb dX10_isJoined_146 rfl (lv_at hl 4 rfl) ?_
                            refine lv_iadd hx hb dX10_isJoined_147 ?_
                            refine lv_topi (fun v147 e147 => ?_)
                            have i147 : v147.toInt = (nI i).toInt + w.toInt := by rw [e147]; exact fb_addI (by omega) (by omega)
                            refine lv_iload_n hx hb dX10_isJoined_148 rfl (lv_at hl 4 rfl) ?_
                            refine lv_iload_n hx hb dX10_isJoined_149 rfl (lv_at hl 5 rfl) ?_
                            refine lv_imul hx hb dX10_isJoined_150 ?_
                            refine lv_topi (fun v150 e150 => ?_)
                            have i150 : v150.toInt = w.toInt * h.toInt := by rw [e150]; exact fb_mulI (by omega) (by omega)
                            refine lv_icmp_ge (tgt := 170) hx hb dX10_isJoined_151 (by decide) (fun c151 => ?_) (fun c151 => ?_)
                            · skip
                              have d151 := c151
                              rw [fa_le] at d151
                              refine lv_iconst (v := 0) hx hb dX10_isJoined_170 (by decide) ?_
                              refine lv_istore (lv' := [(8, .int (0 : Int32)), (7, .int (nI i)), (6, .int xn), (5, .int x5), (0, .ref mo), (1, .int w), (2, .int h), (3, .long p0)]) hx hb dX10_isJoined_171 hl (by decide) rfl (fun ls hl => ?_)
                              refine lv_lload_n hx hb dX10_isJoined_173 rfl (lv_at hl 7 rfl) ?_
                              refine lv_iload hx hb dX10_isJoined_174 (lv_at hl 1 rfl) ?_
                              refine m_pu (As := [.long p0, .int (nI i)]) (rest := []) ⟨hx, hb, hml, hown, hts⟩ (c_X10_one l p0 (nI i) ) (va_cwS 2 hts gX10_isJoined_X10_one rfl rfl rfl (by decide +kernel) ⟨Nat.le_of_ble_eq_true rfl, Nat.le_of_ble_eq_true rfl⟩) hP rfl hl.1 rfl (Nat.le_of_ble_eq_true rfl) dX10_isJoined_176 ⟨Nat.le_of_ble_eq_true rfl, Nat.le_of_ble_eq_true rfl⟩ hS (fun r176 H locs q176 hP hS => ?_)
                              have i176 : r176.toInt = (r_one p0 (nI i)).toInt := congrArg Int32.toInt q176
                              refine lv_iconst (v := 1) hx hb dX10_isJoined_179 (by decide) ?_
                              refine lv_icmp_ne (tgt := 209) hx hb dX10_isJoined_180 (by decide) (fun c180 => ?_) (fun c180 => ?_)
                              · skip
                                have d180 := c180
                                rw [fa_eq] at d180
                                refine lv_iinc (v := (nI (i + 1))) (lv' := [(7, .int (nI (i + 1))), (8, .int (0 : Int32)), (6, .int xn), (5, .int x5), (0, .ref mo), (1, .int w), (2, .int h), (3, .long p0)]) hx hb dX10_isJoined_209 hl (k := 1) rfl (nI_1 _) (by decide) rfl (fun ls hl => ?_)
                                refine lv_goto (tgt := 77) hx hb dX10_isJoined_212 (by decide) ?_
                                exact ih_77 (i + 1) xn mt1 (by omega) (by first | exact j77_1 | (have z := cz_upd (mt := mt1) (i := (nI i).toNatClampNeg) (v := (1 : Int32) &&& 1) (nI_cl (by omega)) (by rw [← e189]; exact c190) (by decide); rcases j77_1 with ⟨_, y⟩ | ⟨_, y⟩ <;> exact Or.inr ⟨rfl, by omega⟩)) (by omega) _ _ hP hS ls (lv_sub hl [0, 2, 3, 4, 5, 6, 7] rfl)
                              · skip
                                have d180 := c180
                                rw [fa_eq] at d180
                                refine lv_aload_n hx hb dX10_isJoined_183 rfl (lv_at hl 4 rfl) ?_
                                refine m_get (v := .ref (a 9)) hx hb hts hin hown hK hP 9 (by decide) rfl (hts (.fieldLink RX10 32 "ShadowBenchModel" "met" "[Z") (by decide +kernel)) rfl dX10_isJoined_184 ?_
                                refine lv_iload hx hb dX10_isJoined_187 (lv_at hl 1 rfl) ?_
                                refine m_zald (w := mt1) hx hb hK hP 8 rfl (vp_in_iff.mpr ⟨by omega, by omega⟩) dX10_isJoined_189 ?_
                                refine lv_topi (fun v189 e189 => ?_)
                                have i189 : v189.toInt = (mt1 (nI i).toNatClampNeg).toInt := congrArg Int32.toInt e189
                                refine lv_if_ne (tgt := 209) hx hb dX10_isJoined_190 (by decide) (fun c190 => ?_) (fun c190 => ?_)
                                · skip
                                  have d190 := c190
                                  rw [fa_eq] at d190
                                  refine lv_iinc (v := (nI (i + 1))) (lv' := [(7, .int (nI (i + 1))), (8, .int (0 : Int32)), (6, .int xn), (5, .int x5), (0, .ref mo), (1, .int w), (2, .int h), (3, .long p0)]) hx hb dX10_isJoined_209 hl (k := 1) rfl (nI_1 _) (by decide) rfl (fun ls hl => ?_)
                                  refine lv_goto (tgt := 77) hx hb dX10_isJoined_212 (by decide) ?_
                                  exact ih_77 (i + 1) xn mt1 (by omega) (by first | exact j77_1 | (have z := cz_upd (mt := mt1) (i := (nI i).toNatClampNeg) (v := (1 : Int32) &&& 1) (nI_cl (by omega)) (by rw [← e189]; exact c190) (by decide); rcases j77_1 with ⟨_, y⟩ | ⟨_, y⟩ <;> exact Or.inr ⟨rfl, by omega⟩)) (by omega) _ _ hP hS ls (lv_sub hl [0, 2, 3, 4, 5, 6, 7] rfl)
                                · skip
                                  have d190 := c190
                                  rw [fa_eq] at d190
                                  refine lv_iload hx hb dX10_isJoined_193 (lv_at hl 0 rfl) ?_
                                  refine lv_if_eq (tgt := 209) hx hb dX10_isJoined_195 (by decide) (fun c195 => ?_) (fun c195 => ?_)
                                  · skip
                                    have d195 := c195
                                    rw [fa_eq] at d195
                                    refine lv_iinc (v := (nI (i + 1))) (lv' := [(7, .int (nI (i + 1))), (8, .int (0 : Int32)), (6, .int xn), (5, .int x5), (0, .ref mo), (1, .int w), (2, .int h), (3, .long p0)]) hx hb dX10_isJoined_209 hl (k := 1) rfl (nI_1 _) (by decide) rfl (fun ls hl => ?_)
                                    refine lv_goto (tgt := 77) hx hb dX10_isJoined_212 (by decide) ?_
                                    exact ih_77 (i + 1) xn mt1 (by omega) (by first | exact j77_1 | (have z := cz_upd (mt := mt1) (i := (nI i).toNatClampNeg) (v := (1 : Int32) &&& 1) (nI_cl (by omega)) (by rw [← e189]; exact c190) (by decide); rcases j77_1 with ⟨_, y⟩ | ⟨_, y⟩ <;> exact Or.inr ⟨rfl, by omega⟩)) (by omega) _ _ hP hS ls (lv_sub hl [0, 2, 3, 4, 5, 6, 7] rfl)
                                  · first | exact absurd c195 (by decide) | exact absurd (by decide) c195
                            · skip
                              have d151 := c151
                              rw [fa_le] at d151
                              refine lv_aload_n hx hb dX10_isJoined_154 rfl (lv_at hl 3 rfl) ?_
                              refine m_get (v := .ref (a 9)) hx hb hts hin hown hK hP 9 (by decide) rfl (hts (.fieldLink RX10 32 "ShadowBenchModel" "met" "[Z") (by decide +kernel)) rfl dX10_isJoined_155 ?_
                              refine lv_iload hx hb dX10_isJoined_158 (lv_at hl 0 rfl) ?_
                              refine lv_iload_n hx hb dX10_isJoined_160 rfl (lv_at hl 4 rfl) ?_
                              refine lv_iadd hx hb dX10_isJoined_161 ?_
                              refine lv_topi (fun v161 e161 => ?_)
                              have i161 : v161.toInt = (nI i).toInt + w.toInt := by rw [e161]; exact fb_addI (by omega) (by omega)
                              refine m_zald (w := mt1) hx hb hK hP 8 rfl (vp_in_iff.mpr ⟨by omega, by omega⟩) dX10_isJoined_162 ?_
                              refine lv_topi (fun v162 e162 => ?_)
                              have i162 : v162.toInt = (mt1 v161.toNatClampNeg).toInt := congrArg Int32.toInt e162
                              refine lv_if_eq (tgt := 170) hx hb dX10_isJoined_163 (by decide) (fun c163 => ?_) (fun c163 => ?_)
                              · skip
                                have d163 := c163
                                rw [fa_eq] at d163
                                refine lv_iconst (v := 0) hx hb dX10_isJoined_170 (by decide) ?_
                                refine lv_istore (lv' := [(8, .int (0 : Int32)), (7, .int (nI i)), (6, .int xn), (5, .int x5), (0, .ref mo), (1, .int w), (2, .int h), (3, .long p0)]) hx hb dX10_isJoined_171 hl (by decide) rfl (fun ls hl => ?_)
                                refine lv_lload_n hx hb dX10_isJoined_173 rfl (lv_at hl 7 rfl) ?_
                                refine lv_iload hx hb dX10_isJoined_174 (lv_at hl 1 rfl) ?_
                                refine m_pu (As := [.long p0, .int (nI i)]) (rest := []) ⟨hx, hb, hml, hown, hts⟩ (c_X10_one l p0 (nI i) ) (va_cwS 2 hts gX10_isJoined_X10_one rfl rfl rfl (by decide +kernel) ⟨Nat.le_of_ble_eq_true rfl, Nat.le_of_ble_eq_true rfl⟩) hP rfl hl.1 rfl (Nat.le_of_ble_eq_true rfl) dX10_isJoined_176 ⟨Nat.le_of_ble_eq_true rfl, Nat.le_of_ble_eq_true rfl⟩ hS (fun r176 H locs q176 hP hS => ?_)
                                have i176 : r176.toInt = (r_one p0 (nI i)).toInt := congrArg Int32.toInt q176
                                refine lv_iconst (v := 1) hx hb dX10_isJoined_179 (by decide) ?_
                                refine lv_icmp_ne (tgt := 209) hx hb dX10_isJoined_180 (by decide) (fun c180 => ?_) (fun c180 => ?_)
                                · skip
                                  have d180 := c180
                                  rw [fa_eq] at d180
                                  refine lv_iinc (v := (nI (i + 1))) (lv' := [(7, .int (nI (i + 1))), (8, .int (0 : Int32)), (6, .int xn), (5, .int x5), (0, .ref mo), (1, .int w), (2, .int h), (3, .long p0)]) hx hb dX10_isJoined_209 hl (k := 1) rfl (nI_1 _) (by decide) rfl (fun ls hl => ?_)
                                  refine lv_goto (tgt := 77) hx hb dX10_isJoined_212 (by decide) ?_
                                  exact ih_77 (i + 1) xn mt1 (by omega) (by first | exact j77_1 | (have z := cz_upd (mt := mt1) (i := (nI i).toNatClampNeg) (v := (1 : Int32) &&& 1) (nI_cl (by omega)) (by rw [← e189]; exact c190) (by decide); rcases j77_1 with ⟨_, y⟩ | ⟨_, y⟩ <;> exact Or.inr ⟨rfl, by omega⟩)) (by omega) _ _ hP hS ls (lv_sub hl [0, 2, 3, 4, 5, 6, 7] rfl)
                                · skip
                                  have d180 := c180
                                  rw [fa_eq] at d180
                                  refine lv_aload_n hx hb dX10_isJoined_183 rfl (lv_at hl 4 rfl) ?_
                                  refine m_get (v := .ref (a 9)) hx hb hts hin hown hK hP 9 (by decide) rfl (hts (.fieldLink RX10 32 "ShadowBenchModel" "met" "[Z") (by decide +kernel)) rfl dX10_isJoined_184 ?_
                                  refine lv_iload hx hb dX10_isJoined_187 (lv_at hl 1 rfl) ?_
                                  refine m_zald (w := mt1) hx hb hK hP 8 rfl (vp_in_iff.mpr ⟨by omega, by omega⟩) dX10_isJoined_189 ?_
                                  refine lv_topi (fun v189 e189 => ?_)
                                  have i189 : v189.toInt = (mt1 (nI i).toNatClampNeg).toInt := congrArg Int32.toInt e189
                                  refine lv_if_ne (tgt := 209) hx hb dX10_isJoined_190 (by decide) (fun c190 => ?_) (fun c190 => ?_)
                                  · skip
                                    have d190 := c190
                                    rw [fa_eq] at d190
                                    refine lv_iinc (v := (nI (i + 1))) (lv' := [(7, .int (nI (i + 1))), (8, .int (0 : Int32)), (6, .int xn), (5, .int x5), (0, .ref mo), (1, .int w), (2, .int h), (3, .long p0)]) hx hb dX10_isJoined_209 hl (k := 1) rfl (nI_1 _) (by decide) rfl (fun ls hl => ?_)
                                    refine lv_goto (tgt := 77) hx hb dX10_isJoined_212 (by decide) ?_
                                    exact ih_77 (i + 1) xn mt1 (by omega) (by first | exact j77_1 | (have z := cz_upd (mt := mt1) (i := (nI i).toNatClampNeg) (v := (1 : Int32) &&& 1) (nI_cl (by omega)) (by rw [← e189]; exact c190) (by decide); rcases j77_1 with ⟨_, y⟩ | ⟨_, y⟩ <;> exact Or.inr ⟨rfl, by omega⟩)) (by omega) _ _ hP hS ls (lv_sub hl [0, 2, 3, 4, 5, 6, 7] rfl)
                                  · skip
                                    have d190 := c190
                                    rw [fa_eq] at d190
                                    refine lv_iload hx hb dX10_isJoined_193 (lv_at hl 0 rfl) ?_
                                    refine lv_if_eq (tgt := 209) hx hb dX10_isJoined_195 (by decide) (fun c195 => ?_) (fun c195 => ?_)
                                    · skip
                                      have d195 := c195
                                      rw [fa_eq] at d195
                                      refine lv_iinc (v := (nI (i + 1))) (lv' := [(7, .int (nI (i + 1))), (8, .int (0 : Int32)), (6, .int xn), (5, .int x5), (0, .ref mo), (1, .int w), (2, .int h), (3, .long p0)]) hx hb dX10_isJoined_209 hl (k := 1) rfl (nI_1 _) (by decide) rfl (fun ls hl => ?_)
                                      refine lv_goto (tgt := 77) hx hb dX10_isJoined_212 (by decide) ?_
                                      exact ih_77 (i + 1) xn mt1 (by omega) (by first | exact j77_1 | (have z := cz_upd (mt := mt1) (i := (nI i).toNatClampNeg) (v := (1 : Int32) &&& 1) (nI_cl (by omega)) (by rw [← e189]; exact c190) (by decide); rcases j77_1 with ⟨_, y⟩ | ⟨_, y⟩ <;> exact Or.inr ⟨rfl, by omega⟩)) (by omega) _ _ hP hS ls (lv_sub hl [0, 2, 3, 4, 5, 6, 7] rfl)
                                    · first | exact absurd c195 (by decide) | exact absurd (by decide) c195
                              · skip
                                have d163 := c163
                                rw [fa_eq] at d163
                                refine lv_iconst (v := 1) hx hb dX10_isJoined_166 (by decide) ?_
                                refine lv_goto (tgt := 171) hx hb dX10_isJoined_167 (by decide) ?_
                                refine lv_istore (lv' := [(8, .int (1 : Int32)), (7, .int (nI i)), (6, .int xn), (5, .int x5), (0, .ref mo), (1, .int w), (2, .int h), (3, .long p0)]) hx hb dX10_isJoined_171 hl (by decide) rfl (fun ls hl => ?_)
                                refine lv_lload_n hx hb dX10_isJoined_173 rfl (lv_at hl 7 rfl) ?_
                                refine lv_iload hx hb dX10_isJoined_174 (lv_at hl 1 rfl) ?_
                                refine m_pu (As := [.long p0, .int (nI i)]) (rest := []) ⟨hx, hb, hml, hown, hts⟩ (c_X10_one l p0 (nI i) ) (va_cwS 2 hts gX10_isJoined_X10_one rfl rfl rfl (by decide +kernel) ⟨Nat.le_of_ble_eq_true rfl, Nat.le_of_ble_eq_true rfl⟩) hP rfl hl.1 rfl (Nat.le_of_ble_eq_true rfl) dX10_isJoined_176 ⟨Nat.le_of_ble_eq_true rfl, Nat.le_of_ble_eq_true rfl⟩ hS (fun r176 H locs q176 hP hS => ?_)
                                have i176 : r176.toInt = (r_one p0 (nI i)).toInt := congrArg Int32.toInt q176
                                refine lv_iconst (v := 1) hx hb dX10_isJoined_179 (by decide) ?_
                                refine lv_icmp_ne (tgt := 209) hx hb dX10_isJoined_180 (by decide) (fun c180 => ?_) (fun c180 => ?_)
                                · skip
                                  have d180 := c180
                                  rw [fa_eq] at d180
                                  refine lv_iinc (v := (nI (i + 1))) (lv' := [(7, .int (nI (i + 1))), (8, .int (1 : Int32)), (6, .int xn), (5, .int x5), (0, .ref mo), (1, .int w), (2, .int h), (3, .long p0)]) hx hb dX10_isJoined_209 hl (k := 1) rfl (nI_1 _) (by decide) rfl (fun ls hl => ?_)
                                  refine lv_goto (tgt := 77) hx hb dX10_isJoined_212 (by decide) ?_
                                  exact ih_77 (i + 1) xn mt1 (by omega) (by first | exact j77_1 | (have z := cz_upd (mt := mt1) (i := (nI i).toNatClampNeg) (v := (1 : Int32) &&& 1) (nI_cl (by omega)) (by rw [← e189]; exact c190) (by decide); rcases j77_1 with ⟨_, y⟩ | ⟨_, y⟩ <;> exact Or.inr ⟨rfl, by omega⟩)) (by omega) _ _ hP hS ls (lv_sub hl [0, 2, 3, 4, 5, 6, 7] rfl)
                                · skip
                                  have d180 := c180
                                  rw [fa_eq] at d180
                                  refine lv_aload_n hx hb dX10_isJoined_183 rfl (lv_at hl 4 rfl) ?_
                                  refine m_get (v := .ref (a 9)) hx hb hts hin hown hK hP 9 (by decide) rfl (hts (.fieldLink RX10 32 "ShadowBenchModel" "met" "[Z") (by decide +kernel)) rfl dX10_isJoined_184 ?_
                                  refine lv_iload hx hb dX10_isJoined_187 (lv_at hl 1 rfl) ?_
                                  refine m_zald (w := mt1) hx hb hK hP 8 rfl (vp_in_iff.mpr ⟨by omega, by omega⟩) dX10_isJoined_189 ?_
                                  refine lv_topi (fun v189 e189 => ?_)
                                  have i189 : v189.toInt = (mt1 (nI i).toNatClampNeg).toInt := congrArg Int32.toInt e189
                                  refine lv_if_ne (tgt := 209) hx hb dX10_isJoined_190 (by decide) (fun c190 => ?_) (fun c190 => ?_)
                                  · skip
                                    have d190 := c190
                                    rw [fa_eq] at d190
                                    refine lv_iinc (v := (nI (i + 1))) (lv' := [(7, .int (nI (i + 1))), (8, .int (1 : Int32)), (6, .int xn), (5, .int x5), (0, .ref mo), (1, .int w), (2, .int h), (3, .long p0)]) hx hb dX10_isJoined_209 hl (k := 1) rfl (nI_1 _) (by decide) rfl (fun ls hl => ?_)
                                    refine lv_goto (tgt := 77) hx hb dX10_isJoined_212 (by decide) ?_
                                    exact ih_77 (i + 1) xn mt1 (by omega) (by first | exact j77_1 | (have z := cz_upd (mt := mt1) (i := (nI i).toNatClampNeg) (v := (1 : Int32) &&& 1) (nI_cl (by omega)) (by rw [← e189]; exact c190) (by decide); rcases j77_1 with ⟨_, y⟩ | ⟨_, y⟩ <;> exact Or.inr ⟨rfl, by omega⟩)) (by omega) _ _ hP hS ls (lv_sub hl [0, 2, 3, 4, 5, 6, 7] rfl)
                                  · skip
                                    have d190 := c190
                                    rw [fa_eq] at d190
                                    refine lv_iload hx hb dX10_isJoined_193 (lv_at hl 0 rfl) ?_
                                    refine lv_if_eq (tgt := 209) hx hb dX10_isJoined_195 (by decide) (fun c195 => ?_) (fun c195 => ?_)
                                    · first | exact absurd c195 (by decide) | exact absurd (by decide) c195
                                    · skip
                                      have d195 := c195
                                      rw [fa_eq] at d195
                                      refine lv_aload_n hx hb dX10_isJoined_198 rfl (lv_at hl 4 rfl) ?_
                                      refine m_get (v := .ref (a 9)) hx hb hts hin hown hK hP 9 (by decide) rfl (hts (.fieldLink RX10 32 "ShadowBenchModel" "met" "[Z") (by decide +kernel)) rfl dX10_isJoined_199 ?_
                                      refine lv_iload hx hb dX10_isJoined_202 (lv_at hl 1 rfl) ?_
                                      refine lv_iconst (v := 1) hx hb dX10_isJoined_204 (by decide) ?_
                                      refine m_zast (w := mt1) hx hb hK hP hD hS 8 rfl (vp_in_iff.mpr ⟨by omega, by omega⟩) (va_up r 9 ((upd mt1 (nI i).toNatClampNeg ((1 : Int32) &&& 1)))) rfl dX10_isJoined_205 (fun H locs hP hS => ?_)
                                      refine lv_iconst (v := 1) hx hb dX10_isJoined_206 (by decide) ?_
                                      refine lv_istore (lv' := [(6, .int (1 : Int32)), (8, .int (1 : Int32)), (7, .int (nI i)), (5, .int x5), (0, .ref mo), (1, .int w), (2, .int h), (3, .long p0)]) hx hb dX10_isJoined_207 hl (by decide) rfl (fun ls hl => ?_)
                                      refine lv_iinc (v := (nI (i + 1))) (lv' := [(7, .int (nI (i + 1))), (6, .int (1 : Int32)), (8, .int (1 : Int32)), (5, .int x5), (0, .ref mo), (1, .int w), (2, .int h), (3, .long p0)]) hx hb dX10_isJoined_209 hl (k := 2) rfl (nI_1 _) (by decide) rfl (fun ls hl => ?_)
                                      refine lv_goto (tgt := 77) hx hb dX10_isJoined_212 (by decide) ?_
                                      exact ih_77 (i + 1) (1 : Int32) (((upd mt1 (nI i).toNatClampNeg ((1 : Int32) &&& 1)))) (by omega) (by first | exact j77_1 | (have z := cz_upd (mt := mt1) (i := (nI i).toNatClampNeg) (v := (1 : Int32) &&& 1) (nI_cl (by omega)) (by rw [← e189]; exact c190) (by decide); rcases j77_1 with ⟨_, y⟩ | ⟨_, y⟩ <;> exact Or.inr ⟨rfl, by omega⟩)) (by omega) _ _ hP hS ls (lv_sub hl [0, 1, 3, 4, 5, 6, 7] rfl)
                          · skip
                            have d129 := c129
                            rw [fa_lt] at d129
                            refine lv_aload_n hx hb dX10_isJoined_132 rfl (lv_at hl 3 rfl) ?_
                            refine m_get (v := .ref (a 9)) hx hb hts hin hown hK hP 9 (by decide) rfl (hts (.fieldLink RX10 32 "ShadowBenchModel" "met" "[Z") (by decide +kernel)) rfl dX10_isJoined_133 ?_
                            refine lv_iload hx hb dX10_isJoined_136 (lv_at hl 0 rfl) ?_
                            refine lv_iload_n hx hb dX10_isJoined_138 rfl (lv_at hl 4 rfl) ?_
                            refine lv_isub hx hb dX10_isJoined_139 ?_
                            refine lv_topi (fun v139 e139 => ?_)
                            have i139 : v139.toInt = (nI i).toInt - w.toInt := by rw [e139]; exact fb_subI (by omega) (by omega)
                            refine m_zald (w := mt1) hx hb hK hP 8 rfl (vp_in_iff.mpr ⟨by omega, by omega⟩) dX10_isJoined_140 ?_
                            refine lv_topi (fun v140 e140 => ?_)
                            have i140 : v140.toInt = (mt1 v139.toNatClampNeg).toInt := congrArg Int32.toInt e140
                            refine lv_if_ne (tgt := 166) hx hb dX10_isJoined_141 (by decide) (fun c141 => ?_) (fun c141 => ?_)
                            · skip
                              have d141 := c141
                              rw [fa_eq] at d141
                              refine lv_iconst (v := 1) hx hb dX10_isJoined_166 (by decide) ?_
                              refine lv_goto (tgt := 171) hx hb dX10_isJoined_167 (by decide) ?_
                              refine lv_istore (lv' := [(8, .int (1 : Int32)), (7, .int (nI i)), (6, .int xn), (5, .int x5), (0, .ref mo), (1, .int w), (2, .int h), (3, .long p0)]) hx hb dX10_isJoined_171 hl (by decide) rfl (fun ls hl => ?_)
                              refine lv_lload_n hx hb dX10_isJoined_173 rfl (lv_at hl 7 rfl) ?_
                              refine lv_iload hx hb dX10_isJoined_174 (lv_at hl 1 rfl) ?_
                              refine m_pu (As := [.long p0, .int (nI i)]) (rest := []) ⟨hx, hb, hml, hown, hts⟩ (c_X10_one l p0 (nI i) ) (va_cwS 2 hts gX10_isJoined_X10_one rfl rfl rfl (by decide +kernel) ⟨Nat.le_of_ble_eq_true rfl, Nat.le_of_ble_eq_true rfl⟩) hP rfl hl.1 rfl (Nat.le_of_ble_eq_true rfl) dX10_isJoined_176 ⟨Nat.le_of_ble_eq_true rfl, Nat.le_of_ble_eq_true rfl⟩ hS (fun r176 H locs q176 hP hS => ?_)
                              have i176 : r176.toInt = (r_one p0 (nI i)).toInt := congrArg Int32.toInt q176
                              refine lv_iconst (v := 1) hx hb dX10_isJoined_179 (by decide) ?_
                              refine lv_icmp_ne (tgt := 209) hx hb dX10_isJoined_180 (by decide) (fun c180 => ?_) (fun c180 => ?_)
                              · skip
                                have d180 := c180
                                rw [fa_eq] at d180
                                refine lv_iinc (v := (nI (i + 1))) (lv' := [(7, .int (nI (i + 1))), (8, .int (1 : Int32)), (6, .int xn), (5, .int x5), (0, .ref mo), (1, .int w), (2, .int h), (3, .long p0)]) hx hb dX10_isJoined_209 hl (k := 1) rfl (nI_1 _) (by decide) rfl (fun ls hl => ?_)
                                refine lv_goto (tgt := 77) hx hb dX10_isJoined_212 (by decide) ?_
                                exact ih_77 (i + 1) xn mt1 (by omega) (by first | exact j77_1 | (have z := cz_upd (mt := mt1) (i := (nI i).toNatClampNeg) (v := (1 : Int32) &&& 1) (nI_cl (by omega)) (by rw [← e189]; exact c190) (by decide); rcases j77_1 with ⟨_, y⟩ | ⟨_, y⟩ <;> exact Or.inr ⟨rfl, by omega⟩)) (by omega) _ _ hP hS ls (lv_sub hl [0, 2, 3, 4, 5, 6, 7] rfl)
                              · skip
                                have d180 := c180
                                rw [fa_eq] at d180
                                refine lv_aload_n hx hb dX10_isJoined_183 rfl (lv_at hl 4 rfl) ?_
                                refine m_get (v := .ref (a 9)) hx hb hts hin hown hK hP 9 (by decide) rfl (hts (.fieldLink RX10 32 "ShadowBenchModel" "met" "[Z") (by decide +kernel)) rfl dX10_isJoined_184 ?_
                                refine lv_iload hx hb dX10_isJoined_187 (lv_at hl 1 rfl) ?_
                                refine m_zald (w := mt1) hx hb hK hP 8 rfl (vp_in_iff.mpr ⟨by omega, by omega⟩) dX10_isJoined_189 ?_
                                refine lv_topi (fun v189 e189 => ?_)
                                have i189 : v189.toInt = (mt1 (nI i).toNatClampNeg).toInt := congrArg Int32.toInt e189
                                refine lv_if_ne (tgt := 209) hx hb dX10_isJoined_190 (by decide) (fun c190 => ?_) (fun c190 => ?_)
                                · skip
                                  have d190 := c190
                                  rw [fa_eq] at d190
                                  refine lv_iinc (v := (nI (i + 1))) (lv' := [(7, .int (nI (i + 1))), (8, .int (1 : Int32)), (6, .int xn), (5, .int x5), (0, .ref mo), (1, .int w), (2, .int h), (3, .long p0)]) hx hb dX10_isJoined_209 hl (k := 1) rfl (nI_1 _) (by decide) rfl (fun ls hl => ?_)
                                  refine lv_goto (tgt := 77) hx hb dX10_isJoined_212 (by decide) ?_
                                  exact ih_77 (i + 1) xn mt1 (by omega) (by first | exact j77_1 | (have z := cz_upd (mt := mt1) (i := (nI i).toNatClampNeg) (v := (1 : Int32) &&& 1) (nI_cl (by omega)) (by rw [← e189]; exact c190) (by decide); rcases j77_1 with ⟨_, y⟩ | ⟨_, y⟩ <;> exact Or.inr ⟨rfl, by omega⟩)) (by omega) _ _ hP hS ls (lv_sub hl [0, 2, 3, 4, 5, 6, 7] rfl)
                                · skip
                                  have d190 := c190
                                  rw [fa_eq] at d190
                                  refine lv_iload hx hb dX10_isJoined_193 (lv_at hl 0 rfl) ?_
                                  refine lv_if_eq (tgt := 209) hx hb dX10_isJoined_195 (by decide) (fun c195 => ?_) (fun c195 => ?_)
                                  · first | exact absurd c195 (by decide) | exact absurd (by decide) c195
                                  · skip
                                    have d195 := c195
                                    rw [fa_eq] at d195
                                    refine lv_aload_n hx hb dX10_isJoined_198 rfl (lv_at hl 4 rfl) ?_
                                    refine m_get (v := .ref (a 9)) hx hb hts hin hown hK hP 9 (by decide) rfl (hts (.fieldLink RX10 32 "ShadowBenchModel" "met" "[Z") (by decide +kernel)) rfl dX10_isJoined_199 ?_
                                    refine lv_iload hx hb dX10_isJoined_202 (lv_at hl 1 rfl) ?_
                                    refine lv_iconst (v := 1) hx hb dX10_isJoined_204 (by decide) ?_
                                    refine m_zast (w := mt1) hx hb hK hP hD hS 8 rfl (vp_in_iff.mpr ⟨by omega, by omega⟩) (va_up r 9 ((upd mt1 (nI i).toNatClampNeg ((1 : Int32) &&& 1)))) rfl dX10_isJoined_205 (fun H locs hP hS => ?_)
                                    refine lv_iconst (v := 1) hx hb dX10_isJoined_206 (by decide) ?_
                                    refine lv_istore (lv' := [(6, .int (1 : Int32)), (8, .int (1 : Int32)), (7, .int (nI i)), (5, .int x5), (0, .ref mo), (1, .int w), (2, .int h), (3, .long p0)]) hx hb dX10_isJoined_207 hl (by decide) rfl (fun ls hl => ?_)
                                    refine lv_iinc (v := (nI (i + 1))) (lv' := [(7, .int (nI (i + 1))), (6, .int (1 : Int32)), (8, .int (1 : Int32)), (5, .int x5), (0, .ref mo), (1, .int w), (2, .int h), (3, .long p0)]) hx hb dX10_isJoined_209 hl (k := 2) rfl (nI_1 _) (by decide) rfl (fun ls hl => ?_)
                                    refine lv_goto (tgt := 77) hx hb dX10_isJoined_212 (by decide) ?_
                                    exact ih_77 (i + 1) (1 : Int32) (((upd mt1 (nI i).toNatClampNeg ((1 : Int32) &&& 1)))) (by omega) (by first | exact j77_1 | (have z := cz_upd (mt := mt1) (i := (nI i).toNatClampNeg) (v := (1 : Int32) &&& 1) (nI_cl (by omega)) (by rw [← e189]; exact c190) (by decide); rcases j77_1 with ⟨_, y⟩ | ⟨_, y⟩ <;> exact Or.inr ⟨rfl, by omega⟩)) (by omega) _ _ hP hS ls (lv_sub hl [0, 1, 3, 4, 5, 6, 7] rfl)
                            · skip
                              have d141 := c141
                              rw [fa_eq] at d141
                              refine lv_iload hx hb dX10_isJoined_144 (lv_at hl 0 rfl) ?_
                              refine lv_iload_n hx hb dX10_isJoined_146 rfl (lv_at hl 4 rfl) ?_
                              refine lv_iadd hx hb dX10_isJoined_147 ?_
                              refine lv_topi (fun v147 e147 => ?_)
                              have i147 : v147.toInt = (nI i).toInt + w.toInt := by rw [e147]; exact fb_addI (by omega) (by omega)
                              refine lv_iload_n hx hb dX10_isJoined_148 rfl (lv_at hl 4 rfl) ?_
                              refine lv_iload_n hx hb dX10_isJoined_149 rfl (lv_at hl 5 rfl) ?_
                              refine lv_imul hx hb dX10_isJoined_150 ?_
                              refine lv_topi (fun v150 e150 => ?_)
                              have i150 : v150.toInt = w.toInt * h.toInt := by rw [e150]; exact fb_mulI (by omega) (by omega)
                              refine lv_icmp_ge (tgt := 170) hx hb dX10_isJoined_151 (by decide) (fun c151 => ?_) (fun c151 => ?_)
                              · skip
                                have d151 := c151
                                rw [fa_le] at d151
                                refine lv_iconst (v := 0) hx hb dX10_isJoined_170 (by decide) ?_
                                refine lv_istore (lv' := [(8, .int (0 : Int32)), (7, .int (nI i)), (6, .int xn), (5, .int x5), (0, .ref mo), (1, .int w), (2, .int h), (3, .long p0)]) hx hb dX10_isJoined_171 hl (by decide) rfl (fun ls hl => ?_)
                                refine lv_lload_n hx hb dX10_isJoined_173 rfl (lv_at hl 7 rfl) ?_
                                refine lv_iload hx hb dX10_isJoined_174 (lv_at hl 1 rfl) ?_
                                refine m_pu (As := [.long p0, .int (nI i)]) (rest := []) ⟨hx, hb, hml, hown, hts⟩ (c_X10_one l p0 (nI i) ) (va_cwS 2 hts gX10_isJoined_X10_one rfl rfl rfl (by decide +kernel) ⟨Nat.le_of_ble_eq_true rfl, Nat.le_of_ble_eq_true rfl⟩) hP rfl hl.1 rfl (Nat.le_of_ble_eq_true rfl) dX10_isJoined_176 ⟨Nat.le_of_ble_eq_true rfl, Nat.le_of_ble_eq_true rfl⟩ hS (fun r176 H locs q176 hP hS => ?_)
                                have i176 : r176.toInt = (r_one p0 (nI i)).toInt := congrArg Int32.toInt q176
                                refine lv_iconst (v := 1) hx hb dX10_isJoined_179 (by decide) ?_
                                refine lv_icmp_ne (tgt := 209) hx hb dX10_isJoined_180 (by decide) (fun c180 => ?_) (fun c180 => ?_)
                                · skip
                                  have d180 := c180
                                  rw [fa_eq] at d180
                                  refine lv_iinc (v := (nI (i + 1))) (lv' := [(7, .int (nI (i + 1))), (8, .int (0 : Int32)), (6, .int xn), (5, .int x5), (0, .ref mo), (1, .int w), (2, .int h), (3, .long p0)]) hx hb dX10_isJoined_209 hl (k := 1) rfl (nI_1 _) (by decide) rfl (fun ls hl => ?_)
                                  refine lv_goto (tgt := 77) hx hb dX10_isJoined_212 (by decide) ?_
                                  exact ih_77 (i + 1) xn mt1 (by omega) (by first | exact j77_1 | (have z := cz_upd (mt := mt1) (i := (nI i).toNatClampNeg) (v := (1 : Int32) &&& 1) (nI_cl (by omega)) (by rw [← e189]; exact c190) (by decide); rcases j77_1 with ⟨_, y⟩ | ⟨_, y⟩ <;> exact Or.inr ⟨rfl, by omega⟩)) (by omega) _ _ hP hS ls (lv_sub hl [0, 2, 3, 4, 5, 6, 7] rfl)
                                · skip
                                  have d180 := c180
                                  rw [fa_eq] at d180
                                  refine lv_aload_n hx hb dX10_isJoined_183 rfl (lv_at hl 4 rfl) ?_
                                  refine m_get (v := .ref (a 9)) hx hb hts hin hown hK hP 9 (by decide) rfl (hts (.fieldLink RX10 32 "ShadowBenchModel" "met" "[Z") (by decide +kernel)) rfl dX10_isJoined_184 ?_
                                  refine lv_iload hx hb dX10_isJoined_187 (lv_at hl 1 rfl) ?_
                                  refine m_zald (w := mt1) hx hb hK hP 8 rfl (vp_in_iff.mpr ⟨by omega, by omega⟩) dX10_isJoined_189 ?_
                                  refine lv_topi (fun v189 e189 => ?_)
                                  have i189 : v189.toInt = (mt1 (nI i).toNatClampNeg).toInt := congrArg Int32.toInt e189
                                  refine lv_if_ne (tgt := 209) hx hb dX10_isJoined_190 (by decide) (fun c190 => ?_) (fun c190 => ?_)
                                  · skip
                                    have d190 := c190
                                    rw [fa_eq] at d190
                                    refine lv_iinc (v := (nI (i + 1))) (lv' := [(7, .int (nI (i + 1))), (8, .int (0 : Int32)), (6, .int xn), (5, .int x5), (0, .ref mo), (1, .int w), (2, .int h), (3, .long p0)]) hx hb dX10_isJoined_209 hl (k := 1) rfl (nI_1 _) (by decide) rfl (fun ls hl => ?_)
                                    refine lv_goto (tgt := 77) hx hb dX10_isJoined_212 (by decide) ?_
                                    exact ih_77 (i + 1) xn mt1 (by omega) (by first | exact j77_1 | (have z := cz_upd (mt := mt1) (i := (nI i).toNatClampNeg) (v := (1 : Int32) &&& 1) (nI_cl (by omega)) (by rw [← e189]; exact c190) (by decide); rcases j77_1 with ⟨_, y⟩ | ⟨_, y⟩ <;> exact Or.inr ⟨rfl, by omega⟩)) (by omega) _ _ hP hS ls (lv_sub hl [0, 2, 3, 4, 5, 6, 7] rfl)
                                  · skip
                                    have d190 := c190
                                    rw [fa_eq] at d190
                                    refine lv_iload hx hb dX10_isJoined_193 (lv_at hl 0 rfl) ?_
                                    refine lv_if_eq (tgt := 209) hx hb dX10_isJoined_195 (by decide) (fun c195 => ?_) (fun c195 => ?_)
                                    · skip
                                      have d195 := c195
                                      rw [fa_eq] at d195
                                      refine lv_iinc (v := (nI (i + 1))) (lv' := [(7, .int (nI (i + 1))), (8, .int (0 : Int32)), (6, .int xn), (5, .int x5), (0, .ref mo), (1, .int w), (2, .int h), (3, .long p0)]) hx hb dX10_isJoined_209 hl (k := 1) rfl (nI_1 _) (by decide) rfl (fun ls hl => ?_)
                                      refine lv_goto (tgt := 77) hx hb dX10_isJoined_212 (by decide) ?_
                                      exact ih_77 (i + 1) xn mt1 (by omega) (by first | exact j77_1 | (have z := cz_upd (mt := mt1) (i := (nI i).toNatClampNeg) (v := (1 : Int32) &&& 1) (nI_cl (by omega)) (by rw [← e189]; exact c190) (by decide); rcases j77_1 with ⟨_, y⟩ | ⟨_, y⟩ <;> exact Or.inr ⟨rfl, by omega⟩)) (by omega) _ _ hP hS ls (lv_sub hl [0, 2, 3, 4, 5, 6, 7] rfl)
                                    · first | exact absurd c195 (by decide) | exact absurd (by decide) c195
                              · skip
                                have d151 := c151
                                rw [fa_le] at d151
                                refine lv_aload_n hx hb dX10_isJoined_154 rfl (lv_at hl 3 rfl) ?_
                                refine m_get (v := .ref (a 9)) hx hb hts hin hown hK hP 9 (by decide) rfl (hts (.fieldLink RX10 32 "ShadowBenchModel" "met" "[Z") (by decide +kernel)) rfl dX10_isJoined_155 ?_
                                refine lv_iload hx hb dX10_isJoined_158 (lv_at hl 0 rfl) ?_
                                refine lv_iload_n hx hb dX10_isJoined_160 rfl (lv_at hl 4 rfl) ?_
                                refine lv_iadd hx hb dX10_isJoined_161 ?_
                                refine lv_topi (fun v161 e161 => ?_)
                                have i161 : v161.toInt = (nI i).toInt + w.toInt := by rw [e161]; exact fb_addI (by omega) (by omega)
                                refine m_zald (w := mt1) hx hb hK hP 8 rfl (vp_in_iff.mpr ⟨by omega, by omega⟩) dX10_isJoined_162 ?_
                                refine lv_topi (fun v162 e162 => ?_)
                                have i162 : v162.toInt = (mt1 v161.toNatClampNeg).toInt := congrArg Int32.toInt e162
                                refine lv_if_eq (tgt := 170) hx hb dX10_isJoined_163 (by decide) (fun c163 => ?_) (fun c163 => ?_)
                                · skip
                                  have d163 := c163
                                  rw [fa_eq] at d163
                                  refine lv_iconst (v := 0) hx hb dX10_isJoined_170 (by decide) ?_
                                  refine lv_istore (lv' := [(8, .int (0 : Int32)), (7, .int (nI i)), (6, .int xn), (5, .int x5), (0, .ref mo), (1, .int w), (2, .int h), (3, .long p0)]) hx hb dX10_isJoined_171 hl (by decide) rfl (fun ls hl => ?_)
                                  refine lv_lload_n hx hb dX10_isJoined_173 rfl (lv_at hl 7 rfl) ?_
                                  refine lv_iload hx hb dX10_isJoined_174 (lv_at hl 1 rfl) ?_
                                  refine m_pu (As := [.long p0, .int (nI i)]) (rest := []) ⟨hx, hb, hml, hown, hts⟩ (c_X10_one l p0 (nI i) ) (va_cwS 2 hts gX10_isJoined_X10_one rfl rfl rfl (by decide +kernel) ⟨Nat.le_of_ble_eq_true rfl, Nat.le_of_ble_eq_true rfl⟩) hP rfl hl.1 rfl (Nat.le_of_ble_eq_true rfl) dX10_isJoined_176 ⟨Nat.le_of_ble_eq_true rfl, Nat.le_of_ble_eq_true rfl⟩ hS (fun r176 H locs q176 hP hS => ?_)
                                  have i176 : r176.toInt = (r_one p0 (nI i)).toInt := congrArg Int32.toInt q176
                                  refine lv_iconst (v := 1) hx hb dX10_isJoined_179 (by decide) ?_
                                  refine lv_icmp_ne (tgt := 209) hx hb dX10_isJoined_180 (by decide) (fun c180 => ?_) (fun c180 => ?_)
                                  · skip
                                    have d180 := c180
                                    rw [fa_eq] at d180
                                    refine lv_iinc (v := (nI (i + 1))) (lv' := [(7, .int (nI (i + 1))), (8, .int (0 : Int32)), (6, .int xn), (5, .int x5), (0, .ref mo), (1, .int w), (2, .int h), (3, .long p0)]) hx hb dX10_isJoined_209 hl (k := 1) rfl (nI_1 _) (by decide) rfl (fun ls hl => ?_)
                                    refine lv_goto (tgt := 77) hx hb dX10_isJoined_212 (by decide) ?_
                                    exact ih_77 (i + 1) xn mt1 (by omega) (by first | exact j77_1 | (have z := cz_upd (mt := mt1) (i := (nI i).toNatClampNeg) (v := (1 : Int32) &&& 1) (nI_cl (by omega)) (by rw [← e189]; exact c190) (by decide); rcases j77_1 with ⟨_, y⟩ | ⟨_, y⟩ <;> exact Or.inr ⟨rfl, by omega⟩)) (by omega) _ _ hP hS ls (lv_sub hl [0, 2, 3, 4, 5, 6, 7] rfl)
                                  · skip
                                    have d180 := c180
                                    rw [fa_eq] at d180
                                    refine lv_aload_n hx hb dX10_isJoined_183 rfl (lv_at hl 4 rfl) ?_
                                    refine m_get (v := .ref (a 9)) hx hb hts hin hown hK hP 9 (by decide) rfl (hts (.fieldLink RX10 32 "ShadowBenchModel" "met" "[Z") (by decide +kernel)) rfl dX10_isJoined_184 ?_
                                    refine lv_iload hx hb dX10_isJoined_187 (lv_at hl 1 rfl) ?_
                                    refine m_zald (w := mt1) hx hb hK hP 8 rfl (vp_in_iff.mpr ⟨by omega, by omega⟩) dX10_isJoined_189 ?_
                                    refine lv_topi (fun v189 e189 => ?_)
                                    have i189 : v189.toInt = (mt1 (nI i).toNatClampNeg).toInt := congrArg Int32.toInt e189
                                    refine lv_if_ne (tgt := 209) hx hb dX10_isJoined_190 (by decide) (fun c190 => ?_) (fun c190 => ?_)
                                    · skip
                                      have d190 := c190
                                      rw [fa_eq] at d190
                                      refine lv_iinc (v := (nI (i + 1))) (lv' := [(7, .int (nI (i + 1))), (8, .int (0 : Int32)), (6, .int xn), (5, .int x5), (0, .ref mo), (1, .int w), (2, .int h), (3, .long p0)]) hx hb dX10_isJoined_209 hl (k := 1) rfl (nI_1 _) (by decide) rfl (fun ls hl => ?_)
                                      refine lv_goto (tgt := 77) hx hb dX10_isJoined_212 (by decide) ?_
                                      exact ih_77 (i + 1) xn mt1 (by omega) (by first | exact j77_1 | (have z := cz_upd (mt := mt1) (i := (nI i).toNatClampNeg) (v := (1 : Int32) &&& 1) (nI_cl (by omega)) (by rw [← e189]; exact c190) (by decide); rcases j77_1 with ⟨_, y⟩ | ⟨_, y⟩ <;> exact Or.inr ⟨rfl, by omega⟩)) (by omega) _ _ hP hS ls (lv_sub hl [0, 2, 3, 4, 5, 6, 7] rfl)
                                    · skip
                                      have d190 := c190
                                      rw [fa_eq] at d190
                                      refine lv_iload hx hb dX10_isJoined_193 (lv_at hl 0 rfl) ?_
                                      refine lv_if_eq (tgt := 209) hx hb dX10_isJoined_195 (by decide) (fun c195 => ?_) (fun c195 => ?_)
                                      · skip
                                        have d195 := c195
                                        rw [fa_eq] at d195
                                        refine lv_iinc (v := (nI (i + 1))) (lv' := [(7, .int (nI (i + 1))), (8, .int (0 : Int32)), (6, .int xn), (5, .int x5), (0, .ref mo), (1, .int w), (2, .int h), (3, .long p0)]) hx hb dX10_isJoined_209 hl (k := 1) rfl (nI_1 _) (by decide) rfl (fun ls hl => ?_)
                                        refine lv_goto (tgt := 77) hx hb dX10_isJoined_212 (by decide) ?_
                                        exact ih_77 (i + 1) xn mt1 (by omega) (by first | exact j77_1 | (have z := cz_upd (mt := mt1) (i := (nI i).toNatClampNeg) (v := (1 : Int32) &&& 1) (nI_cl (by omega)) (by rw [← e189]; exact c190) (by decide); rcases j77_1 with ⟨_, y⟩ | ⟨_, y⟩ <;> exact Or.inr ⟨rfl, by omega⟩)) (by omega) _ _ hP hS ls (lv_sub hl [0, 2, 3, 4, 5, 6, 7] rfl)
                                      · first | exact absurd c195 (by decide) | exact absurd (by decide) c195
                                · skip
                                  have d163 := c163
                                  rw [fa_eq] at d163
                                  refine lv_iconst (v := 1) hx hb dX10_isJoined_166 (by decide) ?_
                                  refine lv_goto (tgt := 171) hx hb dX10_isJoined_167 (by decide) ?_
                                  refine lv_istore (lv' := [(8, .int (1 : Int32)), (7, .int (nI i)), (6, .int xn), (5, .int x5), (0, .ref mo), (1, .int w), (2, .int h), (3, .long p0)]) hx hb dX10_isJoined_171 hl (by decide) rfl (fun ls hl => ?_)
                                  refine lv_lload_n hx hb dX10_isJoined_173 rfl (lv_at hl 7 rfl) ?_
                                  refine lv_iload hx hb dX10_isJoined_174 (lv_at hl 1 rfl) ?_
                                  refine m_pu (As := [.long p0, .int (nI i)]) (rest := []) ⟨hx, hb, hml, hown, hts⟩ (c_X10_one l p0 (nI i) ) (va_cwS 2 hts gX10_isJoined_X10_one rfl rfl rfl (by decide +kernel) ⟨Nat.le_of_ble_eq_true rfl, Nat.le_of_ble_eq_true rfl⟩) hP rfl hl.1 rfl (Nat.le_of_ble_eq_true rfl) dX10_isJoined_176 ⟨Nat.le_of_ble_eq_true rfl, Nat.le_of_ble_eq_true rfl⟩ hS (fun r176 H locs q176 hP hS => ?_)
                                  have i176 : r176.toInt = (r_one p0 (nI i)).toInt := congrArg Int32.toInt q176
                                  refine lv_iconst (v := 1) hx hb dX10_isJoined_179 (by decide) ?_
                                  refine lv_icmp_ne (tgt := 209) hx hb dX10_isJoined_180 (by decide) (fun c180 => ?_) (fun c180 => ?_)
                                  · skip
                                    have d180 := c180
                                    rw [fa_eq] at d180
                                    refine lv_iinc (v := (nI (i + 1))) (lv' := [(7, .int (nI (i + 1))), (8, .int (1 : Int32)), (6, .int xn), (5, .int x5), (0, .ref mo), (1, .int w), (2, .int h), (3, .long p0)]) hx hb dX10_isJoined_209 hl (k := 1) rfl (nI_1 _) (by decide) rfl (fun ls hl => ?_)
                                    refine lv_goto (tgt := 77) hx hb dX10_isJoined_212 (by decide) ?_
                                    exact ih_77 (i + 1) xn mt1 (by omega) (by first | exact j77_1 | (have z := cz_upd (mt := mt1) (i := (nI i).toNatClampNeg) (v := (1 : Int32) &&& 1) (nI_cl (by omega)) (by rw [← e189]; exact c190) (by decide); rcases j77_1 with ⟨_, y⟩ | ⟨_, y⟩ <;> exact Or.inr ⟨rfl, by omega⟩)) (by omega) _ _ hP hS ls (lv_sub hl [0, 2, 3, 4, 5, 6, 7] rfl)
                                  · skip
                                    have d180 := c180
                                    rw [fa_eq] at d180
                                    refine lv_aload_n hx hb dX10_isJoined_183 rfl (lv_at hl 4 rfl) ?_
                                    refine m_get (v := .ref (a 9)) hx hb hts hin hown hK hP 9 (by decide) rfl (hts (.fieldLink RX10 32 "ShadowBenchModel" "met" "[Z") (by decide +kernel)) rfl dX10_isJoined_184 ?_
                                    refine lv_iload hx hb dX10_isJoined_187 (lv_at hl 1 rfl) ?_
                                    refine m_zald (w := mt1) hx hb hK hP 8 rfl (vp_in_iff.mpr ⟨by omega, by omega⟩) dX10_isJoined_189 ?_
                                    refine lv_topi (fun v189 e189 => ?_)
                                    have i189 : v189.toInt = (mt1 (nI i).toNatClampNeg).toInt := congrArg Int32.toInt e189
                                    refine lv_if_ne (tgt := 209) hx hb dX10_isJoined_190 (by decide) (fun c190 => ?_) (fun c190 => ?_)
                                    · skip
                                      have d190 := c190
                                      rw [fa_eq] at d190
                                      refine lv_iinc (v := (nI (i + 1))) (lv' := [(7, .int (nI (i + 1))), (8, .int (1 : Int32)), (6, .int xn), (5, .int x5), (0, .ref mo), (1, .int w), (2, .int h), (3, .long p0)]) hx hb dX10_isJoined_209 hl (k := 1) rfl (nI_1 _) (by decide) rfl (fun ls hl => ?_)
                                      refine lv_goto (tgt := 77) hx hb dX10_isJoined_212 (by decide) ?_
                                      exact ih_77 (i + 1) xn mt1 (by omega) (by first | exact j77_1 | (have z := cz_upd (mt := mt1) (i := (nI i).toNatClampNeg) (v := (1 : Int32) &&& 1) (nI_cl (by omega)) (by rw [← e189]; exact c190) (by decide); rcases j77_1 with ⟨_, y⟩ | ⟨_, y⟩ <;> exact Or.inr ⟨rfl, by omega⟩)) (by omega) _ _ hP hS ls (lv_sub hl [0, 2, 3, 4, 5, 6, 7] rfl)
                                    · skip
                                      have d190 := c190
                                      rw [fa_eq] at d190
                                      refine lv_iload hx hb dX10_isJoined_193 (lv_at hl 0 rfl) ?_
                                      refine lv_if_eq (tgt := 209) hx hb dX10_isJoined_195 (by decide) (fun c195 => ?_) (fun c195 => ?_)
                                      · first | exact absurd c195 (by decide) | exact absurd (by decide) c195
                                      · skip
                                        have d195 := c195
                                        rw [fa_eq] at d195
                                        refine lv_aload_n hx hb dX10_isJoined_198 rfl (lv_at hl 4 rfl) ?_
                                        refine m_get (v := .ref (a 9)) hx hb hts hin hown hK hP 9 (by decide) rfl (hts (.fieldLink RX10 32 "ShadowBenchModel" "met" "[Z") (by decide +kernel)) rfl dX10_isJoined_199 ?_
                                        refine lv_iload hx hb dX10_isJoined_202 (lv_at hl 1 rfl) ?_
                                        refine lv_iconst (v := 1) hx hb dX10_isJoined_204 (by decide) ?_
                                        refine m_zast (w := mt1) hx hb hK hP hD hS 8 rfl (vp_in_iff.mpr ⟨by omega, by omega⟩) (va_up r 9 ((upd mt1 (nI i).toNatClampNeg ((1 : Int32) &&& 1)))) rfl dX10_isJoined_205 (fun H locs hP hS => ?_)
                                        refine lv_iconst (v := 1) hx hb dX10_isJoined_206 (by decide) ?_
                                        refine lv_istore (lv' := [(6, .int (1 : Int32)), (8, .int (1 : Int32)), (7, .int (nI i)), (5, .int x5), (0, .ref mo), (1, .int w), (2, .int h), (3, .long p0)]) hx hb dX10_isJoined_207 hl (by decide) rfl (fun ls hl => ?_)
                                        refine lv_iinc (v := (nI (i + 1))) (lv' := [(7, .int (nI (i + 1))), (6, .int (1 : Int32)), (8, .int (1 : Int32)), (5, .int x5), (0, .ref mo), (1, .int w), (2, .int h), (3, .long p0)]) hx hb dX10_isJoined_209 hl (k := 2) rfl (nI_1 _) (by decide) rfl (fun ls hl => ?_)
                                        refine lv_goto (tgt := 77) hx hb dX10_isJoined_212 (by decide) ?_
                                        exact ih_77 (i + 1) (1 : Int32) (((upd mt1 (nI i).toNatClampNeg ((1 : Int32) &&& 1)))) (by omega) (by first | exact j77_1 | (have z := cz_upd (mt := mt1) (i := (nI i).toNatClampNeg) (v := (1 : Int32) &&& 1) (nI_cl (by omega)) (by rw [← e189]; exact c190) (by decide); rcases j77_1 with ⟨_, y⟩ | ⟨_, y⟩ <;> exact Or.inr ⟨rfl, by omega⟩)) (by omega) _ _ hP hS ls (lv_sub hl [0, 1, 3, 4, 5, 6, 7] rfl)
                        · skip
                          have d111 := c111
                          rw [fa_le] at d111
                          have z114 := rem_next (s := (nI i).toInt) (w := w.toInt) (h := h.toInt) (by omega) (by omega) (by omega) (by omega)
                          refine lv_aload_n hx hb dX10_isJoined_114 rfl (lv_at hl 3 rfl) ?_
                          refine m_get (v := .ref (a 9)) hx hb hts hin hown hK hP 9 (by decide) rfl (hts (.fieldLink RX10 32 "ShadowBenchModel" "met" "[Z") (by decide +kernel)) rfl dX10_isJoined_115 ?_
                          refine lv_iload hx hb dX10_isJoined_118 (lv_at hl 0 rfl) ?_
                          refine lv_iconst (v := 1) hx hb dX10_isJoined_120 (by decide) ?_
                          refine lv_iadd hx hb dX10_isJoined_121 ?_
                          refine lv_topi (fun v121 e121 => ?_)
                          have i121 : v121.toInt = (nI i).toInt + (1 : Int32).toInt := by rw [e121]; exact fb_addI (by omega) (by omega)
                          refine m_zald (w := mt1) hx hb hK hP 8 rfl (vp_in_iff.mpr ⟨by omega, by omega⟩) dX10_isJoined_122 ?_
                          refine lv_topi (fun v122 e122 => ?_)
                          have i122 : v122.toInt = (mt1 v121.toNatClampNeg).toInt := congrArg Int32.toInt e122
                          refine lv_if_ne (tgt := 166) hx hb dX10_isJoined_123 (by decide) (fun c123 => ?_) (fun c123 => ?_)
                          · skip
                            have d123 := c123
                            rw [fa_eq] at d123
                            refine lv_iconst (v := 1) hx hb dX10_isJoined_166 (by decide) ?_
                            refine lv_goto (tgt := 171) hx hb dX10_isJoined_167 (by decide) ?_
                            refine lv_istore (lv' := [(8, .int (1 : Int32)), (7, .int (nI i)), (6, .int xn), (5, .int x5), (0, .ref mo), (1, .int w), (2, .int h), (3, .long p0)]) hx hb dX10_isJoined_171 hl (by decide) rfl (fun ls hl => ?_)
                            refine lv_lload_n hx hb dX10_isJoined_173 rfl (lv_at hl 7 rfl) ?_
                            refine lv_iload hx hb dX10_isJoined_174 (lv_at hl 1 rfl) ?_
                            refine m_pu (As := [.long p0, .int (nI i)]) (rest := []) ⟨hx, hb, hml, hown, hts⟩ (c_X10_one l p0 (nI i) ) (va_cwS 2 hts gX10_isJoined_X10_one rfl rfl rfl (by decide +kernel) ⟨Nat.le_of_ble_eq_true rfl, Nat.le_of_ble_eq_true rfl⟩) hP rfl hl.1 rfl (Nat.le_of_ble_eq_true rfl) dX10_isJoined_176 ⟨Nat.le_of_ble_eq_true rfl, Nat.le_of_ble_eq_true rfl⟩ hS (fun r176 H locs q176 hP hS => ?_)
                            have i176 : r176.toInt = (r_one p0 (nI i)).toInt := congrArg Int32.toInt q176
                            refine lv_iconst (v := 1) hx hb dX10_isJoined_179 (by decide) ?_
                            refine lv_icmp_ne (tgt := 209) hx hb dX10_isJoined_180 (by decide) (fun c180 => ?_) (fun c180 => ?_)
                            · skip
                              have d180 := c180
                              rw [fa_eq] at d180
                              refine lv_iinc (v := (nI (i + 1))) (lv' := [(7, .int (nI (i + 1))), (8, .int (1 : Int32)), (6, .int xn), (5, .int x5), (0, .ref mo), (1, .int w), (2, .int h), (3, .long p0)]) hx hb dX10_isJoined_209 hl (k := 1) rfl (nI_1 _) (by decide) rfl (fun ls hl => ?_)
                              refine lv_goto (tgt := 77) hx hb dX10_isJoined_212 (by decide) ?_
                              exact ih_77 (i + 1) xn mt1 (by omega) (by first | exact j77_1 | (have z := cz_upd (mt := mt1) (i := (nI i).toNatClampNeg) (v := (1 : Int32) &&& 1) (nI_cl (by omega)) (by rw [← e189]; exact c190) (by decide); rcases j77_1 with ⟨_, y⟩ | ⟨_, y⟩ <;> exact Or.inr ⟨rfl, by omega⟩)) (by omega) _ _ hP hS ls (lv_sub hl [0, 2, 3, 4, 5, 6, 7] rfl)
                            · skip
                              have d180 := c180
                              rw [fa_eq] at d180
                              refine lv_aload_n hx hb dX10_isJoined_183 rfl (lv_at hl 4 rfl) ?_
                              refine m_get (v := .ref (a 9)) hx hb hts hin hown hK hP 9 (by decide) rfl (hts (.fieldLink RX10 32 "ShadowBenchModel" "met" "[Z") (by decide +kernel)) rfl dX10_isJoined_184 ?_
                              refine lv_iload hx hb dX10_isJoined_187 (lv_at hl 1 rfl) ?_
                              refine m_zald (w := mt1) hx hb hK hP 8 rfl (vp_in_iff.mpr ⟨by omega, by omega⟩) dX10_isJoined_189 ?_
                              refine lv_topi (fun v189 e189 => ?_)
                              have i189 : v189.toInt = (mt1 (nI i).toNatClampNeg).toInt := congrArg Int32.toInt e189
                              refine lv_if_ne (tgt := 209) hx hb dX10_isJoined_190 (by decide) (fun c190 => ?_) (fun c190 => ?_)
                              · skip
                                have d190 := c190
                                rw [fa_eq] at d190
                                refine lv_iinc (v := (nI (i + 1))) (lv' := [(7, .int (nI (i + 1))), (8, .int (1 : Int32)), (6, .int xn), (5, .int x5), (0, .ref mo), (1, .int w), (2, .int h), (3, .long p0)]) hx hb dX10_isJoined_209 hl (k := 1) rfl (nI_1 _) (by decide) rfl (fun ls hl => ?_)
                                refine lv_goto (tgt := 77) hx hb dX10_isJoined_212 (by decide) ?_
                                exact ih_77 (i + 1) xn mt1 (by omega) (by first | exact j77_1 | (have z := cz_upd (mt := mt1) (i := (nI i).toNatClampNeg) (v := (1 : Int32) &&& 1) (nI_cl (by omega)) (by rw [← e189]; exact c190) (by decide); rcases j77_1 with ⟨_, y⟩ | ⟨_, y⟩ <;> exact Or.inr ⟨rfl, by omega⟩)) (by omega) _ _ hP hS ls (lv_sub hl [0, 2, 3, 4, 5, 6, 7] rfl)
                              · skip
                                have d190 := c190
                                rw [fa_eq] at d190
                                refine lv_iload hx hb dX10_isJoined_193 (lv_at hl 0 rfl) ?_
                                refine lv_if_eq (tgt := 209) hx hb dX10_isJoined_195 (by decide) (fun c195 => ?_) (fun c195 => ?_)
                                · first | exact absurd c195 (by decide) | exact absurd (by decide) c195
                                · skip
                                  have d195 := c195
                                  rw [fa_eq] at d195
                                  refine lv_aload_n hx hb dX10_isJoined_198 rfl (lv_at hl 4 rfl) ?_
                                  refine m_get (v := .ref (a 9)) hx hb hts hin hown hK hP 9 (by decide) rfl (hts (.fieldLink RX10 32 "ShadowBenchModel" "met" "[Z") (by decide +kernel)) rfl dX10_isJoined_199 ?_
                                  refine lv_iload hx hb dX10_isJoined_202 (lv_at hl 1 rfl) ?_
                                  refine lv_iconst (v := 1) hx hb dX10_isJoined_204 (by decide) ?_
                                  refine m_zast (w := mt1) hx hb hK hP hD hS 8 rfl (vp_in_iff.mpr ⟨by omega, by omega⟩) (va_up r 9 ((upd mt1 (nI i).toNatClampNeg ((1 : Int32) &&& 1)))) rfl dX10_isJoined_205 (fun H locs hP hS => ?_)
                                  refine lv_iconst (v := 1) hx hb dX10_isJoined_206 (by decide) ?_
                                  refine lv_istore (lv' := [(6, .int (1 : Int32)), (8, .int (1 : Int32)), (7, .int (nI i)), (5, .int x5), (0, .ref mo), (1, .int w), (2, .int h), (3, .long p0)]) hx hb dX10_isJoined_207 hl (by decide) rfl (fun ls hl => ?_)
                                  refine lv_iinc (v := (nI (i + 1))) (lv' := [(7, .int (nI (i + 1))), (6, .int (1 : Int32)), (8, .int (1 : Int32)), (5, .int x5), (0, .ref mo), (1, .int w), (2, .int h), (3, .long p0)]) hx hb dX10_isJoined_209 hl (k := 2) rfl (nI_1 _) (by decide) rfl (fun ls hl => ?_)
                                  refine lv_goto (tgt := 77) hx hb dX10_isJoined_212 (by decide) ?_
                                  exact ih_77 (i + 1) (1 : Int32) (((upd mt1 (nI i).toNatClampNeg ((1 : Int32) &&& 1)))) (by omega) (by first | exact j77_1 | (have z := cz_upd (mt := mt1) (i := (nI i).toNatClampNeg) (v := (1 : Int32) &&& 1) (nI_cl (by omega)) (by rw [← e189]; exact c190) (by decide); rcases j77_1 with ⟨_, y⟩ | ⟨_, y⟩ <;> exact Or.inr ⟨rfl, by omega⟩)) (by omega) _ _ hP hS ls (lv_sub hl [0, 1, 3, 4, 5, 6, 7] rfl)
                          · skip
                            have d123 := c123
                            rw [fa_eq] at d123
                            refine lv_iload hx hb dX10_isJoined_126 (lv_at hl 0 rfl) ?_
                            refine lv_iload_n hx hb dX10_isJoined_128 rfl (lv_at hl 4 rfl) ?_
                            refine lv_icmp_lt (tgt := 144) hx hb dX10_isJoined_129 (by decide) (fun c129 => ?_) (fun c129 => ?_)
                            · skip
                              have d129 := c129
                              rw [fa_lt] at d129
                              refine lv_iload hx hb dX10_isJoined_144 (lv_at hl 0 rfl) ?_
                              refine lv_iload_n hx hb dX10_isJoined_146 rfl (lv_at hl 4 rfl) ?_
                              refine lv_iadd hx hb dX10_isJoined_147 ?_
                              refine lv_topi (fun v147 e147 => ?_)
                              have i147 : v147.toInt = (nI i).toInt + w.toInt := by rw [e147]; exact fb_addI (by omega) (by omega)
                              refine lv_iload_n hx hb dX10_isJoined_148 rfl (lv_at hl 4 rfl) ?_
                              refine lv_iload_n hx hb dX10_isJoined_149 rfl (lv_at hl 5 rfl) ?_
                              refine lv_imul hx hb dX10_isJoined_150 ?_
                              refine lv_topi (fun v150 e150 => ?_)
                              have i150 : v150.toInt = w.toInt * h.toInt := by rw [e150]; exact fb_mulI (by omega) (by omega)
                              refine lv_icmp_ge (tgt := 170) hx hb dX10_isJoined_151 (by decide) (fun c151 => ?_) (fun c151 => ?_)
                              · skip
                                have d151 := c151
                                rw [fa_le] at d151
                                refine lv_iconst (v := 0) hx hb dX10_isJoined_170 (by decide) ?_
                                refine lv_istore (lv' := [(8, .int (0 : Int32)), (7, .int (nI i)), (6, .int xn), (5, .int x5), (0, .ref mo), (1, .int w), (2, .int h), (3, .long p0)]) hx hb dX10_isJoined_171 hl (by decide) rfl (fun ls hl => ?_)
                                refine lv_lload_n hx hb dX10_isJoined_173 rfl (lv_at hl 7 rfl) ?_
                                refine lv_iload hx hb dX10_isJoined_174 (lv_at hl 1 rfl) ?_
                                refine m_pu (As := [.long p0, .int (nI i)]) (rest := []) ⟨hx, hb, hml, hown, hts⟩ (c_X10_one l p0 (nI i) ) (va_cwS 2 hts gX10_isJoined_X10_one rfl rfl rfl (by decide +kernel) ⟨Nat.le_of_ble_eq_true rfl, Nat.le_of_ble_eq_true rfl⟩) hP rfl hl.1 rfl (Nat.le_of_ble_eq_true rfl) dX10_isJoined_176 ⟨Nat.le_of_ble_eq_true rfl, Nat.le_of_ble_eq_true rfl⟩ hS (fun r176 H locs q176 hP hS => ?_)
                                have i176 : r176.toInt = (r_one p0 (nI i)).toInt := congrArg Int32.toInt q176
                                refine lv_iconst (v := 1) hx hb dX10_isJoined_179 (by decide) ?_
                                refine lv_icmp_ne (tgt := 209) hx hb dX10_isJoined_180 (by decide) (fun c180 => ?_) (fun c180 => ?_)
                                · skip
                                  have d180 := c180
                                  rw [fa_eq] at d180
                                  refine lv_iinc (v := (nI (i + 1))) (lv' := [(7, .int (nI (i + 1))), (8, .int (0 : Int32)), (6, .int xn), (5, .int x5), (0, .ref mo), (1, .int w), (2, .int h), (3, .long p0)]) hx hb dX10_isJoined_209 hl (k := 1) rfl (nI_1 _) (by decide) rfl (fun ls hl => ?_)
                                  refine lv_goto (tgt := 77) hx hb dX10_isJoined_212 (by decide) ?_
                                  exact ih_77 (i + 1) xn mt1 (by omega) (by first | exact j77_1 | (have z := cz_upd (mt := mt1) (i := (nI i).toNatClampNeg) (v := (1 : Int32) &&& 1) (nI_cl (by omega)) (by rw [← e189]; exact c190) (by decide); rcases j77_1 with ⟨_, y⟩ | ⟨_, y⟩ <;> exact Or.inr ⟨rfl, by omega⟩)) (by omega) _ _ hP hS ls (lv_sub hl [0, 2, 3, 4, 5, 6, 7] rfl)
                                · skip
                                  have d180 := c180
                                  rw [fa_eq] at d180
                                  refine lv_aload_n hx hb dX10_isJoined_183 rfl (lv_at hl 4 rfl) ?_
                                  refine m_get (v := .ref (a 9)) hx hb hts hin hown hK hP 9 (by decide) rfl (hts (.fieldLink RX10 32 "ShadowBenchModel" "met" "[Z") (by decide +kernel)) rfl dX10_isJoined_184 ?_
                                  refine lv_iload hx hb dX10_isJoined_187 (lv_at hl 1 rfl) ?_
                                  refine m_zald (w := mt1) hx hb hK hP 8 rfl (vp_in_iff.mpr ⟨by omega, by omega⟩) dX10_isJoined_189 ?_
                                  refine lv_topi (fun v189 e189 => ?_)
                                  have i189 : v189.toInt = (mt1 (nI i).toNatClampNeg).toInt := congrArg Int32.toInt e189
                                  refine lv_if_ne (tgt := 209) hx hb dX10_isJoined_190 (by decide) (fun c190 => ?_) (fun c190 => ?_)
                                  · skip
                                    have d190 := c190
                                    rw [fa_eq] at d190
                                    refine lv_iinc (v := (nI (i + 1))) (lv' := [(7, .int (nI (i + 1))), (8, .int (0 : Int32)), (6, .int xn), (5, .int x5), (0, .ref mo), (1, .int w), (2, .int h), (3, .long p0)]) hx hb dX10_isJoined_209 hl (k := 1) rfl (nI_1 _) (by decide) rfl (fun ls hl => ?_)
                                    refine lv_goto (tgt := 77) hx hb dX10_isJoined_212 (by decide) ?_
                                    exact ih_77 (i + 1) xn mt1 (by omega) (by first | exact j77_1 | (have z := cz_upd (mt := mt1) (i := (nI i).toNatClampNeg) (v := (1 : Int32) &&& 1) (nI_cl (by omega)) (by rw [← e189]; exact c190) (by decide); rcases j77_1 with ⟨_, y⟩ | ⟨_, y⟩ <;> exact Or.inr ⟨rfl, by omega⟩)) (by omega) _ _ hP hS ls (lv_sub hl [0, 2, 3, 4, 5, 6, 7] rfl)
                                  · skip
                                    have d190 := c190
                                    rw [fa_eq] at d190
                                    refine lv_iload hx hb dX10_isJoined_193 (lv_at hl 0 rfl) ?_
                                    refine lv_if_eq (tgt := 209) hx hb dX10_isJoined_195 (by decide) (fun c195 => ?_) (fun c195 => ?_)
                                    · skip
                                      have d195 := c195
                                      rw [fa_eq] at d195
                                      refine lv_iinc (v := (nI (i + 1))) (lv' := [(7, .int (nI (i + 1))), (8, .int (0 : Int32)), (6, .int xn), (5, .int x5), (0, .ref mo), (1, .int w), (2, .int h), (3, .long p0)]) hx hb dX10_isJoined_209 hl (k := 1) rfl (nI_1 _) (by decide) rfl (fun ls hl => ?_)
                                      refine lv_goto (tgt := 77) hx hb dX10_isJoined_212 (by decide) ?_
                                      exact ih_77 (i + 1) xn mt1 (by omega) (by first | exact j77_1 | (have z := cz_upd (mt := mt1) (i := (nI i).toNatClampNeg) (v := (1 : Int32) &&& 1) (nI_cl (by omega)) (by rw [← e189]; exact c190) (by decide); rcases j77_1 with ⟨_, y⟩ | ⟨_, y⟩ <;> exact Or.inr ⟨rfl, by omega⟩)) (by omega) _ _ hP hS ls (lv_sub hl [0, 2, 3, 4, 5, 6, 7] rfl)
                                    · first | exact absurd c195 (by decide) | exact absurd (by decide) c195
                              · skip
                                have d151 := c151
                                rw [fa_le] at d151
                                refine lv_aload_n hx hb dX10_isJoined_154 rfl (lv_at hl 3 rfl) ?_
                                refine m_get (v := .ref (a 9)) hx hb hts hin hown hK hP 9 (by decide) rfl (hts (.fieldLink RX10 32 "ShadowBenchModel" "met" "[Z") (by decide +kernel)) rfl dX10_isJoined_155 ?_
                                refine lv_iload hx hb dX10_isJoined_158 (lv_at hl 0 rfl) ?_
                                refine lv_iload_n hx hb dX10_isJoined_160 rfl (lv_at hl 4 rfl) ?_
                                refine lv_iadd hx hb dX10_isJoined_161 ?_
                                refine lv_topi (fun v161 e161 => ?_)
                                have i161 : v161.toInt = (nI i).toInt + w.toInt := by rw [e161]; exact fb_addI (by omega) (by omega)
                                refine m_zald (w := mt1) hx hb hK hP 8 rfl (vp_in_iff.mpr ⟨by omega, by omega⟩) dX10_isJoined_162 ?_
                                refine lv_topi (fun v162 e162 => ?_)
                                have i162 : v162.toInt = (mt1 v161.toNatClampNeg).toInt := congrArg Int32.toInt e162
                                refine lv_if_eq (tgt := 170) hx hb dX10_isJoined_163 (by decide) (fun c163 => ?_) (fun c163 => ?_)
                                · skip
                                  have d163 := c163
                                  rw [fa_eq] at d163
                                  refine lv_iconst (v := 0) hx hb dX10_isJoined_170 (by decide) ?_
                                  refine lv_istore (lv' := [(8, .int (0 : Int32)), (7, .int (nI i)), (6, .int xn), (5, .int x5), (0, .ref mo), (1, .int w), (2, .int h), (3, .long p0)]) hx hb dX10_isJoined_171 hl (by decide) rfl (fun ls hl => ?_)
                                  refine lv_lload_n hx hb dX10_isJoined_173 rfl (lv_at hl 7 rfl) ?_
                                  refine lv_iload hx hb dX10_isJoined_174 (lv_at hl 1 rfl) ?_
                                  refine m_pu (As := [.long p0, .int (nI i)]) (rest := []) ⟨hx, hb, hml, hown, hts⟩ (c_X10_one l p0 (nI i) ) (va_cwS 2 hts gX10_isJoined_X10_one rfl rfl rfl (by decide +kernel) ⟨Nat.le_of_ble_eq_true rfl, Nat.le_of_ble_eq_true rfl⟩) hP rfl hl.1 rfl (Nat.le_of_ble_eq_true rfl) dX10_isJoined_176 ⟨Nat.le_of_ble_eq_true rfl, Nat.le_of_ble_eq_true rfl⟩ hS (fun r176 H locs q176 hP hS => ?_)
                                  have i176 : r176.toInt = (r_one p0 (nI i)).toInt := congrArg Int32.toInt q176
                                  refine lv_iconst (v := 1) hx hb dX10_isJoined_179 (by decide) ?_
                                  refine lv_icmp_ne (tgt := 209) hx hb dX10_isJoined_180 (by decide) (fun c180 => ?_) (fun c180 => ?_)
                                  · skip
                                    have d180 := c180
                                    rw [fa_eq] at d180
                                    refine lv_iinc (v := (nI (i + 1))) (lv' := [(7, .int (nI (i + 1))), (8, .int (0 : Int32)), (6, .int xn), (5, .int x5), (0, .ref mo), (1, .int w), (2, .int h), (3, .long p0)]) hx hb dX10_isJoined_209 hl (k := 1) rfl (nI_1 _) (by decide) rfl (fun ls hl => ?_)
                                    refine lv_goto (tgt := 77) hx hb dX10_isJoined_212 (by decide) ?_
                                    exact ih_77 (i + 1) xn mt1 (by omega) (by first | exact j77_1 | (have z := cz_upd (mt := mt1) (i := (nI i).toNatClampNeg) (v := (1 : Int32) &&& 1) (nI_cl (by omega)) (by rw [← e189]; exact c190) (by decide); rcases j77_1 with ⟨_, y⟩ | ⟨_, y⟩ <;> exact Or.inr ⟨rfl, by omega⟩)) (by omega) _ _ hP hS ls (lv_sub hl [0, 2, 3, 4, 5, 6, 7] rfl)
                                  · skip
                                    have d180 := c180
                                    rw [fa_eq] at d180
                                    refine lv_aload_n hx hb dX10_isJoined_183 rfl (lv_at hl 4 rfl) ?_
                                    refine m_get (v := .ref (a 9)) hx hb hts hin hown hK hP 9 (by decide) rfl (hts (.fieldLink RX10 32 "ShadowBenchModel" "met" "[Z") (by decide +kernel)) rfl dX10_isJoined_184 ?_
                                    refine lv_iload hx hb dX10_isJoined_187 (lv_at hl 1 rfl) ?_
                                    refine m_zald (w := mt1) hx hb hK hP 8 rfl (vp_in_iff.mpr ⟨by omega, by omega⟩) dX10_isJoined_189 ?_
                                    refine lv_topi (fun v189 e189 => ?_)
                                    have i189 : v189.toInt = (mt1 (nI i).toNatClampNeg).toInt := congrArg Int32.toInt e189
                                    refine lv_if_ne (tgt := 209) hx hb dX10_isJoined_190 (by decide) (fun c190 => ?_) (fun c190 => ?_)
                                    · skip
                                      have d190 := c190
                                      rw [fa_eq] at d190
                                      refine lv_iinc (v := (nI (i + 1))) (lv' := [(7, .int (nI (i + 1))), (8, .int (0 : Int32)), (6, .int xn), (5, .int x5), (0, .ref mo), (1, .int w), (2, .int h), (3, .long p0)]) hx hb dX10_isJoined_209 hl (k := 1) rfl (nI_1 _) (by decide) rfl (fun ls hl => ?_)
                                      refine lv_goto (tgt := 77) hx hb dX10_isJoined_212 (by decide) ?_
                                      exact ih_77 (i + 1) xn mt1 (by omega) (by first | exact j77_1 | (have z := cz_upd (mt := mt1) (i := (nI i).toNatClampNeg) (v := (1 : Int32) &&& 1) (nI_cl (by omega)) (by rw [← e189]; exact c190) (by decide); rcases j77_1 with ⟨_, y⟩ | ⟨_, y⟩ <;> exact Or.inr ⟨rfl, by omega⟩)) (by omega) _ _ hP hS ls (lv_sub hl [0, 2, 3, 4, 5, 6, 7] rfl)
                                    · skip
                                      have d190 := c190
                                      rw [fa_eq] at d190
                                      refine lv_iload hx hb dX10_isJoined_193 (lv_at hl 0 rfl) ?_
                                      refine lv_if_eq (tgt := 209) hx hb dX10_isJoined_195 (by decide) (fun c195 => ?_) (fun c195 => ?_)
                                      · skip
                                        have d195 := c195
                                        rw [fa_eq] at d195
                                        refine lv_iinc (v := (nI (i + 1))) (lv' := [(7, .int (nI (i + 1))), (8, .int (0 : Int32)), (6, .int xn), (5, .int x5), (0, .ref mo), (1, .int w), (2, .int h), (3, .long p0)]) hx hb dX10_isJoined_209 hl (k := 1) rfl (nI_1 _) (by decide) rfl (fun ls hl => ?_)
                                        refine lv_goto (tgt := 77) hx hb dX10_isJoined_212 (by decide) ?_
                                        exact ih_77 (i + 1) xn mt1 (by omega) (by first | exact j77_1 | (have z := cz_upd (mt := mt1) (i := (nI i).toNatClampNeg) (v := (1 : Int32) &&& 1) (nI_cl (by omega)) (by rw [← e189]; exact c190) (by decide); rcases j77_1 with ⟨_, y⟩ | ⟨_, y⟩ <;> exact Or.inr ⟨rfl, by omega⟩)) (by omega) _ _ hP hS ls (lv_sub hl [0, 2, 3, 4, 5, 6, 7] rfl)
                                      · first | exact absurd c195 (by decide) | exact absurd (by decide) c195
                                · skip
                                  have d163 := c163
                                  rw [fa_eq] at d163
                                  refine lv_iconst (v := 1) hx hb dX10_isJoined_166 (by decide) ?_
                                  refine lv_goto (tgt := 171) hx hb dX10_isJoined_167 (by decide) ?_
                                  refine lv_istore (lv' := [(8, .int (1 : Int32)), (7, .int (nI i)), (6, .int xn), (5, .int x5), (0, .ref mo), (1, .int w), (2, .int h), (3, .long p0)]) hx hb dX10_isJoined_171 hl (by decide) rfl (fun ls hl => ?_)
                                  refine lv_lload_n hx hb dX10_isJoined_173 rfl (lv_at hl 7 rfl) ?_
                                  refine lv_iload hx hb dX10_isJoined_174 (lv_at hl 1 rfl) ?_
                                  refine m_pu (As := [.long p0, .int (nI i)]) (rest := []) ⟨hx, hb, hml, hown, hts⟩ (c_X10_one l p0 (nI i) ) (va_cwS 2 hts gX10_isJoined_X10_one rfl rfl rfl (by decide +kernel) ⟨Nat.le_of_ble_eq_true rfl, Nat.le_of_ble_eq_true rfl⟩) hP rfl hl.1 rfl (Nat.le_of_ble_eq_true rfl) dX10_isJoined_176 ⟨Nat.le_of_ble_eq_true rfl, Nat.le_of_ble_eq_true rfl⟩ hS (fun r176 H locs q176 hP hS => ?_)
                                  have i176 : r176.toInt = (r_one p0 (nI i)).toInt := congrArg Int32.toInt q176
                                  refine lv_iconst (v := 1) hx hb dX10_isJoined_179 (by decide) ?_
                                  refine lv_icmp_ne (tgt := 209) hx hb dX10_isJoined_180 (by decide) (fun c180 => ?_) (fun c180 => ?_)
                                  · skip
                                    have d180 := c180
                                    rw [fa_eq] at d180
                                    refine lv_iinc (v := (nI (i + 1))) (lv' := [(7, .int (nI (i + 1))), (8, .int (1 : Int32)), (6, .int xn), (5, .int x5), (0, .ref mo), (1, .int w), (2, .int h), (3, .long p0)]) hx hb dX10_isJoined_209 hl (k := 1) rfl (nI_1 _) (by decide) rfl (fun ls hl => ?_)
                                    refine lv_goto (tgt := 77) hx hb dX10_isJoined_212 (by decide) ?_
                                    exact ih_77 (i + 1) xn mt1 (by omega) (by first | exact j77_1 | (have z := cz_upd (mt := mt1) (i := (nI i).toNatClampNeg) (v := (1 : Int32) &&& 1) (nI_cl (by omega)) (by rw [← e189]; exact c190) (by decide); rcases j77_1 with ⟨_, y⟩ | ⟨_, y⟩ <;> exact Or.inr ⟨rfl, by omega⟩)) (by omega) _ _ hP hS ls (lv_sub hl [0, 2, 3, 4, 5, 6, 7] rfl)
                                  · skip
                                    have d180 := c180
                                    rw [fa_eq] at d180
                                    refine lv_aload_n hx hb dX10_isJoined_183 rfl (lv_at hl 4 rfl) ?_
                                    refine m_get (v := .ref (a 9)) hx hb hts hin hown hK hP 9 (by decide) rfl (hts (.fieldLink RX10 32 "ShadowBenchModel" "met" "[Z") (by decide +kernel)) rfl dX10_isJoined_184 ?_
                                    refine lv_iload hx hb dX10_isJoined_187 (lv_at hl 1 rfl) ?_
                                    refine m_zald (w := mt1) hx hb hK hP 8 rfl (vp_in_iff.mpr ⟨by omega, by omega⟩) dX10_isJoined_189 ?_
                                    refine lv_topi (fun v189 e189 => ?_)
                                    have i189 : v189.toInt = (mt1 (nI i).toNatClampNeg).toInt := congrArg Int32.toInt e189
                                    refine lv_if_ne (tgt := 209) hx hb dX10_isJoined_190 (by decide) (fun c190 => ?_) (fun c190 => ?_)
                                    · skip
                                      have d190 := c190
                                      rw [fa_eq] at d190
                                      refine lv_iinc (v := (nI (i + 1))) (lv' := [(7, .int (nI (i + 1))), (8, .int (1 : Int32)), (6, .int xn), (5, .int x5), (0, .ref mo), (1, .int w), (2, .int h), (3, .long p0)]) hx hb dX10_isJoined_209 hl (k := 1) rfl (nI_1 _) (by decide) rfl (fun ls hl => ?_)
                                      refine lv_goto (tgt := 77) hx hb dX10_isJoined_212 (by decide) ?_
                                      exact ih_77 (i + 1) xn mt1 (by omega) (by first | exact j77_1 | (have z := cz_upd (mt := mt1) (i := (nI i).toNatClampNeg) (v := (1 : Int32) &&& 1) (nI_cl (by omega)) (by rw [← e189]; exact c190) (by decide); rcases j77_1 with ⟨_, y⟩ | ⟨_, y⟩ <;> exact Or.inr ⟨rfl, by omega⟩)) (by omega) _ _ hP hS ls (lv_sub hl [0, 2, 3, 4, 5, 6, 7] rfl)
                                    · skip
                                      have d190 := c190
                                      rw [fa_eq] at d190
                                      refine lv_iload hx hb dX10_isJoined_193 (lv_at hl 0 rfl) ?_
                                      refine lv_if_eq (tgt := 209) hx hb dX10_isJoined_195 (by decide) (fun c195 => ?_) (fun c195 => ?_)
                                      · first | exact absurd c195 (by decide) | exact absurd (by decide) c195
                                      · skip
                                        have d195 := c195
                                        rw [fa_eq] at d195
                                        refine lv_aload_n hx hb dX10_isJoined_198 rfl (lv_at hl 4 rfl) ?_
                                        refine m_get (v := .ref (a 9)) hx hb hts hin hown hK hP 9 (by decide) rfl (hts (.fieldLink RX10 32 "ShadowBenchModel" "met" "[Z") (by decide +kernel)) rfl dX10_isJoined_199 ?_
                                        refine lv_iload hx hb dX10_isJoined_202 (lv_at hl 1 rfl) ?_
                                        refine lv_iconst (v := 1) hx hb dX10_isJoined_204 (by decide) ?_
                                        refine m_zast (w := mt1) hx hb hK hP hD hS 8 rfl (vp_in_iff.mpr ⟨by omega, by omega⟩) (va_up r 9 ((upd mt1 (nI i).toNatClampNeg ((1 : Int32) &&& 1)))) rfl dX10_isJoined_205 (fun H locs hP hS => ?_)
                                        refine lv_iconst (v := 1) hx hb dX10_isJoined_206 (by decide) ?_
                                        refine lv_istore (lv' := [(6, .int (1 : Int32)), (8, .int (1 : Int32)), (7, .int (nI i)), (5, .int x5), (0, .ref mo), (1, .int w), (2, .int h), (3, .long p0)]) hx hb dX10_isJoined_207 hl (by decide) rfl (fun ls hl => ?_)
                                        refine lv_iinc (v := (nI (i + 1))) (lv' := [(7, .int (nI (i + 1))), (6, .int (1 : Int32)), (8, .int (1 : Int32)), (5, .int x5), (0, .ref mo), (1, .int w), (2, .int h), (3, .long p0)]) hx hb dX10_isJoined_209 hl (k := 2) rfl (nI_1 _) (by decide) rfl (fun ls hl => ?_)
                                        refine lv_goto (tgt := 77) hx hb dX10_isJoined_212 (by decide) ?_
                                        exact ih_77 (i + 1) (1 : Int32) (((upd mt1 (nI i).toNatClampNeg ((1 : Int32) &&& 1)))) (by omega) (by first | exact j77_1 | (have z := cz_upd (mt := mt1) (i := (nI i).toNatClampNeg) (v := (1 : Int32) &&& 1) (nI_cl (by omega)) (by rw [← e189]; exact c190) (by decide); rcases j77_1 with ⟨_, y⟩ | ⟨_, y⟩ <;> exact Or.inr ⟨rfl, by omega⟩)) (by omega) _ _ hP hS ls (lv_sub hl [0, 1, 3, 4, 5, 6, 7] rfl)
                            · skip
                              have d129 := c129
                              rw [fa_lt] at d129
                              refine lv_aload_n hx hb dX10_isJoined_132 rfl (lv_at hl 3 rfl) ?_
                              refine m_get (v := .ref (a 9)) hx hb hts hin hown hK hP 9 (by decide) rfl (hts (.fieldLink RX10 32 "ShadowBenchModel" "met" "[Z") (by decide +kernel)) rfl dX10_isJoined_133 ?_
                              refine lv_iload hx hb dX10_isJoined_136 (lv_at hl 0 rfl) ?_
                              refine lv_iload_n hx hb dX10_isJoined_138 rfl (lv_at hl 4 rfl) ?_
                              refine lv_isub hx hb dX10_isJoined_139 ?_
                              refine lv_topi (fun v139 e139 => ?_)
                              have i139 : v139.toInt = (nI i).toInt - w.toInt := by rw [e139]; exact fb_subI (by omega) (by omega)
                              refine m_zald (w := mt1) hx hb hK hP 8 rfl (vp_in_iff.mpr ⟨by omega, by omega⟩) dX10_isJoined_140 ?_
                              refine lv_topi (fun v140 e140 => ?_)
                              have i140 : v140.toInt = (mt1 v139.toNatClampNeg).toInt := congrArg Int32.toInt e140
                              refine lv_if_ne (tgt := 166) hx hb dX10_isJoined_141 (by decide) (fun c141 => ?_) (fun c141 => ?_)
                              · skip
                                have d141 := c141
                                rw [fa_eq] at d141
                                refine lv_iconst (v := 1) hx hb dX10_isJoined_166 (by decide) ?_
                                refine lv_goto (tgt := 171) hx hb dX10_isJoined_167 (by decide) ?_
                                refine lv_istore (lv' := [(8, .int (1 : Int32)), (7, .int (nI i)), (6, .int xn), (5, .int x5), (0, .ref mo), (1, .int w), (2, .int h), (3, .long p0)]) hx hb dX10_isJoined_171 hl (by decide) rfl (fun ls hl => ?_)
                                refine lv_lload_n hx hb dX10_isJoined_173 rfl (lv_at hl 7 rfl) ?_
                                refine lv_iload hx hb dX10_isJoined_174 (lv_at hl 1 rfl) ?_
                                refine m_pu (As := [.long p0, .int (nI i)]) (rest := []) ⟨hx, hb, hml, hown, hts⟩ (c_X10_one l p0 (nI i) ) (va_cwS 2 hts gX10_isJoined_X10_one rfl rfl rfl (by decide +kernel) ⟨Nat.le_of_ble_eq_true rfl, Nat.le_of_ble_eq_true rfl⟩) hP rfl hl.1 rfl (Nat.le_of_ble_eq_true rfl) dX10_isJoined_176 ⟨Nat.le_of_ble_eq_true rfl, Nat.le_of_ble_eq_true rfl⟩ hS (fun r176 H locs q176 hP hS => ?_)
                                have i176 : r176.toInt = (r_one p0 (nI i)).toInt := congrArg Int32.toInt q176
                                refine lv_iconst (v := 1) hx hb dX10_isJoined_179 (by decide) ?_
                                refine lv_icmp_ne (tgt := 209) hx hb dX10_isJoined_180 (by decide) (fun c180 => ?_) (fun c180 => ?_)
                                · skip
                                  have d180 := c180
                                  rw [fa_eq] at d180
                                  refine lv_iinc (v := (nI (i + 1))) (lv' := [(7, .int (nI (i + 1))), (8, .int (1 : Int32)), (6, .int xn), (5, .int x5), (0, .ref mo), (1, .int w), (2, .int h), (3, .long p0)]) hx hb dX10_isJoined_209 hl (k := 1) rfl (nI_1 _) (by decide) rfl (fun ls hl => ?_)
                                  refine lv_goto (tgt := 77) hx hb dX10_isJoined_212 (by decide) ?_
                                  exact ih_77 (i + 1) xn mt1 (by omega) (by first | exact j77_1 | (have z := cz_upd (mt := mt1) (i := (nI i).toNatClampNeg) (v := (1 : Int32) &&& 1) (nI_cl (by omega)) (by rw [← e189]; exact c190) (by decide); rcases j77_1 with ⟨_, y⟩ | ⟨_, y⟩ <;> exact Or.inr ⟨rfl, by omega⟩)) (by omega) _ _ hP hS ls (lv_sub hl [0, 2, 3, 4, 5, 6, 7] rfl)
                                · skip
                                  have d180 := c180
                                  rw [fa_eq] at d180
                                  refine lv_aload_n hx hb dX10_isJoined_183 rfl (lv_at hl 4 rfl) ?_
                                  refine m_get (v := .ref (a 9)) hx hb hts hin hown hK hP 9 (by decide) rfl (hts (.fieldLink RX10 32 "ShadowBenchModel" "met" "[Z") (by decide +kernel)) rfl dX10_isJoined_184 ?_
                                  refine lv_iload hx hb dX10_isJoined_187 (lv_at hl 1 rfl) ?_
                                  refine m_zald (w := mt1) hx hb hK hP 8 rfl (vp_in_iff.mpr ⟨by omega, by omega⟩) dX10_isJoined_189 ?_
                                  refine lv_topi (fun v189 e189 => ?_)
                                  have i189 : v189.toInt = (mt1 (nI i).toNatClampNeg).toInt := congrArg Int32.toInt e189
                                  refine lv_if_ne (tgt := 209) hx hb dX10_isJoined_190 (by decide) (fun c190 => ?_) (fun c190 => ?_)
                                  · skip
                                    have d190 := c190
                                    rw [fa_eq] at d190
                                    refine lv_iinc (v := (nI (i + 1))) (lv' := [(7, .int (nI (i + 1))), (8, .int (1 : Int32)), (6, .int xn), (5, .int x5), (0, .ref mo), (1, .int w), (2, .int h), (3, .long p0)]) hx hb dX10_isJoined_209 hl (k := 1) rfl (nI_1 _) (by decide) rfl (fun ls hl => ?_)
                                    refine lv_goto (tgt := 77) hx hb dX10_isJoined_212 (by decide) ?_
                                    exact ih_77 (i + 1) xn mt1 (by omega) (by first | exact j77_1 | (have z := cz_upd (mt := mt1) (i := (nI i).toNatClampNeg) (v := (1 : Int32) &&& 1) (nI_cl (by omega)) (by rw [← e189]; exact c190) (by decide); rcases j77_1 with ⟨_, y⟩ | ⟨_, y⟩ <;> exact Or.inr ⟨rfl, by omega⟩)) (by omega) _ _ hP hS ls (lv_sub hl [0, 2, 3, 4, 5, 6, 7] rfl)
                                  · skip
                                    have d190 := c190
                                    rw [fa_eq] at d190
                                    refine lv_iload hx hb dX10_isJoined_193 (lv_at hl 0 rfl) ?_
                                    refine lv_if_eq (tgt := 209) hx hb dX10_isJoined_195 (by decide) (fun c195 => ?_) (fun c195 => ?_)
                                    · first | exact absurd c195 (by decide) | exact absurd (by decide) c195
                                    · skip
                                      have d195 := c195
                                      rw [fa_eq] at d195
                                      refine lv_aload_n hx hb dX10_isJoined_198 rfl (lv_at hl 4 rfl) ?_
                                      refine m_get (v := .ref (a 9)) hx hb hts hin hown hK hP 9 (by decide) rfl (hts (.fieldLink RX10 32 "ShadowBenchModel" "met" "[Z") (by decide +kernel)) rfl dX10_isJoined_199 ?_
                                      refine lv_iload hx hb dX10_isJoined_202 (lv_at hl 1 rfl) ?_
                                      refine lv_iconst (v := 1) hx hb dX10_isJoined_204 (by decide) ?_
                                      refine m_zast (w := mt1) hx hb hK hP hD hS 8 rfl (vp_in_iff.mpr ⟨by omega, by omega⟩) (va_up r 9 ((upd mt1 (nI i).toNatClampNeg ((1 : Int32) &&& 1)))) rfl dX10_isJoined_205 (fun H locs hP hS => ?_)
                                      refine lv_iconst (v := 1) hx hb dX10_isJoined_206 (by decide) ?_
                                      refine lv_istore (lv' := [(6, .int (1 : Int32)), (8, .int (1 : Int32)), (7, .int (nI i)), (5, .int x5), (0, .ref mo), (1, .int w), (2, .int h), (3, .long p0)]) hx hb dX10_isJoined_207 hl (by decide) rfl (fun ls hl => ?_)
                                      refine lv_iinc (v := (nI (i + 1))) (lv' := [(7, .int (nI (i + 1))), (6, .int (1 : Int32)), (8, .int (1 : Int32)), (5, .int x5), (0, .ref mo), (1, .int w), (2, .int h), (3, .long p0)]) hx hb dX10_isJoined_209 hl (k := 2) rfl (nI_1 _) (by decide) rfl (fun ls hl => ?_)
                                      refine lv_goto (tgt := 77) hx hb dX10_isJoined_212 (by decide) ?_
                                      exact ih_77 (i + 1) (1 : Int32) (((upd mt1 (nI i).toNatClampNeg ((1 : Int32) &&& 1)))) (by omega) (by first | exact j77_1 | (have z := cz_upd (mt := mt1) (i := (nI i).toNatClampNeg) (v := (1 : Int32) &&& 1) (nI_cl (by omega)) (by rw [← e189]; exact c190) (by decide); rcases j77_1 with ⟨_, y⟩ | ⟨_, y⟩ <;> exact Or.inr ⟨rfl, by omega⟩)) (by omega) _ _ hP hS ls (lv_sub hl [0, 1, 3, 4, 5, 6, 7] rfl)
                              · skip
                                have d141 := c141
                                rw [fa_eq] at d141
                                refine lv_iload hx hb dX10_isJoined_144 (lv_at hl 0 rfl) ?_
                                refine lv_iload_n hx hb dX10_isJoined_146 rfl (lv_at hl 4 rfl) ?_
                                refine lv_iadd hx hb dX10_isJoined_147 ?_
                                refine lv_topi (fun v147 e147 => ?_)
                                have i147 : v147.toInt = (nI i).toInt + w.toInt := by rw [e147]; exact fb_addI (by omega) (by omega)
                                refine lv_iload_n hx hb dX10_isJoined_148 rfl (lv_at hl 4 rfl) ?_
                                refine lv_iload_n hx hb dX10_isJoined_149 rfl (lv_at hl 5 rfl) ?_
                                refine lv_imul hx hb dX10_isJoined_150 ?_
                                refine lv_topi (fun v150 e150 => ?_)
                                have i150 : v150.toInt = w.toInt * h.toInt := by rw [e150]; exact fb_mulI (by omega) (by omega)
                                refine lv_icmp_ge (tgt := 170) hx hb dX10_isJoined_151 (by decide) (fun c151 => ?_) (fun c151 => ?_)
                                · skip
                                  have d151 := c151
                                  rw [fa_le] at d151
                                  refine lv_iconst (v := 0) hx hb dX10_isJoined_170 (by decide) ?_
                                  refine lv_istore (lv' := [(8, .int (0 : Int32)), (7, .int (nI i)), (6, .int xn), (5, .int x5), (0, .ref mo), (1, .int w), (2, .int h), (3, .long p0)]) hx hb dX10_isJoined_171 hl (by decide) rfl (fun ls hl => ?_)
                                  refine lv_lload_n hx hb dX10_isJoined_173 rfl (lv_at hl 7 rfl) ?_
                                  refine lv_iload hx hb dX10_isJoined_174 (lv_at hl 1 rfl) ?_
                                  refine m_pu (As := [.long p0, .int (nI i)]) (rest := []) ⟨hx, hb, hml, hown, hts⟩ (c_X10_one l p0 (nI i) ) (va_cwS 2 hts gX10_isJoined_X10_one rfl rfl rfl (by decide +kernel) ⟨Nat.le_of_ble_eq_true rfl, Nat.le_of_ble_eq_true rfl⟩) hP rfl hl.1 rfl (Nat.le_of_ble_eq_true rfl) dX10_isJoined_176 ⟨Nat.le_of_ble_eq_true rfl, Nat.le_of_ble_eq_true rfl⟩ hS (fun r176 H locs q176 hP hS => ?_)
                                  have i176 : r176.toInt = (r_one p0 (nI i)).toInt := congrArg Int32.toInt q176
                                  refine lv_iconst (v := 1) hx hb dX10_isJoined_179 (by decide) ?_
                                  refine lv_icmp_ne (tgt := 209) hx hb dX10_isJoined_180 (by decide) (fun c180 => ?_) (fun c180 => ?_)
                                  · skip
                                    have d180 := c180
                                    rw [fa_eq] at d180
                                    refine lv_iinc (v := (nI (i + 1))) (lv' := [(7, .int (nI (i + 1))), (8, .int (0 : Int32)), (6, .int xn), (5, .int x5), (0, .ref mo), (1, .int w), (2, .int h), (3, .long p0)]) hx hb dX10_isJoined_209 hl (k := 1) rfl (nI_1 _) (by decide) rfl (fun ls hl => ?_)
                                    refine lv_goto (tgt := 77) hx hb dX10_isJoined_212 (by decide) ?_
                                    exact ih_77 (i + 1) xn mt1 (by omega) (by first | exact j77_1 | (have z := cz_upd (mt := mt1) (i := (nI i).toNatClampNeg) (v := (1 : Int32) &&& 1) (nI_cl (by omega)) (by rw [← e189]; exact c190) (by decide); rcases j77_1 with ⟨_, y⟩ | ⟨_, y⟩ <;> exact Or.inr ⟨rfl, by omega⟩)) (by omega) _ _ hP hS ls (lv_sub hl [0, 2, 3, 4, 5, 6, 7] rfl)
                                  · skip
                                    have d180 := c180
                                    rw [fa_eq] at d180
                                    refine lv_aload_n hx hb dX10_isJoined_183 rfl (lv_at hl 4 rfl) ?_
                                    refine m_get (v := .ref (a 9)) hx hb hts hin hown hK hP 9 (by decide) rfl (hts (.fieldLink RX10 32 "ShadowBenchModel" "met" "[Z") (by decide +kernel)) rfl dX10_isJoined_184 ?_
                                    refine lv_iload hx hb dX10_isJoined_187 (lv_at hl 1 rfl) ?_
                                    refine m_zald (w := mt1) hx hb hK hP 8 rfl (vp_in_iff.mpr ⟨by omega, by omega⟩) dX10_isJoined_189 ?_
                                    refine lv_topi (fun v189 e189 => ?_)
                                    have i189 : v189.toInt = (mt1 (nI i).toNatClampNeg).toInt := congrArg Int32.toInt e189
                                    refine lv_if_ne (tgt := 209) hx hb dX10_isJoined_190 (by decide) (fun c190 => ?_) (fun c190 => ?_)
                                    · skip
                                      have d190 := c190
                                      rw [fa_eq] at d190
                                      refine lv_iinc (v := (nI (i + 1))) (lv' := [(7, .int (nI (i + 1))), (8, .int (0 : Int32)), (6, .int xn), (5, .int x5), (0, .ref mo), (1, .int w), (2, .int h), (3, .long p0)]) hx hb dX10_isJoined_209 hl (k := 1) rfl (nI_1 _) (by decide) rfl (fun ls hl => ?_)
                                      refine lv_goto (tgt := 77) hx hb dX10_isJoined_212 (by decide) ?_
                                      exact ih_77 (i + 1) xn mt1 (by omega) (by first | exact j77_1 | (have z := cz_upd (mt := mt1) (i := (nI i).toNatClampNeg) (v := (1 : Int32) &&& 1) (nI_cl (by omega)) (by rw [← e189]; exact c190) (by decide); rcases j77_1 with ⟨_, y⟩ | ⟨_, y⟩ <;> exact Or.inr ⟨rfl, by omega⟩)) (by omega) _ _ hP hS ls (lv_sub hl [0, 2, 3, 4, 5, 6, 7] rfl)
                                    · skip
                                      have d190 := c190
                                      rw [fa_eq] at d190
                                      refine lv_iload hx hb dX10_isJoined_193 (lv_at hl 0 rfl) ?_
                                      refine lv_if_eq (tgt := 209) hx hb dX10_isJoined_195 (by decide) (fun c195 => ?_) (fun c195 => ?_)
                                      · skip
                                        have d195 := c195
                                        rw [fa_eq] at d195
                                        refine lv_iinc (v := (nI (i + 1))) (lv' := [(7, .int (nI (i + 1))), (8, .int (0 : Int32)), (6, .int xn), (5, .int x5), (0, .ref mo), (1, .int w), (2, .int h), (3, .long p0)]) hx hb dX10_isJoined_209 hl (k := 1) rfl (nI_1 _) (by decide) rfl (fun ls hl => ?_)
                                        refine lv_goto (tgt := 77) hx hb dX10_isJoined_212 (by decide) ?_
                                        exact ih_77 (i + 1) xn mt1 (by omega) (by first | exact j77_1 | (have z := cz_upd (mt := mt1) (i := (nI i).toNatClampNeg) (v := (1 : Int32) &&& 1) (nI_cl (by omega)) (by rw [← e189]; exact c190) (by decide); rcases j77_1 with ⟨_, y⟩ | ⟨_, y⟩ <;> exact Or.inr ⟨rfl, by omega⟩)) (by omega) _ _ hP hS ls (lv_sub hl [0, 2, 3, 4, 5, 6, 7] rfl)
                                      · first | exact absurd c195 (by decide) | exact absurd (by decide) c195
                                · skip
                                  have d151 := c151
                                  rw [fa_le] at d151
                                  refine lv_aload_n hx hb dX10_isJoined_154 rfl (lv_at hl 3 rfl) ?_
                                  refine m_get (v := .ref (a 9)) hx hb hts hin hown hK hP 9 (by decide) rfl (hts (.fieldLink RX10 32 "ShadowBenchModel" "met" "[Z") (by decide +kernel)) rfl dX10_isJoined_155 ?_
                                  refine lv_iload hx hb dX10_isJoined_158 (lv_at hl 0 rfl) ?_
                                  refine lv_iload_n hx hb dX10_isJoined_160 rfl (lv_at hl 4 rfl) ?_
                                  refine lv_iadd hx hb dX10_isJoined_161 ?_
                                  refine lv_topi (fun v161 e161 => ?_)
                                  have i161 : v161.toInt = (nI i).toInt + w.toInt := by rw [e161]; exact fb_addI (by omega) (by omega)
                                  refine m_zald (w := mt1) hx hb hK hP 8 rfl (vp_in_iff.mpr ⟨by omega, by omega⟩) dX10_isJoined_162 ?_
                                  refine lv_topi (fun v162 e162 => ?_)
                                  have i162 : v162.toInt = (mt1 v161.toNatClampNeg).toInt := congrArg Int32.toInt e162
                                  refine lv_if_eq (tgt := 170) hx hb dX10_isJoined_163 (by decide) (fun c163 => ?_) (fun c163 => ?_)
                                  · skip
                                    have d163 := c163
                                    rw [fa_eq] at d163
                                    refine lv_iconst (v := 0) hx hb dX10_isJoined_170 (by decide) ?_
                                    refine lv_istore (lv' := [(8, .int (0 : Int32)), (7, .int (nI i)), (6, .int xn), (5, .int x5), (0, .ref mo), (1, .int w), (2, .int h), (3, .long p0)]) hx hb dX10_isJoined_171 hl (by decide) rfl (fun ls hl => ?_)
                                    refine lv_lload_n hx hb dX10_isJoined_173 rfl (lv_at hl 7 rfl) ?_
                                    refine lv_iload hx hb dX10_isJoined_174 (lv_at hl 1 rfl) ?_
                                    refine m_pu (As := [.long p0, .int (nI i)]) (rest := []) ⟨hx, hb, hml, hown, hts⟩ (c_X10_one l p0 (nI i) ) (va_cwS 2 hts gX10_isJoined_X10_one rfl rfl rfl (by decide +kernel) ⟨Nat.le_of_ble_eq_true rfl, Nat.le_of_ble_eq_true rfl⟩) hP rfl hl.1 rfl (Nat.le_of_ble_eq_true rfl) dX10_isJoined_176 ⟨Nat.le_of_ble_eq_true rfl, Nat.le_of_ble_eq_true rfl⟩ hS (fun r176 H locs q176 hP hS => ?_)
                                    have i176 : r176.toInt = (r_one p0 (nI i)).toInt := congrArg Int32.toInt q176
                                    refine lv_iconst (v := 1) hx hb dX10_isJoined_179 (by decide) ?_
                                    refine lv_icmp_ne (tgt := 209) hx hb dX10_isJoined_180 (by decide) (fun c180 => ?_) (fun c180 => ?_)
                                    · skip
                                      have d180 := c180
                                      rw [fa_eq] at d180
                                      refine lv_iinc (v := (nI (i + 1))) (lv' := [(7, .int (nI (i + 1))), (8, .int (0 : Int32)), (6, .int xn), (5, .int x5), (0, .ref mo), (1, .int w), (2, .int h), (3, .long p0)]) hx hb dX10_isJoined_209 hl (k := 1) rfl (nI_1 _) (by decide) rfl (fun ls hl => ?_)
                                      refine lv_goto (tgt := 77) hx hb dX10_isJoined_212 (by decide) ?_
                                      exact ih_77 (i + 1) xn mt1 (by omega) (by first | exact j77_1 | (have z := cz_upd (mt := mt1) (i := (nI i).toNatClampNeg) (v := (1 : Int32) &&& 1) (nI_cl (by omega)) (by rw [← e189]; exact c190) (by decide); rcases j77_1 with ⟨_, y⟩ | ⟨_, y⟩ <;> exact Or.inr ⟨rfl, by omega⟩)) (by omega) _ _ hP hS ls (lv_sub hl [0, 2, 3, 4, 5, 6, 7] rfl)
                                    · skip
                                      have d180 := c180
                                      rw [fa_eq] at d180
                                      refine lv_aload_n hx hb dX10_isJoined_183 rfl (lv_at hl 4 rfl) ?_
                                      refine m_get (v := .ref (a 9)) hx hb hts hin hown hK hP 9 (by decide) rfl (hts (.fieldLink RX10 32 "ShadowBenchModel" "met" "[Z") (by decide +kernel)) rfl dX10_isJoined_184 ?_
                                      refine lv_iload hx hb dX10_isJoined_187 (lv_at hl 1 rfl) ?_
                                      refine m_zald (w := mt1) hx hb hK hP 8 rfl (vp_in_iff.mpr ⟨by omega, by omega⟩) dX10_isJoined_189 ?_
                                      refine lv_topi (fun v189 e189 => ?_)
                                      have i189 : v189.toInt = (mt1 (nI i).toNatClampNeg).toInt := congrArg Int32.toInt e189
                                      refine lv_if_ne (tgt := 209) hx hb dX10_isJoined_190 (by decide) (fun c190 => ?_) (fun c190 => ?_)
                                      · skip
                                        have d190 := c190
                                        rw [fa_eq] at d190
                                        refine lv_iinc (v := (nI (i + 1))) (lv' := [(7, .int (nI (i + 1))), (8, .int (0 : Int32)), (6, .int xn), (5, .int x5), (0, .ref mo), (1, .int w), (2, .int h), (3, .long p0)]) hx hb dX10_isJoined_209 hl (k := 1) rfl (nI_1 _) (by decide) rfl (fun ls hl => ?_)
                                        refine lv_goto (tgt := 77) hx hb dX10_isJoined_212 (by decide) ?_
                                        exact ih_77 (i + 1) xn mt1 (by omega) (by first | exact j77_1 | (have z := cz_upd (mt := mt1) (i := (nI i).toNatClampNeg) (v := (1 : Int32) &&& 1) (nI_cl (by omega)) (by rw [← e189]; exact c190) (by decide); rcases j77_1 with ⟨_, y⟩ | ⟨_, y⟩ <;> exact Or.inr ⟨rfl, by omega⟩)) (by omega) _ _ hP hS ls (lv_sub hl [0, 2, 3, 4, 5, 6, 7] rfl)
                                      · skip
                                        have d190 := c190
                                        rw [fa_eq] at d190
                                        refine lv_iload hx hb dX10_isJoined_193 (lv_at hl 0 rfl) ?_
                                        refine lv_if_eq (tgt := 209) hx hb dX10_isJoined_195 (by decide) (fun c195 => ?_) (fun c195 => ?_)
                                        · skip
                                          have d195 := c195
                                          rw [fa_eq] at d195
                                          refine lv_iinc (v := (nI (i + 1))) (lv' := [(7, .int (nI (i + 1))), (8, .int (0 : Int32)), (6, .int xn), (5, .int x5), (0, .ref mo), (1, .int w), (2, .int h), (3, .long p0)]) hx hb dX10_isJoined_209 hl (k := 1) rfl (nI_1 _) (by decide) rfl (fun ls hl => ?_)
                                          refine lv_goto (tgt := 77) hx hb dX10_isJoined_212 (by decide) ?_
                                          exact ih_77 (i + 1) xn mt1 (by omega) (by first | exact j77_1 | (have z := cz_upd (mt := mt1) (i := (nI i).toNatClampNeg) (v := (1 : Int32) &&& 1) (nI_cl (by omega)) (by rw [← e189]; exact c190) (by decide); rcases j77_1 with ⟨_, y⟩ | ⟨_, y⟩ <;> exact Or.inr ⟨rfl, by omega⟩)) (by omega) _ _ hP hS ls (lv_sub hl [0, 2, 3, 4, 5, 6, 7] rfl)
                                        · first | exact absurd c195 (by decide) | exact absurd (by decide) c195
                                  · skip
                                    have d163 := c163
                                    rw [fa_eq] at d163
                                    refine lv_iconst (v := 1) hx hb dX10_isJoined_166 (by decide) ?_
                                    refine lv_goto (tgt := 171) hx hb dX10_isJoined_167 (by decide) ?_
                                    refine lv_istore (lv' := [(8, .int (1 : Int32)), (7, .int (nI i)), (6, .int xn), (5, .int x5), (0, .ref mo), (1, .int w), (2, .int h), (3, .long p0)]) hx hb dX10_isJoined_171 hl (by decide) rfl (fun ls hl => ?_)
                                    refine lv_lload_n hx hb dX10_isJoined_173 rfl (lv_at hl 7 rfl) ?_
                                    refine lv_iload hx hb dX10_isJoined_174 (lv_at hl 1 rfl) ?_
                                    refine m_pu (As := [.long p0, .int (nI i)]) (rest := []) ⟨hx, hb, hml, hown, hts⟩ (c_X10_one l p0 (nI i) ) (va_cwS 2 hts gX10_isJoined_X10_one rfl rfl rfl (by decide +kernel) ⟨Nat.le_of_ble_eq_true rfl, Nat.le_of_ble_eq_true rfl⟩) hP rfl hl.1 rfl (Nat.le_of_ble_eq_true rfl) dX10_isJoined_176 ⟨Nat.le_of_ble_eq_true rfl, Nat.le_of_ble_eq_true rfl⟩ hS (fun r176 H locs q176 hP hS => ?_)
                                    have i176 : r176.toInt = (r_one p0 (nI i)).toInt := congrArg Int32.toInt q176
                                    refine lv_iconst (v := 1) hx hb dX10_isJoined_179 (by decide) ?_
                                    refine lv_icmp_ne (tgt := 209) hx hb dX10_isJoined_180 (by decide) (fun c180 => ?_) (fun c180 => ?_)
                                    · skip
                                      have d180 := c180
                                      rw [fa_eq] at d180
                                      refine lv_iinc (v := (nI (i + 1))) (lv' := [(7, .int (nI (i + 1))), (8, .int (1 : Int32)), (6, .int xn), (5, .int x5), (0, .ref mo), (1, .int w), (2, .int h), (3, .long p0)]) hx hb dX10_isJoined_209 hl (k := 1) rfl (nI_1 _) (by decide) rfl (fun ls hl => ?_)
                                      refine lv_goto (tgt := 77) hx hb dX10_isJoined_212 (by decide) ?_
                                      exact ih_77 (i + 1) xn mt1 (by omega) (by first | exact j77_1 | (have z := cz_upd (mt := mt1) (i := (nI i).toNatClampNeg) (v := (1 : Int32) &&& 1) (nI_cl (by omega)) (by rw [← e189]; exact c190) (by decide); rcases j77_1 with ⟨_, y⟩ | ⟨_, y⟩ <;> exact Or.inr ⟨rfl, by omega⟩)) (by omega) _ _ hP hS ls (lv_sub hl [0, 2, 3, 4, 5, 6, 7] rfl)
                                    · skip
                                      have d180 := c180
                                      rw [fa_eq] at d180
                                      refine lv_aload_n hx hb dX10_isJoined_183 rfl (lv_at hl 4 rfl) ?_
                                      refine m_get (v := .ref (a 9)) hx hb hts hin hown hK hP 9 (by decide) rfl (hts (.fieldLink RX10 32 "ShadowBenchModel" "met" "[Z") (by decide +kernel)) rfl dX10_isJoined_184 ?_
                                      refine lv_iload hx hb dX10_isJoined_187 (lv_at hl 1 rfl) ?_
                                      refine m_zald (w := mt1) hx hb hK hP 8 rfl (vp_in_iff.mpr ⟨by omega, by omega⟩) dX10_isJoined_189 ?_
                                      refine lv_topi (fun v189 e189 => ?_)
                                      have i189 : v189.toInt = (mt1 (nI i).toNatClampNeg).toInt := congrArg Int32.toInt e189
                                      refine lv_if_ne (tgt := 209) hx hb dX10_isJoined_190 (by decide) (fun c190 => ?_) (fun c190 => ?_)
                                      · skip
                                        have d190 := c190
                                        rw [fa_eq] at d190
                                        refine lv_iinc (v := (nI (i + 1))) (lv' := [(7, .int (nI (i + 1))), (8, .int (1 : Int32)), (6, .int xn), (5, .int x5), (0, .ref mo), (1, .int w), (2, .int h), (3, .long p0)]) hx hb dX10_isJoined_209 hl (k := 1) rfl (nI_1 _) (by decide) rfl (fun ls hl => ?_)
                                        refine lv_goto (tgt := 77) hx hb dX10_isJoined_212 (by decide) ?_
                                        exact ih_77 (i + 1) xn mt1 (by omega) (by first | exact j77_1 | (have z := cz_upd (mt := mt1) (i := (nI i).toNatClampNeg) (v := (1 : Int32) &&& 1) (nI_cl (by omega)) (by rw [← e189]; exact c190) (by decide); rcases j77_1 with ⟨_, y⟩ | ⟨_, y⟩ <;> exact Or.inr ⟨rfl, by omega⟩)) (by omega) _ _ hP hS ls (lv_sub hl [0, 2, 3, 4, 5, 6, 7] rfl)
                                      · skip
                                        have d190 := c190
                                        rw [fa_eq] at d190
                                        refine lv_iload hx hb dX10_isJoined_193 (lv_at hl 0 rfl) ?_
                                        refine lv_if_eq (tgt := 209) hx hb dX10_isJoined_195 (by decide) (fun c195 => ?_) (fun c195 => ?_)
                                        · first | exact absurd c195 (by decide) | exact absurd (by decide) c195
                                        · skip
                                          have d195 := c195
                                          rw [fa_eq] at d195
                                          refine lv_aload_n hx hb dX10_isJoined_198 rfl (lv_at hl 4 rfl) ?_
                                          refine m_get (v := .ref (a 9)) hx hb hts hin hown hK hP 9 (by decide) rfl (hts (.fieldLink RX10 32 "ShadowBenchModel" "met" "[Z") (by decide +kernel)) rfl dX10_isJoined_199 ?_
                                          refine lv_iload hx hb dX10_isJoined_202 (lv_at hl 1 rfl) ?_
                                          refine lv_iconst (v := 1) hx hb dX10_isJoined_204 (by decide) ?_
                                          refine m_zast (w := mt1) hx hb hK hP hD hS 8 rfl (vp_in_iff.mpr ⟨by omega, by omega⟩) (va_up r 9 ((upd mt1 (nI i).toNatClampNeg ((1 : Int32) &&& 1)))) rfl dX10_isJoined_205 (fun H locs hP hS => ?_)
                                          refine lv_iconst (v := 1) hx hb dX10_isJoined_206 (by decide) ?_
                                          refine lv_istore (lv' := [(6, .int (1 : Int32)), (8, .int (1 : Int32)), (7, .int (nI i)), (5, .int x5), (0, .ref mo), (1, .int w), (2, .int h), (3, .long p0)]) hx hb dX10_isJoined_207 hl (by decide) rfl (fun ls hl => ?_)
                                          refine lv_iinc (v := (nI (i + 1))) (lv' := [(7, .int (nI (i + 1))), (6, .int (1 : Int32)), (8, .int (1 : Int32)), (5, .int x5), (0, .ref mo), (1, .int w), (2, .int h), (3, .long p0)]) hx hb dX10_isJoined_209 hl (k := 2) rfl (nI_1 _) (by decide) rfl (fun ls hl => ?_)
                                          refine lv_goto (tgt := 77) hx hb dX10_isJoined_212 (by decide) ?_
                                          exact ih_77 (i + 1) (1 : Int32) (((upd mt1 (nI i).toNatClampNeg ((1 : Int32) &&& 1)))) (by omega) (by first | exact j77_1 | (have z := cz_upd (mt := mt1) (i := (nI i).toNatClampNeg) (v := (1 : Int32) &&& 1) (nI_cl (by omega)) (by rw [← e189]; exact c190) (by decide); rcases j77_1 with ⟨_, y⟩ | ⟨_, y⟩ <;> exact Or.inr ⟨rfl, by omega⟩)) (by omega) _ _ hP hS ls (lv_sub hl [0, 1, 3, 4, 5, 6, 7] rfl)
                      · skip
                        have d89 := c89
                        rw [fa_le] at d89
                        refine lv_aload_n hx hb dX10_isJoined_92 rfl (lv_at hl 3 rfl) ?_
                        refine m_get (v := .ref (a 9)) hx hb hts hin hown hK hP 9 (by decide) rfl (hts (.fieldLink RX10 32 "ShadowBenchModel" "met" "[Z") (by decide +kernel)) rfl dX10_isJoined_93 ?_
                        refine lv_iload hx hb dX10_isJoined_96 (lv_at hl 0 rfl) ?_
                        refine lv_iconst (v := 1) hx hb dX10_isJoined_98 (by decide) ?_
                        refine lv_isub hx hb dX10_isJoined_99 ?_
                        refine lv_topi (fun v99 e99 => ?_)
                        have i99 : v99.toInt = (nI i).toInt - (1 : Int32).toInt := by rw [e99]; exact fb_subI (by omega) (by omega)
                        refine m_zald (w := mt1) hx hb hK hP 8 rfl (vp_in_iff.mpr ⟨by omega, by omega⟩) dX10_isJoined_100 ?_
                        refine lv_topi (fun v100 e100 => ?_)
                        have i100 : v100.toInt = (mt1 v99.toNatClampNeg).toInt := congrArg Int32.toInt e100
                        refine lv_if_ne (tgt := 166) hx hb dX10_isJoined_101 (by decide) (fun c101 => ?_) (fun c101 => ?_)
                        · skip
                          have d101 := c101
                          rw [fa_eq] at d101
                          refine lv_iconst (v := 1) hx hb dX10_isJoined_166 (by decide) ?_
                          refine lv_goto (tgt := 171) hx hb dX10_isJoined_167 (by decide) ?_
                          refine lv_istore (lv' := [(8, .int (1 : Int32)), (7, .int (nI i)), (6, .int xn), (5, .int x5), (0, .ref mo), (1, .int w), (2, .int h), (3, .long p0)]) hx hb dX10_isJoined_171 hl (by decide) rfl (fun ls hl => ?_)
                          refine lv_lload_n hx hb dX10_isJoined_173 rfl (lv_at hl 7 rfl) ?_
                          refine lv_iload hx hb dX10_isJoined_174 (lv_at hl 1 rfl) ?_
                          refine m_pu (As := [.long p0, .int (nI i)]) (rest := []) ⟨hx, hb, hml, hown, hts⟩ (c_X10_one l p0 (nI i) ) (va_cwS 2 hts gX10_isJoined_X10_one rfl rfl rfl (by decide +kernel) ⟨Nat.le_of_ble_eq_true rfl, Nat.le_of_ble_eq_true rfl⟩) hP rfl hl.1 rfl (Nat.le_of_ble_eq_true rfl) dX10_isJoined_176 ⟨Nat.le_of_ble_eq_true rfl, Nat.le_of_ble_eq_true rfl⟩ hS (fun r176 H locs q176 hP hS => ?_)
                          have i176 : r176.toInt = (r_one p0 (nI i)).toInt := congrArg Int32.toInt q176
                          refine lv_iconst (v := 1) hx hb dX10_isJoined_179 (by decide) ?_
                          refine lv_icmp_ne (tgt := 209) hx hb dX10_isJoined_180 (by decide) (fun c180 => ?_) (fun c180 => ?_)
                          · skip
                            have d180 := c180
                            rw [fa_eq] at d180
                            refine lv_iinc (v := (nI (i + 1))) (lv' := [(7, .int (nI (i + 1))), (8, .int (1 : Int32)), (6, .int xn), (5, .int x5), (0, .ref mo), (1, .int w), (2, .int h), (3, .long p0)]) hx hb dX10_isJoined_209 hl (k := 1) rfl (nI_1 _) (by decide) rfl (fun ls hl => ?_)
                            refine lv_goto (tgt := 77) hx hb dX10_isJoined_212 (by decide) ?_
                            exact ih_77 (i + 1) xn mt1 (by omega) (by first | exact j77_1 | (have z := cz_upd (mt := mt1) (i := (nI i).toNatClampNeg) (v := (1 : Int32) &&& 1) (nI_cl (by omega)) (by rw [← e189]; exact c190) (by decide); rcases j77_1 with ⟨_, y⟩ | ⟨_, y⟩ <;> exact Or.inr ⟨rfl, by omega⟩)) (by omega) _ _ hP hS ls (lv_sub hl [0, 2, 3, 4, 5, 6, 7] rfl)
                          · skip
                            have d180 := c180
                            rw [fa_eq] at d180
                            refine lv_aload_n hx hb dX10_isJoined_183 rfl (lv_at hl 4 rfl) ?_
                            refine m_get (v := .ref (a 9)) hx hb hts hin hown hK hP 9 (by decide) rfl (hts (.fieldLink RX10 32 "ShadowBenchModel" "met" "[Z") (by decide +kernel)) rfl dX10_isJoined_184 ?_
                            refine lv_iload hx hb dX10_isJoined_187 (lv_at hl 1 rfl) ?_
                            refine m_zald (w := mt1) hx hb hK hP 8 rfl (vp_in_iff.mpr ⟨by omega, by omega⟩) dX10_isJoined_189 ?_
                            refine lv_topi (fun v189 e189 => ?_)
                            have i189 : v189.toInt = (mt1 (nI i).toNatClampNeg).toInt := congrArg Int32.toInt e189
                            refine lv_if_ne (tgt := 209) hx hb dX10_isJoined_190 (by decide) (fun c190 => ?_) (fun c190 => ?_)
                            · skip
                              have d190 := c190
                              rw [fa_eq] at d190
                              refine lv_iinc (v := (nI (i + 1))) (lv' := [(7, .int (nI (i + 1))), (8, .int (1 : Int32)), (6, .int xn), (5, .int x5), (0, .ref mo), (1, .int w), (2, .int h), (3, .long p0)]) hx hb dX10_isJoined_209 hl (k := 1) rfl (nI_1 _) (by decide) rfl (fun ls hl => ?_)
                              refine lv_goto (tgt := 77) hx hb dX10_isJoined_212 (by decide) ?_
                              exact ih_77 (i + 1) xn mt1 (by omega) (by first | exact j77_1 | (have z := cz_upd (mt := mt1) (i := (nI i).toNatClampNeg) (v := (1 : Int32) &&& 1) (nI_cl (by omega)) (by rw [← e189]; exact c190) (by decide); rcases j77_1 with ⟨_, y⟩ | ⟨_, y⟩ <;> exact Or.inr ⟨rfl, by omega⟩)) (by omega) _ _ hP hS ls (lv_sub hl [0, 2, 3, 4, 5, 6, 7] rfl)
                            · skip
                              have d190 := c190
                              rw [fa_eq] at d190
                              refine lv_iload hx hb dX10_isJoined_193 (lv_at hl 0 rfl) ?_
                              refine lv_if_eq (tgt := 209) hx hb dX10_isJoined_195 (by decide) (fun c195 => ?_) (fun c195 => ?_)
                              · first | exact absurd c195 (by decide) | exact absurd (by decide) c195
                              · skip
                                have d195 := c195
                                rw [fa_eq] at d195
                                refine lv_aload_n hx hb dX10_isJoined_198 rfl (lv_at hl 4 rfl) ?_
                                refine m_get (v := .ref (a 9)) hx hb hts hin hown hK hP 9 (by decide) rfl (hts (.fieldLink RX10 32 "ShadowBenchModel" "met" "[Z") (by decide +kernel)) rfl dX10_isJoined_199 ?_
                                refine lv_iload hx hb dX10_isJoined_202 (lv_at hl 1 rfl) ?_
                                refine lv_iconst (v := 1) hx hb dX10_isJoined_204 (by decide) ?_
                                refine m_zast (w := mt1) hx hb hK hP hD hS 8 rfl (vp_in_iff.mpr ⟨by omega, by omega⟩) (va_up r 9 ((upd mt1 (nI i).toNatClampNeg ((1 : Int32) &&& 1)))) rfl dX10_isJoined_205 (fun H locs hP hS => ?_)
                                refine lv_iconst (v := 1) hx hb dX10_isJoined_206 (by decide) ?_
                                refine lv_istore (lv' := [(6, .int (1 : Int32)), (8, .int (1 : Int32)), (7, .int (nI i)), (5, .int x5), (0, .ref mo), (1, .int w), (2, .int h), (3, .long p0)]) hx hb dX10_isJoined_207 hl (by decide) rfl (fun ls hl => ?_)
                                refine lv_iinc (v := (nI (i + 1))) (lv' := [(7, .int (nI (i + 1))), (6, .int (1 : Int32)), (8, .int (1 : Int32)), (5, .int x5), (0, .ref mo), (1, .int w), (2, .int h), (3, .long p0)]) hx hb dX10_isJoined_209 hl (k := 2) rfl (nI_1 _) (by decide) rfl (fun ls hl => ?_)
                                refine lv_goto (tgt := 77) hx hb dX10_isJoined_212 (by decide) ?_
                                exact ih_77 (i + 1) (1 : Int32) (((upd mt1 (nI i).toNatClampNeg ((1 : Int32) &&& 1)))) (by omega) (by first | exact j77_1 | (have z := cz_upd (mt := mt1) (i := (nI i).toNatClampNeg) (v := (1 : Int32) &&& 1) (nI_cl (by omega)) (by rw [← e189]; exact c190) (by decide); rcases j77_1 with ⟨_, y⟩ | ⟨_, y⟩ <;> exact Or.inr ⟨rfl, by omega⟩)) (by omega) _ _ hP hS ls (lv_sub hl [0, 1, 3, 4, 5, 6, 7] rfl)
                        · skip
                          have d101 := c101
                          rw [fa_eq] at d101
                          refine lv_iload hx hb dX10_isJoined_104 (lv_at hl 0 rfl) ?_
                          refine lv_iload_n hx hb dX10_isJoined_106 rfl (lv_at hl 4 rfl) ?_
                          refine lv_irem hx hb dX10_isJoined_107 (fun z => by rw [fa_eq] at z; omega) ?_
                          refine lv_topi (fun v107 e107 => ?_)
                          have i107 : v107.toInt = (nI i).toInt % w.toInt := by rw [e107]; exact my_irem (by omega) (by omega)
                          have j107 : 0 ≤ v107.toInt ∧ v107.toInt < w.toInt ∧ v107.toInt ≤ (nI i).toInt := by rw [e107]; exact my_remb (by omega) (by omega)
                          refine lv_iconst (v := 1) hx hb dX10_isJoined_108 (by decide) ?_
                          refine lv_iadd hx hb dX10_isJoined_109 ?_
                          refine lv_topi (fun v109 e109 => ?_)
                          have i109 : v109.toInt = v107.toInt + (1 : Int32).toInt := by rw [e109]; exact fb_addI (by omega) (by omega)
                          refine lv_iload_n hx hb dX10_isJoined_110 rfl (lv_at hl 4 rfl) ?_
                          refine lv_icmp_ge (tgt := 126) hx hb dX10_isJoined_111 (by decide) (fun c111 => ?_) (fun c111 => ?_)
                          · skip
                            have d111 := c111
                            rw [fa_le] at d111
                            refine lv_iload hx hb dX10_isJoined_126 (lv_at hl 0 rfl) ?_
                            refine lv_iload_n hx hb dX10_isJoined_128 rfl (lv_at hl 4 rfl) ?_
                            refine lv_icmp_lt (tgt := 144) hx hb dX10_isJoined_129 (by decide) (fun c129 => ?_) (fun c129 => ?_)
                            · skip
                              have d129 := c129
                              rw [fa_lt] at d129
                              refine lv_iload hx hb dX10_isJoined_144 (lv_at hl 0 rfl) ?_
                              refine lv_iload_n hx hb dX10_isJoined_146 rfl (lv_at hl 4 rfl) ?_
                              refine lv_iadd hx hb dX10_isJoined_147 ?_
                              refine lv_topi (fun v147 e147 => ?_)
                              have i147 : v147.toInt = (nI i).toInt + w.toInt := by rw [e147]; exact fb_addI (by omega) (by omega)
                              refine lv_iload_n hx hb dX10_isJoined_148 rfl (lv_at hl 4 rfl) ?_
                              refine lv_iload_n hx hb dX10_isJoined_149 rfl (lv_at hl 5 rfl) ?_
                              refine lv_imul hx hb dX10_isJoined_150 ?_
                              refine lv_topi (fun v150 e150 => ?_)
                              have i150 : v150.toInt = w.toInt * h.toInt := by rw [e150]; exact fb_mulI (by omega) (by omega)
                              refine lv_icmp_ge (tgt := 170) hx hb dX10_isJoined_151 (by decide) (fun c151 => ?_) (fun c151 => ?_)
                              · skip
                                have d151 := c151
                                rw [fa_le] at d151
                                refine lv_iconst (v := 0) hx hb dX10_isJoined_170 (by decide) ?_
                                refine lv_istore (lv' := [(8, .int (0 : Int32)), (7, .int (nI i)), (6, .int xn), (5, .int x5), (0, .ref mo), (1, .int w), (2, .int h), (3, .long p0)]) hx hb dX10_isJoined_171 hl (by decide) rfl (fun ls hl => ?_)
                                refine lv_lload_n hx hb dX10_isJoined_173 rfl (lv_at hl 7 rfl) ?_
                                refine lv_iload hx hb dX10_isJoined_174 (lv_at hl 1 rfl) ?_
                                refine m_pu (As := [.long p0, .int (nI i)]) (rest := []) ⟨hx, hb, hml, hown, hts⟩ (c_X10_one l p0 (nI i) ) (va_cwS 2 hts gX10_isJoined_X10_one rfl rfl rfl (by decide +kernel) ⟨Nat.le_of_ble_eq_true rfl, Nat.le_of_ble_eq_true rfl⟩) hP rfl hl.1 rfl (Nat.le_of_ble_eq_true rfl) dX10_isJoined_176 ⟨Nat.le_of_ble_eq_true rfl, Nat.le_of_ble_eq_true rfl⟩ hS (fun r176 H locs q176 hP hS => ?_)
                                have i176 : r176.toInt = (r_one p0 (nI i)).toInt := congrArg Int32.toInt q176
                                refine lv_iconst (v := 1) hx hb dX10_isJoined_179 (by decide) ?_
                                refine lv_icmp_ne (tgt := 209) hx hb dX10_isJoined_180 (by decide) (fun c180 => ?_) (fun c180 => ?_)
                                · skip
                                  have d180 := c180
                                  rw [fa_eq] at d180
                                  refine lv_iinc (v := (nI (i + 1))) (lv' := [(7, .int (nI (i + 1))), (8, .int (0 : Int32)), (6, .int xn), (5, .int x5), (0, .ref mo), (1, .int w), (2, .int h), (3, .long p0)]) hx hb dX10_isJoined_209 hl (k := 1) rfl (nI_1 _) (by decide) rfl (fun ls hl => ?_)
                                  refine lv_goto (tgt := 77) hx hb dX10_isJoined_212 (by decide) ?_
                                  exact ih_77 (i + 1) xn mt1 (by omega) (by first | exact j77_1 | (have z := cz_upd (mt := mt1) (i := (nI i).toNatClampNeg) (v := (1 : Int32) &&& 1) (nI_cl (by omega)) (by rw [← e189]; exact c190) (by decide); rcases j77_1 with ⟨_, y⟩ | ⟨_, y⟩ <;> exact Or.inr ⟨rfl, by omega⟩)) (by omega) _ _ hP hS ls (lv_sub hl [0, 2, 3, 4, 5, 6, 7] rfl)
                                · skip
                                  have d180 := c180
                                  rw [fa_eq] at d180
                                  refine lv_aload_n hx hb dX10_isJoined_183 rfl (lv_at hl 4 rfl) ?_
                                  refine m_get (v := .ref (a 9)) hx hb hts hin hown hK hP 9 (by decide) rfl (hts (.fieldLink RX10 32 "ShadowBenchModel" "met" "[Z") (by decide +kernel)) rfl dX10_isJoined_184 ?_
                                  refine lv_iload hx hb dX10_isJoined_187 (lv_at hl 1 rfl) ?_
                                  refine m_zald (w := mt1) hx hb hK hP 8 rfl (vp_in_iff.mpr ⟨by omega, by omega⟩) dX10_isJoined_189 ?_
                                  refine lv_topi (fun v189 e189 => ?_)
                                  have i189 : v189.toInt = (mt1 (nI i).toNatClampNeg).toInt := congrArg Int32.toInt e189
                                  refine lv_if_ne (tgt := 209) hx hb dX10_isJoined_190 (by decide) (fun c190 => ?_) (fun c190 => ?_)
                                  · skip
                                    have d190 := c190
                                    rw [fa_eq] at d190
                                    refine lv_iinc (v := (nI (i + 1))) (lv' := [(7, .int (nI (i + 1))), (8, .int (0 : Int32)), (6, .int xn), (5, .int x5), (0, .ref mo), (1, .int w), (2, .int h), (3, .long p0)]) hx hb dX10_isJoined_209 hl (k := 1) rfl (nI_1 _) (by decide) rfl (fun ls hl => ?_)
                                    refine lv_goto (tgt := 77) hx hb dX10_isJoined_212 (by decide) ?_
                                    exact ih_77 (i + 1) xn mt1 (by omega) (by first | exact j77_1 | (have z := cz_upd (mt := mt1) (i := (nI i).toNatClampNeg) (v := (1 : Int32) &&& 1) (nI_cl (by omega)) (by rw [← e189]; exact c190) (by decide); rcases j77_1 with ⟨_, y⟩ | ⟨_, y⟩ <;> exact Or.inr ⟨rfl, by omega⟩)) (by omega) _ _ hP hS ls (lv_sub hl [0, 2, 3, 4, 5, 6, 7] rfl)
                                  · skip
                                    have d190 := c190
                                    rw [fa_eq] at d190
                                    refine lv_iload hx hb dX10_isJoined_193 (lv_at hl 0 rfl) ?_
                                    refine lv_if_eq (tgt := 209) hx hb dX10_isJoined_195 (by decide) (fun c195 => ?_) (fun c195 => ?_)
                                    · skip
                                      have d195 := c195
                                      rw [fa_eq] at d195
                                      refine lv_iinc (v := (nI (i + 1))) (lv' := [(7, .int (nI (i + 1))), (8, .int (0 : Int32)), (6, .int xn), (5, .int x5), (0, .ref mo), (1, .int w), (2, .int h), (3, .long p0)]) hx hb dX10_isJoined_209 hl (k := 1) rfl (nI_1 _) (by decide) rfl (fun ls hl => ?_)
                                      refine lv_goto (tgt := 77) hx hb dX10_isJoined_212 (by decide) ?_
                                      exact ih_77 (i + 1) xn mt1 (by omega) (by first | exact j77_1 | (have z := cz_upd (mt := mt1) (i := (nI i).toNatClampNeg) (v := (1 : Int32) &&& 1) (nI_cl (by omega)) (by rw [← e189]; exact c190) (by decide); rcases j77_1 with ⟨_, y⟩ | ⟨_, y⟩ <;> exact Or.inr ⟨rfl, by omega⟩)) (by omega) _ _ hP hS ls (lv_sub hl [0, 2, 3, 4, 5, 6, 7] rfl)
                                    · first | exact absurd c195 (by decide) | exact absurd (by decide) c195
                              · skip
                                have d151 := c151
                                rw [fa_le] at d151
                                refine lv_aload_n hx hb dX10_isJoined_154 rfl (lv_at hl 3 rfl) ?_
                                refine m_get (v := .ref (a 9)) hx hb hts hin hown hK hP 9 (by decide) rfl (hts (.fieldLink RX10 32 "ShadowBenchModel" "met" "[Z") (by decide +kernel)) rfl dX10_isJoined_155 ?_
                                refine lv_iload hx hb dX10_isJoined_158 (lv_at hl 0 rfl) ?_
                                refine lv_iload_n hx hb dX10_isJoined_160 rfl (lv_at hl 4 rfl) ?_
                                refine lv_iadd hx hb dX10_isJoined_161 ?_
                                refine lv_topi (fun v161 e161 => ?_)
                                have i161 : v161.toInt = (nI i).toInt + w.toInt := by rw [e161]; exact fb_addI (by omega) (by omega)
                                refine m_zald (w := mt1) hx hb hK hP 8 rfl (vp_in_iff.mpr ⟨by omega, by omega⟩) dX10_isJoined_162 ?_
                                refine lv_topi (fun v162 e162 => ?_)
                                have i162 : v162.toInt = (mt1 v161.toNatClampNeg).toInt := congrArg Int32.toInt e162
                                refine lv_if_eq (tgt := 170) hx hb dX10_isJoined_163 (by decide) (fun c163 => ?_) (fun c163 => ?_)
                                · skip
                                  have d163 := c163
                                  rw [fa_eq] at d163
                                  refine lv_iconst (v := 0) hx hb dX10_isJoined_170 (by decide) ?_
                                  refine lv_istore (lv' := [(8, .int (0 : Int32)), (7, .int (nI i)), (6, .int xn), (5, .int x5), (0, .ref mo), (1, .int w), (2, .int h), (3, .long p0)]) hx hb dX10_isJoined_171 hl (by decide) rfl (fun ls hl => ?_)
                                  refine lv_lload_n hx hb dX10_isJoined_173 rfl (lv_at hl 7 rfl) ?_
                                  refine lv_iload hx hb dX10_isJoined_174 (lv_at hl 1 rfl) ?_
                                  refine m_pu (As := [.long p0, .int (nI i)]) (rest := []) ⟨hx, hb, hml, hown, hts⟩ (c_X10_one l p0 (nI i) ) (va_cwS 2 hts gX10_isJoined_X10_one rfl rfl rfl (by decide +kernel) ⟨Nat.le_of_ble_eq_true rfl, Nat.le_of_ble_eq_true rfl⟩) hP rfl hl.1 rfl (Nat.le_of_ble_eq_true rfl) dX10_isJoined_176 ⟨Nat.le_of_ble_eq_true rfl, Nat.le_of_ble_eq_true rfl⟩ hS (fun r176 H locs q176 hP hS => ?_)
                                  have i176 : r176.toInt = (r_one p0 (nI i)).toInt := congrArg Int32.toInt q176
                                  refine lv_iconst (v := 1) hx hb dX10_isJoined_179 (by decide) ?_
                                  refine lv_icmp_ne (tgt := 209) hx hb dX10_isJoined_180 (by decide) (fun c180 => ?_) (fun c180 => ?_)
                                  · skip
                                    have d180 := c180
                                    rw [fa_eq] at d180
                                    refine lv_iinc (v := (nI (i + 1))) (lv' := [(7, .int (nI (i + 1))), (8, .int (0 : Int32)), (6, .int xn), (5, .int x5), (0, .ref mo), (1, .int w), (2, .int h), (3, .long p0)]) hx hb dX10_isJoined_209 hl (k := 1) rfl (nI_1 _) (by decide) rfl (fun ls hl => ?_)
                                    refine lv_goto (tgt := 77) hx hb dX10_isJoined_212 (by decide) ?_
                                    exact ih_77 (i + 1) xn mt1 (by omega) (by first | exact j77_1 | (have z := cz_upd (mt := mt1) (i := (nI i).toNatClampNeg) (v := (1 : Int32) &&& 1) (nI_cl (by omega)) (by rw [← e189]; exact c190) (by decide); rcases j77_1 with ⟨_, y⟩ | ⟨_, y⟩ <;> exact Or.inr ⟨rfl, by omega⟩)) (by omega) _ _ hP hS ls (lv_sub hl [0, 2, 3, 4, 5, 6, 7] rfl)
                                  · skip
                                    have d180 := c180
                                    rw [fa_eq] at d180
                                    refine lv_aload_n hx hb dX10_isJoined_183 rfl (lv_at hl 4 rfl) ?_
                                    refine m_get (v := .ref (a 9)) hx hb hts hin hown hK hP 9 (by decide) rfl (hts (.fieldLink RX10 32 "ShadowBenchModel" "met" "[Z") (by decide +kernel)) rfl dX10_isJoined_184 ?_
                                    refine lv_iload hx hb dX10_isJoined_187 (lv_at hl 1 rfl) ?_
                                    refine m_zald (w := mt1) hx hb hK hP 8 rfl (vp_in_iff.mpr ⟨by omega, by omega⟩) dX10_isJoined_189 ?_
                                    refine lv_topi (fun v189 e189 => ?_)
                                    have i189 : v189.toInt = (mt1 (nI i).toNatClampNeg).toInt := congrArg Int32.toInt e189
                                    refine lv_if_ne (tgt := 209) hx hb dX10_isJoined_190 (by decide) (fun c190 => ?_) (fun c190 => ?_)
                                    · skip
                                      have d190 := c190
                                      rw [fa_eq] at d190
                                      refine lv_iinc (v := (nI (i + 1))) (lv' := [(7, .int (nI (i + 1))), (8, .int (0 : Int32)), (6, .int xn), (5, .int x5), (0, .ref mo), (1, .int w), (2, .int h), (3, .long p0)]) hx hb dX10_isJoined_209 hl (k := 1) rfl (nI_1 _) (by decide) rfl (fun ls hl => ?_)
                                      refine lv_goto (tgt := 77) hx hb dX10_isJoined_212 (by decide) ?_
                                      exact ih_77 (i + 1) xn mt1 (by omega) (by first | exact j77_1 | (have z := cz_upd (mt := mt1) (i := (nI i).toNatClampNeg) (v := (1 : Int32) &&& 1) (nI_cl (by omega)) (by rw [← e189]; exact c190) (by decide); rcases j77_1 with ⟨_, y⟩ | ⟨_, y⟩ <;> exact Or.inr ⟨rfl, by omega⟩)) (by omega) _ _ hP hS ls (lv_sub hl [0, 2, 3, 4, 5, 6, 7] rfl)
                                    · skip
                                      have d190 := c190
                                      rw [fa_eq] at d190
                                      refine lv_iload hx hb dX10_isJoined_193 (lv_at hl 0 rfl) ?_
                                      refine lv_if_eq (tgt := 209) hx hb dX10_isJoined_195 (by decide) (fun c195 => ?_) (fun c195 => ?_)
                                      · skip
                                        have d195 := c195
                                        rw [fa_eq] at d195
                                        refine lv_iinc (v := (nI (i + 1))) (lv' := [(7, .int (nI (i + 1))), (8, .int (0 : Int32)), (6, .int xn), (5, .int x5), (0, .ref mo), (1, .int w), (2, .int h), (3, .long p0)]) hx hb dX10_isJoined_209 hl (k := 1) rfl (nI_1 _) (by decide) rfl (fun ls hl => ?_)
                                        refine lv_goto (tgt := 77) hx hb dX10_isJoined_212 (by decide) ?_
                                        exact ih_77 (i + 1) xn mt1 (by omega) (by first | exact j77_1 | (have z := cz_upd (mt := mt1) (i := (nI i).toNatClampNeg) (v := (1 : Int32) &&& 1) (nI_cl (by omega)) (by rw [← e189]; exact c190) (by decide); rcases j77_1 with ⟨_, y⟩ | ⟨_, y⟩ <;> exact Or.inr ⟨rfl, by omega⟩)) (by omega) _ _ hP hS ls (lv_sub hl [0, 2, 3, 4, 5, 6, 7] rfl)
                                      · first | exact absurd c195 (by decide) | exact absurd (by decide) c195
                                · skip
                                  have d163 := c163
                                  rw [fa_eq] at d163
                                  refine lv_iconst (v := 1) hx hb dX10_isJoined_166 (by decide) ?_
                                  refine lv_goto (tgt := 171) hx hb dX10_isJoined_167 (by decide) ?_
                                  refine lv_istore (lv' := [(8, .int (1 : Int32)), (7, .int (nI i)), (6, .int xn), (5, .int x5), (0, .ref mo), (1, .int w), (2, .int h), (3, .long p0)]) hx hb dX10_isJoined_171 hl (by decide) rfl (fun ls hl => ?_)
                                  refine lv_lload_n hx hb dX10_isJoined_173 rfl (lv_at hl 7 rfl) ?_
                                  refine lv_iload hx hb dX10_isJoined_174 (lv_at hl 1 rfl) ?_
                                  refine m_pu (As := [.long p0, .int (nI i)]) (rest := []) ⟨hx, hb, hml, hown, hts⟩ (c_X10_one l p0 (nI i) ) (va_cwS 2 hts gX10_isJoined_X10_one rfl rfl rfl (by decide +kernel) ⟨Nat.le_of_ble_eq_true rfl, Nat.le_of_ble_eq_true rfl⟩) hP rfl hl.1 rfl (Nat.le_of_ble_eq_true rfl) dX10_isJoined_176 ⟨Nat.le_of_ble_eq_true rfl, Nat.le_of_ble_eq_true rfl⟩ hS (fun r176 H locs q176 hP hS => ?_)
                                  have i176 : r176.toInt = (r_one p0 (nI i)).toInt := congrArg Int32.toInt q176
                                  refine lv_iconst (v := 1) hx hb dX10_isJoined_179 (by decide) ?_
                                  refine lv_icmp_ne (tgt := 209) hx hb dX10_isJoined_180 (by decide) (fun c180 => ?_) (fun c180 => ?_)
                                  · skip
                                    have d180 := c180
                                    rw [fa_eq] at d180
                                    refine lv_iinc (v := (nI (i + 1))) (lv' := [(7, .int (nI (i + 1))), (8, .int (1 : Int32)), (6, .int xn), (5, .int x5), (0, .ref mo), (1, .int w), (2, .int h), (3, .long p0)]) hx hb dX10_isJoined_209 hl (k := 1) rfl (nI_1 _) (by decide) rfl (fun ls hl => ?_)
                                    refine lv_goto (tgt := 77) hx hb dX10_isJoined_212 (by decide) ?_
                                    exact ih_77 (i + 1) xn mt1 (by omega) (by first | exact j77_1 | (have z := cz_upd (mt := mt1) (i := (nI i).toNatClampNeg) (v := (1 : Int32) &&& 1) (nI_cl (by omega)) (by rw [← e189]; exact c190) (by decide); rcases j77_1 with ⟨_, y⟩ | ⟨_, y⟩ <;> exact Or.inr ⟨rfl, by omega⟩)) (by omega) _ _ hP hS ls (lv_sub hl [0, 2, 3, 4, 5, 6, 7] rfl)
                                  · skip
                                    have d180 := c180
                                    rw [fa_eq] at d180
                                    refine lv_aload_n hx hb dX10_isJoined_183 rfl (lv_at hl 4 rfl) ?_
                                    refine m_get (v := .ref (a 9)) hx hb hts hin hown hK hP 9 (by decide) rfl (hts (.fieldLink RX10 32 "ShadowBenchModel" "met" "[Z") (by decide +kernel)) rfl dX10_isJoined_184 ?_
                                    refine lv_iload hx hb dX10_isJoined_187 (lv_at hl 1 rfl) ?_
                                    refine m_zald (w := mt1) hx hb hK hP 8 rfl (vp_in_iff.mpr ⟨by omega, by omega⟩) dX10_isJoined_189 ?_
                                    refine lv_topi (fun v189 e189 => ?_)
                                    have i189 : v189.toInt = (mt1 (nI i).toNatClampNeg).toInt := congrArg Int32.toInt e189
                                    refine lv_if_ne (tgt := 209) hx hb dX10_isJoined_190 (by decide) (fun c190 => ?_) (fun c190 => ?_)
                                    · skip
                                      have d190 := c190
                                      rw [fa_eq] at d190
                                      refine lv_iinc (v := (nI (i + 1))) (lv' := [(7, .int (nI (i + 1))), (8, .int (1 : Int32)), (6, .int xn), (5, .int x5), (0, .ref mo), (1, .int w), (2, .int h), (3, .long p0)]) hx hb dX10_isJoined_209 hl (k := 1) rfl (nI_1 _) (by decide) rfl (fun ls hl => ?_)
                                      refine lv_goto (tgt := 77) hx hb dX10_isJoined_212 (by decide) ?_
                                      exact ih_77 (i + 1) xn mt1 (by omega) (by first | exact j77_1 | (have z := cz_upd (mt := mt1) (i := (nI i).toNatClampNeg) (v := (1 : Int32) &&& 1) (nI_cl (by omega)) (by rw [← e189]; exact c190) (by decide); rcases j77_1 with ⟨_, y⟩ | ⟨_, y⟩ <;> exact Or.inr ⟨rfl, by omega⟩)) (by omega) _ _ hP hS ls (lv_sub hl [0, 2, 3, 4, 5, 6, 7] rfl)
                                    · skip
                                      have d190 := c190
                                      rw [fa_eq] at d190
                                      refine lv_iload hx hb dX10_isJoined_193 (lv_at hl 0 rfl) ?_
                                      refine lv_if_eq (tgt := 209) hx hb dX10_isJoined_195 (by decide) (fun c195 => ?_) (fun c195 => ?_)
                                      · first | exact absurd c195 (by decide) | exact absurd (by decide) c195
                                      · skip
                                        have d195 := c195
                                        rw [fa_eq] at d195
                                        refine lv_aload_n hx hb dX10_isJoined_198 rfl (lv_at hl 4 rfl) ?_
                                        refine m_get (v := .ref (a 9)) hx hb hts hin hown hK hP 9 (by decide) rfl (hts (.fieldLink RX10 32 "ShadowBenchModel" "met" "[Z") (by decide +kernel)) rfl dX10_isJoined_199 ?_
                                        refine lv_iload hx hb dX10_isJoined_202 (lv_at hl 1 rfl) ?_
                                        refine lv_iconst (v := 1) hx hb dX10_isJoined_204 (by decide) ?_
                                        refine m_zast (w := mt1) hx hb hK hP hD hS 8 rfl (vp_in_iff.mpr ⟨by omega, by omega⟩) (va_up r 9 ((upd mt1 (nI i).toNatClampNeg ((1 : Int32) &&& 1)))) rfl dX10_isJoined_205 (fun H locs hP hS => ?_)
                                        refine lv_iconst (v := 1) hx hb dX10_isJoined_206 (by decide) ?_
                                        refine lv_istore (lv' := [(6, .int (1 : Int32)), (8, .int (1 : Int32)), (7, .int (nI i)), (5, .int x5), (0, .ref mo), (1, .int w), (2, .int h), (3, .long p0)]) hx hb dX10_isJoined_207 hl (by decide) rfl (fun ls hl => ?_)
                                        refine lv_iinc (v := (nI (i + 1))) (lv' := [(7, .int (nI (i + 1))), (6, .int (1 : Int32)), (8, .int (1 : Int32)), (5, .int x5), (0, .ref mo), (1, .int w), (2, .int h), (3, .long p0)]) hx hb dX10_isJoined_209 hl (k := 2) rfl (nI_1 _) (by decide) rfl (fun ls hl => ?_)
                                        refine lv_goto (tgt := 77) hx hb dX10_isJoined_212 (by decide) ?_
                                        exact ih_77 (i + 1) (1 : Int32) (((upd mt1 (nI i).toNatClampNeg ((1 : Int32) &&& 1)))) (by omega) (by first | exact j77_1 | (have z := cz_upd (mt := mt1) (i := (nI i).toNatClampNeg) (v := (1 : Int32) &&& 1) (nI_cl (by omega)) (by rw [← e189]; exact c190) (by decide); rcases j77_1 with ⟨_, y⟩ | ⟨_, y⟩ <;> exact Or.inr ⟨rfl, by omega⟩)) (by omega) _ _ hP hS ls (lv_sub hl [0, 1, 3, 4, 5, 6, 7] rfl)
                            · skip
                              have d129 := c129
                              rw [fa_lt] at d129
                              refine lv_aload_n hx hb dX10_isJoined_132 rfl (lv_at hl 3 rfl) ?_
                              refine m_get (v := .ref (a 9)) hx hb hts hin hown hK hP 9 (by decide) rfl (hts (.fieldLink RX10 32 "ShadowBenchModel" "met" "[Z") (by decide +kernel)) rfl dX10_isJoined_133 ?_
                              refine lv_iload hx hb dX10_isJoined_136 (lv_at hl 0 rfl) ?_
                              refine lv_iload_n hx hb dX10_isJoined_138 rfl (lv_at hl 4 rfl) ?_
                              refine lv_isub hx hb dX10_isJoined_139 ?_
                              refine lv_topi (fun v139 e139 => ?_)
                              have i139 : v139.toInt = (nI i).toInt - w.toInt := by rw [e139]; exact fb_subI (by omega) (by omega)
                              refine m_zald (w := mt1) hx hb hK hP 8 rfl (vp_in_iff.mpr ⟨by omega, by omega⟩) dX10_isJoined_140 ?_
                              refine lv_topi (fun v140 e140 => ?_)
                              have i140 : v140.toInt = (mt1 v139.toNatClampNeg).toInt := congrArg Int32.toInt e140
                              refine lv_if_ne (tgt := 166) hx hb dX10_isJoined_141 (by decide) (fun c141 => ?_) (fun c141 => ?_)
                              · skip
                                have d141 := c141
                                rw [fa_eq] at d141
                                refine lv_iconst (v := 1) hx hb dX10_isJoined_166 (by decide) ?_
                                refine lv_goto (tgt := 171) hx hb dX10_isJoined_167 (by decide) ?_
                                refine lv_istore (lv' := [(8, .int (1 : Int32)), (7, .int (nI i)), (6, .int xn), (5, .int x5), (0, .ref mo), (1, .int w), (2, .int h), (3, .long p0)]) hx hb dX10_isJoined_171 hl (by decide) rfl (fun ls hl => ?_)
                                refine lv_lload_n hx hb dX10_isJoined_173 rfl (lv_at hl 7 rfl) ?_
                                refine lv_iload hx hb dX10_isJoined_174 (lv_at hl 1 rfl) ?_
                                refine m_pu (As := [.long p0, .int (nI i)]) (rest := []) ⟨hx, hb, hml, hown, hts⟩ (c_X10_one l p0 (nI i) ) (va_cwS 2 hts gX10_isJoined_X10_one rfl rfl rfl (by decide +kernel) ⟨Nat.le_of_ble_eq_true rfl, Nat.le_of_ble_eq_true rfl⟩) hP rfl hl.1 rfl (Nat.le_of_ble_eq_true rfl) dX10_isJoined_176 ⟨Nat.le_of_ble_eq_true rfl, Nat.le_of_ble_eq_true rfl⟩ hS (fun r176 H locs q176 hP hS => ?_)
                                have i176 : r176.toInt = (r_one p0 (nI i)).toInt := congrArg Int32.toInt q176
                                refine lv_iconst (v := 1) hx hb dX10_isJoined_179 (by decide) ?_
                                refine lv_icmp_ne (tgt := 209) hx hb dX10_isJoined_180 (by decide) (fun c180 => ?_) (fun c180 => ?_)
                                · skip
                                  have d180 := c180
                                  rw [fa_eq] at d180
                                  refine lv_iinc (v := (nI (i + 1))) (lv' := [(7, .int (nI (i + 1))), (8, .int (1 : Int32)), (6, .int xn), (5, .int x5), (0, .ref mo), (1, .int w), (2, .int h), (3, .long p0)]) hx hb dX10_isJoined_209 hl (k := 1) rfl (nI_1 _) (by decide) rfl (fun ls hl => ?_)
                                  refine lv_goto (tgt := 77) hx hb dX10_isJoined_212 (by decide) ?_
                                  exact ih_77 (i + 1) xn mt1 (by omega) (by first | exact j77_1 | (have z := cz_upd (mt := mt1) (i := (nI i).toNatClampNeg) (v := (1 : Int32) &&& 1) (nI_cl (by omega)) (by rw [← e189]; exact c190) (by decide); rcases j77_1 with ⟨_, y⟩ | ⟨_, y⟩ <;> exact Or.inr ⟨rfl, by omega⟩)) (by omega) _ _ hP hS ls (lv_sub hl [0, 2, 3, 4, 5, 6, 7] rfl)
                                · skip
                                  have d180 := c180
                                  rw [fa_eq] at d180
                                  refine lv_aload_n hx hb dX10_isJoined_183 rfl (lv_at hl 4 rfl) ?_
                                  refine m_get (v := .ref (a 9)) hx hb hts hin hown hK hP 9 (by decide) rfl (hts (.fieldLink RX10 32 "ShadowBenchModel" "met" "[Z") (by decide +kernel)) rfl dX10_isJoined_184 ?_
                                  refine lv_iload hx hb dX10_isJoined_187 (lv_at hl 1 rfl) ?_
                                  refine m_zald (w := mt1) hx hb hK hP 8 rfl (vp_in_iff.mpr ⟨by omega, by omega⟩) dX10_isJoined_189 ?_
                                  refine lv_topi (fun v189 e189 => ?_)
                                  have i189 : v189.toInt = (mt1 (nI i).toNatClampNeg).toInt := congrArg Int32.toInt e189
                                  refine lv_if_ne (tgt := 209) hx hb dX10_isJoined_190 (by decide) (fun c190 => ?_) (fun c190 => ?_)
                                  · skip
                                    have d190 := c190
                                    rw [fa_eq] at d190
                                    refine lv_iinc (v := (nI (i + 1))) (lv' := [(7, .int (nI (i + 1))), (8, .int (1 : Int32)), (6, .int xn), (5, .int x5), (0, .ref mo), (1, .int w), (2, .int h), (3, .long p0)]) hx hb dX10_isJoined_209 hl (k := 1) rfl (nI_1 _) (by decide) rfl (fun ls hl => ?_)
                                    refine lv_goto (tgt := 77) hx hb dX10_isJoined_212 (by decide) ?_
                                    exact ih_77 (i + 1) xn mt1 (by omega) (by first | exact j77_1 | (have z := cz_upd (mt := mt1) (i := (nI i).toNatClampNeg) (v := (1 : Int32) &&& 1) (nI_cl (by omega)) (by rw [← e189]; exact c190) (by decide); rcases j77_1 with ⟨_, y⟩ | ⟨_, y⟩ <;> exact Or.inr ⟨rfl, by omega⟩)) (by omega) _ _ hP hS ls (lv_sub hl [0, 2, 3, 4, 5, 6, 7] rfl)
                                  · skip
                                    have d190 := c190
                                    rw [fa_eq] at d190
                                    refine lv_iload hx hb dX10_isJoined_193 (lv_at hl 0 rfl) ?_
                                    refine lv_if_eq (tgt := 209) hx hb dX10_isJoined_195 (by decide) (fun c195 => ?_) (fun c195 => ?_)
                                    · first | exact absurd c195 (by decide) | exact absurd (by decide) c195
                                    · skip
                                      have d195 := c195
                                      rw [fa_eq] at d195
                                      refine lv_aload_n hx hb dX10_isJoined_198 rfl (lv_at hl 4 rfl) ?_
                                      refine m_get (v := .ref (a 9)) hx hb hts hin hown hK hP 9 (by decide) rfl (hts (.fieldLink RX10 32 "ShadowBenchModel" "met" "[Z") (by decide +kernel)) rfl dX10_isJoined_199 ?_
                                      refine lv_iload hx hb dX10_isJoined_202 (lv_at hl 1 rfl) ?_
                                      refine lv_iconst (v := 1) hx hb dX10_isJoined_204 (by decide) ?_
                                      refine m_zast (w := mt1) hx hb hK hP hD hS 8 rfl (vp_in_iff.mpr ⟨by omega, by omega⟩) (va_up r 9 ((upd mt1 (nI i).toNatClampNeg ((1 : Int32) &&& 1)))) rfl dX10_isJoined_205 (fun H locs hP hS => ?_)
                                      refine lv_iconst (v := 1) hx hb dX10_isJoined_206 (by decide) ?_
                                      refine lv_istore (lv' := [(6, .int (1 : Int32)), (8, .int (1 : Int32)), (7, .int (nI i)), (5, .int x5), (0, .ref mo), (1, .int w), (2, .int h), (3, .long p0)]) hx hb dX10_isJoined_207 hl (by decide) rfl (fun ls hl => ?_)
                                      refine lv_iinc (v := (nI (i + 1))) (lv' := [(7, .int (nI (i + 1))), (6, .int (1 : Int32)), (8, .int (1 : Int32)), (5, .int x5), (0, .ref mo), (1, .int w), (2, .int h), (3, .long p0)]) hx hb dX10_isJoined_209 hl (k := 2) rfl (nI_1 _) (by decide) rfl (fun ls hl => ?_)
                                      refine lv_goto (tgt := 77) hx hb dX10_isJoined_212 (by decide) ?_
                                      exact ih_77 (i + 1) (1 : Int32) (((upd mt1 (nI i).toNatClampNeg ((1 : Int32) &&& 1)))) (by omega) (by first | exact j77_1 | (have z := cz_upd (mt := mt1) (i := (nI i).toNatClampNeg) (v := (1 : Int32) &&& 1) (nI_cl (by omega)) (by rw [← e189]; exact c190) (by decide); rcases j77_1 with ⟨_, y⟩ | ⟨_, y⟩ <;> exact Or.inr ⟨rfl, by omega⟩)) (by omega) _ _ hP hS ls (lv_sub hl [0, 1, 3, 4, 5, 6, 7] rfl)
                              · skip
                                have d141 := c141
                                rw [fa_eq] at d141
                                refine lv_iload hx hb dX10_isJoined_144 (lv_at hl 0 rfl) ?_
                                refine lv_iload_n hx hb dX10_isJoined_146 rfl (lv_at hl 4 rfl) ?_
                                refine lv_iadd hx hb dX10_isJoined_147 ?_
                                refine lv_topi (fun v147 e147 => ?_)
                                have i147 : v147.toInt = (nI i).toInt + w.toInt := by rw [e147]; exact fb_addI (by omega) (by omega)
                                refine lv_iload_n hx hb dX10_isJoined_148 rfl (lv_at hl 4 rfl) ?_
                                refine lv_iload_n hx hb dX10_isJoined_149 rfl (lv_at hl 5 rfl) ?_
                                refine lv_imul hx hb dX10_isJoined_150 ?_
                                refine lv_topi (fun v150 e150 => ?_)
                                have i150 : v150.toInt = w.toInt * h.toInt := by rw [e150]; exact fb_mulI (by omega) (by omega)
                                refine lv_icmp_ge (tgt := 170) hx hb dX10_isJoined_151 (by decide) (fun c151 => ?_) (fun c151 => ?_)
                                · skip
                                  have d151 := c151
                                  rw [fa_le] at d151
                                  refine lv_iconst (v := 0) hx hb dX10_isJoined_170 (by decide) ?_
                                  refine lv_istore (lv' := [(8, .int (0 : Int32)), (7, .int (nI i)), (6, .int xn), (5, .int x5), (0, .ref mo), (1, .int w), (2, .int h), (3, .long p0)]) hx hb dX10_isJoined_171 hl (by decide) rfl (fun ls hl => ?_)
                                  refine lv_lload_n hx hb dX10_isJoined_173 rfl (lv_at hl 7 rfl) ?_
                                  refine lv_iload hx hb dX10_isJoined_174 (lv_at hl 1 rfl) ?_
                                  refine m_pu (As := [.long p0, .int (nI i)]) (rest := []) ⟨hx, hb, hml, hown, hts⟩ (c_X10_one l p0 (nI i) ) (va_cwS 2 hts gX10_isJoined_X10_one rfl rfl rfl (by decide +kernel) ⟨Nat.le_of_ble_eq_true rfl, Nat.le_of_ble_eq_true rfl⟩) hP rfl hl.1 rfl (Nat.le_of_ble_eq_true rfl) dX10_isJoined_176 ⟨Nat.le_of_ble_eq_true rfl, Nat.le_of_ble_eq_true rfl⟩ hS (fun r176 H locs q176 hP hS => ?_)
                                  have i176 : r176.toInt = (r_one p0 (nI i)).toInt := congrArg Int32.toInt q176
                                  refine lv_iconst (v := 1) hx hb dX10_isJoined_179 (by decide) ?_
                                  refine lv_icmp_ne (tgt := 209) hx hb dX10_isJoined_180 (by decide) (fun c180 => ?_) (fun c180 => ?_)
                                  · skip
                                    have d180 := c180
                                    rw [fa_eq] at d180
                                    refine lv_iinc (v := (nI (i + 1))) (lv' := [(7, .int (nI (i + 1))), (8, .int (0 : Int32)), (6, .int xn), (5, .int x5), (0, .ref mo), (1, .int w), (2, .int h), (3, .long p0)]) hx hb dX10_isJoined_209 hl (k := 1) rfl (nI_1 _) (by decide) rfl (fun ls hl => ?_)
                                    refine lv_goto (tgt := 77) hx hb dX10_isJoined_212 (by decide) ?_
                                    exact ih_77 (i + 1) xn mt1 (by omega) (by first | exact j77_1 | (have z := cz_upd (mt := mt1) (i := (nI i).toNatClampNeg) (v := (1 : Int32) &&& 1) (nI_cl (by omega)) (by rw [← e189]; exact c190) (by decide); rcases j77_1 with ⟨_, y⟩ | ⟨_, y⟩ <;> exact Or.inr ⟨rfl, by omega⟩)) (by omega) _ _ hP hS ls (lv_sub hl [0, 2, 3, 4, 5, 6, 7] rfl)
                                  · skip
                                    have d180 := c180
                                    rw [fa_eq] at d180
                                    refine lv_aload_n hx hb dX10_isJoined_183 rfl (lv_at hl 4 rfl) ?_
                                    refine m_get (v := .ref (a 9)) hx hb hts hin hown hK hP 9 (by decide) rfl (hts (.fieldLink RX10 32 "ShadowBenchModel" "met" "[Z") (by decide +kernel)) rfl dX10_isJoined_184 ?_
                                    refine lv_iload hx hb dX10_isJoined_187 (lv_at hl 1 rfl) ?_
                                    refine m_zald (w := mt1) hx hb hK hP 8 rfl (vp_in_iff.mpr ⟨by omega, by omega⟩) dX10_isJoined_189 ?_
                                    refine lv_topi (fun v189 e189 => ?_)
                                    have i189 : v189.toInt = (mt1 (nI i).toNatClampNeg).toInt := congrArg Int32.toInt e189
                                    refine lv_if_ne (tgt := 209) hx hb dX10_isJoined_190 (by decide) (fun c190 => ?_) (fun c190 => ?_)
                                    · skip
                                      have d190 := c190
                                      rw [fa_eq] at d190
                                      refine lv_iinc (v := (nI (i + 1))) (lv' := [(7, .int (nI (i + 1))), (8, .int (0 : Int32)), (6, .int xn), (5, .int x5), (0, .ref mo), (1, .int w), (2, .int h), (3, .long p0)]) hx hb dX10_isJoined_209 hl (k := 1) rfl (nI_1 _) (by decide) rfl (fun ls hl => ?_)
                                      refine lv_goto (tgt := 77) hx hb dX10_isJoined_212 (by decide) ?_
                                      exact ih_77 (i + 1) xn mt1 (by omega) (by first | exact j77_1 | (have z := cz_upd (mt := mt1) (i := (nI i).toNatClampNeg) (v := (1 : Int32) &&& 1) (nI_cl (by omega)) (by rw [← e189]; exact c190) (by decide); rcases j77_1 with ⟨_, y⟩ | ⟨_, y⟩ <;> exact Or.inr ⟨rfl, by omega⟩)) (by omega) _ _ hP hS ls (lv_sub hl [0, 2, 3, 4, 5, 6, 7] rfl)
                                    · skip
                                      have d190 := c190
                                      rw [fa_eq] at d190
                                      refine lv_iload hx hb dX10_isJoined_193 (lv_at hl 0 rfl) ?_
                                      refine lv_if_eq (tgt := 209) hx hb dX10_isJoined_195 (by decide) (fun c195 => ?_) (fun c195 => ?_)
                                      · skip
                                        have d195 := c195
                                        rw [fa_eq] at d195
                                        refine lv_iinc (v := (nI (i + 1))) (lv' := [(7, .int (nI (i + 1))), (8, .int (0 : Int32)), (6, .int xn), (5, .int x5), (0, .ref mo), (1, .int w), (2, .int h), (3, .long p0)]) hx hb dX10_isJoined_209 hl (k := 1) rfl (nI_1 _) (by decide) rfl (fun ls hl => ?_)
                                        refine lv_goto (tgt := 77) hx hb dX10_isJoined_212 (by decide) ?_
                                        exact ih_77 (i + 1) xn mt1 (by omega) (by first | exact j77_1 | (have z := cz_upd (mt := mt1) (i := (nI i).toNatClampNeg) (v := (1 : Int32) &&& 1) (nI_cl (by omega)) (by rw [← e189]; exact c190) (by decide); rcases j77_1 with ⟨_, y⟩ | ⟨_, y⟩ <;> exact Or.inr ⟨rfl, by omega⟩)) (by omega) _ _ hP hS ls (lv_sub hl [0, 2, 3, 4, 5, 6, 7] rfl)
                                      · first | exact absurd c195 (by decide) | exact absurd (by decide) c195
                                · skip
                                  have d151 := c151
                                  rw [fa_le] at d151
                                  refine lv_aload_n hx hb dX10_isJoined_154 rfl (lv_at hl 3 rfl) ?_
                                  refine m_get (v := .ref (a 9)) hx hb hts hin hown hK hP 9 (by decide) rfl (hts (.fieldLink RX10 32 "ShadowBenchModel" "met" "[Z") (by decide +kernel)) rfl dX10_isJoined_155 ?_
                                  refine lv_iload hx hb dX10_isJoined_158 (lv_at hl 0 rfl) ?_
                                  refine lv_iload_n hx hb dX10_isJoined_160 rfl (lv_at hl 4 rfl) ?_
                                  refine lv_iadd hx hb dX10_isJoined_161 ?_
                                  refine lv_topi (fun v161 e161 => ?_)
                                  have i161 : v161.toInt = (nI i).toInt + w.toInt := by rw [e161]; exact fb_addI (by omega) (by omega)
                                  refine m_zald (w := mt1) hx hb hK hP 8 rfl (vp_in_iff.mpr ⟨by omega, by omega⟩) dX10_isJoined_162 ?_
                                  refine lv_topi (fun v162 e162 => ?_)
                                  have i162 : v162.toInt = (mt1 v161.toNatClampNeg).toInt := congrArg Int32.toInt e162
                                  refine lv_if_eq (tgt := 170) hx hb dX10_isJoined_163 (by decide) (fun c163 => ?_) (fun c163 => ?_)
                                  · skip
                                    have d163 := c163
                                    rw [fa_eq] at d163
                                    refine lv_iconst (v := 0) hx hb dX10_isJoined_170 (by decide) ?_
                                    refine lv_istore (lv' := [(8, .int (0 : Int32)), (7, .int (nI i)), (6, .int xn), (5, .int x5), (0, .ref mo), (1, .int w), (2, .int h), (3, .long p0)]) hx hb dX10_isJoined_171 hl (by decide) rfl (fun ls hl => ?_)
                                    refine lv_lload_n hx hb dX10_isJoined_173 rfl (lv_at hl 7 rfl) ?_
                                    refine lv_iload hx hb dX10_isJoined_174 (lv_at hl 1 rfl) ?_
                                    refine m_pu (As := [.long p0, .int (nI i)]) (rest := []) ⟨hx, hb, hml, hown, hts⟩ (c_X10_one l p0 (nI i) ) (va_cwS 2 hts gX10_isJoined_X10_one rfl rfl rfl (by decide +kernel) ⟨Nat.le_of_ble_eq_true rfl, Nat.le_of_ble_eq_true rfl⟩) hP rfl hl.1 rfl (Nat.le_of_ble_eq_true rfl) dX10_isJoined_176 ⟨Nat.le_of_ble_eq_true rfl, Nat.le_of_ble_eq_true rfl⟩ hS (fun r176 H locs q176 hP hS => ?_)
                                    have i176 : r176.toInt = (r_one p0 (nI i)).toInt := congrArg Int32.toInt q176
                                    refine lv_iconst (v := 1) hx hb dX10_isJoined_179 (by decide) ?_
                                    refine lv_icmp_ne (tgt := 209) hx hb dX10_isJoined_180 (by decide) (fun c180 => ?_) (fun c180 => ?_)
                                    · skip
                                      have d180 := c180
                                      rw [fa_eq] at d180
                                      refine lv_iinc (v := (nI (i + 1))) (lv' := [(7, .int (nI (i + 1))), (8, .int (0 : Int32)), (6, .int xn), (5, .int x5), (0, .ref mo), (1, .int w), (2, .int h), (3, .long p0)]) hx hb dX10_isJoined_209 hl (k := 1) rfl (nI_1 _) (by decide) rfl (fun ls hl => ?_)
                                      refine lv_goto (tgt := 77) hx hb dX10_isJoined_212 (by decide) ?_
                                      exact ih_77 (i + 1) xn mt1 (by omega) (by first | exact j77_1 | (have z := cz_upd (mt := mt1) (i := (nI i).toNatClampNeg) (v := (1 : Int32) &&& 1) (nI_cl (by omega)) (by rw [← e189]; exact c190) (by decide); rcases j77_1 with ⟨_, y⟩ | ⟨_, y⟩ <;> exact Or.inr ⟨rfl, by omega⟩)) (by omega) _ _ hP hS ls (lv_sub hl [0, 2, 3, 4, 5, 6, 7] rfl)
                                    · skip
                                      have d180 := c180
                                      rw [fa_eq] at d180
                                      refine lv_aload_n hx hb dX10_isJoined_183 rfl (lv_at hl 4 rfl) ?_
                                      refine m_get (v := .ref (a 9)) hx hb hts hin hown hK hP 9 (by decide) rfl (hts (.fieldLink RX10 32 "ShadowBenchModel" "met" "[Z") (by decide +kernel)) rfl dX10_isJoined_184 ?_
                                      refine lv_iload hx hb dX10_isJoined_187 (lv_at hl 1 rfl) ?_
                                      refine m_zald (w := mt1) hx hb hK hP 8 rfl (vp_in_iff.mpr ⟨by omega, by omega⟩) dX10_isJoined_189 ?_
                                      refine lv_topi (fun v189 e189 => ?_)
                                      have i189 : v189.toInt = (mt1 (nI i).toNatClampNeg).toInt := congrArg Int32.toInt e189
                                      refine lv_if_ne (tgt := 209) hx hb dX10_isJoined_190 (by decide) (fun c190 => ?_) (fun c190 => ?_)
                                      · skip
                                        have d190 := c190
                                        rw [fa_eq] at d190
                                        refine lv_iinc (v := (nI (i + 1))) (lv' := [(7, .int (nI (i + 1))), (8, .int (0 : Int32)), (6, .int xn), (5, .int x5), (0, .ref mo), (1, .int w), (2, .int h), (3, .long p0)]) hx hb dX10_isJoined_209 hl (k := 1) rfl (nI_1 _) (by decide) rfl (fun ls hl => ?_)
                                        refine lv_goto (tgt := 77) hx hb dX10_isJoined_212 (by decide) ?_
                                        exact ih_77 (i + 1) xn mt1 (by omega) (by first | exact j77_1 | (have z := cz_upd (mt := mt1) (i := (nI i).toNatClampNeg) (v := (1 : Int32) &&& 1) (nI_cl (by omega)) (by rw [← e189]; exact c190) (by decide); rcases j77_1 with ⟨_, y⟩ | ⟨_, y⟩ <;> exact Or.inr ⟨rfl, by omega⟩)) (by omega) _ _ hP hS ls (lv_sub hl [0, 2, 3, 4, 5, 6, 7] rfl)
                                      · skip
                                        have d190 := c190
                                        rw [fa_eq] at d190
                                        refine lv_iload hx hb dX10_isJoined_193 (lv_at hl 0 rfl) ?_
                                        refine lv_if_eq (tgt := 209) hx hb dX10_isJoined_195 (by decide) (fun c195 => ?_) (fun c195 => ?_)
                                        · skip
                                          have d195 := c195
                                          rw [fa_eq] at d195
                                          refine lv_iinc (v := (nI (i + 1))) (lv' := [(7, .int (nI (i + 1))), (8, .int (0 : Int32)), (6, .int xn), (5, .int x5), (0, .ref mo), (1, .int w), (2, .int h), (3, .long p0)]) hx hb dX10_isJoined_209 hl (k := 1) rfl (nI_1 _) (by decide) rfl (fun ls hl => ?_)
                                          refine lv_goto (tgt := 77) hx hb dX10_isJoined_212 (by decide) ?_
                                          exact ih_77 (i + 1) xn mt1 (by omega) (by first | exact j77_1 | (have z := cz_upd (mt := mt1) (i := (nI i).toNatClampNeg) (v := (1 : Int32) &&& 1) (nI_cl (by omega)) (by rw [← e189]; exact c190) (by decide); rcases j77_1 with ⟨_, y⟩ | ⟨_, y⟩ <;> exact Or.inr ⟨rfl, by omega⟩)) (by omega) _ _ hP hS ls (lv_sub hl [0, 2, 3, 4, 5, 6, 7] rfl)
                                        · first | exact absurd c195 (by decide) | exact absurd (by decide) c195
                                  · skip
                                    have d163 := c163
                                    rw [fa_eq] at d163
                                    refine lv_iconst (v := 1) hx hb dX10_isJoined_166 (by decide) ?_
                                    refine lv_goto (tgt := 171) hx hb dX10_isJoined_167 (by decide) ?_
                                    refine lv_istore (lv' := [(8, .int (1 : Int32)), (7, .int (nI i)), (6, .int xn), (5, .int x5), (0, .ref mo), (1, .int w), (2, .int h), (3, .long p0)]) hx hb dX10_isJoined_171 hl (by decide) rfl (fun ls hl => ?_)
                                    refine lv_lload_n hx hb dX10_isJoined_173 rfl (lv_at hl 7 rfl) ?_
                                    refine lv_iload hx hb dX10_isJoined_174 (lv_at hl 1 rfl) ?_
                                    refine m_pu (As := [.long p0, .int (nI i)]) (rest := []) ⟨hx, hb, hml, hown, hts⟩ (c_X10_one l p0 (nI i) ) (va_cwS 2 hts gX10_isJoined_X10_one rfl rfl rfl (by decide +kernel) ⟨Nat.le_of_ble_eq_true rfl, Nat.le_of_ble_eq_true rfl⟩) hP rfl hl.1 rfl (Nat.le_of_ble_eq_true rfl) dX10_isJoined_176 ⟨Nat.le_of_ble_eq_true rfl, Nat.le_of_ble_eq_true rfl⟩ hS (fun r176 H locs q176 hP hS => ?_)
                                    have i176 : r176.toInt = (r_one p0 (nI i)).toInt := congrArg Int32.toInt q176
                                    refine lv_iconst (v := 1) hx hb dX10_isJoined_179 (by decide) ?_
                                    refine lv_icmp_ne (tgt := 209) hx hb dX10_isJoined_180 (by decide) (fun c180 => ?_) (fun c180 => ?_)
                                    · skip
                                      have d180 := c180
                                      rw [fa_eq] at d180
                                      refine lv_iinc (v := (nI (i + 1))) (lv' := [(7, .int (nI (i + 1))), (8, .int (1 : Int32)), (6, .int xn), (5, .int x5), (0, .ref mo), (1, .int w), (2, .int h), (3, .long p0)]) hx hb dX10_isJoined_209 hl (k := 1) rfl (nI_1 _) (by decide) rfl (fun ls hl => ?_)
                                      refine lv_goto (tgt := 77) hx hb dX10_isJoined_212 (by decide) ?_
                                      exact ih_77 (i + 1) xn mt1 (by omega) (by first | exact j77_1 | (have z := cz_upd (mt := mt1) (i := (nI i).toNatClampNeg) (v := (1 : Int32) &&& 1) (nI_cl (by omega)) (by rw [← e189]; exact c190) (by decide); rcases j77_1 with ⟨_, y⟩ | ⟨_, y⟩ <;> exact Or.inr ⟨rfl, by omega⟩)) (by omega) _ _ hP hS ls (lv_sub hl [0, 2, 3, 4, 5, 6, 7] rfl)
                                    · skip
                                      have d180 := c180
                                      rw [fa_eq] at d180
                                      refine lv_aload_n hx hb dX10_isJoined_183 rfl (lv_at hl 4 rfl) ?_
                                      refine m_get (v := .ref (a 9)) hx hb hts hin hown hK hP 9 (by decide) rfl (hts (.fieldLink RX10 32 "ShadowBenchModel" "met" "[Z") (by decide +kernel)) rfl dX10_isJoined_184 ?_
                                      refine lv_iload hx hb dX10_isJoined_187 (lv_at hl 1 rfl) ?_
                                      refine m_zald (w := mt1) hx hb hK hP 8 rfl (vp_in_iff.mpr ⟨by omega, by omega⟩) dX10_isJoined_189 ?_
                                      refine lv_topi (fun v189 e189 => ?_)
                                      have i189 : v189.toInt = (mt1 (nI i).toNatClampNeg).toInt := congrArg Int32.toInt e189
                                      refine lv_if_ne (tgt := 209) hx hb dX10_isJoined_190 (by decide) (fun c190 => ?_) (fun c190 => ?_)
                                      · skip
                                        have d190 := c190
                                        rw [fa_eq] at d190
                                        refine lv_iinc (v := (nI (i + 1))) (lv' := [(7, .int (nI (i + 1))), (8, .int (1 : Int32)), (6, .int xn), (5, .int x5), (0, .ref mo), (1, .int w), (2, .int h), (3, .long p0)]) hx hb dX10_isJoined_209 hl (k := 1) rfl (nI_1 _) (by decide) rfl (fun ls hl => ?_)
                                        refine lv_goto (tgt := 77) hx hb dX10_isJoined_212 (by decide) ?_
                                        exact ih_77 (i + 1) xn mt1 (by omega) (by first | exact j77_1 | (have z := cz_upd (mt := mt1) (i := (nI i).toNatClampNeg) (v := (1 : Int32) &&& 1) (nI_cl (by omega)) (by rw [← e189]; exact c190) (by decide); rcases j77_1 with ⟨_, y⟩ | ⟨_, y⟩ <;> exact Or.inr ⟨rfl, by omega⟩)) (by omega) _ _ hP hS ls (lv_sub hl [0, 2, 3, 4, 5, 6, 7] rfl)
                                      · skip
                                        have d190 := c190
                                        rw [fa_eq] at d190
                                        refine lv_iload hx hb dX10_isJoined_193 (lv_at hl 0 rfl) ?_
                                        refine lv_if_eq (tgt := 209) hx hb dX10_isJoined_195 (by decide) (fun c195 => ?_) (fun c195 => ?_)
                                        · first | exact absurd c195 (by decide) | exact absurd (by decide) c195
                                        · skip
                                          have d195 := c195
                                          rw [fa_eq] at d195
                                          refine lv_aload_n hx hb dX10_isJoined_198 rfl (lv_at hl 4 rfl) ?_
                                          refine m_get (v := .ref (a 9)) hx hb hts hin hown hK hP 9 (by decide) rfl (hts (.fieldLink RX10 32 "ShadowBenchModel" "met" "[Z") (by decide +kernel)) rfl dX10_isJoined_199 ?_
                                          refine lv_iload hx hb dX10_isJoined_202 (lv_at hl 1 rfl) ?_
                                          refine lv_iconst (v := 1) hx hb dX10_isJoined_204 (by decide) ?_
                                          refine m_zast (w := mt1) hx hb hK hP hD hS 8 rfl (vp_in_iff.mpr ⟨by omega, by omega⟩) (va_up r 9 ((upd mt1 (nI i).toNatClampNeg ((1 : Int32) &&& 1)))) rfl dX10_isJoined_205 (fun H locs hP hS => ?_)
                                          refine lv_iconst (v := 1) hx hb dX10_isJoined_206 (by decide) ?_
                                          refine lv_istore (lv' := [(6, .int (1 : Int32)), (8, .int (1 : Int32)), (7, .int (nI i)), (5, .int x5), (0, .ref mo), (1, .int w), (2, .int h), (3, .long p0)]) hx hb dX10_isJoined_207 hl (by decide) rfl (fun ls hl => ?_)
                                          refine lv_iinc (v := (nI (i + 1))) (lv' := [(7, .int (nI (i + 1))), (6, .int (1 : Int32)), (8, .int (1 : Int32)), (5, .int x5), (0, .ref mo), (1, .int w), (2, .int h), (3, .long p0)]) hx hb dX10_isJoined_209 hl (k := 2) rfl (nI_1 _) (by decide) rfl (fun ls hl => ?_)
                                          refine lv_goto (tgt := 77) hx hb dX10_isJoined_212 (by decide) ?_
                                          exact ih_77 (i + 1) (1 : Int32) (((upd mt1 (nI i).toNatClampNeg ((1 : Int32) &&& 1)))) (by omega) (by first | exact j77_1 | (have z := cz_upd (mt := mt1) (i := (nI i).toNatClampNeg) (v := (1 : Int32) &&& 1) (nI_cl (by omega)) (by rw [← e189]; exact c190) (by decide); rcases j77_1 with ⟨_, y⟩ | ⟨_, y⟩ <;> exact Or.inr ⟨rfl, by omega⟩)) (by omega) _ _ hP hS ls (lv_sub hl [0, 1, 3, 4, 5, 6, 7] rfl)
                          · skip
                            have d111 := c111
                            rw [fa_le] at d111
                            have z114 := rem_next (s := (nI i).toInt) (w := w.toInt) (h := h.toInt) (by omega) (by omega) (by omega) (by omega)
                            refine lv_aload_n hx hb dX10_isJoined_114 rfl (lv_at hl 3 rfl) ?_
                            refine m_get (v := .ref (a 9)) hx hb hts hin hown hK hP 9 (by decide) rfl (hts (.fieldLink RX10 32 "ShadowBenchModel" "met" "[Z") (by decide +kernel)) rfl dX10_isJoined_115 ?_
                            refine lv_iload hx hb dX10_isJoined_118 (lv_at hl 0 rfl) ?_
                            refine lv_iconst (v := 1) hx hb dX10_isJoined_120 (by decide) ?_
                            refine lv_iadd hx hb dX10_isJoined_121 ?_
                            refine lv_topi (fun v121 e121 => ?_)
                            have i121 : v121.toInt = (nI i).toInt + (1 : Int32).toInt := by rw [e121]; exact fb_addI (by omega) (by omega)
                            refine m_zald (w := mt1) hx hb hK hP 8 rfl (vp_in_iff.mpr ⟨by omega, by omega⟩) dX10_isJoined_122 ?_
                            refine lv_topi (fun v122 e122 => ?_)
                            have i122 : v122.toInt = (mt1 v121.toNatClampNeg).toInt := congrArg Int32.toInt e122
                            refine lv_if_ne (tgt := 166) hx hb dX10_isJoined_123 (by decide) (fun c123 => ?_) (fun c123 => ?_)
                            · skip
                              have d123 := c123
                              rw [fa_eq] at d123
                              refine lv_iconst (v := 1) hx hb dX10_isJoined_166 (by decide) ?_
                              refine lv_goto (tgt := 171) hx hb dX10_isJoined_167 (by decide) ?_
                              refine lv_istore (lv' := [(8, .int (1 : Int32)), (7, .int (nI i)), (6, .int xn), (5, .int x5), (0, .ref mo), (1, .int w), (2, .int h), (3, .long p0)]) hx hb dX10_isJoined_171 hl (by decide) rfl (fun ls hl => ?_)
                              refine lv_lload_n hx hb dX10_isJoined_173 rfl (lv_at hl 7 rfl) ?_
                              refine lv_iload hx hb dX10_isJoined_174 (lv_at hl 1 rfl) ?_
                              refine m_pu (As := [.long p0, .int (nI i)]) (rest := []) ⟨hx, hb, hml, hown, hts⟩ (c_X10_one l p0 (nI i) ) (va_cwS 2 hts gX10_isJoined_X10_one rfl rfl rfl (by decide +kernel) ⟨Nat.le_of_ble_eq_true rfl, Nat.le_of_ble_eq_true rfl⟩) hP rfl hl.1 rfl (Nat.le_of_ble_eq_true rfl) dX10_isJoined_176 ⟨Nat.le_of_ble_eq_true rfl, Nat.le_of_ble_eq_true rfl⟩ hS (fun r176 H locs q176 hP hS => ?_)
                              have i176 : r176.toInt = (r_one p0 (nI i)).toInt := congrArg Int32.toInt q176
                              refine lv_iconst (v := 1) hx hb dX10_isJoined_179 (by decide) ?_
                              refine lv_icmp_ne (tgt := 209) hx hb dX10_isJoined_180 (by decide) (fun c180 => ?_) (fun c180 => ?_)
                              · skip
                                have d180 := c180
                                rw [fa_eq] at d180
                                refine lv_iinc (v := (nI (i + 1))) (lv' := [(7, .int (nI (i + 1))), (8, .int (1 : Int32)), (6, .int xn), (5, .int x5), (0, .ref mo), (1, .int w), (2, .int h), (3, .long p0)]) hx hb dX10_isJoined_209 hl (k := 1) rfl (nI_1 _) (by decide) rfl (fun ls hl => ?_)
                                refine lv_goto (tgt := 77) hx hb dX10_isJoined_212 (by decide) ?_
                                exact ih_77 (i + 1) xn mt1 (by omega) (by first | exact j77_1 | (have z := cz_upd (mt := mt1) (i := (nI i).toNatClampNeg) (v := (1 : Int32) &&& 1) (nI_cl (by omega)) (by rw [← e189]; exact c190) (by decide); rcases j77_1 with ⟨_, y⟩ | ⟨_, y⟩ <;> exact Or.inr ⟨rfl, by omega⟩)) (by omega) _ _ hP hS ls (lv_sub hl [0, 2, 3, 4, 5, 6, 7] rfl)
                              · skip
                                have d180 := c180
                                rw [fa_eq] at d180
                                refine lv_aload_n hx hb dX10_isJoined_183 rfl (lv_at hl 4 rfl) ?_
                                refine m_get (v := .ref (a 9)) hx hb hts hin hown hK hP 9 (by decide) rfl (hts (.fieldLink RX10 32 "ShadowBenchModel" "met" "[Z") (by decide +kernel)) rfl dX10_isJoined_184 ?_
                                refine lv_iload hx hb dX10_isJoined_187 (lv_at hl 1 rfl) ?_
                                refine m_zald (w := mt1) hx hb hK hP 8 rfl (vp_in_iff.mpr ⟨by omega, by omega⟩) dX10_isJoined_189 ?_
                                refine lv_topi (fun v189 e189 => ?_)
                                have i189 : v189.toInt = (mt1 (nI i).toNatClampNeg).toInt := congrArg Int32.toInt e189
                                refine lv_if_ne (tgt := 209) hx hb dX10_isJoined_190 (by decide) (fun c190 => ?_) (fun c190 => ?_)
                                · skip
                                  have d190 := c190
                                  rw [fa_eq] at d190
                                  refine lv_iinc (v := (nI (i + 1))) (lv' := [(7, .int (nI (i + 1))), (8, .int (1 : Int32)), (6, .int xn), (5, .int x5), (0, .ref mo), (1, .int w), (2, .int h), (3, .long p0)]) hx hb dX10_isJoined_209 hl (k := 1) rfl (nI_1 _) (by decide) rfl (fun ls hl => ?_)
                                  refine lv_goto (tgt := 77) hx hb dX10_isJoined_212 (by decide) ?_
                                  exact ih_77 (i + 1) xn mt1 (by omega) (by first | exact j77_1 | (have z := cz_upd (mt := mt1) (i := (nI i).toNatClampNeg) (v := (1 : Int32) &&& 1) (nI_cl (by omega)) (by rw [← e189]; exact c190) (by decide); rcases j77_1 with ⟨_, y⟩ | ⟨_, y⟩ <;> exact Or.inr ⟨rfl, by omega⟩)) (by omega) _ _ hP hS ls (lv_sub hl [0, 2, 3, 4, 5, 6, 7] rfl)
                                · skip
                                  have d190 := c190
                                  rw [fa_eq] at d190
                                  refine lv_iload hx hb dX10_isJoined_193 (lv_at hl 0 rfl) ?_
                                  refine lv_if_eq (tgt := 209) hx hb dX10_isJoined_195 (by decide) (fun c195 => ?_) (fun c195 => ?_)
                                  · first | exact absurd c195 (by decide) | exact absurd (by decide) c195
                                  · skip
                                    have d195 := c195
                                    rw [fa_eq] at d195
                                    refine lv_aload_n hx hb dX10_isJoined_198 rfl (lv_at hl 4 rfl) ?_
                                    refine m_get (v := .ref (a 9)) hx hb hts hin hown hK hP 9 (by decide) rfl (hts (.fieldLink RX10 32 "ShadowBenchModel" "met" "[Z") (by decide +kernel)) rfl dX10_isJoined_199 ?_
                                    refine lv_iload hx hb dX10_isJoined_202 (lv_at hl 1 rfl) ?_
                                    refine lv_iconst (v := 1) hx hb dX10_isJoined_204 (by decide) ?_
                                    refine m_zast (w := mt1) hx hb hK hP hD hS 8 rfl (vp_in_iff.mpr ⟨by omega, by omega⟩) (va_up r 9 ((upd mt1 (nI i).toNatClampNeg ((1 : Int32) &&& 1)))) rfl dX10_isJoined_205 (fun H locs hP hS => ?_)
                                    refine lv_iconst (v := 1) hx hb dX10_isJoined_206 (by decide) ?_
                                    refine lv_istore (lv' := [(6, .int (1 : Int32)), (8, .int (1 : Int32)), (7, .int (nI i)), (5, .int x5), (0, .ref mo), (1, .int w), (2, .int h), (3, .long p0)]) hx hb dX10_isJoined_207 hl (by decide) rfl (fun ls hl => ?_)
                                    refine lv_iinc (v := (nI (i + 1))) (lv' := [(7, .int (nI (i + 1))), (6, .int (1 : Int32)), (8, .int (1 : Int32)), (5, .int x5), (0, .ref mo), (1, .int w), (2, .int h), (3, .long p0)]) hx hb dX10_isJoined_209 hl (k := 2) rfl (nI_1 _) (by decide) rfl (fun ls hl => ?_)
                                    refine lv_goto (tgt := 77) hx hb dX10_isJoined_212 (by decide) ?_
                                    exact ih_77 (i + 1) (1 : Int32) (((upd mt1 (nI i).toNatClampNeg ((1 : Int32) &&& 1)))) (by omega) (by first | exact j77_1 | (have z := cz_upd (mt := mt1) (i := (nI i).toNatClampNeg) (v := (1 : Int32) &&& 1) (nI_cl (by omega)) (by rw [← e189]; exact c190) (by decide); rcases j77_1 with ⟨_, y⟩ | ⟨_, y⟩ <;> exact Or.inr ⟨rfl, by omega⟩)) (by omega) _ _ hP hS ls (lv_sub hl [0, 1, 3, 4, 5, 6, 7] rfl)
                            · skip
                              have d123 := c123
                              rw [fa_eq] at d123
                              refine lv_iload hx hb dX10_isJoined_126 (lv_at hl 0 rfl) ?_
                              refine lv_iload_n hx hb dX10_isJoined_128 rfl (lv_at hl 4 rfl) ?_
                              refine lv_icmp_lt (tgt := 144) hx hb dX10_isJoined_129 (by decide) (fun c129 => ?_) (fun c129 => ?_)
                              · skip
                                have d129 := c129
                                rw [fa_lt] at d129
                                refine lv_iload hx hb dX10_isJoined_144 (lv_at hl 0 rfl) ?_
                                refine lv_iload_n hx hb dX10_isJoined_146 rfl (lv_at hl 4 rfl) ?_
                                refine lv_iadd hx hb dX10_isJoined_147 ?_
                                refine lv_topi (fun v147 e147 => ?_)
                                have i147 : v147.toInt = (nI i).toInt + w.toInt := by rw [e147]; exact fb_addI (by omega) (by omega)
                                refine lv_iload_n hx hb dX10_isJoined_148 rfl (lv_at hl 4 rfl) ?_
                                refine lv_iload_n hx hb dX10_isJoined_149 rfl (lv_at hl 5 rfl) ?_
                                refine lv_imul hx hb dX10_isJoined_150 ?_
                                refine lv_topi (fun v150 e150 => ?_)
                                have i150 : v150.toInt = w.toInt * h.toInt := by rw [e150]; exact fb_mulI (by omega) (by omega)
                                refine lv_icmp_ge (tgt := 170) hx hb dX10_isJoined_151 (by decide) (fun c151 => ?_) (fun c151 => ?_)
                                · skip
                                  have d151 := c151
                                  rw [fa_le] at d151
                                  refine lv_iconst (v := 0) hx hb dX10_isJoined_170 (by decide) ?_
                                  refine lv_istore (lv' := [(8, .int (0 : Int32)), (7, .int (nI i)), (6, .int xn), (5, .int x5), (0, .ref mo), (1, .int w), (2, .int h), (3, .long p0)]) hx hb dX10_isJoined_171 hl (by decide) rfl (fun ls hl => ?_)
                                  refine lv_lload_n hx hb dX10_isJoined_173 rfl (lv_at hl 7 rfl) ?_
                                  refine lv_iload hx hb dX10_isJoined_174 (lv_at hl 1 rfl) ?_
                                  refine m_pu (As := [.long p0, .int (nI i)]) (rest := []) ⟨hx, hb, hml, hown, hts⟩ (c_X10_one l p0 (nI i) ) (va_cwS 2 hts gX10_isJoined_X10_one rfl rfl rfl (by decide +kernel) ⟨Nat.le_of_ble_eq_true rfl, Nat.le_of_ble_eq_true rfl⟩) hP rfl hl.1 rfl (Nat.le_of_ble_eq_true rfl) dX10_isJoined_176 ⟨Nat.le_of_ble_eq_true rfl, Nat.le_of_ble_eq_true rfl⟩ hS (fun r176 H locs q176 hP hS => ?_)
                                  have i176 : r176.toInt = (r_one p0 (nI i)).toInt := congrArg Int32.toInt q176
                                  refine lv_iconst (v := 1) hx hb dX10_isJoined_179 (by decide) ?_
                                  refine lv_icmp_ne (tgt := 209) hx hb dX10_isJoined_180 (by decide) (fun c180 => ?_) (fun c180 => ?_)
                                  · skip
                                    have d180 := c180
                                    rw [fa_eq] at d180
                                    refine lv_iinc (v := (nI (i + 1))) (lv' := [(7, .int (nI (i + 1))), (8, .int (0 : Int32)), (6, .int xn), (5, .int x5), (0, .ref mo), (1, .int w), (2, .int h), (3, .long p0)]) hx hb dX10_isJoined_209 hl (k := 1) rfl (nI_1 _) (by decide) rfl (fun ls hl => ?_)
                                    refine lv_goto (tgt := 77) hx hb dX10_isJoined_212 (by decide) ?_
                                    exact ih_77 (i + 1) xn mt1 (by omega) (by first | exact j77_1 | (have z := cz_upd (mt := mt1) (i := (nI i).toNatClampNeg) (v := (1 : Int32) &&& 1) (nI_cl (by omega)) (by rw [← e189]; exact c190) (by decide); rcases j77_1 with ⟨_, y⟩ | ⟨_, y⟩ <;> exact Or.inr ⟨rfl, by omega⟩)) (by omega) _ _ hP hS ls (lv_sub hl [0, 2, 3, 4, 5, 6, 7] rfl)
                                  · skip
                                    have d180 := c180
                                    rw [fa_eq] at d180
                                    refine lv_aload_n hx hb dX10_isJoined_183 rfl (lv_at hl 4 rfl) ?_
                                    refine m_get (v := .ref (a 9)) hx hb hts hin hown hK hP 9 (by decide) rfl (hts (.fieldLink RX10 32 "ShadowBenchModel" "met" "[Z") (by decide +kernel)) rfl dX10_isJoined_184 ?_
                                    refine lv_iload hx hb dX10_isJoined_187 (lv_at hl 1 rfl) ?_
                                    refine m_zald (w := mt1) hx hb hK hP 8 rfl (vp_in_iff.mpr ⟨by omega, by omega⟩) dX10_isJoined_189 ?_
                                    refine lv_topi (fun v189 e189 => ?_)
                                    have i189 : v189.toInt = (mt1 (nI i).toNatClampNeg).toInt := congrArg Int32.toInt e189
                                    refine lv_if_ne (tgt := 209) hx hb dX10_isJoined_190 (by decide) (fun c190 => ?_) (fun c190 => ?_)
                                    · skip
                                      have d190 := c190
                                      rw [fa_eq] at d190
                                      refine lv_iinc (v := (nI (i + 1))) (lv' := [(7, .int (nI (i + 1))), (8, .int (0 : Int32)), (6, .int xn), (5, .int x5), (0, .ref mo), (1, .int w), (2, .int h), (3, .long p0)]) hx hb dX10_isJoined_209 hl (k := 1) rfl (nI_1 _) (by decide) rfl (fun ls hl => ?_)
                                      refine lv_goto (tgt := 77) hx hb dX10_isJoined_212 (by decide) ?_
                                      exact ih_77 (i + 1) xn mt1 (by omega) (by first | exact j77_1 | (have z := cz_upd (mt := mt1) (i := (nI i).toNatClampNeg) (v := (1 : Int32) &&& 1) (nI_cl (by omega)) (by rw [← e189]; exact c190) (by decide); rcases j77_1 with ⟨_, y⟩ | ⟨_, y⟩ <;> exact Or.inr ⟨rfl, by omega⟩)) (by omega) _ _ hP hS ls (lv_sub hl [0, 2, 3, 4, 5, 6, 7] rfl)
                                    · skip
                                      have d190 := c190
                                      rw [fa_eq] at d190
                                      refine lv_iload hx hb dX10_isJoined_193 (lv_at hl 0 rfl) ?_
                                      refine lv_if_eq (tgt := 209) hx hb dX10_isJoined_195 (by decide) (fun c195 => ?_) (fun c195 => ?_)
                                      · skip
                                        have d195 := c195
                                        rw [fa_eq] at d195
                                        refine lv_iinc (v := (nI (i + 1))) (lv' := [(7, .int (nI (i + 1))), (8, .int (0 : Int32)), (6, .int xn), (5, .int x5), (0, .ref mo), (1, .int w), (2, .int h), (3, .long p0)]) hx hb dX10_isJoined_209 hl (k := 1) rfl (nI_1 _) (by decide) rfl (fun ls hl => ?_)
                                        refine lv_goto (tgt := 77) hx hb dX10_isJoined_212 (by decide) ?_
                                        exact ih_77 (i + 1) xn mt1 (by omega) (by first | exact j77_1 | (have z := cz_upd (mt := mt1) (i := (nI i).toNatClampNeg) (v := (1 : Int32) &&& 1) (nI_cl (by omega)) (by rw [← e189]; exact c190) (by decide); rcases j77_1 with ⟨_, y⟩ | ⟨_, y⟩ <;> exact Or.inr ⟨rfl, by omega⟩)) (by omega) _ _ hP hS ls (lv_sub hl [0, 2, 3, 4, 5, 6, 7] rfl)
                                      · first | exact absurd c195 (by decide) | exact absurd (by decide) c195
                                · skip
                                  have d151 := c151
                                  rw [fa_le] at d151
                                  refine lv_aload_n hx hb dX10_isJoined_154 rfl (lv_at hl 3 rfl) ?_
                                  refine m_get (v := .ref (a 9)) hx hb hts hin hown hK hP 9 (by decide) rfl (hts (.fieldLink RX10 32 "ShadowBenchModel" "met" "[Z") (by decide +kernel)) rfl dX10_isJoined_155 ?_
                                  refine lv_iload hx hb dX10_isJoined_158 (lv_at hl 0 rfl) ?_
                                  refine lv_iload_n hx hb dX10_isJoined_160 rfl (lv_at hl 4 rfl) ?_
                                  refine lv_iadd hx hb dX10_isJoined_161 ?_
                                  refine lv_topi (fun v161 e161 => ?_)
                                  have i161 : v161.toInt = (nI i).toInt + w.toInt := by rw [e161]; exact fb_addI (by omega) (by omega)
                                  refine m_zald (w := mt1) hx hb hK hP 8 rfl (vp_in_iff.mpr ⟨by omega, by omega⟩) dX10_isJoined_162 ?_
                                  refine lv_topi (fun v162 e162 => ?_)
                                  have i162 : v162.toInt = (mt1 v161.toNatClampNeg).toInt := congrArg Int32.toInt e162
                                  refine lv_if_eq (tgt := 170) hx hb dX10_isJoined_163 (by decide) (fun c163 => ?_) (fun c163 => ?_)
                                  · skip
                                    have d163 := c163
                                    rw [fa_eq] at d163
                                    refine lv_iconst (v := 0) hx hb dX10_isJoined_170 (by decide) ?_
                                    refine lv_istore (lv' := [(8, .int (0 : Int32)), (7, .int (nI i)), (6, .int xn), (5, .int x5), (0, .ref mo), (1, .int w), (2, .int h), (3, .long p0)]) hx hb dX10_isJoined_171 hl (by decide) rfl (fun ls hl => ?_)
                                    refine lv_lload_n hx hb dX10_isJoined_173 rfl (lv_at hl 7 rfl) ?_
                                    refine lv_iload hx hb dX10_isJoined_174 (lv_at hl 1 rfl) ?_
                                    refine m_pu (As := [.long p0, .int (nI i)]) (rest := []) ⟨hx, hb, hml, hown, hts⟩ (c_X10_one l p0 (nI i) ) (va_cwS 2 hts gX10_isJoined_X10_one rfl rfl rfl (by decide +kernel) ⟨Nat.le_of_ble_eq_true rfl, Nat.le_of_ble_eq_true rfl⟩) hP rfl hl.1 rfl (Nat.le_of_ble_eq_true rfl) dX10_isJoined_176 ⟨Nat.le_of_ble_eq_true rfl, Nat.le_of_ble_eq_true rfl⟩ hS (fun r176 H locs q176 hP hS => ?_)
                                    have i176 : r176.toInt = (r_one p0 (nI i)).toInt := congrArg Int32.toInt q176
                                    refine lv_iconst (v := 1) hx hb dX10_isJoined_179 (by decide) ?_
                                    refine lv_icmp_ne (tgt := 209) hx hb dX10_isJoined_180 (by decide) (fun c180 => ?_) (fun c180 => ?_)
                                    · skip
                                      have d180 := c180
                                      rw [fa_eq] at d180
                                      refine lv_iinc (v := (nI (i + 1))) (lv' := [(7, .int (nI (i + 1))), (8, .int (0 : Int32)), (6, .int xn), (5, .int x5), (0, .ref mo), (1, .int w), (2, .int h), (3, .long p0)]) hx hb dX10_isJoined_209 hl (k := 1) rfl (nI_1 _) (by decide) rfl (fun ls hl => ?_)
                                      refine lv_goto (tgt := 77) hx hb dX10_isJoined_212 (by decide) ?_
                                      exact ih_77 (i + 1) xn mt1 (by omega) (by first | exact j77_1 | (have z := cz_upd (mt := mt1) (i := (nI i).toNatClampNeg) (v := (1 : Int32) &&& 1) (nI_cl (by omega)) (by rw [← e189]; exact c190) (by decide); rcases j77_1 with ⟨_, y⟩ | ⟨_, y⟩ <;> exact Or.inr ⟨rfl, by omega⟩)) (by omega) _ _ hP hS ls (lv_sub hl [0, 2, 3, 4, 5, 6, 7] rfl)
                                    · skip
                                      have d180 := c180
                                      rw [fa_eq] at d180
                                      refine lv_aload_n hx hb dX10_isJoined_183 rfl (lv_at hl 4 rfl) ?_
                                      refine m_get (v := .ref (a 9)) hx hb hts hin hown hK hP 9 (by decide) rfl (hts (.fieldLink RX10 32 "ShadowBenchModel" "met" "[Z") (by decide +kernel)) rfl dX10_isJoined_184 ?_
                                      refine lv_iload hx hb dX10_isJoined_187 (lv_at hl 1 rfl) ?_
                                      refine m_zald (w := mt1) hx hb hK hP 8 rfl (vp_in_iff.mpr ⟨by omega, by omega⟩) dX10_isJoined_189 ?_
                                      refine lv_topi (fun v189 e189 => ?_)
                                      have i189 : v189.toInt = (mt1 (nI i).toNatClampNeg).toInt := congrArg Int32.toInt e189
                                      refine lv_if_ne (tgt := 209) hx hb dX10_isJoined_190 (by decide) (fun c190 => ?_) (fun c190 => ?_)
                                      · skip
                                        have d190 := c190
                                        rw [fa_eq] at d190
                                        refine lv_iinc (v := (nI (i + 1))) (lv' := [(7, .int (nI (i + 1))), (8, .int (0 : Int32)), (6, .int xn), (5, .int x5), (0, .ref mo), (1, .int w), (2, .int h), (3, .long p0)]) hx hb dX10_isJoined_209 hl (k := 1) rfl (nI_1 _) (by decide) rfl (fun ls hl => ?_)
                                        refine lv_goto (tgt := 77) hx hb dX10_isJoined_212 (by decide) ?_
                                        exact ih_77 (i + 1) xn mt1 (by omega) (by first | exact j77_1 | (have z := cz_upd (mt := mt1) (i := (nI i).toNatClampNeg) (v := (1 : Int32) &&& 1) (nI_cl (by omega)) (by rw [← e189]; exact c190) (by decide); rcases j77_1 with ⟨_, y⟩ | ⟨_, y⟩ <;> exact Or.inr ⟨rfl, by omega⟩)) (by omega) _ _ hP hS ls (lv_sub hl [0, 2, 3, 4, 5, 6, 7] rfl)
                                      · skip
                                        have d190 := c190
                                        rw [fa_eq] at d190
                                        refine lv_iload hx hb dX10_isJoined_193 (lv_at hl 0 rfl) ?_
                                        refine lv_if_eq (tgt := 209) hx hb dX10_isJoined_195 (by decide) (fun c195 => ?_) (fun c195 => ?_)
                                        · skip
                                          have d195 := c195
                                          rw [fa_eq] at d195
                                          refine lv_iinc (v := (nI (i + 1))) (lv' := [(7, .int (nI (i + 1))), (8, .int (0 : Int32)), (6, .int xn), (5, .int x5), (0, .ref mo), (1, .int w), (2, .int h), (3, .long p0)]) hx hb dX10_isJoined_209 hl (k := 1) rfl (nI_1 _) (by decide) rfl (fun ls hl => ?_)
                                          refine lv_goto (tgt := 77) hx hb dX10_isJoined_212 (by decide) ?_
                                          exact ih_77 (i + 1) xn mt1 (by omega) (by first | exact j77_1 | (have z := cz_upd (mt := mt1) (i := (nI i).toNatClampNeg) (v := (1 : Int32) &&& 1) (nI_cl (by omega)) (by rw [← e189]; exact c190) (by decide); rcases j77_1 with ⟨_, y⟩ | ⟨_, y⟩ <;> exact Or.inr ⟨rfl, by omega⟩)) (by omega) _ _ hP hS ls (lv_sub hl [0, 2, 3, 4, 5, 6, 7] rfl)
                                        · first | exact absurd c195 (by decide) | exact absurd (by decide) c195
                                  · skip
                                    have d163 := c163
                                    rw [fa_eq] at d163
                                    refine lv_iconst (v := 1) hx hb dX10_isJoined_166 (by decide) ?_
                                    refine lv_goto (tgt := 171) hx hb dX10_isJoined_167 (by decide) ?_
                                    refine lv_istore (lv' := [(8, .int (1 : Int32)), (7, .int (nI i)), (6, .int xn), (5, .int x5), (0, .ref mo), (1, .int w), (2, .int h), (3, .long p0)]) hx hb dX10_isJoined_171 hl (by decide) rfl (fun ls hl => ?_)
                                    refine lv_lload_n hx hb dX10_isJoined_173 rfl (lv_at hl 7 rfl) ?_
                                    refine lv_iload hx hb dX10_isJoined_174 (lv_at hl 1 rfl) ?_
                                    refine m_pu (As := [.long p0, .int (nI i)]) (rest := []) ⟨hx, hb, hml, hown, hts⟩ (c_X10_one l p0 (nI i) ) (va_cwS 2 hts gX10_isJoined_X10_one rfl rfl rfl (by decide +kernel) ⟨Nat.le_of_ble_eq_true rfl, Nat.le_of_ble_eq_true rfl⟩) hP rfl hl.1 rfl (Nat.le_of_ble_eq_true rfl) dX10_isJoined_176 ⟨Nat.le_of_ble_eq_true rfl, Nat.le_of_ble_eq_true rfl⟩ hS (fun r176 H locs q176 hP hS => ?_)
                                    have i176 : r176.toInt = (r_one p0 (nI i)).toInt := congrArg Int32.toInt q176
                                    refine lv_iconst (v := 1) hx hb dX10_isJoined_179 (by decide) ?_
                                    refine lv_icmp_ne (tgt := 209) hx hb dX10_isJoined_180 (by decide) (fun c180 => ?_) (fun c180 => ?_)
                                    · skip
                                      have d180 := c180
                                      rw [fa_eq] at d180
                                      refine lv_iinc (v := (nI (i + 1))) (lv' := [(7, .int (nI (i + 1))), (8, .int (1 : Int32)), (6, .int xn), (5, .int x5), (0, .ref mo), (1, .int w), (2, .int h), (3, .long p0)]) hx hb dX10_isJoined_209 hl (k := 1) rfl (nI_1 _) (by decide) rfl (fun ls hl => ?_)
                                      refine lv_goto (tgt := 77) hx hb dX10_isJoined_212 (by decide) ?_
                                      exact ih_77 (i + 1) xn mt1 (by omega) (by first | exact j77_1 | (have z := cz_upd (mt := mt1) (i := (nI i).toNatClampNeg) (v := (1 : Int32) &&& 1) (nI_cl (by omega)) (by rw [← e189]; exact c190) (by decide); rcases j77_1 with ⟨_, y⟩ | ⟨_, y⟩ <;> exact Or.inr ⟨rfl, by omega⟩)) (by omega) _ _ hP hS ls (lv_sub hl [0, 2, 3, 4, 5, 6, 7] rfl)
                                    · skip
                                      have d180 := c180
                                      rw [fa_eq] at d180
                                      refine lv_aload_n hx hb dX10_isJoined_183 rfl (lv_at hl 4 rfl) ?_
                                      refine m_get (v := .ref (a 9)) hx hb hts hin hown hK hP 9 (by decide) rfl (hts (.fieldLink RX10 32 "ShadowBenchModel" "met" "[Z") (by decide +kernel)) rfl dX10_isJoined_184 ?_
                                      refine lv_iload hx hb dX10_isJoined_187 (lv_at hl 1 rfl) ?_
                                      refine m_zald (w := mt1) hx hb hK hP 8 rfl (vp_in_iff.mpr ⟨by omega, by omega⟩) dX10_isJoined_189 ?_
                                      refine lv_topi (fun v189 e189 => ?_)
                                      have i189 : v189.toInt = (mt1 (nI i).toNatClampNeg).toInt := congrArg Int32.toInt e189
                                      refine lv_if_ne (tgt := 209) hx hb dX10_isJoined_190 (by decide) (fun c190 => ?_) (fun c190 => ?_)
                                      · skip
                                        have d190 := c190
                                        rw [fa_eq] at d190
                                        refine lv_iinc (v := (nI (i + 1))) (lv' := [(7, .int (nI (i + 1))), (8, .int (1 : Int32)), (6, .int xn), (5, .int x5), (0, .ref mo), (1, .int w), (2, .int h), (3, .long p0)]) hx hb dX10_isJoined_209 hl (k := 1) rfl (nI_1 _) (by decide) rfl (fun ls hl => ?_)
                                        refine lv_goto (tgt := 77) hx hb dX10_isJoined_212 (by decide) ?_
                                        exact ih_77 (i + 1) xn mt1 (by omega) (by first | exact j77_1 | (have z := cz_upd (mt := mt1) (i := (nI i).toNatClampNeg) (v := (1 : Int32) &&& 1) (nI_cl (by omega)) (by rw [← e189]; exact c190) (by decide); rcases j77_1 with ⟨_, y⟩ | ⟨_, y⟩ <;> exact Or.inr ⟨rfl, by omega⟩)) (by omega) _ _ hP hS ls (lv_sub hl [0, 2, 3, 4, 5, 6, 7] rfl)
                                      · skip
                                        have d190 := c190
                                        rw [fa_eq] at d190
                                        refine lv_iload hx hb dX10_isJoined_193 (lv_at hl 0 rfl) ?_
                                        refine lv_if_eq (tgt := 209) hx hb dX10_isJoined_195 (by decide) (fun c195 => ?_) (fun c195 => ?_)
                                        · first | exact absurd c195 (by decide) | exact absurd (by decide) c195
                                        · skip
                                          have d195 := c195
                                          rw [fa_eq] at d195
                                          refine lv_aload_n hx hb dX10_isJoined_198 rfl (lv_at hl 4 rfl) ?_
                                          refine m_get (v := .ref (a 9)) hx hb hts hin hown hK hP 9 (by decide) rfl (hts (.fieldLink RX10 32 "ShadowBenchModel" "met" "[Z") (by decide +kernel)) rfl dX10_isJoined_199 ?_
                                          refine lv_iload hx hb dX10_isJoined_202 (lv_at hl 1 rfl) ?_
                                          refine lv_iconst (v := 1) hx hb dX10_isJoined_204 (by decide) ?_
                                          refine m_zast (w := mt1) hx hb hK hP hD hS 8 rfl (vp_in_iff.mpr ⟨by omega, by omega⟩) (va_up r 9 ((upd mt1 (nI i).toNatClampNeg ((1 : Int32) &&& 1)))) rfl dX10_isJoined_205 (fun H locs hP hS => ?_)
                                          refine lv_iconst (v := 1) hx hb dX10_isJoined_206 (by decide) ?_
                                          refine lv_istore (lv' := [(6, .int (1 : Int32)), (8, .int (1 : Int32)), (7, .int (nI i)), (5, .int x5), (0, .ref mo), (1, .int w), (2, .int h), (3, .long p0)]) hx hb dX10_isJoined_207 hl (by decide) rfl (fun ls hl => ?_)
                                          refine lv_iinc (v := (nI (i + 1))) (lv' := [(7, .int (nI (i + 1))), (6, .int (1 : Int32)), (8, .int (1 : Int32)), (5, .int x5), (0, .ref mo), (1, .int w), (2, .int h), (3, .long p0)]) hx hb dX10_isJoined_209 hl (k := 2) rfl (nI_1 _) (by decide) rfl (fun ls hl => ?_)
                                          refine lv_goto (tgt := 77) hx hb dX10_isJoined_212 (by decide) ?_
                                          exact ih_77 (i + 1) (1 : Int32) (((upd mt1 (nI i).toNatClampNeg ((1 : Int32) &&& 1)))) (by omega) (by first | exact j77_1 | (have z := cz_upd (mt := mt1) (i := (nI i).toNatClampNeg) (v := (1 : Int32) &&& 1) (nI_cl (by omega)) (by rw [← e189]; exact c190) (by decide); rcases j77_1 with ⟨_, y⟩ | ⟨_, y⟩ <;> exact Or.inr ⟨rfl, by omega⟩)) (by omega) _ _ hP hS ls (lv_sub hl [0, 1, 3, 4, 5, 6, 7] rfl)
                              · skip
                                have d129 := c129
                                rw [fa_lt] at d129
                                refine lv_aload_n hx hb dX10_isJoined_132 rfl (lv_at hl 3 rfl) ?_
                                refine m_get (v := .ref (a 9)) hx hb hts hin hown hK hP 9 (by decide) rfl (hts (.fieldLink RX10 32 "ShadowBenchModel" "met" "[Z") (by decide +kernel)) rfl dX10_isJoined_133 ?_
                                refine lv_iload hx hb dX10_isJoined_136 (lv_at hl 0 rfl) ?_
                                refine lv_iload_n hx hb dX10_isJoined_138 rfl (lv_at hl 4 rfl) ?_
                                refine lv_isub hx hb dX10_isJoined_139 ?_
                                refine lv_topi (fun v139 e139 => ?_)
                                have i139 : v139.toInt = (nI i).toInt - w.toInt := by rw [e139]; exact fb_subI (by omega) (by omega)
                                refine m_zald (w := mt1) hx hb hK hP 8 rfl (vp_in_iff.mpr ⟨by omega, by omega⟩) dX10_isJoined_140 ?_
                                refine lv_topi (fun v140 e140 => ?_)
                                have i140 : v140.toInt = (mt1 v139.toNatClampNeg).toInt := congrArg Int32.toInt e140
                                refine lv_if_ne (tgt := 166) hx hb dX10_isJoined_141 (by decide) (fun c141 => ?_) (fun c141 => ?_)
                                · skip
                                  have d141 := c141
                                  rw [fa_eq] at d141
                                  refine lv_iconst (v := 1) hx hb dX10_isJoined_166 (by decide) ?_
                                  refine lv_goto (tgt := 171) hx hb dX10_isJoined_167 (by decide) ?_
                                  refine lv_istore (lv' := [(8, .int (1 : Int32)), (7, .int (nI i)), (6, .int xn), (5, .int x5), (0, .ref mo), (1, .int w), (2, .int h), (3, .long p0)]) hx hb dX10_isJoined_171 hl (by decide) rfl (fun ls hl => ?_)
                                  refine lv_lload_n hx hb dX10_isJoined_173 rfl (lv_at hl 7 rfl) ?_
                                  refine lv_iload hx hb dX10_isJoined_174 (lv_at hl 1 rfl) ?_
                                  refine m_pu (As := [.long p0, .int (nI i)]) (rest := []) ⟨hx, hb, hml, hown, hts⟩ (c_X10_one l p0 (nI i) ) (va_cwS 2 hts gX10_isJoined_X10_one rfl rfl rfl (by decide +kernel) ⟨Nat.le_of_ble_eq_true rfl, Nat.le_of_ble_eq_true rfl⟩) hP rfl hl.1 rfl (Nat.le_of_ble_eq_true rfl) dX10_isJoined_176 ⟨Nat.le_of_ble_eq_true rfl, Nat.le_of_ble_eq_true rfl⟩ hS (fun r176 H locs q176 hP hS => ?_)
                                  have i176 : r176.toInt = (r_one p0 (nI i)).toInt := congrArg Int32.toInt q176
                                  refine lv_iconst (v := 1) hx hb dX10_isJoined_179 (by decide) ?_
                                  refine lv_icmp_ne (tgt := 209) hx hb dX10_isJoined_180 (by decide) (fun c180 => ?_) (fun c180 => ?_)
                                  · skip
                                    have d180 := c180
                                    rw [fa_eq] at d180
                                    refine lv_iinc (v := (nI (i + 1))) (lv' := [(7, .int (nI (i + 1))), (8, .int (1 : Int32)), (6, .int xn), (5, .int x5), (0, .ref mo), (1, .int w), (2, .int h), (3, .long p0)]) hx hb dX10_isJoined_209 hl (k := 1) rfl (nI_1 _) (by decide) rfl (fun ls hl => ?_)
                                    refine lv_goto (tgt := 77) hx hb dX10_isJoined_212 (by decide) ?_
                                    exact ih_77 (i + 1) xn mt1 (by omega) (by first | exact j77_1 | (have z := cz_upd (mt := mt1) (i := (nI i).toNatClampNeg) (v := (1 : Int32) &&& 1) (nI_cl (by omega)) (by rw [← e189]; exact c190) (by decide); rcases j77_1 with ⟨_, y⟩ | ⟨_, y⟩ <;> exact Or.inr ⟨rfl, by omega⟩)) (by omega) _ _ hP hS ls (lv_sub hl [0, 2, 3, 4, 5, 6, 7] rfl)
                                  · skip
                                    have d180 := c180
                                    rw [fa_eq] at d180
                                    refine lv_aload_n hx hb dX10_isJoined_183 rfl (lv_at hl 4 rfl) ?_
                                    refine m_get (v := .ref (a 9)) hx hb hts hin hown hK hP 9 (by decide) rfl (hts (.fieldLink RX10 32 "ShadowBenchModel" "met" "[Z") (by decide +kernel)) rfl dX10_isJoined_184 ?_
                                    refine lv_iload hx hb dX10_isJoined_187 (lv_at hl 1 rfl) ?_
                                    refine m_zald (w := mt1) hx hb hK hP 8 rfl (vp_in_iff.mpr ⟨by omega, by omega⟩) dX10_isJoined_189 ?_
                                    refine lv_topi (fun v189 e189 => ?_)
                                    have i189 : v189.toInt = (mt1 (nI i).toNatClampNeg).toInt := congrArg Int32.toInt e189
                                    refine lv_if_ne (tgt := 209) hx hb dX10_isJoined_190 (by decide) (fun c190 => ?_) (fun c190 => ?_)
                                    · skip
                                      have d190 := c190
                                      rw [fa_eq] at d190
                                      refine lv_iinc (v := (nI (i + 1))) (lv' := [(7, .int (nI (i + 1))), (8, .int (1 : Int32)), (6, .int xn), (5, .int x5), (0, .ref mo), (1, .int w), (2, .int h), (3, .long p0)]) hx hb dX10_isJoined_209 hl (k := 1) rfl (nI_1 _) (by decide) rfl (fun ls hl => ?_)
                                      refine lv_goto (tgt := 77) hx hb dX10_isJoined_212 (by decide) ?_
                                      exact ih_77 (i + 1) xn mt1 (by omega) (by first | exact j77_1 | (have z := cz_upd (mt := mt1) (i := (nI i).toNatClampNeg) (v := (1 : Int32) &&& 1) (nI_cl (by omega)) (by rw [← e189]; exact c190) (by decide); rcases j77_1 with ⟨_, y⟩ | ⟨_, y⟩ <;> exact Or.inr ⟨rfl, by omega⟩)) (by omega) _ _ hP hS ls (lv_sub hl [0, 2, 3, 4, 5, 6, 7] rfl)
                                    · skip
                                      have d190 := c190
                                      rw [fa_eq] at d190
                                      refine lv_iload hx hb dX10_isJoined_193 (lv_at hl 0 rfl) ?_
                                      refine lv_if_eq (tgt := 209) hx hb dX10_isJoined_195 (by decide) (fun c195 => ?_) (fun c195 => ?_)
                                      · first | exact absurd c195 (by decide) | exact absurd (by decide) c195
                                      · skip
                                        have d195 := c195
                                        rw [fa_eq] at d195
                                        refine lv_aload_n hx hb dX10_isJoined_198 rfl (lv_at hl 4 rfl) ?_
                                        refine m_get (v := .ref (a 9)) hx hb hts hin hown hK hP 9 (by decide) rfl (hts (.fieldLink RX10 32 "ShadowBenchModel" "met" "[Z") (by decide +kernel)) rfl dX10_isJoined_199 ?_
                                        refine lv_iload hx hb dX10_isJoined_202 (lv_at hl 1 rfl) ?_
                                        refine lv_iconst (v := 1) hx hb dX10_isJoined_204 (by decide) ?_
                                        refine m_zast (w := mt1) hx hb hK hP hD hS 8 rfl (vp_in_iff.mpr ⟨by omega, by omega⟩) (va_up r 9 ((upd mt1 (nI i).toNatClampNeg ((1 : Int32) &&& 1)))) rfl dX10_isJoined_205 (fun H locs hP hS => ?_)
                                        refine lv_iconst (v := 1) hx hb dX10_isJoined_206 (by decide) ?_
                                        refine lv_istore (lv' := [(6, .int (1 : Int32)), (8, .int (1 : Int32)), (7, .int (nI i)), (5, .int x5), (0, .ref mo), (1, .int w), (2, .int h), (3, .long p0)]) hx hb dX10_isJoined_207 hl (by decide) rfl (fun ls hl => ?_)
                                        refine lv_iinc (v := (nI (i + 1))) (lv' := [(7, .int (nI (i + 1))), (6, .int (1 : Int32)), (8, .int (1 : Int32)), (5, .int x5), (0, .ref mo), (1, .int w), (2, .int h), (3, .long p0)]) hx hb dX10_isJoined_209 hl (k := 2) rfl (nI_1 _) (by decide) rfl (fun ls hl => ?_)
                                        refine lv_goto (tgt := 77) hx hb dX10_isJoined_212 (by decide) ?_
                                        exact ih_77 (i + 1) (1 : Int32) (((upd mt1 (nI i).toNatClampNeg ((1 : Int32) &&& 1)))) (by omega) (by first | exact j77_1 | (have z := cz_upd (mt := mt1) (i := (nI i).toNatClampNeg) (v := (1 : Int32) &&& 1) (nI_cl (by omega)) (by rw [← e189]; exact c190) (by decide); rcases j77_1 with ⟨_, y⟩ | ⟨_, y⟩ <;> exact Or.inr ⟨rfl, by omega⟩)) (by omega) _ _ hP hS ls (lv_sub hl [0, 1, 3, 4, 5, 6, 7] rfl)
                                · skip
                                  have d141 := c141
                                  rw [fa_eq] at d141
                                  refine lv_iload hx hb dX10_isJoined_144 (lv_at hl 0 rfl) ?_
                                  refine lv_iload_n hx hb dX10_isJoined_146 rfl (lv_at hl 4 rfl) ?_
                                  refine lv_iadd hx hb dX10_isJoined_147 ?_
                                  refine lv_topi (fun v147 e147 => ?_)
                                  have i147 : v147.toInt = (nI i).toInt + w.toInt := by rw [e147]; exact fb_addI (by omega) (by omega)
                                  refine lv_iload_n hx hb dX10_isJoined_148 rfl (lv_at hl 4 rfl) ?_
                                  refine lv_iload_n hx hb dX10_isJoined_149 rfl (lv_at hl 5 rfl) ?_
                                  refine lv_imul hx hb dX10_isJoined_150 ?_
                                  refine lv_topi (fun v150 e150 => ?_)
                                  have i150 : v150.toInt = w.toInt * h.toInt := by rw [e150]; exact fb_mulI (by omega) (by omega)
                                  refine lv_icmp_ge (tgt := 170) hx hb dX10_isJoined_151 (by decide) (fun c151 => ?_) (fun c151 => ?_)
                                  · skip
                                    have d151 := c151
                                    rw [fa_le] at d151
                                    refine lv_iconst (v := 0) hx hb dX10_isJoined_170 (by decide) ?_
                                    refine lv_istore (lv' := [(8, .int (0 : Int32)), (7, .int (nI i)), (6, .int xn), (5, .int x5), (0, .ref mo), (1, .int w), (2, .int h), (3, .long p0)]) hx hb dX10_isJoined_171 hl (by decide) rfl (fun ls hl => ?_)
                                    refine lv_lload_n hx hb dX10_isJoined_173 rfl (lv_at hl 7 rfl) ?_
                                    refine lv_iload hx hb dX10_isJoined_174 (lv_at hl 1 rfl) ?_
                                    refine m_pu (As := [.long p0, .int (nI i)]) (rest := []) ⟨hx, hb, hml, hown, hts⟩ (c_X10_one l p0 (nI i) ) (va_cwS 2 hts gX10_isJoined_X10_one rfl rfl rfl (by decide +kernel) ⟨Nat.le_of_ble_eq_true rfl, Nat.le_of_ble_eq_true rfl⟩) hP rfl hl.1 rfl (Nat.le_of_ble_eq_true rfl) dX10_isJoined_176 ⟨Nat.le_of_ble_eq_true rfl, Nat.le_of_ble_eq_true rfl⟩ hS (fun r176 H locs q176 hP hS => ?_)
                                    have i176 : r176.toInt = (r_one p0 (nI i)).toInt := congrArg Int32.toInt q176
                                    refine lv_iconst (v := 1) hx hb dX10_isJoined_179 (by decide) ?_
                                    refine lv_icmp_ne (tgt := 209) hx hb dX10_isJoined_180 (by decide) (fun c180 => ?_) (fun c180 => ?_)
                                    · skip
                                      have d180 := c180
                                      rw [fa_eq] at d180
                                      refine lv_iinc (v := (nI (i + 1))) (lv' := [(7, .int (nI (i + 1))), (8, .int (0 : Int32)), (6, .int xn), (5, .int x5), (0, .ref mo), (1, .int w), (2, .int h), (3, .long p0)]) hx hb dX10_isJoined_209 hl (k := 1) rfl (nI_1 _) (by decide) rfl (fun ls hl => ?_)
                                      refine lv_goto (tgt := 77) hx hb dX10_isJoined_212 (by decide) ?_
                                      exact ih_77 (i + 1) xn mt1 (by omega) (by first | exact j77_1 | (have z := cz_upd (mt := mt1) (i := (nI i).toNatClampNeg) (v := (1 : Int32) &&& 1) (nI_cl (by omega)) (by rw [← e189]; exact c190) (by decide); rcases j77_1 with ⟨_, y⟩ | ⟨_, y⟩ <;> exact Or.inr ⟨rfl, by omega⟩)) (by omega) _ _ hP hS ls (lv_sub hl [0, 2, 3, 4, 5, 6, 7] rfl)
                                    · skip
                                      have d180 := c180
                                      rw [fa_eq] at d180
                                      refine lv_aload_n hx hb dX10_isJoined_183 rfl (lv_at hl 4 rfl) ?_
                                      refine m_get (v := .ref (a 9)) hx hb hts hin hown hK hP 9 (by decide) rfl (hts (.fieldLink RX10 32 "ShadowBenchModel" "met" "[Z") (by decide +kernel)) rfl dX10_isJoined_184 ?_
                                      refine lv_iload hx hb dX10_isJoined_187 (lv_at hl 1 rfl) ?_
                                      refine m_zald (w := mt1) hx hb hK hP 8 rfl (vp_in_iff.mpr ⟨by omega, by omega⟩) dX10_isJoined_189 ?_
                                      refine lv_topi (fun v189 e189 => ?_)
                                      have i189 : v189.toInt = (mt1 (nI i).toNatClampNeg).toInt := congrArg Int32.toInt e189
                                      refine lv_if_ne (tgt := 209) hx hb dX10_isJoined_190 (by decide) (fun c190 => ?_) (fun c190 => ?_)
                                      · skip
                                        have d190 := c190
                                        rw [fa_eq] at d190
                                        refine lv_iinc (v := (nI (i + 1))) (lv' := [(7, .int (nI (i + 1))), (8, .int (0 : Int32)), (6, .int xn), (5, .int x5), (0, .ref mo), (1, .int w), (2, .int h), (3, .long p0)]) hx hb dX10_isJoined_209 hl (k := 1) rfl (nI_1 _) (by decide) rfl (fun ls hl => ?_)
                                        refine lv_goto (tgt := 77) hx hb dX10_isJoined_212 (by decide) ?_
                                        exact ih_77 (i + 1) xn mt1 (by omega) (by first | exact j77_1 | (have z := cz_upd (mt := mt1) (i := (nI i).toNatClampNeg) (v := (1 : Int32) &&& 1) (nI_cl (by omega)) (by rw [← e189]; exact c190) (by decide); rcases j77_1 with ⟨_, y⟩ | ⟨_, y⟩ <;> exact Or.inr ⟨rfl, by omega⟩)) (by omega) _ _ hP hS ls (lv_sub hl [0, 2, 3, 4, 5, 6, 7] rfl)
                                      · skip
                                        have d190 := c190
                                        rw [fa_eq] at d190
                                        refine lv_iload hx hb dX10_isJoined_193 (lv_at hl 0 rfl) ?_
                                        refine lv_if_eq (tgt := 209) hx hb dX10_isJoined_195 (by decide) (fun c195 => ?_) (fun c195 => ?_)
                                        · skip
                                          have d195 := c195
                                          rw [fa_eq] at d195
                                          refine lv_iinc (v := (nI (i + 1))) (lv' := [(7, .int (nI (i + 1))), (8, .int (0 : Int32)), (6, .int xn), (5, .int x5), (0, .ref mo), (1, .int w), (2, .int h), (3, .long p0)]) hx hb dX10_isJoined_209 hl (k := 1) rfl (nI_1 _) (by decide) rfl (fun ls hl => ?_)
                                          refine lv_goto (tgt := 77) hx hb dX10_isJoined_212 (by decide) ?_
                                          exact ih_77 (i + 1) xn mt1 (by omega) (by first | exact j77_1 | (have z := cz_upd (mt := mt1) (i := (nI i).toNatClampNeg) (v := (1 : Int32) &&& 1) (nI_cl (by omega)) (by rw [← e189]; exact c190) (by decide); rcases j77_1 with ⟨_, y⟩ | ⟨_, y⟩ <;> exact Or.inr ⟨rfl, by omega⟩)) (by omega) _ _ hP hS ls (lv_sub hl [0, 2, 3, 4, 5, 6, 7] rfl)
                                        · first | exact absurd c195 (by decide) | exact absurd (by decide) c195
                                  · skip
                                    have d151 := c151
                                    rw [fa_le] at d151
                                    refine lv_aload_n hx hb dX10_isJoined_154 rfl (lv_at hl 3 rfl) ?_
                                    refine m_get (v := .ref (a 9)) hx hb hts hin hown hK hP 9 (by decide) rfl (hts (.fieldLink RX10 32 "ShadowBenchModel" "met" "[Z") (by decide +kernel)) rfl dX10_isJoined_155 ?_
                                    refine lv_iload hx hb dX10_isJoined_158 (lv_at hl 0 rfl) ?_
                                    refine lv_iload_n hx hb dX10_isJoined_160 rfl (lv_at hl 4 rfl) ?_
                                    refine lv_iadd hx hb dX10_isJoined_161 ?_
                                    refine lv_topi (fun v161 e161 => ?_)
                                    have i161 : v161.toInt = (nI i).toInt + w.toInt := by rw [e161]; exact fb_addI (by omega) (by omega)
                                    refine m_zald (w := mt1) hx hb hK hP 8 rfl (vp_in_iff.mpr ⟨by omega, by omega⟩) dX10_isJoined_162 ?_
                                    refine lv_topi (fun v162 e162 => ?_)
                                    have i162 : v162.toInt = (mt1 v161.toNatClampNeg).toInt := congrArg Int32.toInt e162
                                    refine lv_if_eq (tgt := 170) hx hb dX10_isJoined_163 (by decide) (fun c163 => ?_) (fun c163 => ?_)
                                    · skip
                                      have d163 := c163
                                      rw [fa_eq] at d163
                                      refine lv_iconst (v := 0) hx hb dX10_isJoined_170 (by decide) ?_
                                      refine lv_istore (lv' := [(8, .int (0 : Int32)), (7, .int (nI i)), (6, .int xn), (5, .int x5), (0, .ref mo), (1, .int w), (2, .int h), (3, .long p0)]) hx hb dX10_isJoined_171 hl (by decide) rfl (fun ls hl => ?_)
                                      refine lv_lload_n hx hb dX10_isJoined_173 rfl (lv_at hl 7 rfl) ?_
                                      refine lv_iload hx hb dX10_isJoined_174 (lv_at hl 1 rfl) ?_
                                      refine m_pu (As := [.long p0, .int (nI i)]) (rest := []) ⟨hx, hb, hml, hown, hts⟩ (c_X10_one l p0 (nI i) ) (va_cwS 2 hts gX10_isJoined_X10_one rfl rfl rfl (by decide +kernel) ⟨Nat.le_of_ble_eq_true rfl, Nat.le_of_ble_eq_true rfl⟩) hP rfl hl.1 rfl (Nat.le_of_ble_eq_true rfl) dX10_isJoined_176 ⟨Nat.le_of_ble_eq_true rfl, Nat.le_of_ble_eq_true rfl⟩ hS (fun r176 H locs q176 hP hS => ?_)
                                      have i176 : r176.toInt = (r_one p0 (nI i)).toInt := congrArg Int32.toInt q176
                                      refine lv_iconst (v := 1) hx hb dX10_isJoined_179 (by decide) ?_
                                      refine lv_icmp_ne (tgt := 209) hx hb dX10_isJoined_180 (by decide) (fun c180 => ?_) (fun c180 => ?_)
                                      · skip
                                        have d180 := c180
                                        rw [fa_eq] at d180
                                        refine lv_iinc (v := (nI (i + 1))) (lv' := [(7, .int (nI (i + 1))), (8, .int (0 : Int32)), (6, .int xn), (5, .int x5), (0, .ref mo), (1, .int w), (2, .int h), (3, .long p0)]) hx hb dX10_isJoined_209 hl (k := 1) rfl (nI_1 _) (by decide) rfl (fun ls hl => ?_)
                                        refine lv_goto (tgt := 77) hx hb dX10_isJoined_212 (by decide) ?_
                                        exact ih_77 (i + 1) xn mt1 (by omega) (by first | exact j77_1 | (have z := cz_upd (mt := mt1) (i := (nI i).toNatClampNeg) (v := (1 : Int32) &&& 1) (nI_cl (by omega)) (by rw [← e189]; exact c190) (by decide); rcases j77_1 with ⟨_, y⟩ | ⟨_, y⟩ <;> exact Or.inr ⟨rfl, by omega⟩)) (by omega) _ _ hP hS ls (lv_sub hl [0, 2, 3, 4, 5, 6, 7] rfl)
                                      · skip
                                        have d180 := c180
                                        rw [fa_eq] at d180
                                        refine lv_aload_n hx hb dX10_isJoined_183 rfl (lv_at hl 4 rfl) ?_
                                        refine m_get (v := .ref (a 9)) hx hb hts hin hown hK hP 9 (by decide) rfl (hts (.fieldLink RX10 32 "ShadowBenchModel" "met" "[Z") (by decide +kernel)) rfl dX10_isJoined_184 ?_
                                        refine lv_iload hx hb dX10_isJoined_187 (lv_at hl 1 rfl) ?_
                                        refine m_zald (w := mt1) hx hb hK hP 8 rfl (vp_in_iff.mpr ⟨by omega, by omega⟩) dX10_isJoined_189 ?_
                                        refine lv_topi (fun v189 e189 => ?_)
                                        have i189 : v189.toInt = (mt1 (nI i).toNatClampNeg).toInt := congrArg Int32.toInt e189
                                        refine lv_if_ne (tgt := 209) hx hb dX10_isJoined_190 (by decide) (fun c190 => ?_) (fun c190 => ?_)
                                        · skip
                                          have d190 := c190
                                          rw [fa_eq] at d190
                                          refine lv_iinc (v := (nI (i + 1))) (lv' := [(7, .int (nI (i + 1))), (8, .int (0 : Int32)), (6, .int xn), (5, .int x5), (0, .ref mo), (1, .int w), (2, .int h), (3, .long p0)]) hx hb dX10_isJoined_209 hl (k := 1) rfl (nI_1 _) (by decide) rfl (fun ls hl => ?_)
                                          refine lv_goto (tgt := 77) hx hb dX10_isJoined_212 (by decide) ?_
                                          exact ih_77 (i + 1) xn mt1 (by omega) (by first | exact j77_1 | (have z := cz_upd (mt := mt1) (i := (nI i).toNatClampNeg) (v := (1 : Int32) &&& 1) (nI_cl (by omega)) (by rw [← e189]; exact c190) (by decide); rcases j77_1 with ⟨_, y⟩ | ⟨_, y⟩ <;> exact Or.inr ⟨rfl, by omega⟩)) (by omega) _ _ hP hS ls (lv_sub hl [0, 2, 3, 4, 5, 6, 7] rfl)
                                        · skip
                                          have d190 := c190
                                          rw [fa_eq] at d190
                                          refine lv_iload hx hb dX10_isJoined_193 (lv_at hl 0 rfl) ?_
                                          refine lv_if_eq (tgt := 209) hx hb dX10_isJoined_195 (by decide) (fun c195 => ?_) (fun c195 => ?_)
                                          · skip
                                            have d195 := c195
                                            rw [fa_eq] at d195
                                            refine lv_iinc (v := (nI (i + 1))) (lv' := [(7, .int (nI (i + 1))), (8, .int (0 : Int32)), (6, .int xn), (5, .int x5), (0, .ref mo), (1, .int w), (2, .int h), (3, .long p0)]) hx hb dX10_isJoined_209 hl (k := 1) rfl (nI_1 _) (by decide) rfl (fun ls hl => ?_)
                                            refine lv_goto (tgt := 77) hx hb dX10_isJoined_212 (by decide) ?_
                                            exact ih_77 (i + 1) xn mt1 (by omega) (by first | exact j77_1 | (have z := cz_upd (mt := mt1) (i := (nI i).toNatClampNeg) (v := (1 : Int32) &&& 1) (nI_cl (by omega)) (by rw [← e189]; exact c190) (by decide); rcases j77_1 with ⟨_, y⟩ | ⟨_, y⟩ <;> exact Or.inr ⟨rfl, by omega⟩)) (by omega) _ _ hP hS ls (lv_sub hl [0, 2, 3, 4, 5, 6, 7] rfl)
                                          · first | exact absurd c195 (by decide) | exact absurd (by decide) c195
                                    · skip
                                      have d163 := c163
                                      rw [fa_eq] at d163
                                      refine lv_iconst (v := 1) hx hb dX10_isJoined_166 (by decide) ?_
                                      refine lv_goto (tgt := 171) hx hb dX10_isJoined_167 (by decide) ?_
                                      refine lv_istore (lv' := [(8, .int (1 : Int32)), (7, .int (nI i)), (6, .int xn), (5, .int x5), (0, .ref mo), (1, .int w), (2, .int h), (3, .long p0)]) hx hb dX10_isJoined_171 hl (by decide) rfl (fun ls hl => ?_)
                                      refine lv_lload_n hx hb dX10_isJoined_173 rfl (lv_at hl 7 rfl) ?_
                                      refine lv_iload hx hb dX10_isJoined_174 (lv_at hl 1 rfl) ?_
                                      refine m_pu (As := [.long p0, .int (nI i)]) (rest := []) ⟨hx, hb, hml, hown, hts⟩ (c_X10_one l p0 (nI i) ) (va_cwS 2 hts gX10_isJoined_X10_one rfl rfl rfl (by decide +kernel) ⟨Nat.le_of_ble_eq_true rfl, Nat.le_of_ble_eq_true rfl⟩) hP rfl hl.1 rfl (Nat.le_of_ble_eq_true rfl) dX10_isJoined_176 ⟨Nat.le_of_ble_eq_true rfl, Nat.le_of_ble_eq_true rfl⟩ hS (fun r176 H locs q176 hP hS => ?_)
                                      have i176 : r176.toInt = (r_one p0 (nI i)).toInt := congrArg Int32.toInt q176
                                      refine lv_iconst (v := 1) hx hb dX10_isJoined_179 (by decide) ?_
                                      refine lv_icmp_ne (tgt := 209) hx hb dX10_isJoined_180 (by decide) (fun c180 => ?_) (fun c180 => ?_)
                                      · skip
                                        have d180 := c180
                                        rw [fa_eq] at d180
                                        refine lv_iinc (v := (nI (i + 1))) (lv' := [(7, .int (nI (i + 1))), (8, .int (1 : Int32)), (6, .int xn), (5, .int x5), (0, .ref mo), (1, .int w), (2, .int h), (3, .long p0)]) hx hb dX10_isJoined_209 hl (k := 1) rfl (nI_1 _) (by decide) rfl (fun ls hl => ?_)
                                        refine lv_goto (tgt := 77) hx hb dX10_isJoined_212 (by decide) ?_
                                        exact ih_77 (i + 1) xn mt1 (by omega) (by first | exact j77_1 | (have z := cz_upd (mt := mt1) (i := (nI i).toNatClampNeg) (v := (1 : Int32) &&& 1) (nI_cl (by omega)) (by rw [← e189]; exact c190) (by decide); rcases j77_1 with ⟨_, y⟩ | ⟨_, y⟩ <;> exact Or.inr ⟨rfl, by omega⟩)) (by omega) _ _ hP hS ls (lv_sub hl [0, 2, 3, 4, 5, 6, 7] rfl)
                                      · skip
                                        have d180 := c180
                                        rw [fa_eq] at d180
                                        refine lv_aload_n hx hb dX10_isJoined_183 rfl (lv_at hl 4 rfl) ?_
                                        refine m_get (v := .ref (a 9)) hx hb hts hin hown hK hP 9 (by decide) rfl (hts (.fieldLink RX10 32 "ShadowBenchModel" "met" "[Z") (by decide +kernel)) rfl dX10_isJoined_184 ?_
                                        refine lv_iload hx hb dX10_isJoined_187 (lv_at hl 1 rfl) ?_
                                        refine m_zald (w := mt1) hx hb hK hP 8 rfl (vp_in_iff.mpr ⟨by omega, by omega⟩) dX10_isJoined_189 ?_
                                        refine lv_topi (fun v189 e189 => ?_)
                                        have i189 : v189.toInt = (mt1 (nI i).toNatClampNeg).toInt := congrArg Int32.toInt e189
                                        refine lv_if_ne (tgt := 209) hx hb dX10_isJoined_190 (by decide) (fun c190 => ?_) (fun c190 => ?_)
                                        · skip
                                          have d190 := c190
                                          rw [fa_eq] at d190
                                          refine lv_iinc (v := (nI (i + 1))) (lv' := [(7, .int (nI (i + 1))), (8, .int (1 : Int32)), (6, .int xn), (5, .int x5), (0, .ref mo), (1, .int w), (2, .int h), (3, .long p0)]) hx hb dX10_isJoined_209 hl (k := 1) rfl (nI_1 _) (by decide) rfl (fun ls hl => ?_)
                                          refine lv_goto (tgt := 77) hx hb dX10_isJoined_212 (by decide) ?_
                                          exact ih_77 (i + 1) xn mt1 (by omega) (by first | exact j77_1 | (have z := cz_upd (mt := mt1) (i := (nI i).toNatClampNeg) (v := (1 : Int32) &&& 1) (nI_cl (by omega)) (by rw [← e189]; exact c190) (by decide); rcases j77_1 with ⟨_, y⟩ | ⟨_, y⟩ <;> exact Or.inr ⟨rfl, by omega⟩)) (by omega) _ _ hP hS ls (lv_sub hl [0, 2, 3, 4, 5, 6, 7] rfl)
                                        · skip
                                          have d190 := c190
                                          rw [fa_eq] at d190
                                          refine lv_iload hx hb dX10_isJoined_193 (lv_at hl 0 rfl) ?_
                                          refine lv_if_eq (tgt := 209) hx hb dX10_isJoined_195 (by decide) (fun c195 => ?_) (fun c195 => ?_)
                                          · first | exact absurd c195 (by decide) | exact absurd (by decide) c195
                                          · skip
                                            have d195 := c195
                                            rw [fa_eq] at d195
                                            refine lv_aload_n hx hb dX10_isJoined_198 rfl (lv_at hl 4 rfl) ?_
                                            refine m_get (v := .ref (a 9)) hx hb hts hin hown hK hP 9 (by decide) rfl (hts (.fieldLink RX10 32 "ShadowBenchModel" "met" "[Z") (by decide +kernel)) rfl dX10_isJoined_199 ?_
                                            refine lv_iload hx hb dX10_isJoined_202 (lv_at hl 1 rfl) ?_
                                            refine lv_iconst (v := 1) hx hb dX10_isJoined_204 (by decide) ?_
                                            refine m_zast (w := mt1) hx hb hK hP hD hS 8 rfl (vp_in_iff.mpr ⟨by omega, by omega⟩) (va_up r 9 ((upd mt1 (nI i).toNatClampNeg ((1 : Int32) &&& 1)))) rfl dX10_isJoined_205 (fun H locs hP hS => ?_)
                                            refine lv_iconst (v := 1) hx hb dX10_isJoined_206 (by decide) ?_
                                            refine lv_istore (lv' := [(6, .int (1 : Int32)), (8, .int (1 : Int32)), (7, .int (nI i)), (5, .int x5), (0, .ref mo), (1, .int w), (2, .int h), (3, .long p0)]) hx hb dX10_isJoined_207 hl (by decide) rfl (fun ls hl => ?_)
                                            refine lv_iinc (v := (nI (i + 1))) (lv' := [(7, .int (nI (i + 1))), (6, .int (1 : Int32)), (8, .int (1 : Int32)), (5, .int x5), (0, .ref mo), (1, .int w), (2, .int h), (3, .long p0)]) hx hb dX10_isJoined_209 hl (k := 2) rfl (nI_1 _) (by decide) rfl (fun ls hl => ?_)
                                            refine lv_goto (tgt := 77) hx hb dX10_isJoined_212 (by decide) ?_
                                            exact ih_77 (i + 1) (1 : Int32) (((upd mt1 (nI i).toNatClampNeg ((1 : Int32) &&& 1)))) (by omega) (by first | exact j77_1 | (have z := cz_upd (mt := mt1) (i := (nI i).toNatClampNeg) (v := (1 : Int32) &&& 1) (nI_cl (by omega)) (by rw [← e189]; exact c190) (by decide); rcases j77_1 with ⟨_, y⟩ | ⟨_, y⟩ <;> exact Or.inr ⟨rfl, by omega⟩)) (by omega) _ _ hP hS ls (lv_sub hl [0, 1, 3, 4, 5, 6, 7] rfl)
                exact loop_77 (36 + 1) 0 (0 : Int32) mt (by omega) (Or.inl ⟨rfl, Nat.le_refl _⟩) (by omega) _ _ hP hS ls (lv_sub hl [0, 1, 2, 3, 4, 5, 6] rfl)
          exact loop_66 (mz 1 _ + 1) (1 : Int32) (((upd mt0 x5.toNatClampNeg ((1 : Int32) &&& 1)))) (by decide) (Nat.lt_succ_self _) _ _ hP hS ls (lv_sub hl [0, 1, 2, 3, 4, 5] rfl)
        · skip
          have d50 := c50
          rw [fa_le] at d50
          refine lv_iconst (v := 1) hx hb dX10_isJoined_53 (by decide) ?_
          exact W.zret (v := (1 : Int32)) hx hb hr (by first | decide | (rcases j224_1 with z | z <;> rw [z] <;> rfl)) (fun t ht hW => ⟨⟨_, (f, g, (va_up r 9 mt0), q), rfl, ⟨mt0, rfl, by decide⟩, by unfold mB; rw [ht]; exact hP⟩, hS.F ht⟩) hS.2.2 dX10_isJoined_54
      · skip
        have d12 := c12
        rw [fa_lt] at d12
        refine lv_aload_n hx hb dX10_isJoined_15 rfl (lv_at hl 2 rfl) ?_
        refine m_get (v := .ref (a 9)) hx hb hts hin hown hK hP 9 (by decide) rfl (hts (.fieldLink RX10 32 "ShadowBenchModel" "met" "[Z") (by decide +kernel)) rfl dX10_isJoined_16 ?_
        refine lv_iload hx hb dX10_isJoined_19 (lv_at hl 0 rfl) ?_
        refine lv_iconst (v := 0) hx hb dX10_isJoined_21 (by decide) ?_
        refine m_zast (w := mt0) hx hb hK hP hD hS 8 rfl (vp_in_iff.mpr ⟨by omega, by omega⟩) (va_up r 9 ((upd mt0 x6.toNatClampNeg ((0 : Int32) &&& 1)))) rfl dX10_isJoined_22 (fun H locs hP hS => ?_)
        refine lv_lload_n hx hb dX10_isJoined_23 rfl (lv_at hl 5 rfl) ?_
        refine lv_iload hx hb dX10_isJoined_24 (lv_at hl 0 rfl) ?_
        refine m_pu (As := [.long p0, .int x6]) (rest := []) ⟨hx, hb, hml, hown, hts⟩ (c_X10_one l p0 x6 ) (va_cwS 2 hts gX10_isJoined_X10_one rfl rfl rfl (by decide +kernel) ⟨Nat.le_of_ble_eq_true rfl, Nat.le_of_ble_eq_true rfl⟩) hP rfl hl.1 rfl (Nat.le_of_ble_eq_true rfl) dX10_isJoined_26 ⟨Nat.le_of_ble_eq_true rfl, Nat.le_of_ble_eq_true rfl⟩ hS (fun r26 H locs q26 hP hS => ?_)
        have i26 : r26.toInt = (r_one p0 x6).toInt := congrArg Int32.toInt q26
        refine lv_iconst (v := 1) hx hb dX10_isJoined_29 (by decide) ?_
        refine lv_icmp_ne (tgt := 38) hx hb dX10_isJoined_30 (by decide) (fun c30 => ?_) (fun c30 => ?_)
        · skip
          have d30 := c30
          rw [fa_eq] at d30
          refine lv_iload hx hb dX10_isJoined_38 (lv_at hl 1 rfl) ?_
          refine lv_istore (lv' := [(5, .int x5), (6, .int x6), (0, .ref mo), (1, .int w), (2, .int h), (3, .long p0)]) hx hb dX10_isJoined_40 hl (by decide) rfl (fun ls hl => ?_)
          obtain ⟨v42, e42⟩ : ∃ y : Int32, y = x6 + (-1) := ⟨_, rfl⟩
          have i42 : v42.toInt = x6.toInt + -1 := by rw [e42]; exact fb_addI (by omega) (by omega)
          refine lv_iinc (v := v42) (lv' := [(6, .int v42), (5, .int x5), (0, .ref mo), (1, .int w), (2, .int h), (3, .long p0)]) hx hb dX10_isJoined_42 hl (k := 1) rfl (by rw [e42]; rfl) (by decide) rfl (fun ls hl => ?_)
          refine lv_goto (tgt := 10) hx hb dX10_isJoined_45 (by decide) ?_
          exact ih_10 v42 x5 (((upd mt0 x6.toNatClampNeg ((0 : Int32) &&& 1)))) (by omega) (by omega) (by omega) _ _ hP hS ls (lv_sub hl [0, 1, 2, 3, 4, 5] rfl)
        · skip
          have d30 := c30
          rw [fa_eq] at d30
          refine lv_iload hx hb dX10_isJoined_33 (lv_at hl 0 rfl) ?_
          refine lv_goto (tgt := 40) hx hb dX10_isJoined_35 (by decide) ?_
          refine lv_istore (lv' := [(5, .int x6), (6, .int x6), (0, .ref mo), (1, .int w), (2, .int h), (3, .long p0)]) hx hb dX10_isJoined_40 hl (by decide) rfl (fun ls hl => ?_)
          obtain ⟨v42, e42⟩ : ∃ y : Int32, y = x6 + (-1) := ⟨_, rfl⟩
          have i42 : v42.toInt = x6.toInt + -1 := by rw [e42]; exact fb_addI (by omega) (by omega)
          refine lv_iinc (v := v42) (lv' := [(6, .int v42), (5, .int x6), (0, .ref mo), (1, .int w), (2, .int h), (3, .long p0)]) hx hb dX10_isJoined_42 hl (k := 1) rfl (by rw [e42]; rfl) (by decide) rfl (fun ls hl => ?_)
          refine lv_goto (tgt := 10) hx hb dX10_isJoined_45 (by decide) ?_
          exact ih_10 v42 x6 (((upd mt0 x6.toNatClampNeg ((0 : Int32) &&& 1)))) (by omega) (by omega) (by omega) _ _ hP hS ls (lv_sub hl [0, 1, 2, 3, 4, 5] rfl)
  exact loop_10 ((w.toInt * h.toInt).toNat + 1) v7 (((-1) : Int32)) (r 9) (by omega) (by omega) (by omega) _ _ hP hS ls (lv_sub hl [0, 1, 2, 3, 4, 5] rfl)
set_option maxHeartbeats 4000000 in
set_option maxRecDepth 100000 in
theorem c_X10_isKind (l : Launch) (D : va_G) (cy : Nat → ClassId) (mo : Nat) (a : Nat → Nat) (f : Nat → Int32) (g : Nat → Int64) (r : Nat → Nat → Int32) (q : Nat → Nat → Int64) (j : Int32) (p0 : Int64) (hD : DM cy mo a) (hI : MI f r) (hj : 0 ≤ j.toInt ∧ j.toInt < (f 1).toInt) : Mi l D cy mo a yX10_isKind wsX10_isKind ({ frames := 2, cells := 0, slots := 0, locals := 54 }) f g r q [.int j, .long p0] (fun r0 u => ∃ (mt : Nat → Int32), u = (f, g, (va_up r 9 mt), q) ∧ (r0 = 0 ∨ r0 = 1)) := by
  refine Met.ofW (cc := cX10_isKind) (maxL := 6) (ret := (some .boolean)) (by decide) rfl ?_
  intro p e s m args below meth c s₁ B hml hv
  obtain ⟨rfl, hP, hK⟩ := hv
  have hx := B.exec
  have hb := B.bytes
  have hr := B.returns
  have hts := atoms_spec (ws := wsX10_isKind) B.pre
  have hin : ∀ w ∈ u_ws RX10 TX10 35, w ∈ wsX10_isKind := by decide +kernel
  have hown : s.vm.findClass RX10 = some m.cls := findClass_of_methodNamed B.named
  have hlocks := B.notSynchronized
  have hS : va_S (AM mo a) s.heap s.heap [] := va_S.rf
  have hl := lv_entry ([.ref mo, .int j, .long p0]) (n := 6) (Nat.le_of_ble_eq_true rfl)
  rw [lg_entry_eq]
  generalize (lg_sl ([.ref mo, .int j, .long p0]) ++ List.replicate (6 - (lg_sl ([.ref mo, .int j, .long p0])).length) Slot.unset).toArray = ls at hl ⊢
  have hl : lv_has ls 6 [(0, .ref mo), (1, .int j), (2, .long p0)] := hl
  have k_0 : (0 : Int32).toInt = 0 := by decide
  have k_1 : (1 : Int32).toInt = 1 := by decide
  have k_3 : (3 : Int32).toInt = 3 := by decide
  have hI1 := hI.1
  refine lv_aload_n hx hb dX10_isKind_0 rfl (lv_at hl 0 rfl) ?_
  refine m_get (v := .ref (a 3)) hx hb hts hin hown hK hP 3 (by decide) rfl (hts (.fieldLink RX10 13 "ShadowBenchModel" "wide" "[I") (by decide +kernel)) rfl dX10_isKind_1 ?_
  refine lv_iload_n hx hb dX10_isKind_4 rfl (lv_at hl 1 rfl) ?_
  refine m_iald (w := (r 3)) hx hb hK hP 2 rfl (vp_in_iff.mpr ⟨by omega, by omega⟩) dX10_isKind_5 ?_
  refine lv_topi (fun v5 e5 => ?_)
  have i5 : v5.toInt = ((r 3) j.toNatClampNeg).toInt := congrArg Int32.toInt e5
  have w5 := mi_w hI (x := j) (by omega) (by omega) e5
  refine lv_istore (lv' := [(4, .int v5), (0, .ref mo), (1, .int j), (2, .long p0)]) hx hb dX10_isKind_6 hl (by decide) rfl (fun ls hl => ?_)
  refine lv_aload_n hx hb dX10_isKind_8 rfl (lv_at hl 1 rfl) ?_
  refine m_get (v := .ref (a 4)) hx hb hts hin hown hK hP 4 (by decide) rfl (hts (.fieldLink RX10 16 "ShadowBenchModel" "high" "[I") (by decide +kernel)) rfl dX10_isKind_9 ?_
  refine lv_iload_n hx hb dX10_isKind_12 rfl (lv_at hl 2 rfl) ?_
  refine m_iald (w := (r 4)) hx hb hK hP 3 rfl (vp_in_iff.mpr ⟨by omega, by omega⟩) dX10_isKind_13 ?_
  refine lv_topi (fun v13 e13 => ?_)
  have i13 : v13.toInt = ((r 4) j.toNatClampNeg).toInt := congrArg Int32.toInt e13
  have w13 := mi_h hI (x := j) (by omega) (by omega) e13
  refine lv_istore (lv' := [(5, .int v13), (4, .int v5), (0, .ref mo), (1, .int j), (2, .long p0)]) hx hb dX10_isKind_14 hl (by decide) rfl (fun ls hl => ?_)
  refine lv_aload_n hx hb dX10_isKind_16 rfl (lv_at hl 2 rfl) ?_
  refine m_get (v := .ref (a 2)) hx hb hts hin hown hK hP 2 (by decide) rfl (hts (.fieldLink RX10 7 "ShadowBenchModel" "kind" "[I") (by decide +kernel)) rfl dX10_isKind_17 ?_
  refine lv_iload_n hx hb dX10_isKind_20 rfl (lv_at hl 3 rfl) ?_
  refine m_iald (w := (r 2)) hx hb hK hP 1 rfl (vp_in_iff.mpr ⟨by omega, by omega⟩) dX10_isKind_21 ?_
  refine lv_topi (fun v21 e21 => ?_)
  have i21 : v21.toInt = ((r 2) j.toNatClampNeg).toInt := congrArg Int32.toInt e21
  refine lv_if_eq (tgt := 35) hx hb dX10_isKind_22 (by decide) (fun c22 => ?_) (fun c22 => ?_)
  · skip
    have d22 := c22
    rw [fa_eq] at d22
    refine lv_iconst (v := 1) hx hb dX10_isKind_35 (by decide) ?_
    exact W.zret (v := (1 : Int32)) hx hb hr (by decide) (fun t ht hW => ⟨⟨_, (f, g, (va_up r 9 (r 9)), q), rfl, ⟨(r 9), rfl, by decide⟩, by unfold mB; rw [ht]; exact hP⟩, hS.F ht⟩) hS.2.2 dX10_isKind_36
  · skip
    have d22 := c22
    rw [fa_eq] at d22
    refine lv_aload_n hx hb dX10_isKind_25 rfl (lv_at hl 2 rfl) ?_
    refine m_get (v := .ref (a 2)) hx hb hts hin hown hK hP 2 (by decide) rfl (hts (.fieldLink RX10 7 "ShadowBenchModel" "kind" "[I") (by decide +kernel)) rfl dX10_isKind_26 ?_
    refine lv_iload_n hx hb dX10_isKind_29 rfl (lv_at hl 3 rfl) ?_
    refine m_iald (w := (r 2)) hx hb hK hP 1 rfl (vp_in_iff.mpr ⟨by omega, by omega⟩) dX10_isKind_30 ?_
    refine lv_topi (fun v30 e30 => ?_)
    have i30 : v30.toInt = ((r 2) j.toNatClampNeg).toInt := congrArg Int32.toInt e30
    refine lv_iconst (v := 3) hx hb dX10_isKind_31 (by decide) ?_
    refine lv_icmp_ne (tgt := 37) hx hb dX10_isKind_32 (by decide) (fun c32 => ?_) (fun c32 => ?_)
    · skip
      have d32 := c32
      rw [fa_eq] at d32
      refine lv_aload_n hx hb dX10_isKind_37 rfl (lv_at hl 2 rfl) ?_
      refine lv_iload hx hb dX10_isKind_38 (lv_at hl 1 rfl) ?_
      refine lv_iload hx hb dX10_isKind_40 (lv_at hl 0 rfl) ?_
      refine lv_lload_n hx hb dX10_isKind_42 rfl (lv_at hl 4 rfl) ?_
      refine m_calli (As := [.int v5, .int v13, .long p0]) (rest := []) ⟨hx, hb, hml, hown, hts⟩ (c_X10_isJoined l D cy mo a f g r q v5 v13 p0 hD w5 w13) (cwV 3 hts gX10_isKind_X10_isJoined rfl rfl rfl (by decide +kernel) ⟨Nat.le_of_ble_eq_true rfl, Nat.le_of_ble_eq_true rfl⟩) hK hP rfl hl.1 rfl (Nat.le_of_ble_eq_true rfl) dX10_isKind_43 ⟨Nat.le_of_ble_eq_true rfl, Nat.le_of_ble_eq_true rfl⟩ hS (fun r43 u H locs q43 hP hS => ?_)
      obtain ⟨mt_43, rfl, q43⟩ := q43
      have hP : va_P D vwCl (WM cy mo a f g (va_up r 9 mt_43) q) H := hP
      have q43 : r43 = 0 ∨ r43 = 1 := q43
      refine lv_if_eq (tgt := 87) hx hb dX10_isKind_46 (by decide) (fun c46 => ?_) (fun c46 => ?_)
      · skip
        have d46 := c46
        rw [fa_eq] at d46
        refine lv_iconst (v := 0) hx hb dX10_isKind_87 (by decide) ?_
        exact W.zret (v := (0 : Int32)) hx hb hr (by decide) (fun t ht hW => ⟨⟨_, (f, g, (va_up r 9 mt_43), q), rfl, ⟨mt_43, rfl, by decide⟩, by unfold mB; rw [ht]; exact hP⟩, hS.F ht⟩) hS.2.2 dX10_isKind_88
      · skip
        have d46 := c46
        rw [fa_eq] at d46
        refine lv_aload_n hx hb dX10_isKind_49 rfl (lv_at hl 2 rfl) ?_
        refine m_get (v := .ref (a 2)) hx hb hts hin hown hK hP 2 (by decide) rfl (hts (.fieldLink RX10 7 "ShadowBenchModel" "kind" "[I") (by decide +kernel)) rfl dX10_isKind_50 ?_
        refine lv_iload_n hx hb dX10_isKind_53 rfl (lv_at hl 3 rfl) ?_
        refine m_iald (w := (r 2)) hx hb hK hP 1 rfl (vp_in_iff.mpr ⟨by omega, by omega⟩) dX10_isKind_54 ?_
        refine lv_topi (fun v54 e54 => ?_)
        have i54 : v54.toInt = ((r 2) j.toNatClampNeg).toInt := congrArg Int32.toInt e54
        refine lv_iconst (v := 1) hx hb dX10_isKind_55 (by decide) ?_
        refine lv_icmp_eq (tgt := 83) hx hb dX10_isKind_56 (by decide) (fun c56 => ?_) (fun c56 => ?_)
        · skip
          have d56 := c56
          rw [fa_eq] at d56
          refine lv_iconst (v := 1) hx hb dX10_isKind_83 (by decide) ?_
          refine lv_goto (tgt := 88) hx hb dX10_isKind_84 (by decide) ?_
          exact W.zret (v := (1 : Int32)) hx hb hr (by decide) (fun t ht hW => ⟨⟨_, (f, g, (va_up r 9 mt_43), q), rfl, ⟨mt_43, rfl, by decide⟩, by unfold mB; rw [ht]; exact hP⟩, hS.F ht⟩) hS.2.2 dX10_isKind_88
        · skip
          have d56 := c56
          rw [fa_eq] at d56
          refine lv_iload hx hb dX10_isKind_59 (lv_at hl 1 rfl) ?_
          refine lv_iload hx hb dX10_isKind_61 (lv_at hl 0 rfl) ?_
          refine lv_lload_n hx hb dX10_isKind_63 rfl (lv_at hl 4 rfl) ?_
          refine lv_iconst (v := 0) hx hb dX10_isKind_64 (by decide) ?_
          refine m_pu (As := [.int v5, .int v13, .long p0, .int (0 : Int32)]) (rest := []) ⟨hx, hb, hml, hown, hts⟩ (c_X10_isEven l v5 v13 p0 (0 : Int32) w5 w13) (va_cwS 4 hts gX10_isKind_X10_isEven rfl rfl rfl (by decide +kernel) ⟨Nat.le_of_ble_eq_true rfl, Nat.le_of_ble_eq_true rfl⟩) hP rfl hl.1 rfl (Nat.le_of_ble_eq_true rfl) dX10_isKind_65 ⟨Nat.le_of_ble_eq_true rfl, Nat.le_of_ble_eq_true rfl⟩ hS (fun r65 H locs q65 hP hS => ?_)
          refine lv_if_eq (tgt := 87) hx hb dX10_isKind_68 (by decide) (fun c68 => ?_) (fun c68 => ?_)
          · skip
            have d68 := c68
            rw [fa_eq] at d68
            refine lv_iconst (v := 0) hx hb dX10_isKind_87 (by decide) ?_
            exact W.zret (v := (0 : Int32)) hx hb hr (by decide) (fun t ht hW => ⟨⟨_, (f, g, (va_up r 9 mt_43), q), rfl, ⟨mt_43, rfl, by decide⟩, by unfold mB; rw [ht]; exact hP⟩, hS.F ht⟩) hS.2.2 dX10_isKind_88
          · skip
            have d68 := c68
            rw [fa_eq] at d68
            refine lv_iload hx hb dX10_isKind_71 (lv_at hl 1 rfl) ?_
            refine lv_iload hx hb dX10_isKind_73 (lv_at hl 0 rfl) ?_
            refine lv_lload_n hx hb dX10_isKind_75 rfl (lv_at hl 4 rfl) ?_
            refine lv_iconst (v := 1) hx hb dX10_isKind_76 (by decide) ?_
            refine m_pu (As := [.int v5, .int v13, .long p0, .int (1 : Int32)]) (rest := []) ⟨hx, hb, hml, hown, hts⟩ (c_X10_isEven l v5 v13 p0 (1 : Int32) w5 w13) (va_cwS 4 hts gX10_isKind_X10_isEven rfl rfl rfl (by decide +kernel) ⟨Nat.le_of_ble_eq_true rfl, Nat.le_of_ble_eq_true rfl⟩) hP rfl hl.1 rfl (Nat.le_of_ble_eq_true rfl) dX10_isKind_77 ⟨Nat.le_of_ble_eq_true rfl, Nat.le_of_ble_eq_true rfl⟩ hS (fun r77 H locs q77 hP hS => ?_)
            refine lv_if_eq (tgt := 87) hx hb dX10_isKind_80 (by decide) (fun c80 => ?_) (fun c80 => ?_)
            · skip
              have d80 := c80
              rw [fa_eq] at d80
              refine lv_iconst (v := 0) hx hb dX10_isKind_87 (by decide) ?_
              exact W.zret (v := (0 : Int32)) hx hb hr (by decide) (fun t ht hW => ⟨⟨_, (f, g, (va_up r 9 mt_43), q), rfl, ⟨mt_43, rfl, by decide⟩, by unfold mB; rw [ht]; exact hP⟩, hS.F ht⟩) hS.2.2 dX10_isKind_88
            · skip
              have d80 := c80
              rw [fa_eq] at d80
              refine lv_iconst (v := 1) hx hb dX10_isKind_83 (by decide) ?_
              refine lv_goto (tgt := 88) hx hb dX10_isKind_84 (by decide) ?_
              exact W.zret (v := (1 : Int32)) hx hb hr (by decide) (fun t ht hW => ⟨⟨_, (f, g, (va_up r 9 mt_43), q), rfl, ⟨mt_43, rfl, by decide⟩, by unfold mB; rw [ht]; exact hP⟩, hS.F ht⟩) hS.2.2 dX10_isKind_88
    · skip
      have d32 := c32
      rw [fa_eq] at d32
      refine lv_iconst (v := 1) hx hb dX10_isKind_35 (by decide) ?_
      exact W.zret (v := (1 : Int32)) hx hb hr (by decide) (fun t ht hW => ⟨⟨_, (f, g, (va_up r 9 (r 9)), q), rfl, ⟨(r 9), rfl, by decide⟩, by unfold mB; rw [ht]; exact hP⟩, hS.F ht⟩) hS.2.2 dX10_isKind_36
set_option maxHeartbeats 4000000 in
set_option maxRecDepth 100000 in
theorem c_X10_isFitting (l : Launch) (D : va_G) (cy : Nat → ClassId) (mo : Nat) (a : Nat → Nat) (f : Nat → Int32) (g : Nat → Int64) (r : Nat → Nat → Int32) (q : Nat → Nat → Int64) (j : Int32) (p0 : Int64) (hD : DM cy mo a) (hI : MI f r) (hj : 0 ≤ j.toInt ∧ j.toInt < (f 1).toInt) : Mi l D cy mo a yX10_isFitting wsX10_isFitting ({ frames := 3, cells := 0, slots := 0, locals := 79 }) f g r q [.int j, .long p0] (fun r0 u => ∃ (mt : Nat → Int32), u = (f, g, (va_up r 9 mt), q) ∧ (r0 = 0 ∨ r0 = 1)) := by
  refine Met.ofW (cc := cX10_isFitting) (maxL := 7) (ret := (some .boolean)) (by decide) rfl ?_
  intro p e s m args below meth c s₁ B hml hv
  obtain ⟨rfl, hP, hK⟩ := hv
  have hx := B.exec
  have hb := B.bytes
  have hr := B.returns
  have hts := atoms_spec (ws := wsX10_isFitting) B.pre
  have hin : ∀ w ∈ u_ws RX10 TX10 35, w ∈ wsX10_isFitting := by decide +kernel
  have hown : s.vm.findClass RX10 = some m.cls := findClass_of_methodNamed B.named
  have hlocks := B.notSynchronized
  have hS : va_S (AM mo a) s.heap s.heap [] := va_S.rf
  have hl := lv_entry ([.ref mo, .int j, .long p0]) (n := 7) (Nat.le_of_ble_eq_true rfl)
  rw [lg_entry_eq]
  generalize (lg_sl ([.ref mo, .int j, .long p0]) ++ List.replicate (7 - (lg_sl ([.ref mo, .int j, .long p0])).length) Slot.unset).toArray = ls at hl ⊢
  have hl : lv_has ls 7 [(0, .ref mo), (1, .int j), (2, .long p0)] := hl
  have k_0 : (0 : Int32).toInt = 0 := by decide
  have k_1 : (1 : Int32).toInt = 1 := by decide
  have k_2 : (2 : Int32).toInt = 2 := by decide
  have k_4 : (4 : Int32).toInt = 4 := by decide
  have k_11 : (11 : Int32).toInt = 11 := by decide
  have k_36 : (36 : Int32).toInt = 36 := by decide
  have k_44 : (44 : Int32).toInt = 44 := by decide
  have hI1 := hI.1
  refine lv_iconst (v := 1) hx hb dX10_isFitting_0 (by decide) ?_
  refine lv_istore (lv' := [(4, .int (1 : Int32)), (0, .ref mo), (1, .int j), (2, .long p0)]) hx hb dX10_isFitting_1 hl (by decide) rfl (fun ls hl => ?_)
  refine lv_iconst (v := 0) hx hb dX10_isFitting_3 (by decide) ?_
  refine lv_istore (lv' := [(5, .int (0 : Int32)), (4, .int (1 : Int32)), (0, .ref mo), (1, .int j), (2, .long p0)]) hx hb dX10_isFitting_4 hl (by decide) rfl (fun ls hl => ?_)
  have loop_6 : ∀ (n : Nat) (s1 : Nat) (x4 : Int32), (s1 ≤ 36) → 36 - s1 < n → ∀ (H : Heap) (locs : List Loc), va_P D vwCl (WM cy mo a f g r q) H → va_S (AM mo a) s.heap H locs → ∀ (ls : Array Slot), lv_has ls 7 [(5, .int (nI s1)), (4, .int x4), (0, .ref mo), (1, .int j), (2, .long p0)] → W p l e (headSpec wsX10_isFitting ({ frames := 3, cells := 0, slots := 0, locals := 79 })).room s m #[Value.ref mo, Value.int j, Value.long p0] below meth c H locs 0 0 (MQ below (va_Qi (fun r0 u => ∃ (mt : Nat → Int32), u = (f, g, (va_up r 9 mt), q) ∧ (r0 = 0 ∨ r0 = 1)) (mB D cy mo a) (AM mo a)) #[Value.ref mo, Value.int j, Value.long p0] s 0 0 (AM mo a)) (F0 m 6 ls []) := by
    intro n
    induction n with
    | zero => intro s1 x4  j6_0 hn; exact absurd hn (Nat.not_lt_zero _)
    | succ n ih_6 =>
      intro s1 x4  j6_0 hn_6 H locs hP hS ls hl
      have is1 : (nI s1).toInt = (s1 : Int) := nI_toInt (by omega)
      refine lv_iload hx hb dX10_isFitting_6 (lv_at hl 0 rfl) ?_
      refine lv_aload_n hx hb dX10_isFitting_8 rfl (lv_at hl 2 rfl) ?_
      refine m_get (v := .ref (a 3)) hx hb hts hin hown hK hP 3 (by decide) rfl (hts (.fieldLink RX10 13 "ShadowBenchModel" "wide" "[I") (by decide +kernel)) rfl dX10_isFitting_9 ?_
      refine lv_iload_n hx hb dX10_isFitting_12 rfl (lv_at hl 3 rfl) ?_
      refine m_iald (w := (r 3)) hx hb hK hP 2 rfl (vp_in_iff.mpr ⟨by omega, by omega⟩) dX10_isFitting_13 ?_
      refine lv_topi (fun v13 e13 => ?_)
      have i13 : v13.toInt = ((r 3) j.toNatClampNeg).toInt := congrArg Int32.toInt e13
      have w13 := mi_w hI (x := j) (by omega) (by omega) e13
      refine lv_aload_n hx hb dX10_isFitting_14 rfl (lv_at hl 2 rfl) ?_
      refine m_get (v := .ref (a 4)) hx hb hts hin hown hK hP 4 (by decide) rfl (hts (.fieldLink RX10 16 "ShadowBenchModel" "high" "[I") (by decide +kernel)) rfl dX10_isFitting_15 ?_
      refine lv_iload_n hx hb dX10_isFitting_18 rfl (lv_at hl 3 rfl) ?_
      refine m_iald (w := (r 4)) hx hb hK hP 3 rfl (vp_in_iff.mpr ⟨by omega, by omega⟩) dX10_isFitting_19 ?_
      refine lv_topi (fun v19 e19 => ?_)
      have i19 : v19.toInt = ((r 4) j.toNatClampNeg).toInt := congrArg Int32.toInt e19
      have w19 := mi_h hI (x := j) (by omega) (by omega) e19
      have m20 := mul66 w13 w19
      refine lv_imul hx hb dX10_isFitting_20 ?_
      refine lv_topi (fun v20 e20 => ?_)
      have i20 : v20.toInt = v13.toInt * v19.toInt := by rw [e20]; exact fb_mulI (by omega) (by omega)
      refine lv_icmp_ge (tgt := 73) hx hb dX10_isFitting_21 (by decide) (fun c21 => ?_) (fun c21 => ?_)
      · skip
        have d21 := c21
        rw [fa_le] at d21
        refine lv_iconst (v := 0) hx hb dX10_isFitting_73 (by decide) ?_
        refine lv_istore (lv' := [(5, .int (0 : Int32)), (4, .int x4), (0, .ref mo), (1, .int j), (2, .long p0)]) hx hb dX10_isFitting_74 hl (by decide) rfl (fun ls hl => ?_)
        have loop_76 : ∀ (n : Nat) (wy : Nat) (x4 : Int32), (wy ≤ 4) → 4 - wy < n → ∀ (H : Heap) (locs : List Loc), va_P D vwCl (WM cy mo a f g r q) H → va_S (AM mo a) s.heap H locs → ∀ (ls : Array Slot), lv_has ls 7 [(5, .int (nI wy)), (4, .int x4), (0, .ref mo), (1, .int j), (2, .long p0)] → W p l e (headSpec wsX10_isFitting ({ frames := 3, cells := 0, slots := 0, locals := 79 })).room s m #[Value.ref mo, Value.int j, Value.long p0] below meth c H locs 0 0 (MQ below (va_Qi (fun r0 u => ∃ (mt : Nat → Int32), u = (f, g, (va_up r 9 mt), q) ∧ (r0 = 0 ∨ r0 = 1)) (mB D cy mo a) (AM mo a)) #[Value.ref mo, Value.int j, Value.long p0] s 0 0 (AM mo a)) (F0 m 76 ls []) := by
          intro n
          induction n with
          | zero => intro wy x4  j76_0 hn; exact absurd hn (Nat.not_lt_zero _)
          | succ n ih_76 =>
            intro wy x4  j76_0 hn_76 H locs hP hS ls hl
            have iwy : (nI wy).toInt = (wy : Int) := nI_toInt (by omega)
            refine lv_iload hx hb dX10_isFitting_76 (lv_at hl 0 rfl) ?_
            refine lv_iconst (v := 4) hx hb dX10_isFitting_78 (by decide) ?_
            refine lv_icmp_ge (tgt := 186) hx hb dX10_isFitting_79 (by decide) (fun c79 => ?_) (fun c79 => ?_)
            · skip
              have d79 := c79
              rw [fa_le] at d79
              refine lv_iload hx hb dX10_isFitting_186 (lv_at hl 1 rfl) ?_
              refine lv_if_eq (tgt := 204) hx hb dX10_isFitting_188 (by decide) (fun c188 => ?_) (fun c188 => ?_)
              · skip
                have d188 := c188
                rw [fa_eq] at d188
                refine lv_iconst (v := 0) hx hb dX10_isFitting_204 (by decide) ?_
                exact W.zret (v := (0 : Int32)) hx hb hr (by decide) (fun t ht hW => ⟨⟨_, (f, g, (va_up r 9 (r 9)), q), rfl, ⟨(r 9), rfl, by decide⟩, by unfold mB; rw [ht]; exact hP⟩, hS.F ht⟩) hS.2.2 dX10_isFitting_205
              · skip
                have d188 := c188
                rw [fa_eq] at d188
                refine lv_aload_n hx hb dX10_isFitting_191 rfl (lv_at hl 2 rfl) ?_
                refine lv_iload_n hx hb dX10_isFitting_192 rfl (lv_at hl 3 rfl) ?_
                refine lv_lload_n hx hb dX10_isFitting_193 rfl (lv_at hl 4 rfl) ?_
                refine m_calli (As := [.int j, .long p0]) (rest := []) ⟨hx, hb, hml, hown, hts⟩ (c_X10_isKind l D cy mo a f g r q j p0 hD hI hj) (cwV 2 hts gX10_isFitting_X10_isKind rfl rfl rfl (by decide +kernel) ⟨Nat.le_of_ble_eq_true rfl, Nat.le_of_ble_eq_true rfl⟩) hK hP rfl hl.1 rfl (Nat.le_of_ble_eq_true rfl) dX10_isFitting_194 ⟨Nat.le_of_ble_eq_true rfl, Nat.le_of_ble_eq_true rfl⟩ hS (fun r194 u H locs q194 hP hS => ?_)
                obtain ⟨mt_194, rfl, q194⟩ := q194
                have hP : va_P D vwCl (WM cy mo a f g (va_up r 9 mt_194) q) H := hP
                have q194 : r194 = 0 ∨ r194 = 1 := q194
                refine lv_if_eq (tgt := 204) hx hb dX10_isFitting_197 (by decide) (fun c197 => ?_) (fun c197 => ?_)
                · skip
                  have d197 := c197
                  rw [fa_eq] at d197
                  refine lv_iconst (v := 0) hx hb dX10_isFitting_204 (by decide) ?_
                  exact W.zret (v := (0 : Int32)) hx hb hr (by decide) (fun t ht hW => ⟨⟨_, (f, g, (va_up r 9 mt_194), q), rfl, ⟨mt_194, rfl, by decide⟩, by unfold mB; rw [ht]; exact hP⟩, hS.F ht⟩) hS.2.2 dX10_isFitting_205
                · skip
                  have d197 := c197
                  rw [fa_eq] at d197
                  refine lv_iconst (v := 1) hx hb dX10_isFitting_200 (by decide) ?_
                  refine lv_goto (tgt := 205) hx hb dX10_isFitting_201 (by decide) ?_
                  exact W.zret (v := (1 : Int32)) hx hb hr (by decide) (fun t ht hW => ⟨⟨_, (f, g, (va_up r 9 mt_194), q), rfl, ⟨mt_194, rfl, by decide⟩, by unfold mB; rw [ht]; exact hP⟩, hS.F ht⟩) hS.2.2 dX10_isFitting_205
            · skip
              have d79 := c79
              rw [fa_le] at d79
              refine lv_iconst (v := 0) hx hb dX10_isFitting_82 (by decide) ?_
              refine lv_istore (lv' := [(6, .int (0 : Int32)), (5, .int (nI wy)), (4, .int x4), (0, .ref mo), (1, .int j), (2, .long p0)]) hx hb dX10_isFitting_83 hl (by decide) rfl (fun ls hl => ?_)
              have loop_85 : ∀ (n : Nat) (l1 : Nat) (x4 : Int32), (l1 ≤ 11) → 11 - l1 < n → ∀ (H : Heap) (locs : List Loc), va_P D vwCl (WM cy mo a f g r q) H → va_S (AM mo a) s.heap H locs → ∀ (ls : Array Slot), lv_has ls 7 [(6, .int (nI l1)), (5, .int (nI wy)), (4, .int x4), (0, .ref mo), (1, .int j), (2, .long p0)] → W p l e (headSpec wsX10_isFitting ({ frames := 3, cells := 0, slots := 0, locals := 79 })).room s m #[Value.ref mo, Value.int j, Value.long p0] below meth c H locs 0 0 (MQ below (va_Qi (fun r0 u => ∃ (mt : Nat → Int32), u = (f, g, (va_up r 9 mt), q) ∧ (r0 = 0 ∨ r0 = 1)) (mB D cy mo a) (AM mo a)) #[Value.ref mo, Value.int j, Value.long p0] s 0 0 (AM mo a)) (F0 m 85 ls []) := by
                intro n
                induction n with
                | zero => intro l1 x4  j85_0 hn; exact absurd hn (Nat.not_lt_zero _)
                | succ n ih_85 =>
                  intro l1 x4  j85_0 hn_85 H locs hP hS ls hl
                  have il1 : (nI l1).toInt = (l1 : Int) := nI_toInt (by omega)
                  refine lv_iload hx hb dX10_isFitting_85 (lv_at hl 0 rfl) ?_
                  refine lv_aload_n hx hb dX10_isFitting_87 rfl (lv_at hl 3 rfl) ?_
                  refine m_get (v := .ref (a 3)) hx hb hts hin hown hK hP 3 (by decide) rfl (hts (.fieldLink RX10 13 "ShadowBenchModel" "wide" "[I") (by decide +kernel)) rfl dX10_isFitting_88 ?_
                  refine lv_iload_n hx hb dX10_isFitting_91 rfl (lv_at hl 4 rfl) ?_
                  refine m_iald (w := (r 3)) hx hb hK hP 2 rfl (vp_in_iff.mpr ⟨by omega, by omega⟩) dX10_isFitting_92 ?_
                  refine lv_topi (fun v92 e92 => ?_)
                  have i92 : v92.toInt = ((r 3) j.toNatClampNeg).toInt := congrArg Int32.toInt e92
                  have w92 := mi_w hI (x := j) (by omega) (by omega) e92
                  refine lv_aload_n hx hb dX10_isFitting_93 rfl (lv_at hl 3 rfl) ?_
                  refine m_get (v := .ref (a 4)) hx hb hts hin hown hK hP 4 (by decide) rfl (hts (.fieldLink RX10 16 "ShadowBenchModel" "high" "[I") (by decide +kernel)) rfl dX10_isFitting_94 ?_
                  refine lv_iload_n hx hb dX10_isFitting_97 rfl (lv_at hl 4 rfl) ?_
                  refine m_iald (w := (r 4)) hx hb hK hP 3 rfl (vp_in_iff.mpr ⟨by omega, by omega⟩) dX10_isFitting_98 ?_
                  refine lv_topi (fun v98 e98 => ?_)
                  have i98 : v98.toInt = ((r 4) j.toNatClampNeg).toInt := congrArg Int32.toInt e98
                  have w98 := mi_h hI (x := j) (by omega) (by omega) e98
                  refine lv_iload hx hb dX10_isFitting_99 (lv_at hl 1 rfl) ?_
                  refine m_pu (As := [.int v92, .int v98, .int (nI wy)]) (rest := [.int (nI l1)]) ⟨hx, hb, hml, hown, hts⟩ (c_X10_linesOf l v92 v98 (nI wy) ) (va_cwS 3 hts gX10_isFitting_X10_linesOf rfl rfl rfl (by decide +kernel) ⟨Nat.le_of_ble_eq_true rfl, Nat.le_of_ble_eq_true rfl⟩) hP rfl hl.1 rfl (Nat.le_of_ble_eq_true rfl) dX10_isFitting_101 ⟨Nat.le_of_ble_eq_true rfl, Nat.le_of_ble_eq_true rfl⟩ hS (fun r101 H locs q101 hP hS => ?_)
                  have i101 : r101.toInt = (r_lines v92 v98 (nI wy)).toInt := congrArg Int32.toInt q101
                  have hlb := lines_lt w92 w98 (nI wy)
                  refine lv_icmp_ge (tgt := 180) hx hb dX10_isFitting_104 (by decide) (fun c104 => ?_) (fun c104 => ?_)
                  · skip
                    have d104 := c104
                    rw [fa_le] at d104
                    refine lv_iinc (v := (nI (wy + 1))) (lv' := [(5, .int (nI (wy + 1))), (6, .int (nI l1)), (4, .int x4), (0, .ref mo), (1, .int j), (2, .long p0)]) hx hb dX10_isFitting_180 hl (k := 1) rfl (nI_1 _) (by decide) rfl (fun ls hl => ?_)
                    refine lv_goto (tgt := 76) hx hb dX10_isFitting_183 (by decide) ?_
                    exact ih_76 (wy + 1) x4 (by omega) (by omega) _ _ hP hS ls (lv_sub hl [0, 2, 3, 4, 5] rfl)
                  · skip
                    have d104 := c104
                    rw [fa_le] at d104
                    refine lv_aload_n hx hb dX10_isFitting_107 rfl (lv_at hl 3 rfl) ?_
                    refine m_get (v := .ref (a 6)) hx hb hts hin hown hK hP 6 (by decide) rfl (hts (.fieldLink RX10 22 "ShadowBenchModel" "isTold" "[Z") (by decide +kernel)) rfl dX10_isFitting_108 ?_
                    refine lv_iconst (v := 4) hx hb dX10_isFitting_111 (by decide) ?_
                    refine lv_iload_n hx hb dX10_isFitting_112 rfl (lv_at hl 4 rfl) ?_
                    refine lv_imul hx hb dX10_isFitting_113 ?_
                    refine lv_topi (fun v113 e113 => ?_)
                    have i113 : v113.toInt = 4 * j.toInt := by rw [e113]; exact mulcL rfl (by omega) (by omega)
                    refine lv_iload hx hb dX10_isFitting_114 (lv_at hl 1 rfl) ?_
                    refine lv_iadd hx hb dX10_isFitting_116 ?_
                    refine lv_topi (fun v116 e116 => ?_)
                    have i116 : v116.toInt = v113.toInt + (nI wy).toInt := by rw [e116]; exact fb_addI (by omega) (by omega)
                    refine m_zald (w := (r 6)) hx hb hK hP 5 rfl (vp_in_iff.mpr ⟨by omega, by omega⟩) dX10_isFitting_117 ?_
                    refine lv_topi (fun v117 e117 => ?_)
                    have i117 : v117.toInt = ((r 6) v116.toNatClampNeg).toInt := congrArg Int32.toInt e117
                    refine lv_if_eq (tgt := 180) hx hb dX10_isFitting_118 (by decide) (fun c118 => ?_) (fun c118 => ?_)
                    · skip
                      have d118 := c118
                      rw [fa_eq] at d118
                      refine lv_iinc (v := (nI (wy + 1))) (lv' := [(5, .int (nI (wy + 1))), (6, .int (nI l1)), (4, .int x4), (0, .ref mo), (1, .int j), (2, .long p0)]) hx hb dX10_isFitting_180 hl (k := 1) rfl (nI_1 _) (by decide) rfl (fun ls hl => ?_)
                      refine lv_goto (tgt := 76) hx hb dX10_isFitting_183 (by decide) ?_
                      exact ih_76 (wy + 1) x4 (by omega) (by omega) _ _ hP hS ls (lv_sub hl [0, 2, 3, 4, 5] rfl)
                    · skip
                      have d118 := c118
                      rw [fa_eq] at d118
                      refine lv_iload hx hb dX10_isFitting_121 (lv_at hl 2 rfl) ?_
                      refine lv_if_eq (tgt := 180) hx hb dX10_isFitting_123 (by decide) (fun c123 => ?_) (fun c123 => ?_)
                      · skip
                        have d123 := c123
                        rw [fa_eq] at d123
                        refine lv_iinc (v := (nI (wy + 1))) (lv' := [(5, .int (nI (wy + 1))), (6, .int (nI l1)), (4, .int x4), (0, .ref mo), (1, .int j), (2, .long p0)]) hx hb dX10_isFitting_180 hl (k := 1) rfl (nI_1 _) (by decide) rfl (fun ls hl => ?_)
                        refine lv_goto (tgt := 76) hx hb dX10_isFitting_183 (by decide) ?_
                        exact ih_76 (wy + 1) x4 (by omega) (by omega) _ _ hP hS ls (lv_sub hl [0, 2, 3, 4, 5] rfl)
                      · skip
                        have d123 := c123
                        rw [fa_eq] at d123
                        refine lv_aload_n hx hb dX10_isFitting_126 rfl (lv_at hl 3 rfl) ?_
                        refine m_get (v := .ref (a 3)) hx hb hts hin hown hK hP 3 (by decide) rfl (hts (.fieldLink RX10 13 "ShadowBenchModel" "wide" "[I") (by decide +kernel)) rfl dX10_isFitting_127 ?_
                        refine lv_iload_n hx hb dX10_isFitting_130 rfl (lv_at hl 4 rfl) ?_
                        refine m_iald (w := (r 3)) hx hb hK hP 2 rfl (vp_in_iff.mpr ⟨by omega, by omega⟩) dX10_isFitting_131 ?_
                        refine lv_topi (fun v131 e131 => ?_)
                        have i131 : v131.toInt = ((r 3) j.toNatClampNeg).toInt := congrArg Int32.toInt e131
                        have w131 := mi_w hI (x := j) (by omega) (by omega) e131
                        refine lv_aload_n hx hb dX10_isFitting_132 rfl (lv_at hl 3 rfl) ?_
                        refine m_get (v := .ref (a 4)) hx hb hts hin hown hK hP 4 (by decide) rfl (hts (.fieldLink RX10 16 "ShadowBenchModel" "high" "[I") (by decide +kernel)) rfl dX10_isFitting_133 ?_
                        refine lv_iload_n hx hb dX10_isFitting_136 rfl (lv_at hl 4 rfl) ?_
                        refine m_iald (w := (r 4)) hx hb hK hP 3 rfl (vp_in_iff.mpr ⟨by omega, by omega⟩) dX10_isFitting_137 ?_
                        refine lv_topi (fun v137 e137 => ?_)
                        have i137 : v137.toInt = ((r 4) j.toNatClampNeg).toInt := congrArg Int32.toInt e137
                        have w137 := mi_h hI (x := j) (by omega) (by omega) e137
                        refine lv_lload_n hx hb dX10_isFitting_138 rfl (lv_at hl 5 rfl) ?_
                        refine lv_iload hx hb dX10_isFitting_139 (lv_at hl 1 rfl) ?_
                        refine lv_iload hx hb dX10_isFitting_141 (lv_at hl 0 rfl) ?_
                        refine m_pu (As := [.int v131, .int v137, .long p0, .int (nI wy), .int (nI l1)]) (rest := []) ⟨hx, hb, hml, hown, hts⟩ (c_X10_shadowOf l v131 v137 p0 (nI wy) (nI l1) w131 w137) (va_cwS 5 hts gX10_isFitting_X10_shadowOf rfl rfl rfl (by decide +kernel) ⟨Nat.le_of_ble_eq_true rfl, Nat.le_of_ble_eq_true rfl⟩) hP rfl hl.1 rfl (Nat.le_of_ble_eq_true rfl) dX10_isFitting_143 ⟨Nat.le_of_ble_eq_true rfl, Nat.le_of_ble_eq_true rfl⟩ hS (fun r143 H locs q143 hP hS => ?_)
                        refine lv_aload_n hx hb dX10_isFitting_146 rfl (lv_at hl 3 rfl) ?_
                        refine m_get (v := .ref (a 5)) hx hb hts hin hown hK hP 5 (by decide) rfl (hts (.fieldLink RX10 19 "ShadowBenchModel" "sums" "[I") (by decide +kernel)) rfl dX10_isFitting_147 ?_
                        refine lv_bipush (v := 44) hx hb dX10_isFitting_150 (by decide) ?_
                        refine lv_iload_n hx hb dX10_isFitting_152 rfl (lv_at hl 4 rfl) ?_
                        refine lv_imul hx hb dX10_isFitting_153 ?_
                        refine lv_topi (fun v153 e153 => ?_)
                        have i153 : v153.toInt = 44 * j.toInt := by rw [e153]; exact mulcL rfl (by omega) (by omega)
                        refine lv_bipush (v := 11) hx hb dX10_isFitting_154 (by decide) ?_
                        refine lv_iload hx hb dX10_isFitting_156 (lv_at hl 1 rfl) ?_
                        refine lv_imul hx hb dX10_isFitting_158 ?_
                        refine lv_topi (fun v158 e158 => ?_)
                        have i158 : v158.toInt = 11 * (nI wy).toInt := by rw [e158]; exact mulcL rfl (by omega) (by omega)
                        refine lv_iadd hx hb dX10_isFitting_159 ?_
                        refine lv_topi (fun v159 e159 => ?_)
                        have i159 : v159.toInt = v153.toInt + v158.toInt := by rw [e159]; exact fb_addI (by omega) (by omega)
                        refine lv_iload hx hb dX10_isFitting_160 (lv_at hl 0 rfl) ?_
                        refine lv_iadd hx hb dX10_isFitting_162 ?_
                        refine lv_topi (fun v162 e162 => ?_)
                        have i162 : v162.toInt = v159.toInt + (nI l1).toInt := by rw [e162]; exact fb_addI (by omega) (by omega)
                        refine m_iald (w := (r 5)) hx hb hK hP 4 rfl (vp_in_iff.mpr ⟨by omega, by omega⟩) dX10_isFitting_163 ?_
                        refine lv_topi (fun v163 e163 => ?_)
                        have i163 : v163.toInt = ((r 5) v162.toNatClampNeg).toInt := congrArg Int32.toInt e163
                        refine lv_icmp_ne (tgt := 171) hx hb dX10_isFitting_164 (by decide) (fun c164 => ?_) (fun c164 => ?_)
                        · skip
                          have d164 := c164
                          rw [fa_eq] at d164
                          refine lv_iconst (v := 0) hx hb dX10_isFitting_171 (by decide) ?_
                          refine lv_istore (lv' := [(4, .int (0 : Int32)), (6, .int (nI l1)), (5, .int (nI wy)), (0, .ref mo), (1, .int j), (2, .long p0)]) hx hb dX10_isFitting_172 hl (by decide) rfl (fun ls hl => ?_)
                          refine lv_iinc (v := (nI (l1 + 1))) (lv' := [(6, .int (nI (l1 + 1))), (4, .int (0 : Int32)), (5, .int (nI wy)), (0, .ref mo), (1, .int j), (2, .long p0)]) hx hb dX10_isFitting_174 hl (k := 1) rfl (nI_1 _) (by decide) rfl (fun ls hl => ?_)
                          refine lv_goto (tgt := 85) hx hb dX10_isFitting_177 (by decide) ?_
                          exact ih_85 (l1 + 1) (0 : Int32) (by omega) (by omega) _ _ hP hS ls (lv_sub hl [0, 2, 1, 3, 4, 5] rfl)
                        · skip
                          have d164 := c164
                          rw [fa_eq] at d164
                          refine lv_iconst (v := 1) hx hb dX10_isFitting_167 (by decide) ?_
                          refine lv_goto (tgt := 172) hx hb dX10_isFitting_168 (by decide) ?_
                          refine lv_istore (lv' := [(4, .int (1 : Int32)), (6, .int (nI l1)), (5, .int (nI wy)), (0, .ref mo), (1, .int j), (2, .long p0)]) hx hb dX10_isFitting_172 hl (by decide) rfl (fun ls hl => ?_)
                          refine lv_iinc (v := (nI (l1 + 1))) (lv' := [(6, .int (nI (l1 + 1))), (4, .int (1 : Int32)), (5, .int (nI wy)), (0, .ref mo), (1, .int j), (2, .long p0)]) hx hb dX10_isFitting_174 hl (k := 1) rfl (nI_1 _) (by decide) rfl (fun ls hl => ?_)
                          refine lv_goto (tgt := 85) hx hb dX10_isFitting_177 (by decide) ?_
                          exact ih_85 (l1 + 1) (1 : Int32) (by omega) (by omega) _ _ hP hS ls (lv_sub hl [0, 2, 1, 3, 4, 5] rfl)
              exact loop_85 (11 + 1) 0 x4 (by omega) (by omega) _ _ hP hS ls (lv_sub hl [0, 1, 2, 3, 4, 5] rfl)
        exact loop_76 (4 + 1) 0 x4 (by omega) (by omega) _ _ hP hS ls (lv_sub hl [0, 1, 2, 3, 4] rfl)
      · skip
        have d21 := c21
        rw [fa_le] at d21
        refine lv_aload_n hx hb dX10_isFitting_24 rfl (lv_at hl 2 rfl) ?_
        refine m_get (v := .ref (a 7)) hx hb hts hin hown hK hP 7 (by decide) rfl (hts (.fieldLink RX10 26 "ShadowBenchModel" "held" "[I") (by decide +kernel)) rfl dX10_isFitting_25 ?_
        refine lv_bipush (v := 36) hx hb dX10_isFitting_28 (by decide) ?_
        refine lv_iload_n hx hb dX10_isFitting_30 rfl (lv_at hl 3 rfl) ?_
        refine lv_imul hx hb dX10_isFitting_31 ?_
        refine lv_topi (fun v31 e31 => ?_)
        have i31 : v31.toInt = 36 * j.toInt := by rw [e31]; exact mulcL rfl (by omega) (by omega)
        refine lv_iload hx hb dX10_isFitting_32 (lv_at hl 0 rfl) ?_
        refine lv_iadd hx hb dX10_isFitting_34 ?_
        refine lv_topi (fun v34 e34 => ?_)
        have i34 : v34.toInt = v31.toInt + (nI s1).toInt := by rw [e34]; exact fb_addI (by omega) (by omega)
        refine m_iald (w := (r 7)) hx hb hK hP 6 rfl (vp_in_iff.mpr ⟨by omega, by omega⟩) dX10_isFitting_35 ?_
        refine lv_topi (fun v35 e35 => ?_)
        have i35 : v35.toInt = ((r 7) v34.toNatClampNeg).toInt := congrArg Int32.toInt e35
        refine lv_istore (lv' := [(6, .int v35), (5, .int (nI s1)), (4, .int x4), (0, .ref mo), (1, .int j), (2, .long p0)]) hx hb dX10_isFitting_36 hl (by decide) rfl (fun ls hl => ?_)
        refine lv_iload hx hb dX10_isFitting_38 (lv_at hl 2 rfl) ?_
        refine lv_if_eq (tgt := 64) hx hb dX10_isFitting_40 (by decide) (fun c40 => ?_) (fun c40 => ?_)
        · skip
          have d40 := c40
          rw [fa_eq] at d40
          refine lv_iconst (v := 0) hx hb dX10_isFitting_64 (by decide) ?_
          refine lv_istore (lv' := [(4, .int (0 : Int32)), (6, .int v35), (5, .int (nI s1)), (0, .ref mo), (1, .int j), (2, .long p0)]) hx hb dX10_isFitting_65 hl (by decide) rfl (fun ls hl => ?_)
          refine lv_iinc (v := (nI (s1 + 1))) (lv' := [(5, .int (nI (s1 + 1))), (4, .int (0 : Int32)), (6, .int v35), (0, .ref mo), (1, .int j), (2, .long p0)]) hx hb dX10_isFitting_67 hl (k := 2) rfl (nI_1 _) (by decide) rfl (fun ls hl => ?_)
          refine lv_goto (tgt := 6) hx hb dX10_isFitting_70 (by decide) ?_
          exact ih_6 (s1 + 1) (0 : Int32) (by omega) (by omega) _ _ hP hS ls (lv_sub hl [0, 1, 3, 4, 5] rfl)
        · skip
          have d40 := c40
          rw [fa_eq] at d40
          refine lv_iload hx hb dX10_isFitting_43 (lv_at hl 0 rfl) ?_
          refine lv_iconst (v := 2) hx hb dX10_isFitting_45 (by decide) ?_
          refine lv_icmp_eq (tgt := 60) hx hb dX10_isFitting_46 (by decide) (fun c46 => ?_) (fun c46 => ?_)
          · skip
            have d46 := c46
            rw [fa_eq] at d46
            refine lv_iconst (v := 1) hx hb dX10_isFitting_60 (by decide) ?_
            refine lv_goto (tgt := 65) hx hb dX10_isFitting_61 (by decide) ?_
            refine lv_istore (lv' := [(4, .int (1 : Int32)), (6, .int v35), (5, .int (nI s1)), (0, .ref mo), (1, .int j), (2, .long p0)]) hx hb dX10_isFitting_65 hl (by decide) rfl (fun ls hl => ?_)
            refine lv_iinc (v := (nI (s1 + 1))) (lv' := [(5, .int (nI (s1 + 1))), (4, .int (1 : Int32)), (6, .int v35), (0, .ref mo), (1, .int j), (2, .long p0)]) hx hb dX10_isFitting_67 hl (k := 2) rfl (nI_1 _) (by decide) rfl (fun ls hl => ?_)
            refine lv_goto (tgt := 6) hx hb dX10_isFitting_70 (by decide) ?_
            exact ih_6 (s1 + 1) (1 : Int32) (by omega) (by omega) _ _ hP hS ls (lv_sub hl [0, 1, 3, 4, 5] rfl)
          · skip
            have d46 := c46
            rw [fa_eq] at d46
            refine lv_iload hx hb dX10_isFitting_49 (lv_at hl 0 rfl) ?_
            refine lv_lload_n hx hb dX10_isFitting_51 rfl (lv_at hl 5 rfl) ?_
            refine lv_iload hx hb dX10_isFitting_52 (lv_at hl 1 rfl) ?_
            refine m_pu (As := [.long p0, .int (nI s1)]) (rest := [.int v35]) ⟨hx, hb, hml, hown, hts⟩ (c_X10_one l p0 (nI s1) ) (va_cwS 2 hts gX10_isFitting_X10_one rfl rfl rfl (by decide +kernel) ⟨Nat.le_of_ble_eq_true rfl, Nat.le_of_ble_eq_true rfl⟩) hP rfl hl.1 rfl (Nat.le_of_ble_eq_true rfl) dX10_isFitting_54 ⟨Nat.le_of_ble_eq_true rfl, Nat.le_of_ble_eq_true rfl⟩ hS (fun r54 H locs q54 hP hS => ?_)
            have i54 : r54.toInt = (r_one p0 (nI s1)).toInt := congrArg Int32.toInt q54
            refine lv_icmp_ne (tgt := 64) hx hb dX10_isFitting_57 (by decide) (fun c57 => ?_) (fun c57 => ?_)
            · skip
              have d57 := c57
              rw [fa_eq] at d57
              refine lv_iconst (v := 0) hx hb dX10_isFitting_64 (by decide) ?_
              refine lv_istore (lv' := [(4, .int (0 : Int32)), (6, .int v35), (5, .int (nI s1)), (0, .ref mo), (1, .int j), (2, .long p0)]) hx hb dX10_isFitting_65 hl (by decide) rfl (fun ls hl => ?_)
              refine lv_iinc (v := (nI (s1 + 1))) (lv' := [(5, .int (nI (s1 + 1))), (4, .int (0 : Int32)), (6, .int v35), (0, .ref mo), (1, .int j), (2, .long p0)]) hx hb dX10_isFitting_67 hl (k := 2) rfl (nI_1 _) (by decide) rfl (fun ls hl => ?_)
              refine lv_goto (tgt := 6) hx hb dX10_isFitting_70 (by decide) ?_
              exact ih_6 (s1 + 1) (0 : Int32) (by omega) (by omega) _ _ hP hS ls (lv_sub hl [0, 1, 3, 4, 5] rfl)
            · skip
              have d57 := c57
              rw [fa_eq] at d57
              refine lv_iconst (v := 1) hx hb dX10_isFitting_60 (by decide) ?_
              refine lv_goto (tgt := 65) hx hb dX10_isFitting_61 (by decide) ?_
              refine lv_istore (lv' := [(4, .int (1 : Int32)), (6, .int v35), (5, .int (nI s1)), (0, .ref mo), (1, .int j), (2, .long p0)]) hx hb dX10_isFitting_65 hl (by decide) rfl (fun ls hl => ?_)
              refine lv_iinc (v := (nI (s1 + 1))) (lv' := [(5, .int (nI (s1 + 1))), (4, .int (1 : Int32)), (6, .int v35), (0, .ref mo), (1, .int j), (2, .long p0)]) hx hb dX10_isFitting_67 hl (k := 2) rfl (nI_1 _) (by decide) rfl (fun ls hl => ?_)
              refine lv_goto (tgt := 6) hx hb dX10_isFitting_70 (by decide) ?_
              exact ih_6 (s1 + 1) (1 : Int32) (by omega) (by omega) _ _ hP hS ls (lv_sub hl [0, 1, 3, 4, 5] rfl)
  exact loop_6 (36 + 1) 0 (1 : Int32) (by omega) (by omega) _ _ hP hS ls (lv_sub hl [0, 1, 2, 3, 4] rfl)
