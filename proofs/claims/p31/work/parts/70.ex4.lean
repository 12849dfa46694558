
def jA (k w h jc : Int32) : Int := if (0 ≤ k.toInt ∧ k.toInt ≤ 3) ∧ (1 ≤ w.toInt ∧ w.toInt ≤ 6) ∧ (1 ≤ h.toInt ∧ h.toInt ≤ 6) then (if jc.toInt < 8 then jc.toInt else -2) else -1
def jN (k w h jc : Int32) : Int := if ((0 ≤ k.toInt ∧ k.toInt ≤ 3) ∧ (1 ≤ w.toInt ∧ w.toInt ≤ 6) ∧ (1 ≤ h.toInt ∧ h.toInt ≤ 6)) ∧ jc.toInt < 8 then jc.toInt + 1 else jc.toInt

section CAR9
variable {p : Program} {l : Launch} {e : Env} {R : Room} {s : State} {m : MethodId} {args : Array Value} {below : List Frame} {meth : Method} {c : Code} {H : Heap} {locs : List Loc} {cells slots : Nat} {Q : State → Prop}
variable {cc : ByteArray} {pc : Nat} {ls : Array Slot} {rest : List Value} {D : va_G} {cy : Nat → ClassId} {A : Nat → Prop} {ws : va_W} {G : cG} {H0 : Heap}
theorem w9sh {a n z : Nat} {fa : Nat → Option Nat} (hD : va_D A ws) (hT : cT cy G ws) (hg : G a = some (9, n, z)) (hM : cIn ws a (.inl (cy 4, cqa n fa))) : ∀ i x, i < n → fa i = some x → ∃ k n, G x = some (3, k, n) := by
  obtain ⟨_, h9, f, rfl, hf⟩ := hT _ _ hg
  have z := cIn.eq hD hM h9
  simp only [Sum.inl.injEq, Prod.mk.injEq, Sum.inr.injEq, true_and] at z
  subst z
  exact hf
theorem t_aald9f (hx : p.tables.exec = Jvm.exec) (hb : c.code = cc) (hK : va_K D vwCl (cTy cy) s) (hP : va_P D vwCl ws H) {a n : Nat} {f : Nat → Option Nat} (hM : cIn ws a (.inl (cy 4, cqa n f))) (hf : ∀ i x, i < n → f i = some x → ∃ k n, G x = some (3, k, n)) {i : Int32} (hin : vp_in i n) (hdg : decode cc pc = .ok (.aaload, 1))
    (kn : f i.toNatClampNeg = none → W p l e R s m args below meth c H locs cells slots Q (F0 m (pc + 1) ls (.null :: rest)))
    (ks : ∀ x k n, G x = some (3, k, n) → f i.toNatClampNeg = some x → W p l e R s m args below meth c H locs cells slots Q (F0 m (pc + 1) ls (.ref x :: rest))) : W p l e R s m args below meth c H locs cells slots Q (F0 m pc ls (.int i :: .ref a :: rest)) := by
  obtain ⟨q0, hq⟩ := hM
  have hlt : i.toNatClampNeg < n := Nat.not_le.mp fun q => hin (Or.inr q)
  refine va_aldq hx hb hK hP q0 4 hq rfl hin hdg ?_
  cases hv : f i.toNatClampNeg with
  | none => exact kn hv
  | some x =>
    obtain ⟨k, n', hg⟩ := hf _ x hlt hv
    exact ks x k n' hg hv
theorem t_aast9f (hx : p.tables.exec = Jvm.exec) (hb : c.code = cc) (hV : cV s) (hK : va_K D vwCl (cTy cy) s) (hP : va_P D vwCl ws H) (hD : va_D A ws) (hS : va_S A H0 H locs) (hT : cT cy G ws) {a n z v k1 k2 : Nat} (hg : G a = some (9, n, z)) {f : Nat → Option Nat} (hM : cIn ws a (.inl (cy 4, cqa n f))) (hf : ∀ i x, i < n → f i = some x → ∃ k n, G x = some (3, k, n)) {i : Int32} (hv : G v = some (3, k1, k2)) (hin : vp_in i n) (hdg : decode cc pc = .ok (.aastore, 1))
    (kk : ∀ (H1 : Heap) (locs1 : List Loc) (ws1 : va_W), cF (fun b => b = a) ws ws1 → cIn ws1 a (.inl (cy 4, cqa n (va_up f i.toNatClampNeg (some v)))) → (∀ j x, j < n → va_up f i.toNatClampNeg (some v) j = some x → ∃ k n, G x = some (3, k, n)) → va_P D vwCl ws1 H1 → va_D A ws1 → cT cy G ws1 → va_S A H0 H1 locs1 → W p l e R s m args below meth c H1 locs1 cells slots Q (F0 m (pc + 1) ls rest)) : W p l e R s m args below meth c H locs cells slots Q (F0 m pc ls (.ref v :: .int i :: .ref a :: rest)) := by
  obtain ⟨q0, hq⟩ := hM
  obtain ⟨_, ⟨qk, hqk⟩, b, s', w, h, tw, x, y, ms, rfl, -, -, hJ⟩ := hT _ _ hv
  have hf1 : ∀ j x, j < n → va_up f i.toNatClampNeg (some v) j = some x → ∃ k n, G x = some (3, k, n) := fun j x hj hx => c_upf (P := fun i x => ∃ k n, G x = some (3, k, n)) hf ⟨_, _, hv⟩ hj hx
  have k : ∀ (H1 : Heap) (locs1 : List Loc), va_P D vwCl (ws.set q0 (a, .inl (cy 4, cqa n (va_up f i.toNatClampNeg (some v))))) H1 → va_D A (ws.set q0 (a, .inl (cy 4, cqa n (va_up f i.toNatClampNeg (some v))))) → va_S A H0 H1 locs1 → W p l e R s m args below meth c H1 locs1 cells slots Q (F0 m (pc + 1) ls rest) := fun H1 locs1 k1 k2 k3 => kk H1 locs1 _ (cF.up (cUp.set hq) rfl) (cUp.set hq).1 hf1 k1 k2 (hT.up (cUp.set hq) hg ⟨_, rfl, hf1⟩) k3
  rcases hJ.kc with rfl | rfl | rfl | rfl
  · exact va_astqO (r := (RX1, TX1, 5)) hx hb hK hP hD hS q0 4 qk 1 hq rfl hV.2.1.1 hqk rfl hin hdg k
  · exact va_astq (r := (RX3, TX3, 5)) hx hb hK hP hD hS q0 4 qk 2 hq rfl hqk rfl hin hdg k
  · exact va_astqO (r := (RX4, TX4, 5)) hx hb hK hP hD hS q0 4 qk 3 hq rfl hV.2.1.2.1 hqk rfl hin hdg k
  · exact va_astqO (r := (RX5, TX5, 6)) hx hb hK hP hD hS q0 4 qk 4 hq rfl hV.2.1.2.2 hqk rfl hin hdg k
end CAR9

def kcl (kind : Int32) : Nat := if kind.toInt = 1 then 3 else if kind.toInt = 2 then 1 else if kind.toInt = 3 then 4 else 2
def okJ (k w h jc : Int32) : Prop := ((0 ≤ k.toInt ∧ k.toInt ≤ 3) ∧ (1 ≤ w.toInt ∧ w.toInt ≤ 6) ∧ (1 ≤ h.toInt ∧ h.toInt ≤ 6)) ∧ jc.toInt < 8
/-- the jobs that the class holds: each place below the count has a job of that size -/
def jobsAre (G : cG) (fa : Nat → Option Nat) (jc : Int32) (Wd Ht : Nat → Nat) : Prop := ∀ j : Nat, (j : Int) < jc.toInt → (1 ≤ Wd j ∧ Wd j ≤ 6 ∧ 1 ≤ Ht j ∧ Ht j ≤ 6) ∧ ∃ x k, fa j = some x ∧ G x = some (3, k, 8 * Wd j + Ht j)
def okJob (jc j : Int32) : Prop := 0 ≤ j.toInt ∧ j.toInt < jc.toInt
def okSum (jc : Int32) (Wd Ht : Nat → Nat) (j way line v : Int32) : Prop := okJob jc j ∧ okL (Wd j.toNatClampNeg) (Ht j.toNatClampNeg) way line ∧ 0 ≤ v.toInt ∧ v.toInt ≤ 6
def okCast (jc : Int32) (Wd Ht : Nat → Nat) (j way : Int32) (p : Int64) : Prop := okJob jc j ∧ (0 ≤ way.toInt ∧ way.toInt ≤ 3) ∧ isPic (Wd j.toNatClampNeg * Ht j.toNatClampNeg) p
def okKeep (jc : Int32) (Wd Ht : Nat → Nat) (d what j : Int32) (p : Int64) : Prop := (0 ≤ d.toInt ∧ d.toInt < 8) ∧ (what.toInt = 0 ∨ ((what.toInt = 1 ∨ what.toInt = 4) ∧ okJob jc j) ∨ (what.toInt = 3 ∧ okJob jc j ∧ isPic (Wd j.toNatClampNeg * Ht j.toNatClampNeg) p))
def yesNo (P : Prop) (a b x : Int32) : Prop := (P ∧ x = a) ∨ (¬ P ∧ x = b)
theorem yesNo_eq {P : Prop} {a b x y : Int32} (hx : yesNo P a b x) (hy : yesNo P a b y) : x = y := by
  rcases hx with ⟨h, e⟩ | ⟨h, e⟩ <;> rcases hy with ⟨h2, e2⟩ | ⟨h2, e2⟩
  · rw [e, e2]
  · exact absurd h h2
  · exact absurd h2 h
  · rw [e, e2]
theorem bs_36 {p : Int64} {n : Nat} (hn : n ≤ 36) (hp : isPic n p) : bs (lb p) 64 = bs (lb p) 36 := by
  rw [show (64 : Nat) = 36 + 28 from rfl, bs_add, bs_z (k := 28) (fun i hi => pic_hi hn hp (by omega)), Nat.add_zero]
theorem r_onesN (p : Int64) : ∀ n, n ≤ 36 → r_ones p n = nI (bs (lb p) n) := by
  intro n
  induction n with
  | zero => intro _; rfl
  | succ n ih =>
    intro hn
    simp only [r_ones, bs]
    rw [ih (by omega), one_lb p (by omega)]
    cases lb p n
    · exact nI_add _ 0
    · exact nI_1 _
set_option maxHeartbeats 4000000 in
set_option maxRecDepth 100000 in
theorem c_X9_jobOf_x (l : Launch) (D : va_G) (cy : Nat → ClassId) (A : Nat → Prop) (G : cG) (ws : va_W) (o : Nat) (j : Int32) {bs_o js_o sh_o wk_o ll_o : Nat} {jc_o lc_o : Int32} {mo_o lb_o : Option Nat} {fa : Nat → Option Nat} {Wd Ht : Nat → Nat} (hD : va_D A ws) (hT : cT cy G ws) (hG_o : G o = some (7, 0, 0)) (hM_o : cIn ws o (.inr (8, [.ref bs_o, .ref js_o, .int jc_o, .ref sh_o, .ref wk_o, va_rf mo_o, .ref ll_o, .int lc_o, va_rf lb_o]))) (hM_js_o : cIn ws js_o (.inl (cy 4, cqa 8 fa))) (hJ : jobsAre G fa jc_o Wd Ht) : Ca l D cy A yX9_jobOf wsX9_jobOf ({ frames := 0, cells := 0, slots := 0, locals := 0 }) 0 0 ws [.ref o, .int j] (fun r0 u => u = (G, ws) ∧ ((∀ x, r0 = some x → okJob jc_o j ∧ ∃ k, (1 ≤ Wd j.toNatClampNeg ∧ Wd j.toNatClampNeg ≤ 6 ∧ 1 ≤ Ht j.toNatClampNeg ∧ Ht j.toNatClampNeg ≤ 6) ∧ G x = some (3, k, 8 * Wd j.toNatClampNeg + Ht j.toNatClampNeg)) ∧ (r0 = none → ¬ okJob jc_o j))) := by
  refine Met.ofW (cc := cX9_jobOf) (maxL := 2) (ret := (some (.object "ShadowBench$Job"))) (by decide) rfl ?_
  intro p e s m args below meth c s₁ B hml hv
  obtain ⟨rfl, hP, hK, hA, hV⟩ := hv
  have hx := B.exec
  have hb := B.bytes
  have hr := B.returns
  have hts := atoms_spec (ws := wsX9_jobOf) B.pre
  have hown : s.vm.findClass RX9 = some m.cls := findClass_of_methodNamed B.named
  have hlocks := B.notSynchronized
  have hS : va_S A s.heap s.heap [] := va_S.rf
  have hl := lv_entry ([.ref o, .int j]) (n := 2) (Nat.le_of_ble_eq_true rfl)
  rw [lg_entry_eq]
  generalize (lg_sl ([.ref o, .int j]) ++ List.replicate (2 - (lg_sl ([.ref o, .int j])).length) Slot.unset).toArray = ls at hl ⊢
  have hl : lv_has ls 2 [(0, .ref o), (1, .int j)] := hl
  have k_0 : (0 : Int32).toInt = 0 := by decide
  have k_8 : (8 : Int32).toInt = 8 := by decide
  obtain ⟨hjc_o, hlc_o, hG_bs_o, hG_js_o, hG_sh_o, hG_wk_o, hmo_o, hG_ll_o, hlb_o⟩ := w7sh hD hT hG_o hM_o
  have hf_js_o := w9sh hD hT hG_js_o hM_js_o
  refine lv_iload_n hx hb dX9_jobOf_0 rfl (lv_at hl 1 rfl) ?_
  refine lv_if_lt (tgt := 27) hx hb dX9_jobOf_1 (by decide) (fun c1 => ?_) (fun c1 => ?_)
  · skip
    have d1 := c1
    rw [fa_lt] at d1
    refine lv_null hx hb dX9_jobOf_27 ?_
    exact W.aret (v := .null) hx hb hr (Or.inl ⟨_, rfl⟩) (Or.inl rfl) (fun t ht hW => ⟨⟨none, (G, ws), rfl, ⟨rfl, ⟨(fun _ z => nomatch z), (fun _ z9 => by unfold okJob at z9; first | omega | exact absurd (nf23.symm.trans ex9) (by simp))⟩⟩, by show va_P D vwCl ws t.heap; rw [ht]; exact hP, hD, hT⟩, hS.F ht⟩) hS.2.2 dX9_jobOf_28
  · skip
    have d1 := c1
    rw [fa_lt] at d1
    refine lv_iload_n hx hb dX9_jobOf_4 rfl (lv_at hl 1 rfl) ?_
    refine lv_aload_n hx hb dX9_jobOf_5 rfl (lv_at hl 0 rfl) ?_
    refine t_get (v := .int jc_o) (C := RX9) (T := TX9) (N := 9) hx hb hts (by decide +kernel) hown hK hP hM_o rfl 2 (by decide) (hts (.fieldLink RX9 21 "ShadowBench" "jobCount" "I") (by decide +kernel)) (fun _ h9 => h9) rfl dX9_jobOf_6 ?_
    refine lv_icmp_ge (tgt := 27) hx hb dX9_jobOf_9 (by decide) (fun c9 => ?_) (fun c9 => ?_)
    · skip
      have d9 := c9
      rw [fa_le] at d9
      refine lv_null hx hb dX9_jobOf_27 ?_
      exact W.aret (v := .null) hx hb hr (Or.inl ⟨_, rfl⟩) (Or.inl rfl) (fun t ht hW => ⟨⟨none, (G, ws), rfl, ⟨rfl, ⟨(fun _ z => nomatch z), (fun _ z9 => by unfold okJob at z9; first | omega | exact absurd (nf23.symm.trans ex9) (by simp))⟩⟩, by show va_P D vwCl ws t.heap; rw [ht]; exact hP, hD, hT⟩, hS.F ht⟩) hS.2.2 dX9_jobOf_28
    · skip
      have d9 := c9
      rw [fa_le] at d9
      refine lv_iload_n hx hb dX9_jobOf_12 rfl (lv_at hl 1 rfl) ?_
      refine lv_bipush (v := 8) hx hb dX9_jobOf_13 (by decide) ?_
      refine lv_icmp_ge (tgt := 27) hx hb dX9_jobOf_15 (by decide) (fun c15 => ?_) (fun c15 => ?_)
      · skip
        have d15 := c15
        rw [fa_le] at d15
        refine lv_null hx hb dX9_jobOf_27 ?_
        exact W.aret (v := .null) hx hb hr (Or.inl ⟨_, rfl⟩) (Or.inl rfl) (fun t ht hW => ⟨⟨none, (G, ws), rfl, ⟨rfl, ⟨(fun _ z => nomatch z), (fun _ z9 => by unfold okJob at z9; first | omega | exact absurd (nf23.symm.trans ex9) (by simp))⟩⟩, by show va_P D vwCl ws t.heap; rw [ht]; exact hP, hD, hT⟩, hS.F ht⟩) hS.2.2 dX9_jobOf_28
      · skip
        have d15 := c15
        rw [fa_le] at d15
        refine lv_aload_n hx hb dX9_jobOf_18 rfl (lv_at hl 0 rfl) ?_
        refine t_get (v := .ref js_o) (C := RX9) (T := TX9) (N := 9) hx hb hts (by decide +kernel) hown hK hP hM_o rfl 1 (by decide) (hts (.fieldLink RX9 17 "ShadowBench" "jobs" "[LShadowBench$Job;") (by decide +kernel)) (fun _ h9 => h9) rfl dX9_jobOf_19 ?_
        refine lv_iload_n hx hb dX9_jobOf_22 rfl (lv_at hl 1 rfl) ?_
        have cj := m_cl (x := j) (by omega)
        obtain ⟨sz9, x9, k9, ex9, hx9⟩ := hJ j.toNatClampNeg (by omega)
        refine t_aald9f hx hb hK hP hM_js_o hf_js_o (vp_in_iff.mpr ⟨by omega, by omega⟩) dX9_jobOf_23 (fun nf23 => ?_) (fun x23 kx23 nx23 hG_x23 nf23 => ?_)
        · skip
          refine lv_goto (tgt := 28) hx hb dX9_jobOf_24 (by decide) ?_
          exact W.aret (v := .null) hx hb hr (Or.inl ⟨_, rfl⟩) (Or.inl rfl) (fun t ht hW => ⟨⟨none, (G, ws), rfl, ⟨rfl, ⟨(fun _ z => nomatch z), (fun _ z9 => by unfold okJob at z9; first | omega | exact absurd (nf23.symm.trans ex9) (by simp))⟩⟩, by show va_P D vwCl ws t.heap; rw [ht]; exact hP, hD, hT⟩, hS.F ht⟩) hS.2.2 dX9_jobOf_28
        · skip
          refine lv_goto (tgt := 28) hx hb dX9_jobOf_24 (by decide) ?_
          exact W.aret (v := .ref x23) hx hb hr (Or.inl ⟨_, rfl⟩) (Or.inr ⟨_, rfl⟩) (fun t ht hW => ⟨⟨(some x23), (G, ws), rfl, ⟨rfl, ⟨(fun z9 e9 => by cases e9; refine ⟨by unfold okJob; omega, k9, sz9, ?_⟩; rw [← Option.some.inj (ex9.symm.trans nf23)]; exact hx9), (fun z => nomatch z)⟩⟩, by show va_P D vwCl ws t.heap; rw [ht]; exact hP, hD, hT⟩, hS.F ht⟩) hS.2.2 dX9_jobOf_28
set_option maxHeartbeats 4000000 in
set_option maxRecDepth 100000 in
theorem c_X9_newJob_x (l : Launch) (D : va_G) (cy : Nat → ClassId) (A : Nat → Prop) (G : cG) (ws : va_W) (kind : Int32) (b : Nat) {w h : Nat} (hD : va_D A ws) (hT : cT cy G ws) (hG_b : G b = some (2, w, h))  : Ca l D cy A yX9_newJob wsX9_newJob ({ frames := 5, cells := 3, slots := 86, locals := 103 }) 3 86 ws [.int kind, .ref b] (fun r0 u => cX none (chs []) G ws u.1 u.2 ∧ (∃ x, r0 = some x ∧ u.1 x = some (3, kcl kind, 8 * w + h))) := by
  refine Met.ofW (cc := cX9_newJob) (maxL := 2) (ret := (some (.object "ShadowBench$Job"))) (by decide) rfl ?_
  intro p e s m args below meth c s₁ B hml hv
  obtain ⟨rfl, hP, hK, hA, hV⟩ := hv
  have hx := B.exec
  have hb := B.bytes
  have hr := B.returns
  have hts := atoms_spec (ws := wsX9_newJob) B.pre
  have hown : s.vm.findClass RX9 = some m.cls := findClass_of_methodNamed B.named
  have hlocks := B.notSynchronized
  have hS : va_S A s.heap s.heap [] := va_S.rf
  have hX : cX none (chs []) G ws G ws := cX.rf
  have hl := lv_entry ([.int kind, .ref b]) (n := 2) (Nat.le_of_ble_eq_true rfl)
  rw [lg_entry_eq]
  generalize (lg_sl ([.int kind, .ref b]) ++ List.replicate (2 - (lg_sl ([.int kind, .ref b])).length) Slot.unset).toArray = ls at hl ⊢
  have hl : lv_has ls 2 [(0, .int kind), (1, .ref b)] := hl
  have k_0 : (0 : Int32).toInt = 0 := by decide
  refine lv_iload_n hx hb dX9_newJob_0 rfl (lv_at hl 0 rfl) ?_
  by_cases s1_0 : kind.toInt = 1
  · skip
    refine lv_tableIn (off := 27) (tgt := 28) hx hb dX9_newJob_1 (by omega) (by omega) (by rw [s1_0]; rfl) (by decide) ?_
    refine t_new (C := RX4) (T := TX4) (N := 5) (ci := 3) (ty0 := tyX4) (fs := [.null, .null, .int 0, .long 0, .long 0]) hx hb hts (by decide +kernel) tyX4_ok hown (hts (.classLink RX9 292 RX4) (by decide +kernel)) (hts (.instantiable RX4 5) (by decide +kernel)) (hts (.initialized RX4) (by decide +kernel)) hK hP hD hS hA hT rfl (by decide +kernel) (Nat.le_of_ble_eq_true rfl) (Nat.le_of_ble_eq_true rfl) dX9_newJob_28 (fun q28 H w28 hM_q28 hO_q28 hF28 hX28 hk28 hP hD hT hS => ?_)
    have hN_q28 := hX.new0 hO_q28 hF28
    have hX := hX.tr (hX28 _ _)
    refine lv_dup hx hb dX9_newJob_31 rfl ?_
    refine lv_aload_n hx hb dX9_newJob_32 rfl (lv_at hl 1 rfl) ?_
    refine t_callv (va_runI (g := F0 m 33 ls ([.ref b, .ref q28, .ref q28])) (As := [.ref b]) (rest := [.ref q28]) (b := q28) ⟨hx, hb, hml, hown, hts⟩ (c_X4_init l D cy A G w28 q28 b hD hT hO_q28 hM_q28 hG_b (by unfold cKc; omega)) (cwI 1 hts gX9_newJob_X4_init rfl rfl rfl (hts (.initialized RX4) (by decide +kernel)) (hts (.methodLink RX9 294 yX4_init) (by decide +kernel)) (hts (.instanceMethod yX4_init) (by decide +kernel)) rfl (by decide +kernel) ⟨Nat.le_of_ble_eq_true rfl, Nat.le_of_ble_eq_true rfl⟩) (c_preS hP hK hA hS hV) rfl rfl hl.1 rfl (lv_room (Nat.le_of_ble_eq_true rfl)) dX9_newJob_33 ⟨Nat.le_of_ble_eq_true rfl, Nat.le_of_ble_eq_true rfl⟩) hS (fun u H locs q33 hP9 hD9 hT9 hS => ?_)
    obtain ⟨G33, w33⟩ := u
    obtain ⟨hX9, q33⟩ := q33
    have hX9 : cX (some q28) (chs []) G w28 G33 w33 := hX9
    have hP : va_P D vwCl w33 H := hP9
    have hD : va_D A w33 := hD9
    have hT : cT cy G33 w33 := hT9
    have hG_b := hX9.1 _ _ hG_b
    obtain ⟨hO_q28, a33, hG_a33, hM_q28⟩ := q33
    have hM_q28 : cIn w33 q28 (.inr (3, [.ref b, .ref a33, .int 3, .long 0, .long 0])) := hM_q28
    have hX := hX.trN hN_q28 hX9
    obtain ⟨Gk33, hGk⟩ : ∃ z, z = va_up G33 q28 (some (3, 3, 8 * w + h)) := ⟨_, rfl⟩
    have hE9 : cE G33 Gk33 := by rw [hGk]; exact cE.add hO_q28
    have hG_q28 : Gk33 q28 = some (3, 3, 8 * w + h) := by rw [hGk]; simp [va_up]
    have hG_b := hE9 _ _ hG_b
    have hG_a33 := hE9 _ _ hG_a33
    have hT : cT cy Gk33 w33 := by rw [hGk]; exact hT.kind hO_q28 hM_q28 (by rw [← hGk]; exact ⟨_, _, _, _, _, _, _, _, rfl, hG_b, hG_a33, ⟨rfl, Or.inr (Or.inr (Or.inl ⟨rfl, rfl⟩))⟩⟩)
    have hX := hX.trN hN_q28 (show cX (some q28) (chs []) G33 w33 Gk33 w33 by rw [hGk]; exact cX.kind hO_q28)
    refine W.widen (k := 3) (n := 86) (Nat.le_of_ble_eq_true rfl) (Nat.le_of_ble_eq_true rfl) ?_
    exact W.aret (v := .ref q28) hx hb hr (Or.inl ⟨_, rfl⟩) (Or.inr ⟨_, rfl⟩) (fun t ht hW => ⟨⟨(some q28), (Gk33, w33), rfl, ⟨hX, ⟨_, rfl, (by unfold kcl; rw [if_pos s1_0]; exact hG_q28)⟩⟩, by show va_P D vwCl w33 t.heap; rw [ht]; exact hP, hD, hT⟩, hS.F ht⟩) hS.2.2 dX9_newJob_36
  by_cases s1_1 : kind.toInt = 2
  · skip
    refine lv_tableIn (off := 36) (tgt := 37) hx hb dX9_newJob_1 (by omega) (by omega) (by rw [s1_1]; rfl) (by decide) ?_
    refine t_new (C := RX1) (T := TX1) (N := 5) (ci := 1) (ty0 := tyX1) (fs := [.null, .null, .int 0, .long 0, .long 0]) hx hb hts (by decide +kernel) tyX1_ok hown (hts (.classLink RX9 297 RX1) (by decide +kernel)) (hts (.instantiable RX1 5) (by decide +kernel)) (hts (.initialized RX1) (by decide +kernel)) hK hP hD hS hA hT rfl (by decide +kernel) (Nat.le_of_ble_eq_true rfl) (Nat.le_of_ble_eq_true rfl) dX9_newJob_37 (fun q37 H w37 hM_q37 hO_q37 hF37 hX37 hk37 hP hD hT hS => ?_)
    have hN_q37 := hX.new0 hO_q37 hF37
    have hX := hX.tr (hX37 _ _)
    refine lv_dup hx hb dX9_newJob_40 rfl ?_
    refine lv_aload_n hx hb dX9_newJob_41 rfl (lv_at hl 1 rfl) ?_
    refine t_callv (va_runI (g := F0 m 42 ls ([.ref b, .ref q37, .ref q37])) (As := [.ref b]) (rest := [.ref q37]) (b := q37) ⟨hx, hb, hml, hown, hts⟩ (c_X1_init l D cy A G w37 q37 b hD hT hO_q37 hM_q37 hG_b (by unfold cKc; omega)) (cwI 1 hts gX9_newJob_X1_init rfl rfl rfl (hts (.initialized RX1) (by decide +kernel)) (hts (.methodLink RX9 299 yX1_init) (by decide +kernel)) (hts (.instanceMethod yX1_init) (by decide +kernel)) rfl (by decide +kernel) ⟨Nat.le_of_ble_eq_true rfl, Nat.le_of_ble_eq_true rfl⟩) (c_preS hP hK hA hS hV) rfl rfl hl.1 rfl (lv_room (Nat.le_of_ble_eq_true rfl)) dX9_newJob_42 ⟨Nat.le_of_ble_eq_true rfl, Nat.le_of_ble_eq_true rfl⟩) hS (fun u H locs q42 hP9 hD9 hT9 hS => ?_)
    obtain ⟨G42, w42⟩ := u
    obtain ⟨hX9, q42⟩ := q42
    have hX9 : cX (some q37) (chs []) G w37 G42 w42 := hX9
    have hP : va_P D vwCl w42 H := hP9
    have hD : va_D A w42 := hD9
    have hT : cT cy G42 w42 := hT9
    have hG_b := hX9.1 _ _ hG_b
    obtain ⟨hO_q37, a42, hG_a42, hM_q37⟩ := q42
    have hM_q37 : cIn w42 q37 (.inr (1, [.ref b, .ref a42, .int 3, .long 0, .long 0])) := hM_q37
    have hX := hX.trN hN_q37 hX9
    obtain ⟨Gk42, hGk⟩ : ∃ z, z = va_up G42 q37 (some (3, 1, 8 * w + h)) := ⟨_, rfl⟩
    have hE9 : cE G42 Gk42 := by rw [hGk]; exact cE.add hO_q37
    have hG_q37 : Gk42 q37 = some (3, 1, 8 * w + h) := by rw [hGk]; simp [va_up]
    have hG_b := hE9 _ _ hG_b
    have hG_a42 := hE9 _ _ hG_a42
    have hT : cT cy Gk42 w42 := by rw [hGk]; exact hT.kind hO_q37 hM_q37 (by rw [← hGk]; exact ⟨_, _, _, _, _, _, _, _, rfl, hG_b, hG_a42, ⟨rfl, Or.inl ⟨rfl, rfl⟩⟩⟩)
    have hX := hX.trN hN_q37 (show cX (some q37) (chs []) G42 w42 Gk42 w42 by rw [hGk]; exact cX.kind hO_q37)
    refine W.widen (k := 3) (n := 86) (Nat.le_of_ble_eq_true rfl) (Nat.le_of_ble_eq_true rfl) ?_
    exact W.aret (v := .ref q37) hx hb hr (Or.inl ⟨_, rfl⟩) (Or.inr ⟨_, rfl⟩) (fun t ht hW => ⟨⟨(some q37), (Gk42, w42), rfl, ⟨hX, ⟨_, rfl, (by unfold kcl; rw [if_neg s1_0, if_pos s1_1]; exact hG_q37)⟩⟩, by show va_P D vwCl w42 t.heap; rw [ht]; exact hP, hD, hT⟩, hS.F ht⟩) hS.2.2 dX9_newJob_45
  by_cases s1_2 : kind.toInt = 3
  · skip
    refine lv_tableIn (off := 45) (tgt := 46) hx hb dX9_newJob_1 (by omega) (by omega) (by rw [s1_2]; rfl) (by decide) ?_
    refine t_new (C := RX5) (T := TX5) (N := 6) (ci := 4) (ty0 := tyX5) (fs := [.null, .null, .int 0, .long 0, .long 0, .null]) hx hb hts (by decide +kernel) tyX5_ok hown (hts (.classLink RX9 112 RX5) (by decide +kernel)) (hts (.instantiable RX5 6) (by decide +kernel)) (hts (.initialized RX5) (by decide +kernel)) hK hP hD hS hA hT rfl (by decide +kernel) (Nat.le_of_ble_eq_true rfl) (Nat.le_of_ble_eq_true rfl) dX9_newJob_46 (fun q46 H w46 hM_q46 hO_q46 hF46 hX46 hk46 hP hD hT hS => ?_)
    have hN_q46 := hX.new0 hO_q46 hF46
    have hX := hX.tr (hX46 _ _)
    refine lv_dup hx hb dX9_newJob_49 rfl ?_
    refine lv_aload_n hx hb dX9_newJob_50 rfl (lv_at hl 1 rfl) ?_
    refine t_callv (va_runI (g := F0 m 51 ls ([.ref b, .ref q46, .ref q46])) (As := [.ref b]) (rest := [.ref q46]) (b := q46) ⟨hx, hb, hml, hown, hts⟩ (c_X5_init l D cy A G w46 q46 b hD hT hO_q46 hM_q46 hG_b ) (cwI 1 hts gX9_newJob_X5_init rfl rfl rfl (hts (.initialized RX5) (by decide +kernel)) (hts (.methodLink RX9 300 yX5_init) (by decide +kernel)) (hts (.instanceMethod yX5_init) (by decide +kernel)) rfl (by decide +kernel) ⟨Nat.le_of_ble_eq_true rfl, Nat.le_of_ble_eq_true rfl⟩) (c_preS hP hK hA hS hV) rfl rfl hl.1 rfl (lv_room (Nat.le_of_ble_eq_true rfl)) dX9_newJob_51 ⟨Nat.le_of_ble_eq_true rfl, Nat.le_of_ble_eq_true rfl⟩) hS (fun u H locs q51 hP9 hD9 hT9 hS => ?_)
    obtain ⟨G51, w51⟩ := u
    obtain ⟨hX9, q51⟩ := q51
    have hX9 : cX (some q46) (chs []) G w46 G51 w51 := hX9
    have hP : va_P D vwCl w51 H := hP9
    have hD : va_D A w51 := hD9
    have hT : cT cy G51 w51 := hT9
    have hG_b := hX9.1 _ _ hG_b
    obtain ⟨hO_q46, a51, hG_a51, c51, hG_c51, hM_q46⟩ := q51
    have hM_q46 : cIn w51 q46 (.inr (4, [.ref b, .ref a51, .int 3, .long 0, .long 0, .ref c51])) := hM_q46
    have hX := hX.trN hN_q46 hX9
    have hb9 := cb_mul (c_hb hT hG_b)
    obtain ⟨Gk51, hGk⟩ : ∃ z, z = va_up G51 q46 (some (3, 4, 8 * w + h)) := ⟨_, rfl⟩
    have hE9 : cE G51 Gk51 := by rw [hGk]; exact cE.add hO_q46
    have hG_q46 : Gk51 q46 = some (3, 4, 8 * w + h) := by rw [hGk]; simp [va_up]
    have hG_b := hE9 _ _ hG_b
    have hG_a51 := hE9 _ _ hG_a51
    have hG_c51 := hE9 _ _ hG_c51
    have hT : cT cy Gk51 w51 := by rw [hGk]; exact hT.kind hO_q46 hM_q46 (by rw [← hGk]; exact ⟨_, _, _, _, _, _, _, _, rfl, hG_b, hG_a51, ⟨rfl, Or.inr (Or.inr (Or.inr ⟨rfl, _, rfl, hG_c51⟩))⟩⟩)
    have hX := hX.trN hN_q46 (show cX (some q46) (chs []) G51 w51 Gk51 w51 by rw [hGk]; exact cX.kind hO_q46)
    refine W.widen (k := 3) (n := 86) (Nat.le_of_ble_eq_true rfl) (Nat.le_of_ble_eq_true rfl) ?_
    exact W.aret (v := .ref q46) hx hb hr (Or.inl ⟨_, rfl⟩) (Or.inr ⟨_, rfl⟩) (fun t ht hW => ⟨⟨(some q46), (Gk51, w51), rfl, ⟨hX, ⟨_, rfl, (by unfold kcl; rw [if_neg s1_0, if_neg s1_1, if_pos s1_2]; exact hG_q46)⟩⟩, by show va_P D vwCl w51 t.heap; rw [ht]; exact hP, hD, hT⟩, hS.F ht⟩) hS.2.2 dX9_newJob_54
  refine lv_tableOut (tgt := 55) hx hb dX9_newJob_1 (by omega) (by decide) ?_
  refine t_new (C := RX3) (T := TX3) (N := 5) (ci := 2) (ty0 := tyX3) (fs := [.null, .null, .int 0, .long 0, .long 0]) hx hb hts (by decide +kernel) tyX3_ok hown (hts (.classLink RX9 15 RX3) (by decide +kernel)) (hts (.instantiable RX3 5) (by decide +kernel)) (hts (.initialized RX3) (by decide +kernel)) hK hP hD hS hA hT rfl (by decide +kernel) (Nat.le_of_ble_eq_true rfl) (Nat.le_of_ble_eq_true rfl) dX9_newJob_55 (fun q55 H w55 hM_q55 hO_q55 hF55 hX55 hk55 hP hD hT hS => ?_)
  have hN_q55 := hX.new0 hO_q55 hF55
  have hX := hX.tr (hX55 _ _)
  refine lv_dup hx hb dX9_newJob_58 rfl ?_
  refine lv_aload_n hx hb dX9_newJob_59 rfl (lv_at hl 1 rfl) ?_
  refine t_callv (va_runI (g := F0 m 60 ls ([.ref b, .ref q55, .ref q55])) (As := [.ref b]) (rest := [.ref q55]) (b := q55) ⟨hx, hb, hml, hown, hts⟩ (c_X3_init l D cy A G w55 q55 b hD hT hO_q55 hM_q55 hG_b (by unfold cKc; omega)) (cwI 1 hts gX9_newJob_X3_init rfl rfl rfl (hts (.initialized RX3) (by decide +kernel)) (hts (.methodLink RX9 301 yX3_init) (by decide +kernel)) (hts (.instanceMethod yX3_init) (by decide +kernel)) rfl (by decide +kernel) ⟨Nat.le_of_ble_eq_true rfl, Nat.le_of_ble_eq_true rfl⟩) (c_preS hP hK hA hS hV) rfl rfl hl.1 rfl (lv_room (Nat.le_of_ble_eq_true rfl)) dX9_newJob_60 ⟨Nat.le_of_ble_eq_true rfl, Nat.le_of_ble_eq_true rfl⟩) hS (fun u H locs q60 hP9 hD9 hT9 hS => ?_)
  obtain ⟨G60, w60⟩ := u
  obtain ⟨hX9, q60⟩ := q60
  have hX9 : cX (some q55) (chs []) G w55 G60 w60 := hX9
  have hP : va_P D vwCl w60 H := hP9
  have hD : va_D A w60 := hD9
  have hT : cT cy G60 w60 := hT9
  have hG_b := hX9.1 _ _ hG_b
  obtain ⟨hO_q55, a60, hG_a60, hM_q55⟩ := q60
  have hM_q55 : cIn w60 q55 (.inr (2, [.ref b, .ref a60, .int 3, .long 0, .long 0])) := hM_q55
  have hX := hX.trN hN_q55 hX9
  obtain ⟨Gk60, hGk⟩ : ∃ z, z = va_up G60 q55 (some (3, 2, 8 * w + h)) := ⟨_, rfl⟩
  have hE9 : cE G60 Gk60 := by rw [hGk]; exact cE.add hO_q55
  have hG_q55 : Gk60 q55 = some (3, 2, 8 * w + h) := by rw [hGk]; simp [va_up]
  have hG_b := hE9 _ _ hG_b
  have hG_a60 := hE9 _ _ hG_a60
  have hT : cT cy Gk60 w60 := by rw [hGk]; exact hT.kind hO_q55 hM_q55 (by rw [← hGk]; exact ⟨_, _, _, _, _, _, _, _, rfl, hG_b, hG_a60, ⟨rfl, Or.inr (Or.inl ⟨rfl, rfl⟩)⟩⟩)
  have hX := hX.trN hN_q55 (show cX (some q55) (chs []) G60 w60 Gk60 w60 by rw [hGk]; exact cX.kind hO_q55)
  refine W.widen (k := 3) (n := 86) (Nat.le_of_ble_eq_true rfl) (Nat.le_of_ble_eq_true rfl) ?_
  exact W.aret (v := .ref q55) hx hb hr (Or.inl ⟨_, rfl⟩) (Or.inr ⟨_, rfl⟩) (fun t ht hW => ⟨⟨(some q55), (Gk60, w60), rfl, ⟨hX, ⟨_, rfl, (by unfold kcl; rw [if_neg s1_0, if_neg s1_1, if_neg s1_2]; exact hG_q55)⟩⟩, by show va_P D vwCl w60 t.heap; rw [ht]; exact hP, hD, hT⟩, hS.F ht⟩) hS.2.2 dX9_newJob_63
set_option maxHeartbeats 4000000 in
set_option maxRecDepth 100000 in
theorem c_X9_job_y (l : Launch) (D : va_G) (cy : Nat → ClassId) (A : Nat → Prop) (G : cG) (ws : va_W) (o : Nat) (kind : Int32) (wide : Int32) (high : Int32) {bs_o js_o sh_o wk_o ll_o : Nat} {jc_o lc_o : Int32} {mo_o lb_o : Option Nat} {fa : Nat → Option Nat} {Wd Ht : Nat → Nat} (hD : va_D A ws) (hT : cT cy G ws) (hG_o : G o = some (7, 0, 0)) (hM_o : cIn ws o (.inr (8, [.ref bs_o, .ref js_o, .int jc_o, .ref sh_o, .ref wk_o, va_rf mo_o, .ref ll_o, .int lc_o, va_rf lb_o]))) (hM_js_o : cIn ws js_o (.inl (cy 4, cqa 8 fa)))  : Ci l D cy A yX9_job wsX9_job ({ frames := 6, cells := 7, slots := 588, locals := 124 }) 7 588 ws [.ref o, .int kind, .int wide, .int high] (fun r0 u => cX none (chs [1, 7, 8, 9]) G ws u.1 u.2 ∧ (r0.toInt = jA kind wide high jc_o ∧ ∃ jc lc lb fb, cIn u.2 o (.inr (8, [.ref bs_o, .ref js_o, .int jc, .ref sh_o, .ref wk_o, va_rf mo_o, .ref ll_o, .int lc, va_rf lb])) ∧ cIn u.2 js_o (.inl (cy 4, cqa 8 fb)) ∧ ((okJ kind wide high jc_o ∧ jc.toInt = jc_o.toInt + 1 ∧ ∃ x, fb = va_up fa jc_o.toNatClampNeg (some x) ∧ u.1 x = some (3, kcl kind, 8 * wide.toNatClampNeg + high.toNatClampNeg)) ∨ (¬ okJ kind wide high jc_o ∧ jc = jc_o ∧ fb = fa)))) := by
  refine Met.ofW (cc := cX9_job) (maxL := 5) (ret := (some .int)) (by decide) rfl ?_
  intro p e s m args below meth c s₁ B hml hv
  obtain ⟨rfl, hP, hK, hA, hV⟩ := hv
  have hx := B.exec
  have hb := B.bytes
  have hr := B.returns
  have hts := atoms_spec (ws := wsX9_job) B.pre
  have hown : s.vm.findClass RX9 = some m.cls := findClass_of_methodNamed B.named
  have hlocks := B.notSynchronized
  have hS : va_S A s.heap s.heap [] := va_S.rf
  have hX : cX none (chs [1, 7, 8, 9]) G ws G ws := cX.rf
  have hl := lv_entry ([.ref o, .int kind, .int wide, .int high]) (n := 5) (Nat.le_of_ble_eq_true rfl)
  rw [lg_entry_eq]
  generalize (lg_sl ([.ref o, .int kind, .int wide, .int high]) ++ List.replicate (5 - (lg_sl ([.ref o, .int kind, .int wide, .int high])).length) Slot.unset).toArray = ls at hl ⊢
  have hl : lv_has ls 5 [(0, .ref o), (1, .int kind), (2, .int wide), (3, .int high)] := hl
  have k_m2 : (-2 : Int32).toInt = -2 := by decide
  have k_m1 : (-1 : Int32).toInt = -1 := by decide
  have k_0 : (0 : Int32).toInt = 0 := by decide
  have k_1 : (1 : Int32).toInt = 1 := by decide
  have k_3 : (3 : Int32).toInt = 3 := by decide
  have k_8 : (8 : Int32).toInt = 8 := by decide
  obtain ⟨hjc_o, hlc_o, hG_bs_o, hG_js_o, hG_sh_o, hG_wk_o, hmo_o, hG_ll_o, hlb_o⟩ := w7sh hD hT hG_o hM_o
  have hf_js_o := w9sh hD hT hG_js_o hM_js_o
  refine lv_aload_n hx hb dX9_job_0 rfl (lv_at hl 0 rfl) ?_
  refine lv_iload_n hx hb dX9_job_1 rfl (lv_at hl 2 rfl) ?_
  refine lv_iload_n hx hb dX9_job_2 rfl (lv_at hl 3 rfl) ?_
  refine t_calla (va_runV (g := F0 m 3 ls ([.int high, .int wide, .ref o])) (As := [.int wide, .int high]) (rest := []) ⟨hx, hb, hml, hown, hts⟩ (c_X9_boardOf_x l D cy A G ws o wide high hD hT hG_o ) (cwV 2 hts gX9_job_X9_boardOf rfl rfl rfl (by decide +kernel) ⟨Nat.le_of_ble_eq_true rfl, Nat.le_of_ble_eq_true rfl⟩) (c_preV hM_o rfl hP hK hA hS hV) rfl rfl hl.1 rfl (lv_room (Nat.le_of_ble_eq_true rfl)) dX9_job_3 ⟨Nat.le_of_ble_eq_true rfl, Nat.le_of_ble_eq_true rfl⟩) hS (fun r3 u H locs q3 hP9 hD9 hT9 hS => ?_)
  obtain ⟨G3, w3⟩ := u
  obtain ⟨hX9, q3⟩ := q3
  have hX9 : cX none (chs [1, 8]) G ws G3 w3 := hX9
  have hP : va_P D vwCl w3 H := hP9
  have hD : va_D A w3 := hD9
  have hT : cT cy G3 w3 := hT9
  have hM_o := hX9.2.1 _ _ (cP.no hG_o rfl) hM_o
  have hM_js_o := hX9.2.1 _ _ (cP.no hG_js_o rfl) hM_js_o
  have hG_o := hX9.1 _ _ hG_o
  have hG_bs_o := hX9.1 _ _ hG_bs_o
  have hG_js_o := hX9.1 _ _ hG_js_o
  have hG_sh_o := hX9.1 _ _ hG_sh_o
  have hG_wk_o := hX9.1 _ _ hG_wk_o
  have hG_ll_o := hX9.1 _ _ hG_ll_o
  have hf_js_o := fun i9 x9 (h9 : i9 < 8) z9 => (hf_js_o i9 x9 h9 z9).elim fun k9 z8 => z8.elim fun n9 z7 => (⟨k9, n9, hX9.1 _ _ z7⟩ : ∃ k n, G3 x9 = some (3, k, n))
  have hmo_o := fun x9 z9 => hX9.1 _ _ (hmo_o x9 z9)
  have hlb_o : ∀ x9, lb_o = some x9 → ∃ w9 h9, _ = some (2, w9, h9) := fun x9 z9 => (hlb_o x9 z9).elim fun w9 z9 => z9.elim fun h9 z9 => ⟨w9, h9, hX9.1 _ _ z9⟩
  have hX := hX.tr (hX9.wk (chs_sub (by decide)))
  rcases r3 with _ | x3
  · skip
    have vn3 := q3.2.1 rfl
    refine lv_astoreN (lv' := [(4, .null), (0, .ref o), (1, .int kind), (2, .int wide), (3, .int high)]) hx hb dX9_job_6 hl (by decide) rfl (fun ls hl => ?_)
    refine lv_aloadN hx hb dX9_job_8 (lv_at hl 0 rfl) ?_
    refine lv_ifnullN (tgt := 22) hx hb dX9_job_10 (by decide) ?_
    refine lv_iconst (v := (-1)) hx hb dX9_job_22 (by decide) ?_
    refine W.widen (k := 7) (n := 588) (Nat.le_of_ble_eq_true rfl) (Nat.le_of_ble_eq_true rfl) ?_
    exact W.iret (v := ((-1) : Int32)) hx hb hr (fun t ht hW => ⟨⟨_, (G3, w3), rfl, ⟨hX, ⟨(by unfold jA; rw [if_neg (by omega)]; rfl), _, _, lb_o, _, hM_o, hM_js_o, (Or.inr ⟨(by unfold okJ; omega), rfl, rfl⟩)⟩⟩, by show va_P D vwCl w3 t.heap; rw [ht]; exact hP, hD, hT⟩, hS.F ht⟩) hS.2.2 dX9_job_23
  · skip
    have hG_x3 := q3.1 x3 rfl
    have vb3 := q3.2.2 x3 rfl
    refine lv_astore (lv' := [(4, .ref x3), (0, .ref o), (1, .int kind), (2, .int wide), (3, .int high)]) hx hb dX9_job_6 hl (by decide) rfl (fun ls hl => ?_)
    refine lv_aload hx hb dX9_job_8 (lv_at hl 0 rfl) ?_
    refine lv_ifnull hx hb dX9_job_10 ?_
    refine lv_iload_n hx hb dX9_job_13 rfl (lv_at hl 2 rfl) ?_
    refine lv_if_lt (tgt := 22) hx hb dX9_job_14 (by decide) (fun c14 => ?_) (fun c14 => ?_)
    · skip
      have d14 := c14
      rw [fa_lt] at d14
      refine lv_iconst (v := (-1)) hx hb dX9_job_22 (by decide) ?_
      refine W.widen (k := 7) (n := 588) (Nat.le_of_ble_eq_true rfl) (Nat.le_of_ble_eq_true rfl) ?_
      exact W.iret (v := ((-1) : Int32)) hx hb hr (fun t ht hW => ⟨⟨_, (G3, w3), rfl, ⟨hX, ⟨(by unfold jA; rw [if_neg (by omega)]; rfl), _, _, lb_o, _, hM_o, hM_js_o, (Or.inr ⟨(by unfold okJ; omega), rfl, rfl⟩)⟩⟩, by show va_P D vwCl w3 t.heap; rw [ht]; exact hP, hD, hT⟩, hS.F ht⟩) hS.2.2 dX9_job_23
    · skip
      have d14 := c14
      rw [fa_lt] at d14
      refine lv_iload_n hx hb dX9_job_17 rfl (lv_at hl 2 rfl) ?_
      refine lv_iconst (v := 3) hx hb dX9_job_18 (by decide) ?_
      refine lv_icmp_le (tgt := 24) hx hb dX9_job_19 (by decide) (fun c19 => ?_) (fun c19 => ?_)
      · skip
        have d19 := c19
        rw [fa_le] at d19
        refine lv_aload_n hx hb dX9_job_24 rfl (lv_at hl 1 rfl) ?_
        refine t_get (v := .int jc_o) (C := RX9) (T := TX9) (N := 9) hx hb hts (by decide +kernel) hown hK hP hM_o rfl 2 (by decide) (hts (.fieldLink RX9 21 "ShadowBench" "jobCount" "I") (by decide +kernel)) (fun _ h9 => h9) rfl dX9_job_25 ?_
        refine lv_bipush (v := 8) hx hb dX9_job_28 (by decide) ?_
        refine lv_icmp_lt (tgt := 36) hx hb dX9_job_30 (by decide) (fun c30 => ?_) (fun c30 => ?_)
        · skip
          have d30 := c30
          rw [fa_lt] at d30
          refine lv_aload_n hx hb dX9_job_36 rfl (lv_at hl 1 rfl) ?_
          refine t_get (v := .ref js_o) (C := RX9) (T := TX9) (N := 9) hx hb hts (by decide +kernel) hown hK hP hM_o rfl 1 (by decide) (hts (.fieldLink RX9 17 "ShadowBench" "jobs" "[LShadowBench$Job;") (by decide +kernel)) (fun _ h9 => h9) rfl dX9_job_37 ?_
          refine lv_aload_n hx hb dX9_job_40 rfl (lv_at hl 1 rfl) ?_
          refine t_get (v := .int jc_o) (C := RX9) (T := TX9) (N := 9) hx hb hts (by decide +kernel) hown hK hP hM_o rfl 2 (by decide) (hts (.fieldLink RX9 21 "ShadowBench" "jobCount" "I") (by decide +kernel)) (fun _ h9 => h9) rfl dX9_job_41 ?_
          refine lv_iload_n hx hb dX9_job_44 rfl (lv_at hl 2 rfl) ?_
          refine lv_aload hx hb dX9_job_45 (lv_at hl 0 rfl) ?_
          refine t_calla (va_runS (g := F0 m 47 ls ([.ref x3, .int kind, .int jc_o, .ref js_o])) (As := [.int kind, .ref x3]) (rest := [.int jc_o, .ref js_o]) ⟨hx, hb, hml, hown, hts⟩ (c_X9_newJob_x l D cy A G3 w3 kind x3 hD hT hG_x3 ) (va_cwS 2 hts gX9_job_X9_newJob rfl rfl rfl (by decide +kernel) ⟨Nat.le_of_ble_eq_true rfl, Nat.le_of_ble_eq_true rfl⟩) (c_preS hP hK hA hS hV) rfl rfl hl.1 rfl (lv_room (Nat.le_of_ble_eq_true rfl)) dX9_job_47 ⟨Nat.le_of_ble_eq_true rfl, Nat.le_of_ble_eq_true rfl⟩) hS (fun r47 u H locs q47 hP9 hD9 hT9 hS => ?_)
          obtain ⟨G47, w47⟩ := u
          obtain ⟨hX9, q47⟩ := q47
          have hX9 : cX none (chs []) G3 w3 G47 w47 := hX9
          have hP : va_P D vwCl w47 H := hP9
          have hD : va_D A w47 := hD9
          have hT : cT cy G47 w47 := hT9
          have hM_o := hX9.2.1 _ _ (cP.no hG_o rfl) hM_o
          have hM_js_o := hX9.2.1 _ _ (cP.no hG_js_o rfl) hM_js_o
          have hG_o := hX9.1 _ _ hG_o
          have hG_bs_o := hX9.1 _ _ hG_bs_o
          have hG_js_o := hX9.1 _ _ hG_js_o
          have hG_sh_o := hX9.1 _ _ hG_sh_o
          have hG_wk_o := hX9.1 _ _ hG_wk_o
          have hG_ll_o := hX9.1 _ _ hG_ll_o
          have hG_x3 := hX9.1 _ _ hG_x3
          have hf_js_o := fun i9 x9 (h9 : i9 < 8) z9 => (hf_js_o i9 x9 h9 z9).elim fun k9 z8 => z8.elim fun n9 z7 => (⟨k9, n9, hX9.1 _ _ z7⟩ : ∃ k n, G47 x9 = some (3, k, n))
          have hmo_o := fun x9 z9 => hX9.1 _ _ (hmo_o x9 z9)
          have hlb_o : ∀ x9, lb_o = some x9 → ∃ w9 h9, _ = some (2, w9, h9) := fun x9 z9 => (hlb_o x9 z9).elim fun w9 z9 => z9.elim fun h9 z9 => ⟨w9, h9, hX9.1 _ _ z9⟩
          have hX := hX.tr (hX9.wk (chs_sub (by decide)))
          obtain ⟨x47, rfl, hG_x47⟩ := q47
          refine t_aast9f hx hb hV hK hP hD hS hT hG_js_o hM_js_o hf_js_o hG_x47 (vp_in_iff.mpr ⟨by omega, by omega⟩) dX9_job_50 (fun H locs w50 hU50 hM9_js_o hf9_js_o hP hD hT hS => ?_)
          have hM_o := hU50 _ _ (cne hG_o hG_js_o (show (7 : Nat) ≠ 9 by decide)) hM_o
          have hM_js_o := hM9_js_o
          have hf_js_o := hf9_js_o
          have hX := hX.tr (cX.uF hU50 (Or.inr ⟨_, hG_js_o, rfl⟩))
          refine lv_aload_n hx hb dX9_job_51 rfl (lv_at hl 1 rfl) ?_
          refine lv_dup hx hb dX9_job_52 rfl ?_
          refine t_get (v := .int jc_o) (C := RX9) (T := TX9) (N := 9) hx hb hts (by decide +kernel) hown hK hP hM_o rfl 2 (by decide) (hts (.fieldLink RX9 21 "ShadowBench" "jobCount" "I") (by decide +kernel)) (fun _ h9 => h9) rfl dX9_job_53 ?_
          refine lv_iconst (v := 1) hx hb dX9_job_56 (by decide) ?_
          refine lv_iadd hx hb dX9_job_57 ?_
          refine lv_topi (fun v57 e57 => ?_)
          have i57 : v57.toInt = jc_o.toInt + (1 : Int32).toInt := by rw [e57]; exact fb_addI (by omega) (by omega)
          refine t_put (v := .int v57) (C := RX9) (T := TX9) (N := 9) (ty0 := tyX9) hx hb hts (by decide +kernel) tyX9_ok nmX9 hown hK hP hD hS hM_o rfl 2 (by decide) (hts (.fieldLink RX9 21 "ShadowBench" "jobCount" "I") (by decide +kernel)) (fun _ h9 => h9) rfl rfl rfl (Nat.le_of_ble_eq_true rfl) dX9_job_58 (fun H locs w58 hU58 hP hD hS => ?_)
          have hM_js_o := hU58.2 _ _ (cne hG_js_o hG_o (show (9 : Nat) ≠ 7 by decide)) hM_js_o
          have hT := hT.up hU58 hG_o ⟨_, _, _, _, _, _, _, mo_o, lb_o, rfl, ⟨by omega, by omega⟩, ⟨by omega, by omega⟩, hG_bs_o, hG_js_o, hG_sh_o, hG_wk_o, hmo_o, hG_ll_o, hlb_o⟩
          have hM_o : cIn w58 o (.inr (8, [.ref bs_o, .ref js_o, .int v57, .ref sh_o, .ref wk_o, va_rf mo_o, .ref ll_o, .int lc_o, va_rf lb_o])) := hU58.1
          have hX := hX.tr (cX.up hU58 (Or.inr ⟨_, hG_o, rfl⟩))
          refine lv_aload_n hx hb dX9_job_61 rfl (lv_at hl 1 rfl) ?_
          refine t_get (v := .int v57) (C := RX9) (T := TX9) (N := 9) hx hb hts (by decide +kernel) hown hK hP hM_o rfl 2 (by decide) (hts (.fieldLink RX9 21 "ShadowBench" "jobCount" "I") (by decide +kernel)) (fun _ h9 => h9) rfl dX9_job_62 ?_
          refine lv_iconst (v := 1) hx hb dX9_job_65 (by decide) ?_
          refine lv_isub hx hb dX9_job_66 ?_
          refine lv_topi (fun v66 e66 => ?_)
          have i66 : v66.toInt = v57.toInt - (1 : Int32).toInt := by rw [e66]; exact fb_subI (by omega) (by omega)
          refine W.widen (k := 7) (n := 588) (Nat.le_of_ble_eq_true rfl) (Nat.le_of_ble_eq_true rfl) ?_
          exact W.iret (v := v66) hx hb hr (fun t ht hW => ⟨⟨_, (G47, w58), rfl, ⟨hX, ⟨(by unfold jA; rw [if_pos (by omega), if_pos (by omega)]; omega), _, _, lb_o, _, hM_o, hM_js_o, (Or.inl ⟨(by unfold okJ; omega), (by omega), _, rfl, hG_x47⟩)⟩⟩, by show va_P D vwCl w58 t.heap; rw [ht]; exact hP, hD, hT⟩, hS.F ht⟩) hS.2.2 dX9_job_67
        · skip
          have d30 := c30
          rw [fa_lt] at d30
          refine lv_bipush (v := (-2)) hx hb dX9_job_33 (by decide) ?_
          refine W.widen (k := 7) (n := 588) (Nat.le_of_ble_eq_true rfl) (Nat.le_of_ble_eq_true rfl) ?_
          exact W.iret (v := ((-2) : Int32)) hx hb hr (fun t ht hW => ⟨⟨_, (G3, w3), rfl, ⟨hX, ⟨(by unfold jA; rw [if_pos (by omega), if_neg (by omega)]; rfl), _, _, lb_o, _, hM_o, hM_js_o, (Or.inr ⟨(by unfold okJ; omega), rfl, rfl⟩)⟩⟩, by show va_P D vwCl w3 t.heap; rw [ht]; exact hP, hD, hT⟩, hS.F ht⟩) hS.2.2 dX9_job_35
      · skip
        have d19 := c19
        rw [fa_le] at d19
        refine lv_iconst (v := (-1)) hx hb dX9_job_22 (by decide) ?_
        refine W.widen (k := 7) (n := 588) (Nat.le_of_ble_eq_true rfl) (Nat.le_of_ble_eq_true rfl) ?_
        exact W.iret (v := ((-1) : Int32)) hx hb hr (fun t ht hW => ⟨⟨_, (G3, w3), rfl, ⟨hX, ⟨(by unfold jA; rw [if_neg (by omega)]; rfl), _, _, lb_o, _, hM_o, hM_js_o, (Or.inr ⟨(by unfold okJ; omega), rfl, rfl⟩)⟩⟩, by show va_P D vwCl w3 t.heap; rw [ht]; exact hP, hD, hT⟩, hS.F ht⟩) hS.2.2 dX9_job_23
set_option maxHeartbeats 4000000 in
set_option maxRecDepth 100000 in
theorem c_X9_thingToKeep_nx (l : Launch) (D : va_G) (cy : Nat → ClassId) (A : Nat → Prop) (G : cG) (ws : va_W) (what : Int32) (p0 : Int64)  (hD : va_D A ws) (hT : cT cy G ws)   : Ca l D cy A yX9_thingToKeep wsX9_thingToKeep ({ frames := 0, cells := 0, slots := 0, locals := 0 }) 0 0 ws [.int what, .null, .long p0] (fun r0 u => cX none (chs [3, 14, 16]) G ws u.1 u.2 ∧ (r0 = none)) := by
  refine Met.ofW (cc := cX9_thingToKeep) (maxL := 4) (ret := (some (.object "ShadowBench$Held"))) (by decide) rfl ?_
  intro p e s m args below meth c s₁ B hml hv
  obtain ⟨rfl, hP, hK, hA, hV⟩ := hv
  have hx := B.exec
  have hb := B.bytes
  have hr := B.returns
  have hts := atoms_spec (ws := wsX9_thingToKeep) B.pre
  have hown : s.vm.findClass RX9 = some m.cls := findClass_of_methodNamed B.named
  have hlocks := B.notSynchronized
  have hS : va_S A s.heap s.heap [] := va_S.rf
  have hX : cX none (chs [3, 14, 16]) G ws G ws := cX.rf
  have hl := lv_entry ([.int what, .null, .long p0]) (n := 4) (Nat.le_of_ble_eq_true rfl)
  rw [lg_entry_eq]
  generalize (lg_sl ([.int what, .null, .long p0]) ++ List.replicate (4 - (lg_sl ([.int what, .null, .long p0])).length) Slot.unset).toArray = ls at hl ⊢
  have hl : lv_has ls 4 [(0, .int what), (1, .null), (2, .long p0)] := hl
  have k_0 : (0 : Int32).toInt = 0 := by decide
  refine lv_aload_nN hx hb dX9_thingToKeep_0 rfl (lv_at hl 1 rfl) ?_
  refine lv_ifnonnullN hx hb dX9_thingToKeep_1 ?_
  refine lv_null hx hb dX9_thingToKeep_4 ?_
  exact W.aret (v := .null) hx hb hr (Or.inl ⟨_, rfl⟩) (Or.inl rfl) (fun t ht hW => ⟨⟨none, (G, ws), rfl, ⟨hX, rfl⟩, by show va_P D vwCl ws t.heap; rw [ht]; exact hP, hD, hT⟩, hS.F ht⟩) hS.2.2 dX9_thingToKeep_5
set_option maxHeartbeats 4000000 in
set_option maxRecDepth 100000 in
theorem c_X9_thingToKeep_x (l : Launch) (D : va_G) (cy : Nat → ClassId) (A : Nat → Prop) (G : cG) (ws : va_W) (what : Int32) (x1 : Nat) (p0 : Int64) {k1 wq hq : Nat} (hD : va_D A ws) (hT : cT cy G ws) (hG_x1 : G x1 = some (3, k1, 8 * wq + hq)) (hs1 : 1 ≤ wq ∧ wq ≤ 6 ∧ 1 ≤ hq ∧ hq ≤ 6) : Ca l D cy A yX9_thingToKeep wsX9_thingToKeep ({ frames := 6, cells := 3, slots := 86, locals := 123 }) 3 86 ws [.int what, .ref x1, .long p0] (fun r0 u => cX none (chs [3, 14, 16]) G ws u.1 u.2 ∧ ((r0 = none ∧ ¬ (what.toInt = 1 ∨ what.toInt = 4 ∨ (what.toInt = 3 ∧ isPic (wq * hq) p0))) ∨ ((∃ x k n, r0 = some x ∧ u.1 x = some (3, k, n)) ∧ (what.toInt = 1 ∨ what.toInt = 4 ∨ (what.toInt = 3 ∧ isPic (wq * hq) p0))) ∨ ((∃ x n, r0 = some x ∧ u.1 x = some (4, n, 0)) ∧ (what.toInt = 1 ∨ what.toInt = 4 ∨ (what.toInt = 3 ∧ isPic (wq * hq) p0))))) := by
  refine Met.ofW (cc := cX9_thingToKeep) (maxL := 4) (ret := (some (.object "ShadowBench$Held"))) (by decide) rfl ?_
  intro p e s m args below meth c s₁ B hml hv
  obtain ⟨rfl, hP, hK, hA, hV⟩ := hv
  have hx := B.exec
  have hb := B.bytes
  have hr := B.returns
  have hts := atoms_spec (ws := wsX9_thingToKeep) B.pre
  have hown : s.vm.findClass RX9 = some m.cls := findClass_of_methodNamed B.named
  have hlocks := B.notSynchronized
  have hS : va_S A s.heap s.heap [] := va_S.rf
  have hinJ : ∀ w ∈ wsX10 ++ wsX30 ++ wsX40 ++ wsX50, w ∈ wsX9_thingToKeep := by decide +kernel
  have hX : cX none (chs [3, 14, 16]) G ws G ws := cX.rf
  have hl := lv_entry ([.int what, .ref x1, .long p0]) (n := 4) (Nat.le_of_ble_eq_true rfl)
  rw [lg_entry_eq]
  generalize (lg_sl ([.int what, .ref x1, .long p0]) ++ List.replicate (4 - (lg_sl ([.int what, .ref x1, .long p0])).length) Slot.unset).toArray = ls at hl ⊢
  have hl : lv_has ls 4 [(0, .int what), (1, .ref x1), (2, .long p0)] := hl
  have k_0 : (0 : Int32).toInt = 0 := by decide
  have k_1 : (1 : Int32).toInt = 1 := by decide
  have k_3 : (3 : Int32).toInt = 3 := by decide
  have k_4 : (4 : Int32).toInt = 4 := by decide
  refine lv_aload_n hx hb dX9_thingToKeep_0 rfl (lv_at hl 1 rfl) ?_
  refine lv_ifnonnull (tgt := 6) hx hb dX9_thingToKeep_1 (by decide) ?_
  refine lv_iload_n hx hb dX9_thingToKeep_6 rfl (lv_at hl 0 rfl) ?_
  refine lv_iconst (v := 1) hx hb dX9_thingToKeep_7 (by decide) ?_
  refine lv_icmp_ne (tgt := 16) hx hb dX9_thingToKeep_8 (by decide) (fun c8 => ?_) (fun c8 => ?_)
  · skip
    have d8 := c8
    rw [fa_eq] at d8
    refine lv_iload_n hx hb dX9_thingToKeep_16 rfl (lv_at hl 0 rfl) ?_
    refine lv_iconst (v := 3) hx hb dX9_thingToKeep_17 (by decide) ?_
    refine lv_icmp_ne (tgt := 41) hx hb dX9_thingToKeep_18 (by decide) (fun c18 => ?_) (fun c18 => ?_)
    · skip
      have d18 := c18
      rw [fa_eq] at d18
      refine lv_iload_n hx hb dX9_thingToKeep_41 rfl (lv_at hl 0 rfl) ?_
      refine lv_iconst (v := 4) hx hb dX9_thingToKeep_42 (by decide) ?_
      refine lv_icmp_ne (tgt := 53) hx hb dX9_thingToKeep_43 (by decide) (fun c43 => ?_) (fun c43 => ?_)
      · skip
        have d43 := c43
        rw [fa_eq] at d43
        refine lv_null hx hb dX9_thingToKeep_53 ?_
        refine W.widen (k := 3) (n := 86) (Nat.le_of_ble_eq_true rfl) (Nat.le_of_ble_eq_true rfl) ?_
        exact W.aret (v := .null) hx hb hr (Or.inl ⟨_, rfl⟩) (Or.inl rfl) (fun t ht hW => ⟨⟨none, (G, ws), rfl, ⟨hX, Or.inl ⟨rfl, (by rintro (z9 | z9 | ⟨z9, z8⟩) <;> first | omega | exact b29 z8)⟩⟩, by show va_P D vwCl ws t.heap; rw [ht]; exact hP, hD, hT⟩, hS.F ht⟩) hS.2.2 dX9_thingToKeep_54
      · skip
        have d43 := c43
        rw [fa_eq] at d43
        refine lv_aload_n hx hb dX9_thingToKeep_46 rfl (lv_at hl 1 rfl) ?_
        refine t_calla (va_runS (g := F0 m 47 ls ([.ref x1])) (As := [.ref x1]) (rest := []) ⟨hx, hb, hml, hown, hts⟩ (c_X9_sumsOf l D cy A G ws x1 hD hT hG_x1 ) (va_cwS 1 hts gX9_thingToKeep_X9_sumsOf rfl rfl rfl (by decide +kernel) ⟨Nat.le_of_ble_eq_true rfl, Nat.le_of_ble_eq_true rfl⟩) (c_preS hP hK hA hS hV) rfl rfl hl.1 rfl (lv_room (Nat.le_of_ble_eq_true rfl)) dX9_thingToKeep_47 ⟨Nat.le_of_ble_eq_true rfl, Nat.le_of_ble_eq_true rfl⟩) hS (fun r47 u H locs q47 hP9 hD9 hT9 hS => ?_)
        obtain ⟨G47, w47⟩ := u
        obtain ⟨hX9, q47⟩ := q47
        have hX9 : cX none (chs [16]) G ws G47 w47 := hX9
        have hP : va_P D vwCl w47 H := hP9
        have hD : va_D A w47 := hD9
        have hT : cT cy G47 w47 := hT9
        have hG_x1 := hX9.1 _ _ hG_x1
        have hX := hX.tr (hX9.wk (chs_sub (by decide)))
        obtain ⟨x47, n47, rfl, hG_x47⟩ := q47
        refine lv_goto (tgt := 54) hx hb dX9_thingToKeep_50 (by decide) ?_
        refine W.widen (k := 3) (n := 86) (Nat.le_of_ble_eq_true rfl) (Nat.le_of_ble_eq_true rfl) ?_
        exact W.aret (v := .ref x47) hx hb hr (Or.inl ⟨_, rfl⟩) (Or.inr ⟨_, rfl⟩) (fun t ht hW => ⟨⟨(some x47), (G47, w47), rfl, ⟨hX, Or.inr (Or.inr ⟨⟨_, _, rfl, hG_x47⟩, (by first | exact Or.inr (Or.inr ⟨by omega, b29⟩) | exact Or.inr (Or.inl (by omega)))⟩)⟩, by show va_P D vwCl w47 t.heap; rw [ht]; exact hP, hD, hT⟩, hS.F ht⟩) hS.2.2 dX9_thingToKeep_54
    · skip
      have d18 := c18
      rw [fa_eq] at d18
      refine lv_aload_n hx hb dX9_thingToKeep_21 rfl (lv_at hl 1 rfl) ?_
      obtain ⟨_, hM_x1, b_x1, s_x1, w_x1, h_x1, t_x1, x_x1, y_x1, ms_x1, rfl, hG_b_x1, hG_s_x1, hJ_x1⟩ := hT _ _ hG_x1
      refine t_getJ (v := .ref b_x1) hx hb hts hinJ hown hK hP hJ_x1.kc hM_x1 0 (by decide) (hts (.fieldLink RX9 65 "ShadowBench$Job" "board" "LShadowBench$Board;") (by decide +kernel)) (fun _ h9 => h9) rfl dX9_thingToKeep_22 ?_
      refine lv_lload_n hx hb dX9_thingToKeep_25 rfl (lv_at hl 2 rfl) ?_
      obtain ⟨_, hM_b_x1, hb_b_x1, l_b_x1, f_b_x1, r_b_x1, rfl, hG_l_b_x1, hG_f_b_x1, hG_r_b_x1⟩ := hT _ _ hG_b_x1
      refine t_calli (va_runV (g := F0 m 26 ls ([.long p0, .ref b_x1])) (As := [.long p0]) (rest := []) ⟨hx, hb, hml, hown, hts⟩ (c_X0_isPicture_x l D cy A G ws b_x1 p0 hD hT hG_b_x1 ) (cwV 1 hts gX9_thingToKeep_X0_isPicture rfl rfl rfl (by decide +kernel) ⟨Nat.le_of_ble_eq_true rfl, Nat.le_of_ble_eq_true rfl⟩) (c_preV hM_b_x1 rfl hP hK hA hS hV) rfl rfl hl.1 rfl (lv_room (Nat.le_of_ble_eq_true rfl)) dX9_thingToKeep_26 ⟨Nat.le_of_ble_eq_true rfl, Nat.le_of_ble_eq_true rfl⟩) hS (fun r26 u H locs q26 hP9 hD9 hT9 hS => ?_)
      obtain ⟨rfl, q26⟩ := q26
      have hP : va_P D vwCl ws H := hP9
      have bb9 := c_hb hT hG_b_x1
      have ee9 : w_x1 = wq ∧ h_x1 = hq := by have z9 := hJ_x1.1; omega
      rw [ee9.1, ee9.2] at q26
      refine lv_if_eq (tgt := 41) hx hb dX9_thingToKeep_29 (by decide) (fun c29 => ?_) (fun c29 => ?_)
      · skip
        have b29 := bo_f q26 c29
        refine lv_iload_n hx hb dX9_thingToKeep_41 rfl (lv_at hl 0 rfl) ?_
        refine lv_iconst (v := 4) hx hb dX9_thingToKeep_42 (by decide) ?_
        refine lv_icmp_ne (tgt := 53) hx hb dX9_thingToKeep_43 (by decide) (fun c43 => ?_) (fun c43 => ?_)
        · skip
          have d43 := c43
          rw [fa_eq] at d43
          refine lv_null hx hb dX9_thingToKeep_53 ?_
          refine W.widen (k := 3) (n := 86) (Nat.le_of_ble_eq_true rfl) (Nat.le_of_ble_eq_true rfl) ?_
          exact W.aret (v := .null) hx hb hr (Or.inl ⟨_, rfl⟩) (Or.inl rfl) (fun t ht hW => ⟨⟨none, (G, ws), rfl, ⟨hX, Or.inl ⟨rfl, (by rintro (z9 | z9 | ⟨z9, z8⟩) <;> first | omega | exact b29 z8)⟩⟩, by show va_P D vwCl ws t.heap; rw [ht]; exact hP, hD, hT⟩, hS.F ht⟩) hS.2.2 dX9_thingToKeep_54
        · skip
          have d43 := c43
          rw [fa_eq] at d43
          refine lv_aload_n hx hb dX9_thingToKeep_46 rfl (lv_at hl 1 rfl) ?_
          refine t_calla (va_runS (g := F0 m 47 ls ([.ref x1])) (As := [.ref x1]) (rest := []) ⟨hx, hb, hml, hown, hts⟩ (c_X9_sumsOf l D cy A G ws x1 hD hT hG_x1 ) (va_cwS 1 hts gX9_thingToKeep_X9_sumsOf rfl rfl rfl (by decide +kernel) ⟨Nat.le_of_ble_eq_true rfl, Nat.le_of_ble_eq_true rfl⟩) (c_preS hP hK hA hS hV) rfl rfl hl.1 rfl (lv_room (Nat.le_of_ble_eq_true rfl)) dX9_thingToKeep_47 ⟨Nat.le_of_ble_eq_true rfl, Nat.le_of_ble_eq_true rfl⟩) hS (fun r47 u H locs q47 hP9 hD9 hT9 hS => ?_)
          obtain ⟨G47, w47⟩ := u
          obtain ⟨hX9, q47⟩ := q47
          have hX9 : cX none (chs [16]) G ws G47 w47 := hX9
          have hP : va_P D vwCl w47 H := hP9
          have hD : va_D A w47 := hD9
          have hT : cT cy G47 w47 := hT9
          have hM_x1 := hX9.2.1 _ _ (cP.no hG_x1 rfl) hM_x1
          have hM_b_x1 := hX9.2.1 _ _ (cP.no hG_b_x1 rfl) hM_b_x1
          have hG_x1 := hX9.1 _ _ hG_x1
          have hG_b_x1 := hX9.1 _ _ hG_b_x1
          have hG_s_x1 := hX9.1 _ _ hG_s_x1
          have hG_l_b_x1 := hX9.1 _ _ hG_l_b_x1
          have hG_f_b_x1 := hX9.1 _ _ hG_f_b_x1
          have hG_r_b_x1 := hX9.1 _ _ hG_r_b_x1
          have hX := hX.tr (hX9.wk (chs_sub (by decide)))
          obtain ⟨x47, n47, rfl, hG_x47⟩ := q47
          refine lv_goto (tgt := 54) hx hb dX9_thingToKeep_50 (by decide) ?_
          refine W.widen (k := 3) (n := 86) (Nat.le_of_ble_eq_true rfl) (Nat.le_of_ble_eq_true rfl) ?_
          exact W.aret (v := .ref x47) hx hb hr (Or.inl ⟨_, rfl⟩) (Or.inr ⟨_, rfl⟩) (fun t ht hW => ⟨⟨(some x47), (G47, w47), rfl, ⟨hX, Or.inr (Or.inr ⟨⟨_, _, rfl, hG_x47⟩, (by first | exact Or.inr (Or.inr ⟨by omega, b29⟩) | exact Or.inr (Or.inl (by omega)))⟩)⟩, by show va_P D vwCl w47 t.heap; rw [ht]; exact hP, hD, hT⟩, hS.F ht⟩) hS.2.2 dX9_thingToKeep_54
      · skip
        have b29 := bo_t q26 c29
        refine lv_aload_n hx hb dX9_thingToKeep_32 rfl (lv_at hl 1 rfl) ?_
        refine t_getJ (v := .ref b_x1) hx hb hts hinJ hown hK hP hJ_x1.kc hM_x1 0 (by decide) (hts (.fieldLink RX9 65 "ShadowBench$Job" "board" "LShadowBench$Board;") (by decide +kernel)) (fun _ h9 => h9) rfl dX9_thingToKeep_33 ?_
        refine lv_lload_n hx hb dX9_thingToKeep_36 rfl (lv_at hl 2 rfl) ?_
        refine t_calla (va_runS (g := F0 m 37 ls ([.long p0, .ref b_x1])) (As := [.ref b_x1, .long p0]) (rest := []) ⟨hx, hb, hml, hown, hts⟩ (c_X9_squaresOf l D cy A G ws b_x1 p0 hD hT hG_b_x1 ) (va_cwS 2 hts gX9_thingToKeep_X9_squaresOf rfl rfl rfl (by decide +kernel) ⟨Nat.le_of_ble_eq_true rfl, Nat.le_of_ble_eq_true rfl⟩) (c_preS hP hK hA hS hV) rfl rfl hl.1 rfl (lv_room (Nat.le_of_ble_eq_true rfl)) dX9_thingToKeep_37 ⟨Nat.le_of_ble_eq_true rfl, Nat.le_of_ble_eq_true rfl⟩) hS (fun r37 u H locs q37 hP9 hD9 hT9 hS => ?_)
        obtain ⟨G37, w37⟩ := u
        obtain ⟨hX9, q37⟩ := q37
        have hX9 : cX none (chs [16]) G ws G37 w37 := hX9
        have hP : va_P D vwCl w37 H := hP9
        have hD : va_D A w37 := hD9
        have hT : cT cy G37 w37 := hT9
        have hM_x1 := hX9.2.1 _ _ (cP.no hG_x1 rfl) hM_x1
        have hM_b_x1 := hX9.2.1 _ _ (cP.no hG_b_x1 rfl) hM_b_x1
        have hG_x1 := hX9.1 _ _ hG_x1
        have hG_b_x1 := hX9.1 _ _ hG_b_x1
        have hG_s_x1 := hX9.1 _ _ hG_s_x1
        have hG_l_b_x1 := hX9.1 _ _ hG_l_b_x1
        have hG_f_b_x1 := hX9.1 _ _ hG_f_b_x1
        have hG_r_b_x1 := hX9.1 _ _ hG_r_b_x1
        have hX := hX.tr (hX9.wk (chs_sub (by decide)))
        obtain ⟨x37, n37, rfl, hG_x37⟩ := q37
        refine W.widen (k := 3) (n := 86) (Nat.le_of_ble_eq_true rfl) (Nat.le_of_ble_eq_true rfl) ?_
        exact W.aret (v := .ref x37) hx hb hr (Or.inl ⟨_, rfl⟩) (Or.inr ⟨_, rfl⟩) (fun t ht hW => ⟨⟨(some x37), (G37, w37), rfl, ⟨hX, Or.inr (Or.inr ⟨⟨_, _, rfl, hG_x37⟩, (by first | exact Or.inr (Or.inr ⟨by omega, b29⟩) | exact Or.inr (Or.inl (by omega)))⟩)⟩, by show va_P D vwCl w37 t.heap; rw [ht]; exact hP, hD, hT⟩, hS.F ht⟩) hS.2.2 dX9_thingToKeep_40
  · skip
    have d8 := c8
    rw [fa_eq] at d8
    refine lv_aload_n hx hb dX9_thingToKeep_11 rfl (lv_at hl 1 rfl) ?_
    obtain ⟨_, hM_x1, b_x1, s_x1, w_x1, h_x1, t_x1, x_x1, y_x1, ms_x1, rfl, hG_b_x1, hG_s_x1, hJ_x1⟩ := hT _ _ hG_x1
    have hJ9 := hJ_x1
    obtain ⟨hn9, hJ9⟩ := hJ9
    rcases hJ9 with ⟨rfl, rfl⟩ | ⟨rfl, rfl⟩ | ⟨rfl, rfl⟩ | ⟨rfl, c9, rfl, hG_c9⟩
    · skip
      have hM_x1 : cIn ws x1 (.inr (1, [.ref b_x1, .ref s_x1, .int t_x1, .long x_x1, .long y_x1])) := hM_x1
      refine t_calla (va_runU (g := F0 m 12 ls ([.ref x1])) (As := []) (rest := []) ⟨hx, hb, hml, hown, hts⟩ (c_X1_asItIs l D cy A G ws x1 hD hT hG_x1 ) (va_cwO 0 hts gX9_thingToKeep_X1_asItIs_u321X1 rfl rfl rfl (b0 := cX3_asItIs) (m0 := 1) (r0 := (some (.object "ShadowBench$Job"))) (by decide +kernel) (by decide +kernel) ⟨Nat.le_of_ble_eq_true rfl, Nat.le_of_ble_eq_true rfl⟩) (c_preV hM_x1 rfl hP hK hA hS hV) rfl rfl hl.1 rfl (lv_room (Nat.le_of_ble_eq_true rfl)) dX9_thingToKeep_12 ⟨Nat.le_of_ble_eq_true rfl, Nat.le_of_ble_eq_true rfl⟩) hS (fun r12 u H locs q12 hP9 hD9 hT9 hS => ?_)
      obtain ⟨G12, w12⟩ := u
      obtain ⟨hX9, q12⟩ := q12
      have hX9 : cX none (chs [3, 14]) G ws G12 w12 := hX9
      have hP : va_P D vwCl w12 H := hP9
      have hD : va_D A w12 := hD9
      have hT : cT cy G12 w12 := hT9
      have hG_x1 := hX9.1 _ _ hG_x1
      have hG_b_x1 := hX9.1 _ _ hG_b_x1
      have hG_s_x1 := hX9.1 _ _ hG_s_x1
      have hX := hX.tr (hX9.wk (chs_sub (by decide)))
      obtain ⟨x12, k12, n12, rfl, hG_x12⟩ := q12
      refine W.widen (k := 3) (n := 86) (Nat.le_of_ble_eq_true rfl) (Nat.le_of_ble_eq_true rfl) ?_
      exact W.aret (v := .ref x12) hx hb hr (Or.inl ⟨_, rfl⟩) (Or.inr ⟨_, rfl⟩) (fun t ht hW => ⟨⟨(some x12), (G12, w12), rfl, ⟨hX, Or.inr (Or.inl ⟨⟨_, _, _, rfl, hG_x12⟩, Or.inl (by omega)⟩)⟩, by show va_P D vwCl w12 t.heap; rw [ht]; exact hP, hD, hT⟩, hS.F ht⟩) hS.2.2 dX9_thingToKeep_15
    · skip
      have hM_x1 : cIn ws x1 (.inr (2, [.ref b_x1, .ref s_x1, .int t_x1, .long x_x1, .long y_x1])) := hM_x1
      refine t_calla (va_runV (g := F0 m 12 ls ([.ref x1])) (As := []) (rest := []) ⟨hx, hb, hml, hown, hts⟩ (c_X3_asItIs l D cy A G ws x1 hD hT hG_x1 ) (cwV 0 hts gX9_thingToKeep_X3_asItIs rfl rfl rfl (by decide +kernel) ⟨Nat.le_of_ble_eq_true rfl, Nat.le_of_ble_eq_true rfl⟩) (c_preV hM_x1 rfl hP hK hA hS hV) rfl rfl hl.1 rfl (lv_room (Nat.le_of_ble_eq_true rfl)) dX9_thingToKeep_12 ⟨Nat.le_of_ble_eq_true rfl, Nat.le_of_ble_eq_true rfl⟩) hS (fun r12 u H locs q12 hP9 hD9 hT9 hS => ?_)
      obtain ⟨G12, w12⟩ := u
      obtain ⟨hX9, q12⟩ := q12
      have hX9 : cX none (chs [3, 14]) G ws G12 w12 := hX9
      have hP : va_P D vwCl w12 H := hP9
      have hD : va_D A w12 := hD9
      have hT : cT cy G12 w12 := hT9
      have hG_x1 := hX9.1 _ _ hG_x1
      have hG_b_x1 := hX9.1 _ _ hG_b_x1
      have hG_s_x1 := hX9.1 _ _ hG_s_x1
      have hX := hX.tr (hX9.wk (chs_sub (by decide)))
      obtain ⟨x12, k12, n12, rfl, hG_x12⟩ := q12
      refine W.widen (k := 3) (n := 86) (Nat.le_of_ble_eq_true rfl) (Nat.le_of_ble_eq_true rfl) ?_
      exact W.aret (v := .ref x12) hx hb hr (Or.inl ⟨_, rfl⟩) (Or.inr ⟨_, rfl⟩) (fun t ht hW => ⟨⟨(some x12), (G12, w12), rfl, ⟨hX, Or.inr (Or.inl ⟨⟨_, _, _, rfl, hG_x12⟩, Or.inl (by omega)⟩)⟩, by show va_P D vwCl w12 t.heap; rw [ht]; exact hP, hD, hT⟩, hS.F ht⟩) hS.2.2 dX9_thingToKeep_15
    · skip
      have hM_x1 : cIn ws x1 (.inr (3, [.ref b_x1, .ref s_x1, .int t_x1, .long x_x1, .long y_x1])) := hM_x1
      refine t_calla (va_runU (g := F0 m 12 ls ([.ref x1])) (As := []) (rest := []) ⟨hx, hb, hml, hown, hts⟩ (c_X4_asItIs l D cy A G ws x1 hD hT hG_x1 ) (va_cwO 0 hts gX9_thingToKeep_X4_asItIs_u321X4 rfl rfl rfl (b0 := cX3_asItIs) (m0 := 1) (r0 := (some (.object "ShadowBench$Job"))) (by decide +kernel) (by decide +kernel) ⟨Nat.le_of_ble_eq_true rfl, Nat.le_of_ble_eq_true rfl⟩) (c_preV hM_x1 rfl hP hK hA hS hV) rfl rfl hl.1 rfl (lv_room (Nat.le_of_ble_eq_true rfl)) dX9_thingToKeep_12 ⟨Nat.le_of_ble_eq_true rfl, Nat.le_of_ble_eq_true rfl⟩) hS (fun r12 u H locs q12 hP9 hD9 hT9 hS => ?_)
      obtain ⟨G12, w12⟩ := u
      obtain ⟨hX9, q12⟩ := q12
      have hX9 : cX none (chs [3, 14]) G ws G12 w12 := hX9
      have hP : va_P D vwCl w12 H := hP9
      have hD : va_D A w12 := hD9
      have hT : cT cy G12 w12 := hT9
      have hG_x1 := hX9.1 _ _ hG_x1
      have hG_b_x1 := hX9.1 _ _ hG_b_x1
      have hG_s_x1 := hX9.1 _ _ hG_s_x1
      have hX := hX.tr (hX9.wk (chs_sub (by decide)))
      obtain ⟨x12, k12, n12, rfl, hG_x12⟩ := q12
      refine W.widen (k := 3) (n := 86) (Nat.le_of_ble_eq_true rfl) (Nat.le_of_ble_eq_true rfl) ?_
      exact W.aret (v := .ref x12) hx hb hr (Or.inl ⟨_, rfl⟩) (Or.inr ⟨_, rfl⟩) (fun t ht hW => ⟨⟨(some x12), (G12, w12), rfl, ⟨hX, Or.inr (Or.inl ⟨⟨_, _, _, rfl, hG_x12⟩, Or.inl (by omega)⟩)⟩, by show va_P D vwCl w12 t.heap; rw [ht]; exact hP, hD, hT⟩, hS.F ht⟩) hS.2.2 dX9_thingToKeep_15
    · skip
      have hM_x1 : cIn ws x1 (.inr (4, [.ref b_x1, .ref s_x1, .int t_x1, .long x_x1, .long y_x1, .ref c9])) := hM_x1
      have hn36 := cb_mul (c_hb hT hG_b_x1)
      refine t_calla (va_runU (g := F0 m 12 ls ([.ref x1])) (As := []) (rest := []) ⟨hx, hb, hml, hown, hts⟩ (c_X5_asItIs l D cy A G ws x1 hD hT hG_x1 ) (va_cwO 0 hts gX9_thingToKeep_X5_asItIs_u321X5 rfl rfl rfl (b0 := cX3_asItIs) (m0 := 1) (r0 := (some (.object "ShadowBench$Job"))) (by decide +kernel) (by decide +kernel) ⟨Nat.le_of_ble_eq_true rfl, Nat.le_of_ble_eq_true rfl⟩) (c_preV hM_x1 rfl hP hK hA hS hV) rfl rfl hl.1 rfl (lv_room (Nat.le_of_ble_eq_true rfl)) dX9_thingToKeep_12 ⟨Nat.le_of_ble_eq_true rfl, Nat.le_of_ble_eq_true rfl⟩) hS (fun r12 u H locs q12 hP9 hD9 hT9 hS => ?_)
      obtain ⟨G12, w12⟩ := u
      obtain ⟨hX9, q12⟩ := q12
      have hX9 : cX none (chs [3, 14]) G ws G12 w12 := hX9
      have hP : va_P D vwCl w12 H := hP9
      have hD : va_D A w12 := hD9
      have hT : cT cy G12 w12 := hT9
      have hG_x1 := hX9.1 _ _ hG_x1
      have hG_b_x1 := hX9.1 _ _ hG_b_x1
      have hG_s_x1 := hX9.1 _ _ hG_s_x1
      have hG_c9 := hX9.1 _ _ hG_c9
      have hX := hX.tr (hX9.wk (chs_sub (by decide)))
      obtain ⟨x12, k12, n12, rfl, hG_x12⟩ := q12
      refine W.widen (k := 3) (n := 86) (Nat.le_of_ble_eq_true rfl) (Nat.le_of_ble_eq_true rfl) ?_
      exact W.aret (v := .ref x12) hx hb hr (Or.inl ⟨_, rfl⟩) (Or.inr ⟨_, rfl⟩) (fun t ht hW => ⟨⟨(some x12), (G12, w12), rfl, ⟨hX, Or.inr (Or.inl ⟨⟨_, _, _, rfl, hG_x12⟩, Or.inl (by omega)⟩)⟩, by show va_P D vwCl w12 t.heap; rw [ht]; exact hP, hD, hT⟩, hS.F ht⟩) hS.2.2 dX9_thingToKeep_15
set_option maxHeartbeats 4000000 in
set_option maxRecDepth 100000 in
theorem c_X9_keep_x (l : Launch) (D : va_G) (cy : Nat → ClassId) (A : Nat → Prop) (G : cG) (ws : va_W) (o : Nat) (d : Int32) (what : Int32) (k0 : Int32) (p0 : Int64) {bs_o js_o sh_o wk_o ll_o : Nat} {jc_o lc_o : Int32} {mo_o lb_o : Option Nat} {fa : Nat → Option Nat} {Wd Ht : Nat → Nat} (hD : va_D A ws) (hT : cT cy G ws) (hG_o : G o = some (7, 0, 0)) (hM_o : cIn ws o (.inr (8, [.ref bs_o, .ref js_o, .int jc_o, .ref sh_o, .ref wk_o, va_rf mo_o, .ref ll_o, .int lc_o, va_rf lb_o]))) (hM_js_o : cIn ws js_o (.inl (cy 4, cqa 8 fa))) (hJ : jobsAre G fa jc_o Wd Ht) : Ci l D cy A yX9_keep wsX9_keep ({ frames := 7, cells := 3, slots := 86, locals := 146 }) 3 86 ws [.ref o, .int d, .int what, .int k0, .long p0] (fun r0 u => cX none (chs [3, 10, 14, 16]) G ws u.1 u.2 ∧ (yesNo (okKeep jc_o Wd Ht d what k0 p0) 0 (-1) r0)) := by
  refine Met.ofW (cc := cX9_keep) (maxL := 7) (ret := (some .int)) (by decide) rfl ?_
  intro p e s m args below meth c s₁ B hml hv
  obtain ⟨rfl, hP, hK, hA, hV⟩ := hv
  have hx := B.exec
  have hb := B.bytes
  have hr := B.returns
  have hts := atoms_spec (ws := wsX9_keep) B.pre
  have hown : s.vm.findClass RX9 = some m.cls := findClass_of_methodNamed B.named
  have hlocks := B.notSynchronized
  have hS : va_S A s.heap s.heap [] := va_S.rf
  have hX : cX none (chs [3, 10, 14, 16]) G ws G ws := cX.rf
  have hl := lv_entry ([.ref o, .int d, .int what, .int k0, .long p0]) (n := 7) (Nat.le_of_ble_eq_true rfl)
  rw [lg_entry_eq]
  generalize (lg_sl ([.ref o, .int d, .int what, .int k0, .long p0]) ++ List.replicate (7 - (lg_sl ([.ref o, .int d, .int what, .int k0, .long p0])).length) Slot.unset).toArray = ls at hl ⊢
  have hl : lv_has ls 7 [(0, .ref o), (1, .int d), (2, .int what), (3, .int k0), (4, .long p0)] := hl
  have k_m1 : (-1 : Int32).toInt = -1 := by decide
  have k_0 : (0 : Int32).toInt = 0 := by decide
  obtain ⟨hjc_o, hlc_o, hG_bs_o, hG_js_o, hG_sh_o, hG_wk_o, hmo_o, hG_ll_o, hlb_o⟩ := w7sh hD hT hG_o hM_o
  have hf_js_o := w9sh hD hT hG_js_o hM_js_o
  refine lv_iload_n hx hb dX9_keep_0 rfl (lv_at hl 1 rfl) ?_
  refine t_pu (As := [.int d]) (rest := []) ⟨hx, hb, hml, hown, hts⟩ (c_X9_isShelf l d ) (va_cwS 1 hts gX9_keep_X9_isShelf rfl rfl rfl (by decide +kernel) ⟨Nat.le_of_ble_eq_true rfl, Nat.le_of_ble_eq_true rfl⟩) hP rfl hl.1 rfl (Nat.le_of_ble_eq_true rfl) dX9_keep_1 ⟨Nat.le_of_ble_eq_true rfl, Nat.le_of_ble_eq_true rfl⟩ hS (fun r1 H locs q1 hP hS => ?_)
  refine lv_if_ne (tgt := 9) hx hb dX9_keep_4 (by decide) (fun c4 => ?_) (fun c4 => ?_)
  · skip
    have b4 := bo_t q1 c4
    refine lv_iload_n hx hb dX9_keep_9 rfl (lv_at hl 2 rfl) ?_
    refine lv_if_ne (tgt := 22) hx hb dX9_keep_10 (by decide) (fun c10 => ?_) (fun c10 => ?_)
    · skip
      have d10 := c10
      rw [fa_eq] at d10
      refine lv_iload_n hx hb dX9_keep_22 rfl (lv_at hl 2 rfl) ?_
      refine lv_aload_n hx hb dX9_keep_23 rfl (lv_at hl 0 rfl) ?_
      refine lv_iload_n hx hb dX9_keep_24 rfl (lv_at hl 3 rfl) ?_
      refine t_calla (va_runV (g := F0 m 25 ls ([.int k0, .ref o, .int what])) (As := [.int k0]) (rest := [.int what]) ⟨hx, hb, hml, hown, hts⟩ (c_X9_jobOf_x l D cy A G ws o k0 hD hT hG_o hM_o hM_js_o hJ) (cwV 1 hts gX9_keep_X9_jobOf rfl rfl rfl (by decide +kernel) ⟨Nat.le_of_ble_eq_true rfl, Nat.le_of_ble_eq_true rfl⟩) (c_preV hM_o rfl hP hK hA hS hV) rfl rfl hl.1 rfl (lv_room (Nat.le_of_ble_eq_true rfl)) dX9_keep_25 ⟨Nat.le_of_ble_eq_true rfl, Nat.le_of_ble_eq_true rfl⟩) hS (fun r25 u H locs q25 hP9 hD9 hT9 hS => ?_)
      obtain ⟨rfl, q25⟩ := q25
      have hP : va_P D vwCl ws H := hP9
      rcases r25 with _ | x25
      · skip
        have vn25 := q25.2 rfl
        refine lv_lload hx hb dX9_keep_28 (lv_at hl 4 rfl) ?_
        refine t_calla (va_runS (g := F0 m 30 ls ([.long p0, .null, .int what])) (As := [.int what, .null, .long p0]) (rest := []) ⟨hx, hb, hml, hown, hts⟩ (c_X9_thingToKeep_nx l D cy A G ws what p0 hD hT ) (va_cwS 3 hts gX9_keep_X9_thingToKeep rfl rfl rfl (by decide +kernel) ⟨Nat.le_of_ble_eq_true rfl, Nat.le_of_ble_eq_true rfl⟩) (c_preS hP hK hA hS hV) rfl rfl hl.1 rfl (lv_room (Nat.le_of_ble_eq_true rfl)) dX9_keep_30 ⟨Nat.le_of_ble_eq_true rfl, Nat.le_of_ble_eq_true rfl⟩) hS (fun r30 u H locs q30 hP9 hD9 hT9 hS => ?_)
        obtain ⟨G30, w30⟩ := u
        obtain ⟨hX9, q30⟩ := q30
        have hX9 : cX none (chs [3, 14, 16]) G ws G30 w30 := hX9
        have hP : va_P D vwCl w30 H := hP9
        have hD : va_D A w30 := hD9
        have hT : cT cy G30 w30 := hT9
        have hM_o := hX9.2.1 _ _ (cP.no hG_o rfl) hM_o
        have hM_js_o := hX9.2.1 _ _ (cP.no hG_js_o rfl) hM_js_o
        have hG_o := hX9.1 _ _ hG_o
        have hG_bs_o := hX9.1 _ _ hG_bs_o
        have hG_js_o := hX9.1 _ _ hG_js_o
        have hG_sh_o := hX9.1 _ _ hG_sh_o
        have hG_wk_o := hX9.1 _ _ hG_wk_o
        have hG_ll_o := hX9.1 _ _ hG_ll_o
        have hf_js_o := fun i9 x9 (h9 : i9 < 8) z9 => (hf_js_o i9 x9 h9 z9).elim fun k9 z8 => z8.elim fun n9 z7 => (⟨k9, n9, hX9.1 _ _ z7⟩ : ∃ k n, G30 x9 = some (3, k, n))
        have hmo_o := fun x9 z9 => hX9.1 _ _ (hmo_o x9 z9)
        have hlb_o : ∀ x9, lb_o = some x9 → ∃ w9 h9, _ = some (2, w9, h9) := fun x9 z9 => (hlb_o x9 z9).elim fun w9 z9 => z9.elim fun h9 z9 => ⟨w9, h9, hX9.1 _ _ z9⟩
        have hX := hX.tr (hX9.wk (chs_sub (by decide)))
        subst q30
        refine lv_astoreN (lv' := [(6, .null), (0, .ref o), (1, .int d), (2, .int what), (3, .int k0), (4, .long p0)]) hx hb dX9_keep_33 hl (by decide) rfl (fun ls hl => ?_)
        refine lv_aloadN hx hb dX9_keep_35 (lv_at hl 0 rfl) ?_
        refine lv_ifnonnullN hx hb dX9_keep_37 ?_
        refine lv_iconst (v := (-1)) hx hb dX9_keep_40 (by decide) ?_
        refine W.widen (k := 3) (n := 86) (Nat.le_of_ble_eq_true rfl) (Nat.le_of_ble_eq_true rfl) ?_
        exact W.iret (v := ((-1) : Int32)) hx hb hr (fun t ht hW => ⟨⟨_, (G30, w30), rfl, ⟨hX, (Or.inr ⟨(fun z9 => by rcases z9.2 with z8 | ⟨z8, z7⟩ | ⟨z8, z7, z6⟩; (omega); (first | exact vn25 z7 | exact qn30 (z8.elim Or.inl (fun z5 => Or.inr (Or.inl z5)))); (first | exact vn25 z7 | exact qn30 (Or.inr (Or.inr ⟨z8, z6⟩)))), rfl⟩)⟩, by show va_P D vwCl w30 t.heap; rw [ht]; exact hP, hD, hT⟩, hS.F ht⟩) hS.2.2 dX9_keep_41
      · skip
        obtain ⟨vj25, kx25, hs25, hG_x25⟩ := q25.1 x25 rfl
        refine lv_lload hx hb dX9_keep_28 (lv_at hl 4 rfl) ?_
        refine t_calla (va_runS (g := F0 m 30 ls ([.long p0, .ref x25, .int what])) (As := [.int what, .ref x25, .long p0]) (rest := []) ⟨hx, hb, hml, hown, hts⟩ (c_X9_thingToKeep_x l D cy A G ws what x25 p0 hD hT hG_x25 (by omega)) (va_cwS 3 hts gX9_keep_X9_thingToKeep rfl rfl rfl (by decide +kernel) ⟨Nat.le_of_ble_eq_true rfl, Nat.le_of_ble_eq_true rfl⟩) (c_preS hP hK hA hS hV) rfl rfl hl.1 rfl (lv_room (Nat.le_of_ble_eq_true rfl)) dX9_keep_30 ⟨Nat.le_of_ble_eq_true rfl, Nat.le_of_ble_eq_true rfl⟩) hS (fun r30 u H locs q30 hP9 hD9 hT9 hS => ?_)
        obtain ⟨G30, w30⟩ := u
        obtain ⟨hX9, q30⟩ := q30
        have hX9 : cX none (chs [3, 14, 16]) G ws G30 w30 := hX9
        have hP : va_P D vwCl w30 H := hP9
        have hD : va_D A w30 := hD9
        have hT : cT cy G30 w30 := hT9
        have hM_o := hX9.2.1 _ _ (cP.no hG_o rfl) hM_o
        have hM_js_o := hX9.2.1 _ _ (cP.no hG_js_o rfl) hM_js_o
        have hG_o := hX9.1 _ _ hG_o
        have hG_bs_o := hX9.1 _ _ hG_bs_o
        have hG_js_o := hX9.1 _ _ hG_js_o
        have hG_sh_o := hX9.1 _ _ hG_sh_o
        have hG_wk_o := hX9.1 _ _ hG_wk_o
        have hG_ll_o := hX9.1 _ _ hG_ll_o
        have hG_x25 := hX9.1 _ _ hG_x25
        have hf_js_o := fun i9 x9 (h9 : i9 < 8) z9 => (hf_js_o i9 x9 h9 z9).elim fun k9 z8 => z8.elim fun n9 z7 => (⟨k9, n9, hX9.1 _ _ z7⟩ : ∃ k n, G30 x9 = some (3, k, n))
        have hmo_o := fun x9 z9 => hX9.1 _ _ (hmo_o x9 z9)
        have hlb_o : ∀ x9, lb_o = some x9 → ∃ w9 h9, _ = some (2, w9, h9) := fun x9 z9 => (hlb_o x9 z9).elim fun w9 z9 => z9.elim fun h9 z9 => ⟨w9, h9, hX9.1 _ _ z9⟩
        have hX := hX.tr (hX9.wk (chs_sub (by decide)))
        rcases q30 with ⟨rfl, qn30⟩ | ⟨⟨x30, k30, n30, rfl, hG_x30⟩, qn30⟩ | ⟨⟨x30, n30, rfl, hG_x30⟩, qn30⟩
        · skip
          refine lv_astoreN (lv' := [(6, .null), (0, .ref o), (1, .int d), (2, .int what), (3, .int k0), (4, .long p0)]) hx hb dX9_keep_33 hl (by decide) rfl (fun ls hl => ?_)
          refine lv_aloadN hx hb dX9_keep_35 (lv_at hl 0 rfl) ?_
          refine lv_ifnonnullN hx hb dX9_keep_37 ?_
          refine lv_iconst (v := (-1)) hx hb dX9_keep_40 (by decide) ?_
          refine W.widen (k := 3) (n := 86) (Nat.le_of_ble_eq_true rfl) (Nat.le_of_ble_eq_true rfl) ?_
          exact W.iret (v := ((-1) : Int32)) hx hb hr (fun t ht hW => ⟨⟨_, (G30, w30), rfl, ⟨hX, (Or.inr ⟨(fun z9 => by rcases z9.2 with z8 | ⟨z8, z7⟩ | ⟨z8, z7, z6⟩; (omega); (first | exact vn25 z7 | exact qn30 (z8.elim Or.inl (fun z5 => Or.inr (Or.inl z5)))); (first | exact vn25 z7 | exact qn30 (Or.inr (Or.inr ⟨z8, z6⟩)))), rfl⟩)⟩, by show va_P D vwCl w30 t.heap; rw [ht]; exact hP, hD, hT⟩, hS.F ht⟩) hS.2.2 dX9_keep_41
        · skip
          refine lv_astore (lv' := [(6, .ref x30), (0, .ref o), (1, .int d), (2, .int what), (3, .int k0), (4, .long p0)]) hx hb dX9_keep_33 hl (by decide) rfl (fun ls hl => ?_)
          refine lv_aload hx hb dX9_keep_35 (lv_at hl 0 rfl) ?_
          refine lv_ifnonnull (tgt := 42) hx hb dX9_keep_37 (by decide) ?_
          refine lv_aload_n hx hb dX9_keep_42 rfl (lv_at hl 1 rfl) ?_
          refine t_get (v := .ref sh_o) (C := RX9) (T := TX9) (N := 9) hx hb hts (by decide +kernel) hown hK hP hM_o rfl 3 (by decide) (hts (.fieldLink RX9 27 "ShadowBench" "shelves" "[LShadowBench$Held;") (by decide +kernel)) (fun _ h9 => h9) rfl dX9_keep_43 ?_
          refine lv_iload_n hx hb dX9_keep_46 rfl (lv_at hl 2 rfl) ?_
          refine lv_aload hx hb dX9_keep_47 (lv_at hl 0 rfl) ?_
          refine t_aast10 hx hb hV hK hP hD hS hT hG_sh_o (Or.inl ⟨_, _, hG_x30⟩) (vp_in_iff.mpr ⟨by omega, by omega⟩) dX9_keep_49 (fun H locs w49 hU49 hP hD hT hS => ?_)
          have hM_o := hU49 _ _ (cne hG_o hG_sh_o (show (7 : Nat) ≠ 10 by decide)) hM_o
          have hM_js_o := hU49 _ _ (cne hG_js_o hG_sh_o (show (9 : Nat) ≠ 10 by decide)) hM_js_o
          have hX := hX.tr (cX.uF hU49 (Or.inr ⟨_, hG_sh_o, rfl⟩))
          refine lv_iconst (v := 0) hx hb dX9_keep_50 (by decide) ?_
          refine W.widen (k := 3) (n := 86) (Nat.le_of_ble_eq_true rfl) (Nat.le_of_ble_eq_true rfl) ?_
          exact W.iret (v := (0 : Int32)) hx hb hr (fun t ht hW => ⟨⟨_, (G30, w49), rfl, ⟨hX, (Or.inl ⟨⟨(by omega), (by rcases qn30 with z9 | z9 | ⟨z9, z8⟩; exact Or.inr (Or.inl ⟨Or.inl z9, vj25⟩); exact Or.inr (Or.inl ⟨Or.inr z9, vj25⟩); exact Or.inr (Or.inr ⟨z9, vj25, z8⟩))⟩, rfl⟩)⟩, by show va_P D vwCl w49 t.heap; rw [ht]; exact hP, hD, hT⟩, hS.F ht⟩) hS.2.2 dX9_keep_51
        · skip
          refine lv_astore (lv' := [(6, .ref x30), (0, .ref o), (1, .int d), (2, .int what), (3, .int k0), (4, .long p0)]) hx hb dX9_keep_33 hl (by decide) rfl (fun ls hl => ?_)
          refine lv_aload hx hb dX9_keep_35 (lv_at hl 0 rfl) ?_
          refine lv_ifnonnull (tgt := 42) hx hb dX9_keep_37 (by decide) ?_
          refine lv_aload_n hx hb dX9_keep_42 rfl (lv_at hl 1 rfl) ?_
          refine t_get (v := .ref sh_o) (C := RX9) (T := TX9) (N := 9) hx hb hts (by decide +kernel) hown hK hP hM_o rfl 3 (by decide) (hts (.fieldLink RX9 27 "ShadowBench" "shelves" "[LShadowBench$Held;") (by decide +kernel)) (fun _ h9 => h9) rfl dX9_keep_43 ?_
          refine lv_iload_n hx hb dX9_keep_46 rfl (lv_at hl 2 rfl) ?_
          refine lv_aload hx hb dX9_keep_47 (lv_at hl 0 rfl) ?_
          refine t_aast10 hx hb hV hK hP hD hS hT hG_sh_o (Or.inr ⟨_, hG_x30⟩) (vp_in_iff.mpr ⟨by omega, by omega⟩) dX9_keep_49 (fun H locs w49 hU49 hP hD hT hS => ?_)
          have hM_o := hU49 _ _ (cne hG_o hG_sh_o (show (7 : Nat) ≠ 10 by decide)) hM_o
          have hM_js_o := hU49 _ _ (cne hG_js_o hG_sh_o (show (9 : Nat) ≠ 10 by decide)) hM_js_o
          have hX := hX.tr (cX.uF hU49 (Or.inr ⟨_, hG_sh_o, rfl⟩))
          refine lv_iconst (v := 0) hx hb dX9_keep_50 (by decide) ?_
          refine W.widen (k := 3) (n := 86) (Nat.le_of_ble_eq_true rfl) (Nat.le_of_ble_eq_true rfl) ?_
          exact W.iret (v := (0 : Int32)) hx hb hr (fun t ht hW => ⟨⟨_, (G30, w49), rfl, ⟨hX, (Or.inl ⟨⟨(by omega), (by rcases qn30 with z9 | z9 | ⟨z9, z8⟩; exact Or.inr (Or.inl ⟨Or.inl z9, vj25⟩); exact Or.inr (Or.inl ⟨Or.inr z9, vj25⟩); exact Or.inr (Or.inr ⟨z9, vj25, z8⟩))⟩, rfl⟩)⟩, by show va_P D vwCl w49 t.heap; rw [ht]; exact hP, hD, hT⟩, hS.F ht⟩) hS.2.2 dX9_keep_51
    · skip
      have d10 := c10
      rw [fa_eq] at d10
      refine lv_aload_n hx hb dX9_keep_13 rfl (lv_at hl 0 rfl) ?_
      refine t_get (v := .ref sh_o) (C := RX9) (T := TX9) (N := 9) hx hb hts (by decide +kernel) hown hK hP hM_o rfl 3 (by decide) (hts (.fieldLink RX9 27 "ShadowBench" "shelves" "[LShadowBench$Held;") (by decide +kernel)) (fun _ h9 => h9) rfl dX9_keep_14 ?_
      refine lv_iload_n hx hb dX9_keep_17 rfl (lv_at hl 1 rfl) ?_
      refine lv_null hx hb dX9_keep_18 ?_
      refine t_aastN hx hb hK hP hD hS hT hG_sh_o (vp_in_iff.mpr ⟨by omega, by omega⟩) dX9_keep_19 (fun H locs w19 hU19 hP hD hT hS => ?_)
      have hM_o := hU19 _ _ (cne hG_o hG_sh_o (show (7 : Nat) ≠ 10 by decide)) hM_o
      have hM_js_o := hU19 _ _ (cne hG_js_o hG_sh_o (show (9 : Nat) ≠ 10 by decide)) hM_js_o
      have hX := hX.tr (cX.uF hU19 (Or.inr ⟨_, hG_sh_o, rfl⟩))
      refine lv_iconst (v := 0) hx hb dX9_keep_20 (by decide) ?_
      refine W.widen (k := 3) (n := 86) (Nat.le_of_ble_eq_true rfl) (Nat.le_of_ble_eq_true rfl) ?_
      exact W.iret (v := (0 : Int32)) hx hb hr (fun t ht hW => ⟨⟨_, (G, w19), rfl, ⟨hX, (Or.inl ⟨⟨(by omega), Or.inl (by omega)⟩, rfl⟩)⟩, by show va_P D vwCl w19 t.heap; rw [ht]; exact hP, hD, hT⟩, hS.F ht⟩) hS.2.2 dX9_keep_21
  · skip
    have b4 := bo_f q1 c4
    refine lv_iconst (v := (-1)) hx hb dX9_keep_7 (by decide) ?_
    refine W.widen (k := 3) (n := 86) (Nat.le_of_ble_eq_true rfl) (Nat.le_of_ble_eq_true rfl) ?_
    exact W.iret (v := ((-1) : Int32)) hx hb hr (fun t ht hW => ⟨⟨_, (G, ws), rfl, ⟨hX, (Or.inr ⟨(fun z9 => b4 z9.1), rfl⟩)⟩, by show va_P D vwCl ws t.heap; rw [ht]; exact hP, hD, hT⟩, hS.F ht⟩) hS.2.2 dX9_keep_8
set_option maxHeartbeats 4000000 in
set_option maxRecDepth 100000 in
theorem c_X9_list_k (l : Launch) (D : va_G) (cy : Nat → ClassId) (A : Nat → Prop) (G : cG) (ws : va_W) (o : Nat) (wide : Int32) (high : Int32) (p0 : Int64) {bs_o js_o sh_o wk_o ll_o : Nat} {jc_o lc_o : Int32} {mo_o lb_o : Option Nat} (hD : va_D A ws) (hT : cT cy G ws) (hG_o : G o = some (7, 0, 0)) (hM_o : cIn ws o (.inr (8, [.ref bs_o, .ref js_o, .int jc_o, .ref sh_o, .ref wk_o, va_rf mo_o, .ref ll_o, .int lc_o, va_rf lb_o])))  : Ci l D cy A yX9_list wsX9_list ({ frames := 5, cells := 4, slots := 502, locals := 116 }) 4 502 ws [.ref o, .int wide, .int high, .long p0] (fun r0 u => cX none (chs [1, 7, 8, 17]) G ws u.1 u.2 ∧ (∃ lc lb, cIn u.2 o (.inr (8, [.ref bs_o, .ref js_o, .int jc_o, .ref sh_o, .ref wk_o, va_rf mo_o, .ref ll_o, .int lc, va_rf lb])))) := by
  refine Met.ofW (cc := cX9_list) (maxL := 6) (ret := (some .int)) (by decide) rfl ?_
  intro p e s m args below meth c s₁ B hml hv
  obtain ⟨rfl, hP, hK, hA, hV⟩ := hv
  have hx := B.exec
  have hb := B.bytes
  have hr := B.returns
  have hts := atoms_spec (ws := wsX9_list) B.pre
  have hown : s.vm.findClass RX9 = some m.cls := findClass_of_methodNamed B.named
  have hlocks := B.notSynchronized
  have hS : va_S A s.heap s.heap [] := va_S.rf
  have hX : cX none (chs [1, 7, 8, 17]) G ws G ws := cX.rf
  have hl := lv_entry ([.ref o, .int wide, .int high, .long p0]) (n := 6) (Nat.le_of_ble_eq_true rfl)
  rw [lg_entry_eq]
  generalize (lg_sl ([.ref o, .int wide, .int high, .long p0]) ++ List.replicate (6 - (lg_sl ([.ref o, .int wide, .int high, .long p0])).length) Slot.unset).toArray = ls at hl ⊢
  have hl : lv_has ls 6 [(0, .ref o), (1, .int wide), (2, .int high), (3, .long p0)] := hl
  have k_m3 : (-3 : Int32).toInt = -3 := by decide
  have k_m2 : (-2 : Int32).toInt = -2 := by decide
  have k_m1 : (-1 : Int32).toInt = -1 := by decide
  have k_0 : (0 : Int32).toInt = 0 := by decide
  have k_1 : (1 : Int32).toInt = 1 := by decide
  have k_12 : (12 : Int32).toInt = 12 := by decide
  obtain ⟨hjc_o, hlc_o, hG_bs_o, hG_js_o, hG_sh_o, hG_wk_o, hmo_o, hG_ll_o, hlb_o⟩ := w7sh hD hT hG_o hM_o
  refine lv_aload_n hx hb dX9_list_0 rfl (lv_at hl 0 rfl) ?_
  refine lv_iload_n hx hb dX9_list_1 rfl (lv_at hl 1 rfl) ?_
  refine lv_iload_n hx hb dX9_list_2 rfl (lv_at hl 2 rfl) ?_
  refine t_calla (va_runV (g := F0 m 3 ls ([.int high, .int wide, .ref o])) (As := [.int wide, .int high]) (rest := []) ⟨hx, hb, hml, hown, hts⟩ (c_X9_boardOf l D cy A G ws o wide high hD hT hG_o ) (cwV 2 hts gX9_list_X9_boardOf rfl rfl rfl (by decide +kernel) ⟨Nat.le_of_ble_eq_true rfl, Nat.le_of_ble_eq_true rfl⟩) (c_preV hM_o rfl hP hK hA hS hV) rfl rfl hl.1 rfl (lv_room (Nat.le_of_ble_eq_true rfl)) dX9_list_3 ⟨Nat.le_of_ble_eq_true rfl, Nat.le_of_ble_eq_true rfl⟩) hS (fun r3 u H locs q3 hP9 hD9 hT9 hS => ?_)
  obtain ⟨G3, w3⟩ := u
  obtain ⟨hX9, q3⟩ := q3
  have hX9 : cX none (chs [1, 8]) G ws G3 w3 := hX9
  have hP : va_P D vwCl w3 H := hP9
  have hD : va_D A w3 := hD9
  have hT : cT cy G3 w3 := hT9
  have hM_o := hX9.2.1 _ _ (cP.no hG_o rfl) hM_o
  have hG_o := hX9.1 _ _ hG_o
  have hG_bs_o := hX9.1 _ _ hG_bs_o
  have hG_js_o := hX9.1 _ _ hG_js_o
  have hG_sh_o := hX9.1 _ _ hG_sh_o
  have hG_wk_o := hX9.1 _ _ hG_wk_o
  have hG_ll_o := hX9.1 _ _ hG_ll_o
  have hmo_o := fun x9 z9 => hX9.1 _ _ (hmo_o x9 z9)
  have hlb_o : ∀ x9, lb_o = some x9 → ∃ w9 h9, _ = some (2, w9, h9) := fun x9 z9 => (hlb_o x9 z9).elim fun w9 z9 => z9.elim fun h9 z9 => ⟨w9, h9, hX9.1 _ _ z9⟩
  have hX := hX.tr (hX9.wk (chs_sub (by decide)))
  rcases r3 with _ | x3
  · skip
    refine lv_astoreN (lv' := [(5, .null), (0, .ref o), (1, .int wide), (2, .int high), (3, .long p0)]) hx hb dX9_list_6 hl (by decide) rfl (fun ls hl => ?_)
    refine lv_aloadN hx hb dX9_list_8 (lv_at hl 0 rfl) ?_
    refine lv_ifnullN (tgt := 22) hx hb dX9_list_10 (by decide) ?_
    refine lv_iconst (v := (-1)) hx hb dX9_list_22 (by decide) ?_
    refine W.widen (k := 4) (n := 502) (Nat.le_of_ble_eq_true rfl) (Nat.le_of_ble_eq_true rfl) ?_
    exact W.iret (v := ((-1) : Int32)) hx hb hr (fun t ht hW => ⟨⟨_, (G3, w3), rfl, ⟨hX, ⟨_, lb_o, hM_o⟩⟩, by show va_P D vwCl w3 t.heap; rw [ht]; exact hP, hD, hT⟩, hS.F ht⟩) hS.2.2 dX9_list_23
  · skip
    have hG_x3 := q3 x3 rfl
    refine lv_astore (lv' := [(5, .ref x3), (0, .ref o), (1, .int wide), (2, .int high), (3, .long p0)]) hx hb dX9_list_6 hl (by decide) rfl (fun ls hl => ?_)
    refine lv_aload hx hb dX9_list_8 (lv_at hl 0 rfl) ?_
    refine lv_ifnull hx hb dX9_list_10 ?_
    refine lv_aload hx hb dX9_list_13 (lv_at hl 0 rfl) ?_
    refine lv_lload_n hx hb dX9_list_15 rfl (lv_at hl 4 rfl) ?_
    obtain ⟨_, hM_x3, hb_x3, l_x3, f_x3, r_x3, rfl, hG_l_x3, hG_f_x3, hG_r_x3⟩ := hT _ _ hG_x3
    refine t_calli (va_runV (g := F0 m 16 ls ([.long p0, .ref x3])) (As := [.long p0]) (rest := []) ⟨hx, hb, hml, hown, hts⟩ (c_X0_isPicture l D cy A G3 w3 x3 p0 hD hT hG_x3 ) (cwV 1 hts gX9_list_X0_isPicture rfl rfl rfl (by decide +kernel) ⟨Nat.le_of_ble_eq_true rfl, Nat.le_of_ble_eq_true rfl⟩) (c_preV hM_x3 rfl hP hK hA hS hV) rfl rfl hl.1 rfl (lv_room (Nat.le_of_ble_eq_true rfl)) dX9_list_16 ⟨Nat.le_of_ble_eq_true rfl, Nat.le_of_ble_eq_true rfl⟩) hS (fun r16 u H locs q16 hP9 hD9 hT9 hS => ?_)
    obtain ⟨rfl, q16⟩ := q16
    have hP : va_P D vwCl w3 H := hP9
    refine lv_if_ne (tgt := 24) hx hb dX9_list_19 (by decide) (fun c19 => ?_) (fun c19 => ?_)
    · skip
      have d19 := c19
      rw [fa_eq] at d19
      refine lv_aload_n hx hb dX9_list_24 rfl (lv_at hl 1 rfl) ?_
      refine t_get (v := .int lc_o) (C := RX9) (T := TX9) (N := 9) hx hb hts (by decide +kernel) hown hK hP hM_o rfl 7 (by decide) (hts (.fieldLink RX9 46 "ShadowBench" "listCount" "I") (by decide +kernel)) (fun _ h9 => h9) rfl dX9_list_25 ?_
      refine lv_bipush (v := 12) hx hb dX9_list_28 (by decide) ?_
      refine lv_icmp_lt (tgt := 36) hx hb dX9_list_30 (by decide) (fun c30 => ?_) (fun c30 => ?_)
      · skip
        have d30 := c30
        rw [fa_lt] at d30
        refine lv_aload_n hx hb dX9_list_36 rfl (lv_at hl 1 rfl) ?_
        refine lv_iload_n hx hb dX9_list_37 rfl (lv_at hl 2 rfl) ?_
        refine lv_iload_n hx hb dX9_list_38 rfl (lv_at hl 3 rfl) ?_
        refine t_calli (va_runV (g := F0 m 39 ls ([.int high, .int wide, .ref o])) (As := [.int wide, .int high]) (rest := []) ⟨hx, hb, hml, hown, hts⟩ (c_X9_isOtherThanListed l D cy A G3 w3 o wide high hD hT hG_o ) (cwV 2 hts gX9_list_X9_isOtherThanListed rfl rfl rfl (by decide +kernel) ⟨Nat.le_of_ble_eq_true rfl, Nat.le_of_ble_eq_true rfl⟩) (c_preV hM_o rfl hP hK hA hS hV) rfl rfl hl.1 rfl (lv_room (Nat.le_of_ble_eq_true rfl)) dX9_list_39 ⟨Nat.le_of_ble_eq_true rfl, Nat.le_of_ble_eq_true rfl⟩) hS (fun r39 u H locs q39 hP9 hD9 hT9 hS => ?_)
        obtain ⟨rfl, q39⟩ := q39
        have hP : va_P D vwCl w3 H := hP9
        refine lv_if_ne (tgt := 53) hx hb dX9_list_42 (by decide) (fun c42 => ?_) (fun c42 => ?_)
        · skip
          have d42 := c42
          rw [fa_eq] at d42
          refine lv_bipush (v := (-3)) hx hb dX9_list_53 (by decide) ?_
          refine W.widen (k := 4) (n := 502) (Nat.le_of_ble_eq_true rfl) (Nat.le_of_ble_eq_true rfl) ?_
          exact W.iret (v := ((-3) : Int32)) hx hb hr (fun t ht hW => ⟨⟨_, (G3, w3), rfl, ⟨hX, ⟨_, lb_o, hM_o⟩⟩, by show va_P D vwCl w3 t.heap; rw [ht]; exact hP, hD, hT⟩, hS.F ht⟩) hS.2.2 dX9_list_55
        · skip
          have d42 := c42
          rw [fa_eq] at d42
          refine lv_aload_n hx hb dX9_list_45 rfl (lv_at hl 1 rfl) ?_
          refine lv_lload_n hx hb dX9_list_46 rfl (lv_at hl 4 rfl) ?_
          refine t_calli (va_runV (g := F0 m 47 ls ([.long p0, .ref o])) (As := [.long p0]) (rest := []) ⟨hx, hb, hml, hown, hts⟩ (c_X9_isListed l D cy A G3 w3 o p0 hD hT hG_o ) (cwV 1 hts gX9_list_X9_isListed rfl rfl rfl (by decide +kernel) ⟨Nat.le_of_ble_eq_true rfl, Nat.le_of_ble_eq_true rfl⟩) (c_preV hM_o rfl hP hK hA hS hV) rfl rfl hl.1 rfl (lv_room (Nat.le_of_ble_eq_true rfl)) dX9_list_47 ⟨Nat.le_of_ble_eq_true rfl, Nat.le_of_ble_eq_true rfl⟩) hS (fun r47 u H locs q47 hP9 hD9 hT9 hS => ?_)
          obtain ⟨rfl, q47⟩ := q47
          have hP : va_P D vwCl w3 H := hP9
          refine lv_if_eq (tgt := 56) hx hb dX9_list_50 (by decide) (fun c50 => ?_) (fun c50 => ?_)
          · skip
            have d50 := c50
            rw [fa_eq] at d50
            refine lv_aload_n hx hb dX9_list_56 rfl (lv_at hl 1 rfl) ?_
            refine lv_aload hx hb dX9_list_57 (lv_at hl 0 rfl) ?_
            refine t_put (v := .ref x3) (C := RX9) (T := TX9) (N := 9) (ty0 := tyX9) hx hb hts (by decide +kernel) tyX9_ok nmX9 hown hK hP hD hS hM_o rfl 8 (by decide) (hts (.fieldLink RX9 49 "ShadowBench" "listBoard" "LShadowBench$Board;") (by decide +kernel)) (fun _ h9 => h9) rfl rfl rfl (Nat.le_of_ble_eq_true rfl) dX9_list_59 (fun H locs w59 hU59 hP hD hS => ?_)
            have hM_x3 := hU59.2 _ _ (cne hG_x3 hG_o (show (2 : Nat) ≠ 7 by decide)) hM_x3
            have hT := hT.up hU59 hG_o ⟨_, _, _, _, _, _, _, mo_o, (some x3), rfl, ⟨by omega, by omega⟩, ⟨by omega, by omega⟩, hG_bs_o, hG_js_o, hG_sh_o, hG_wk_o, hmo_o, hG_ll_o, (fun _ z => Option.some.inj z ▸ ⟨_, _, hG_x3⟩)⟩
            have hM_o : cIn w59 o (.inr (8, [.ref bs_o, .ref js_o, .int jc_o, .ref sh_o, .ref wk_o, va_rf mo_o, .ref ll_o, .int lc_o, .ref x3])) := hU59.1
            have hX := hX.tr (cX.up hU59 (Or.inr ⟨_, hG_o, rfl⟩))
            refine lv_aload_n hx hb dX9_list_62 rfl (lv_at hl 1 rfl) ?_
            refine t_get (v := .ref ll_o) (C := RX9) (T := TX9) (N := 9) hx hb hts (by decide +kernel) hown hK hP hM_o rfl 6 (by decide) (hts (.fieldLink RX9 42 "ShadowBench" "listed" "[J") (by decide +kernel)) (fun _ h9 => h9) rfl dX9_list_63 ?_
            refine lv_aload_n hx hb dX9_list_66 rfl (lv_at hl 1 rfl) ?_
            refine t_get (v := .int lc_o) (C := RX9) (T := TX9) (N := 9) hx hb hts (by decide +kernel) hown hK hP hM_o rfl 7 (by decide) (hts (.fieldLink RX9 46 "ShadowBench" "listCount" "I") (by decide +kernel)) (fun _ h9 => h9) rfl dX9_list_67 ?_
            refine lv_lload_n hx hb dX9_list_70 rfl (lv_at hl 4 rfl) ?_
            refine t_last hx hb hK hP hD hS hT (Or.inr (Or.inr rfl)) hG_ll_o (vp_in_iff.mpr ⟨by omega, by omega⟩) dX9_list_71 (fun H locs w71 hU71 hP hD hT hS => ?_)
            have hM_o := hU71 _ _ (cne hG_o hG_ll_o (show (7 : Nat) ≠ 17 by decide)) hM_o
            have hM_x3 := hU71 _ _ (cne hG_x3 hG_ll_o (show (2 : Nat) ≠ 17 by decide)) hM_x3
            have hX := hX.tr (cX.uF hU71 (Or.inr ⟨_, hG_ll_o, rfl⟩))
            refine lv_aload_n hx hb dX9_list_72 rfl (lv_at hl 1 rfl) ?_
            refine lv_dup hx hb dX9_list_73 rfl ?_
            refine t_get (v := .int lc_o) (C := RX9) (T := TX9) (N := 9) hx hb hts (by decide +kernel) hown hK hP hM_o rfl 7 (by decide) (hts (.fieldLink RX9 46 "ShadowBench" "listCount" "I") (by decide +kernel)) (fun _ h9 => h9) rfl dX9_list_74 ?_
            refine lv_iconst (v := 1) hx hb dX9_list_77 (by decide) ?_
            refine lv_iadd hx hb dX9_list_78 ?_
            refine lv_topi (fun v78 e78 => ?_)
            have i78 : v78.toInt = lc_o.toInt + (1 : Int32).toInt := by rw [e78]; exact fb_addI (by omega) (by omega)
            refine t_put (v := .int v78) (C := RX9) (T := TX9) (N := 9) (ty0 := tyX9) hx hb hts (by decide +kernel) tyX9_ok nmX9 hown hK hP hD hS hM_o rfl 7 (by decide) (hts (.fieldLink RX9 46 "ShadowBench" "listCount" "I") (by decide +kernel)) (fun _ h9 => h9) rfl rfl rfl (Nat.le_of_ble_eq_true rfl) dX9_list_79 (fun H locs w79 hU79 hP hD hS => ?_)
            have hM_x3 := hU79.2 _ _ (cne hG_x3 hG_o (show (2 : Nat) ≠ 7 by decide)) hM_x3
            have hT := hT.up hU79 hG_o ⟨_, _, _, _, _, _, _, mo_o, (some x3), rfl, ⟨by omega, by omega⟩, ⟨by omega, by omega⟩, hG_bs_o, hG_js_o, hG_sh_o, hG_wk_o, hmo_o, hG_ll_o, (fun _ z => Option.some.inj z ▸ ⟨_, _, hG_x3⟩)⟩
            have hM_o : cIn w79 o (.inr (8, [.ref bs_o, .ref js_o, .int jc_o, .ref sh_o, .ref wk_o, va_rf mo_o, .ref ll_o, .int v78, .ref x3])) := hU79.1
            have hX := hX.tr (cX.up hU79 (Or.inr ⟨_, hG_o, rfl⟩))
            refine lv_aload_n hx hb dX9_list_82 rfl (lv_at hl 1 rfl) ?_
            refine t_get (v := .int v78) (C := RX9) (T := TX9) (N := 9) hx hb hts (by decide +kernel) hown hK hP hM_o rfl 7 (by decide) (hts (.fieldLink RX9 46 "ShadowBench" "listCount" "I") (by decide +kernel)) (fun _ h9 => h9) rfl dX9_list_83 ?_
            refine W.widen (k := 4) (n := 502) (Nat.le_of_ble_eq_true rfl) (Nat.le_of_ble_eq_true rfl) ?_
            exact W.iret (v := v78) hx hb hr (fun t ht hW => ⟨⟨_, (G3, w79), rfl, ⟨hX, ⟨_, (some x3), hM_o⟩⟩, by show va_P D vwCl w79 t.heap; rw [ht]; exact hP, hD, hT⟩, hS.F ht⟩) hS.2.2 dX9_list_86
          · skip
            have d50 := c50
            rw [fa_eq] at d50
            refine lv_bipush (v := (-3)) hx hb dX9_list_53 (by decide) ?_
            refine W.widen (k := 4) (n := 502) (Nat.le_of_ble_eq_true rfl) (Nat.le_of_ble_eq_true rfl) ?_
            exact W.iret (v := ((-3) : Int32)) hx hb hr (fun t ht hW => ⟨⟨_, (G3, w3), rfl, ⟨hX, ⟨_, lb_o, hM_o⟩⟩, by show va_P D vwCl w3 t.heap; rw [ht]; exact hP, hD, hT⟩, hS.F ht⟩) hS.2.2 dX9_list_55
      · skip
        have d30 := c30
        rw [fa_lt] at d30
        refine lv_bipush (v := (-2)) hx hb dX9_list_33 (by decide) ?_
        refine W.widen (k := 4) (n := 502) (Nat.le_of_ble_eq_true rfl) (Nat.le_of_ble_eq_true rfl) ?_
        exact W.iret (v := ((-2) : Int32)) hx hb hr (fun t ht hW => ⟨⟨_, (G3, w3), rfl, ⟨hX, ⟨_, lb_o, hM_o⟩⟩, by show va_P D vwCl w3 t.heap; rw [ht]; exact hP, hD, hT⟩, hS.F ht⟩) hS.2.2 dX9_list_35
    · skip
      have d19 := c19
      rw [fa_eq] at d19
      refine lv_iconst (v := (-1)) hx hb dX9_list_22 (by decide) ?_
      refine W.widen (k := 4) (n := 502) (Nat.le_of_ble_eq_true rfl) (Nat.le_of_ble_eq_true rfl) ?_
      exact W.iret (v := ((-1) : Int32)) hx hb hr (fun t ht hW => ⟨⟨_, (G3, w3), rfl, ⟨hX, ⟨_, lb_o, hM_o⟩⟩, by show va_P D vwCl w3 t.heap; rw [ht]; exact hP, hD, hT⟩, hS.F ht⟩) hS.2.2 dX9_list_23
set_option maxHeartbeats 4000000 in
set_option maxRecDepth 100000 in
theorem c_X9_clear_k (l : Launch) (D : va_G) (cy : Nat → ClassId) (A : Nat → Prop) (G : cG) (ws : va_W) (o : Nat) {bs_o js_o sh_o wk_o ll_o : Nat} {jc_o lc_o : Int32} {mo_o lb_o : Option Nat} (hD : va_D A ws) (hT : cT cy G ws) (hG_o : G o = some (7, 0, 0)) (hM_o : cIn ws o (.inr (8, [.ref bs_o, .ref js_o, .int jc_o, .ref sh_o, .ref wk_o, va_rf mo_o, .ref ll_o, .int lc_o, va_rf lb_o])))  : Ci l D cy A yX9_clear wsX9_clear ({ frames := 0, cells := 0, slots := 0, locals := 0 }) 0 0 ws [.ref o] (fun r0 u => cX none (chs [7]) G ws u.1 u.2 ∧ (∃ lc lb, cIn u.2 o (.inr (8, [.ref bs_o, .ref js_o, .int jc_o, .ref sh_o, .ref wk_o, va_rf mo_o, .ref ll_o, .int lc, va_rf lb])))) := by
  refine Met.ofW (cc := cX9_clear) (maxL := 2) (ret := (some .int)) (by decide) rfl ?_
  intro p e s m args below meth c s₁ B hml hv
  obtain ⟨rfl, hP, hK, hA, hV⟩ := hv
  have hx := B.exec
  have hb := B.bytes
  have hr := B.returns
  have hts := atoms_spec (ws := wsX9_clear) B.pre
  have hown : s.vm.findClass RX9 = some m.cls := findClass_of_methodNamed B.named
  have hlocks := B.notSynchronized
  have hS : va_S A s.heap s.heap [] := va_S.rf
  have hX : cX none (chs [7]) G ws G ws := cX.rf
  have hl := lv_entry ([.ref o]) (n := 2) (Nat.le_of_ble_eq_true rfl)
  rw [lg_entry_eq]
  generalize (lg_sl ([.ref o]) ++ List.replicate (2 - (lg_sl ([.ref o])).length) Slot.unset).toArray = ls at hl ⊢
  have hl : lv_has ls 2 [(0, .ref o)] := hl
  have k_0 : (0 : Int32).toInt = 0 := by decide
  obtain ⟨hjc_o, hlc_o, hG_bs_o, hG_js_o, hG_sh_o, hG_wk_o, hmo_o, hG_ll_o, hlb_o⟩ := w7sh hD hT hG_o hM_o
  refine lv_aload_n hx hb dX9_clear_0 rfl (lv_at hl 0 rfl) ?_
  refine t_get (v := .int lc_o) (C := RX9) (T := TX9) (N := 9) hx hb hts (by decide +kernel) hown hK hP hM_o rfl 7 (by decide) (hts (.fieldLink RX9 46 "ShadowBench" "listCount" "I") (by decide +kernel)) (fun _ h9 => h9) rfl dX9_clear_1 ?_
  refine lv_istore_n (lv' := [(1, .int lc_o), (0, .ref o)]) hx hb dX9_clear_4 rfl hl (by decide) rfl (fun ls hl => ?_)
  refine lv_aload_n hx hb dX9_clear_5 rfl (lv_at hl 1 rfl) ?_
  refine lv_iconst (v := 0) hx hb dX9_clear_6 (by decide) ?_
  refine t_put (v := .int (0 : Int32)) (C := RX9) (T := TX9) (N := 9) (ty0 := tyX9) hx hb hts (by decide +kernel) tyX9_ok nmX9 hown hK hP hD hS hM_o rfl 7 (by decide) (hts (.fieldLink RX9 46 "ShadowBench" "listCount" "I") (by decide +kernel)) (fun _ h9 => h9) rfl rfl rfl (Nat.le_of_ble_eq_true rfl) dX9_clear_7 (fun H locs w7 hU7 hP hD hS => ?_)
  have hT := hT.up hU7 hG_o ⟨_, _, _, _, _, _, _, mo_o, lb_o, rfl, ⟨by omega, by omega⟩, ⟨by omega, by omega⟩, hG_bs_o, hG_js_o, hG_sh_o, hG_wk_o, hmo_o, hG_ll_o, hlb_o⟩
  have hM_o : cIn w7 o (.inr (8, [.ref bs_o, .ref js_o, .int jc_o, .ref sh_o, .ref wk_o, va_rf mo_o, .ref ll_o, .int (0 : Int32), va_rf lb_o])) := hU7.1
  have hX := hX.tr (cX.up hU7 (Or.inr ⟨_, hG_o, rfl⟩))
  refine lv_aload_n hx hb dX9_clear_10 rfl (lv_at hl 1 rfl) ?_
  refine lv_null hx hb dX9_clear_11 ?_
  refine t_put (v := .null) (C := RX9) (T := TX9) (N := 9) (ty0 := tyX9) hx hb hts (by decide +kernel) tyX9_ok nmX9 hown hK hP hD hS hM_o rfl 8 (by decide) (hts (.fieldLink RX9 49 "ShadowBench" "listBoard" "LShadowBench$Board;") (by decide +kernel)) (fun _ h9 => h9) rfl rfl rfl (Nat.le_of_ble_eq_true rfl) dX9_clear_12 (fun H locs w12 hU12 hP hD hS => ?_)
  have hT := hT.up hU12 hG_o ⟨_, _, _, _, _, _, _, mo_o, none, rfl, ⟨by omega, by omega⟩, ⟨by omega, by omega⟩, hG_bs_o, hG_js_o, hG_sh_o, hG_wk_o, hmo_o, hG_ll_o, (fun _ z => nomatch z)⟩
  have hM_o : cIn w12 o (.inr (8, [.ref bs_o, .ref js_o, .int jc_o, .ref sh_o, .ref wk_o, va_rf mo_o, .ref ll_o, .int (0 : Int32), .null])) := hU12.1
  have hX := hX.tr (cX.up hU12 (Or.inr ⟨_, hG_o, rfl⟩))
  refine lv_iload_n hx hb dX9_clear_15 rfl (lv_at hl 0 rfl) ?_
  exact W.iret (v := lc_o) hx hb hr (fun t ht hW => ⟨⟨_, (G, w12), rfl, ⟨hX, ⟨_, none, hM_o⟩⟩, by show va_P D vwCl w12 t.heap; rw [ht]; exact hP, hD, hT⟩, hS.F ht⟩) hS.2.2 dX9_clear_16

set_option maxHeartbeats 4000000 in
set_option maxRecDepth 100000 in
theorem c_X10_job_y (l : Launch) (D : va_G) (cy : Nat → ClassId) (mo : Nat) (a : Nat → Nat) (f : Nat → Int32) (g : Nat → Int64) (r : Nat → Nat → Int32) (q : Nat → Nat → Int64) (k0 : Int32) (w : Int32) (h : Int32) (hD : DM cy mo a) (hI : MI f r) : Mi l D cy mo a yX10_job wsX10_job ({ frames := 2, cells := 0, slots := 0, locals := 46 }) f g r q [.int k0, .int w, .int h] (fun r0 u => ∃ (kd : Nat → Int32), ∃ (wd : Nat → Int32), ∃ (hg : Nat → Int32), ∃ (tl : Nat → Int32), ∃ (hd : Nat → Int32), ∃ (jb : Int32), u = ((upd (upd f 0 (0 : Int32)) 1 jb), g, (va_up (va_up (va_up (va_up (va_up r 2 kd) 3 wd) 4 hg) 6 tl) 7 hd), q) ∧ (r0.toInt = jA k0 w h (f 1) ∧ ((okJ k0 w h (f 1) ∧ jb.toInt = (f 1).toInt + 1 ∧ wd = upd (r 3) (f 1).toNatClampNeg w ∧ hg = upd (r 4) (f 1).toNatClampNeg h ∧ kd = upd (r 2) (f 1).toNatClampNeg k0) ∨ (¬ okJ k0 w h (f 1) ∧ jb = f 1 ∧ wd = r 3 ∧ hg = r 4 ∧ kd = r 2)) ∧ MI (upd (upd f 0 (0 : Int32)) 1 jb) (va_up (va_up (va_up (va_up (va_up r 2 kd) 3 wd) 4 hg) 6 tl) 7 hd))) := by
  refine Met.ofW (cc := cX10_job) (maxL := 5) (ret := (some .int)) (by decide) rfl ?_
  intro p e s m args below meth c s₁ B hml hv
  obtain ⟨rfl, hP, hK⟩ := hv
  have hx := B.exec
  have hb := B.bytes
  have hr := B.returns
  have hts := atoms_spec (ws := wsX10_job) B.pre
  have hin : ∀ w ∈ u_ws RX10 TX10 35, w ∈ wsX10_job := by decide +kernel
  have hown : s.vm.findClass RX10 = some m.cls := findClass_of_methodNamed B.named
  have hlocks := B.notSynchronized
  have hS : va_S (AM mo a) s.heap s.heap [] := va_S.rf
  have hl := lv_entry ([.ref mo, .int k0, .int w, .int h]) (n := 5) (Nat.le_of_ble_eq_true rfl)
  rw [lg_entry_eq]
  generalize (lg_sl ([.ref mo, .int k0, .int w, .int h]) ++ List.replicate (5 - (lg_sl ([.ref mo, .int k0, .int w, .int h])).length) Slot.unset).toArray = ls at hl ⊢
  have hl : lv_has ls 5 [(0, .ref mo), (1, .int k0), (2, .int w), (3, .int h)] := hl
  have k_m2 : (-2 : Int32).toInt = -2 := by decide
  have k_m1 : (-1 : Int32).toInt = -1 := by decide
  have k_0 : (0 : Int32).toInt = 0 := by decide
  have k_1 : (1 : Int32).toInt = 1 := by decide
  have k_2 : (2 : Int32).toInt = 2 := by decide
  have k_4 : (4 : Int32).toInt = 4 := by decide
  have k_8 : (8 : Int32).toInt = 8 := by decide
  have k_36 : (36 : Int32).toInt = 36 := by decide
  have k_0L : (0 : Int64).toInt = 0 := by decide
  have k_3L : (3 : Int64).toInt = 3 := by decide
  have hI1 := hI.1
  refine lv_aload_n hx hb dX10_job_0 rfl (lv_at hl 0 rfl) ?_
  refine lv_iconst (v := 0) hx hb dX10_job_1 (by decide) ?_
  refine m_put (v := .int (0 : Int32)) (ty := .int) hx hb hts hin hown hK hP hD hS 0 (by decide) rfl (hts (.fieldLink RX10 79 "ShadowBenchModel" "thrown" "I") (by decide +kernel)) rfl (by decide +kernel) rfl rfl (upd f 0 (0 : Int32)) g rfl dX10_job_2 (fun H locs hP hS => ?_)
  refine lv_iload_n hx hb dX10_job_5 rfl (lv_at hl 1 rfl) ?_
  refine lv_i2l (v := k0.toInt64) hx hb dX10_job_6 rfl ?_
  refine lv_lconst (v := 0) hx hb dX10_job_7 (by decide) ?_
  refine lv_ldc2 hx hb hown (hts (.constantLong RX10 116 (3)) (by decide +kernel)) dX10_job_8 ?_
  refine m_pu (As := [.long (k0.toInt64), .long (0 : Int64), .long (3 : Int64)]) (rest := []) ⟨hx, hb, hml, hown, hts⟩ (c_X10_isIn l k0.toInt64 (0 : Int64) (3 : Int64) ) (va_cwS 3 hts gX10_job_X10_isIn rfl rfl rfl (by decide +kernel) ⟨Nat.le_of_ble_eq_true rfl, Nat.le_of_ble_eq_true rfl⟩) hP rfl hl.1 rfl (Nat.le_of_ble_eq_true rfl) dX10_job_11 ⟨Nat.le_of_ble_eq_true rfl, Nat.le_of_ble_eq_true rfl⟩ hS (fun r11 H locs q11 hP hS => ?_)
  have q11 := q11
  simp only [k64, show (0 : Int64).toInt = 0 from rfl, show (1 : Int64).toInt = 1 from rfl, show (2 : Int64).toInt = 2 from rfl, show (3 : Int64).toInt = 3 from rfl, show (6 : Int64).toInt = 6 from rfl] at q11
  refine lv_if_eq (tgt := 25) hx hb dX10_job_14 (by decide) (fun c14 => ?_) (fun c14 => ?_)
  · skip
    have b14 := bo_f q11 c14
    refine lv_iconst (v := (-1)) hx hb dX10_job_25 (by decide) ?_
    have hP := wm_eq (ec_f_0__0_1 f (0 : Int32)) rfl (ec_r___2_3_4_6_7 r ) rfl hP
    exact W.iret (v := ((-1) : Int32)) hx hb hr (fun t ht hW => ⟨⟨_, ((upd (upd f 0 (0 : Int32)) 1 (f 1)), g, (va_up (va_up (va_up (va_up (va_up r 2 (r 2)) 3 (r 3)) 4 (r 4)) 6 (r 6)) 7 (r 7)), q), rfl, ⟨(r 2), (r 3), (r 4), (r 6), (r 7), (f 1), rfl, ⟨(by unfold jA; rw [if_neg (by omega)]; rfl), (Or.inr ⟨(by unfold okJ; omega), rfl, rfl, rfl, rfl⟩), (by first | exact hI | exact mi_job hI (k := k0) (w := w) (hh := h) (jb := (f 1)) (by omega) (by omega) (by omega) (by omega) (by omega) rfl rfl rfl rfl rfl rfl rfl rfl)⟩⟩, by unfold mB; rw [ht]; exact hP⟩, hS.F ht⟩) hS.2.2 dX10_job_26
  · skip
    have b14 := bo_t q11 c14
    refine lv_iload_n hx hb dX10_job_17 rfl (lv_at hl 2 rfl) ?_
    refine lv_iload_n hx hb dX10_job_18 rfl (lv_at hl 3 rfl) ?_
    refine m_pu (As := [.int w, .int h]) (rest := []) ⟨hx, hb, hml, hown, hts⟩ (c_X10_isBoard l w h ) (va_cwS 2 hts gX10_job_X10_isBoard rfl rfl rfl (by decide +kernel) ⟨Nat.le_of_ble_eq_true rfl, Nat.le_of_ble_eq_true rfl⟩) hP rfl hl.1 rfl (Nat.le_of_ble_eq_true rfl) dX10_job_19 ⟨Nat.le_of_ble_eq_true rfl, Nat.le_of_ble_eq_true rfl⟩ hS (fun r19 H locs q19 hP hS => ?_)
    refine lv_if_ne (tgt := 27) hx hb dX10_job_22 (by decide) (fun c22 => ?_) (fun c22 => ?_)
    · skip
      have b22 := bo_t q19 c22
      refine lv_aload_n hx hb dX10_job_27 rfl (lv_at hl 0 rfl) ?_
      refine m_get (v := .int (f 1)) hx hb hts hin hown hK hP 1 (by decide) rfl (hts (.fieldLink RX10 93 "ShadowBenchModel" "jobs" "I") (by decide +kernel)) rfl dX10_job_28 ?_
      refine lv_bipush (v := 8) hx hb dX10_job_31 (by decide) ?_
      refine lv_icmp_ne (tgt := 39) hx hb dX10_job_33 (by decide) (fun c33 => ?_) (fun c33 => ?_)
      · skip
        have d33 := c33
        rw [fa_eq] at d33
        refine lv_aload_n hx hb dX10_job_39 rfl (lv_at hl 0 rfl) ?_
        refine m_get (v := .ref (a 2)) hx hb hts hin hown hK hP 2 (by decide) rfl (hts (.fieldLink RX10 7 "ShadowBenchModel" "kind" "[I") (by decide +kernel)) rfl dX10_job_40 ?_
        refine lv_aload_n hx hb dX10_job_43 rfl (lv_at hl 0 rfl) ?_
        refine m_get (v := .int (f 1)) hx hb hts hin hown hK hP 1 (by decide) rfl (hts (.fieldLink RX10 93 "ShadowBenchModel" "jobs" "I") (by decide +kernel)) rfl dX10_job_44 ?_
        refine lv_iload_n hx hb dX10_job_47 rfl (lv_at hl 1 rfl) ?_
        refine m_iast (w := (r 2)) hx hb hK hP hD hS 1 rfl (vp_in_iff.mpr ⟨by omega, by omega⟩) (va_up r 2 (upd (r 2) (f 1).toNatClampNeg k0)) (ms_2 cy mo a _ _ _ _ _) dX10_job_48 (fun H locs hP hS => ?_)
        refine lv_aload_n hx hb dX10_job_49 rfl (lv_at hl 0 rfl) ?_
        refine m_get (v := .ref (a 3)) hx hb hts hin hown hK hP 3 (by decide) rfl (hts (.fieldLink RX10 13 "ShadowBenchModel" "wide" "[I") (by decide +kernel)) rfl dX10_job_50 ?_
        refine lv_aload_n hx hb dX10_job_53 rfl (lv_at hl 0 rfl) ?_
        refine m_get (v := .int (f 1)) hx hb hts hin hown hK hP 1 (by decide) rfl (hts (.fieldLink RX10 93 "ShadowBenchModel" "jobs" "I") (by decide +kernel)) rfl dX10_job_54 ?_
        refine lv_iload_n hx hb dX10_job_57 rfl (lv_at hl 2 rfl) ?_
        refine m_iast (w := (r 3)) hx hb hK hP hD hS 2 rfl (vp_in_iff.mpr ⟨by omega, by omega⟩) (va_up (va_up r 2 ((upd (r 2) (f 1).toNatClampNeg k0))) 3 (upd (r 3) (f 1).toNatClampNeg w)) (ms_3 cy mo a _ _ _ _ _) dX10_job_58 (fun H locs hP hS => ?_)
        refine lv_aload_n hx hb dX10_job_59 rfl (lv_at hl 0 rfl) ?_
        refine m_get (v := .ref (a 4)) hx hb hts hin hown hK hP 4 (by decide) rfl (hts (.fieldLink RX10 16 "ShadowBenchModel" "high" "[I") (by decide +kernel)) rfl dX10_job_60 ?_
        refine lv_aload_n hx hb dX10_job_63 rfl (lv_at hl 0 rfl) ?_
        refine m_get (v := .int (f 1)) hx hb hts hin hown hK hP 1 (by decide) rfl (hts (.fieldLink RX10 93 "ShadowBenchModel" "jobs" "I") (by decide +kernel)) rfl dX10_job_64 ?_
        refine lv_iload_n hx hb dX10_job_67 rfl (lv_at hl 3 rfl) ?_
        refine m_iast (w := (r 4)) hx hb hK hP hD hS 3 rfl (vp_in_iff.mpr ⟨by omega, by omega⟩) (va_up (va_up (va_up r 2 ((upd (r 2) (f 1).toNatClampNeg k0))) 3 ((upd (r 3) (f 1).toNatClampNeg w))) 4 (upd (r 4) (f 1).toNatClampNeg h)) (ms_4 cy mo a _ _ _ _ _) dX10_job_68 (fun H locs hP hS => ?_)
        refine lv_aload_n hx hb dX10_job_69 rfl (lv_at hl 0 rfl) ?_
        refine m_get (v := .ref (a 6)) hx hb hts hin hown hK hP 6 (by decide) rfl (hts (.fieldLink RX10 22 "ShadowBenchModel" "isTold" "[Z") (by decide +kernel)) rfl dX10_job_70 ?_
        refine lv_iconst (v := 4) hx hb dX10_job_73 (by decide) ?_
        refine lv_aload_n hx hb dX10_job_74 rfl (lv_at hl 0 rfl) ?_
        refine m_get (v := .int (f 1)) hx hb hts hin hown hK hP 1 (by decide) rfl (hts (.fieldLink RX10 93 "ShadowBenchModel" "jobs" "I") (by decide +kernel)) rfl dX10_job_75 ?_
        refine lv_imul hx hb dX10_job_78 ?_
        refine lv_topi (fun v78 e78 => ?_)
        have i78 : v78.toInt = 4 * (f 1).toInt := by rw [e78]; exact mulcL rfl (by omega) (by omega)
        refine lv_iconst (v := 1) hx hb dX10_job_79 (by decide) ?_
        refine m_zast (w := (r 6)) hx hb hK hP hD hS 5 rfl (vp_in_iff.mpr ⟨by omega, by omega⟩) (va_up (va_up (va_up (va_up r 2 ((upd (r 2) (f 1).toNatClampNeg k0))) 3 ((upd (r 3) (f 1).toNatClampNeg w))) 4 ((upd (r 4) (f 1).toNatClampNeg h))) 6 (upd (r 6) v78.toNatClampNeg ((1 : Int32) &&& 1))) (ms_6 cy mo a _ _ _ _ _) dX10_job_80 (fun H locs hP hS => ?_)
        refine lv_aload_n hx hb dX10_job_81 rfl (lv_at hl 0 rfl) ?_
        refine m_get (v := .ref (a 6)) hx hb hts hin hown hK hP 6 (by decide) rfl (hts (.fieldLink RX10 22 "ShadowBenchModel" "isTold" "[Z") (by decide +kernel)) rfl dX10_job_82 ?_
        refine lv_iconst (v := 4) hx hb dX10_job_85 (by decide) ?_
        refine lv_aload_n hx hb dX10_job_86 rfl (lv_at hl 0 rfl) ?_
        refine m_get (v := .int (f 1)) hx hb hts hin hown hK hP 1 (by decide) rfl (hts (.fieldLink RX10 93 "ShadowBenchModel" "jobs" "I") (by decide +kernel)) rfl dX10_job_87 ?_
        refine lv_imul hx hb dX10_job_90 ?_
        refine lv_topi (fun v90 e90 => ?_)
        have i90 : v90.toInt = 4 * (f 1).toInt := by rw [e90]; exact mulcL rfl (by omega) (by omega)
        refine lv_iconst (v := 1) hx hb dX10_job_91 (by decide) ?_
        refine lv_iadd hx hb dX10_job_92 ?_
        refine lv_topi (fun v92 e92 => ?_)
        have i92 : v92.toInt = v90.toInt + (1 : Int32).toInt := by rw [e92]; exact fb_addI (by omega) (by omega)
        refine lv_iconst (v := 1) hx hb dX10_job_93 (by decide) ?_
        refine m_zast (w := ((upd (r 6) v78.toNatClampNeg ((1 : Int32) &&& 1)))) hx hb hK hP hD hS 5 rfl (vp_in_iff.mpr ⟨by omega, by omega⟩) (va_up (va_up (va_up (va_up (va_up r 2 ((upd (r 2) (f 1).toNatClampNeg k0))) 3 ((upd (r 3) (f 1).toNatClampNeg w))) 4 ((upd (r 4) (f 1).toNatClampNeg h))) 6 ((upd (r 6) v78.toNatClampNeg ((1 : Int32) &&& 1)))) 6 (upd ((upd (r 6) v78.toNatClampNeg ((1 : Int32) &&& 1))) v92.toNatClampNeg ((1 : Int32) &&& 1))) (ms_6 cy mo a _ _ _ _ _) dX10_job_94 (fun H locs hP hS => ?_)
        have hP := wm_eq rfl rfl (es_r_2_3_4_6__6 r ((upd (r 2) (f 1).toNatClampNeg k0)) ((upd (r 3) (f 1).toNatClampNeg w)) ((upd (r 4) (f 1).toNatClampNeg h)) ((upd (r 6) v78.toNatClampNeg ((1 : Int32) &&& 1))) (upd ((upd (r 6) v78.toNatClampNeg ((1 : Int32) &&& 1))) v92.toNatClampNeg ((1 : Int32) &&& 1))) rfl hP
        refine lv_bipush (v := 36) hx hb dX10_job_95 (by decide) ?_
        refine lv_aload_n hx hb dX10_job_97 rfl (lv_at hl 0 rfl) ?_
        refine m_get (v := .int (f 1)) hx hb hts hin hown hK hP 1 (by decide) rfl (hts (.fieldLink RX10 93 "ShadowBenchModel" "jobs" "I") (by decide +kernel)) rfl dX10_job_98 ?_
        refine lv_imul hx hb dX10_job_101 ?_
        refine lv_topi (fun v101 e101 => ?_)
        have i101 : v101.toInt = 36 * (f 1).toInt := by rw [e101]; exact mulcL rfl (by omega) (by omega)
        refine lv_istore (lv' := [(4, .int v101), (0, .ref mo), (1, .int k0), (2, .int w), (3, .int h)]) hx hb dX10_job_102 hl (by decide) rfl (fun ls hl => ?_)
        have loop_104 : ∀ (n : Nat) (x4 : Int32) (hd : Nat → Int32), (36 * (f 1).toInt ≤ x4.toInt ∧ x4.toInt ≤ 36 * (f 1).toInt + 36) → (36 * (f 1).toInt + 36 - x4.toInt).toNat < n → ∀ (H : Heap) (locs : List Loc), va_P D vwCl (WM cy mo a (upd f 0 (0 : Int32)) g (va_up (va_up (va_up (va_up (va_up r 2 ((upd (r 2) (f 1).toNatClampNeg k0))) 3 ((upd (r 3) (f 1).toNatClampNeg w))) 4 ((upd (r 4) (f 1).toNatClampNeg h))) 6 ((upd ((upd (r 6) v78.toNatClampNeg ((1 : Int32) &&& 1))) v92.toNatClampNeg ((1 : Int32) &&& 1)))) 7 hd) q) H → va_S (AM mo a) s.heap H locs → ∀ (ls : Array Slot), lv_has ls 5 [(4, .int x4), (0, .ref mo), (1, .int k0), (2, .int w), (3, .int h)] → W p l e (headSpec wsX10_job ({ frames := 2, cells := 0, slots := 0, locals := 46 })).room s m #[Value.ref mo, Value.int k0, Value.int w, Value.int h] below meth c H locs 0 0 (MQ below (va_Qi (fun r0 u => ∃ (kd : Nat → Int32), ∃ (wd : Nat → Int32), ∃ (hg : Nat → Int32), ∃ (tl : Nat → Int32), ∃ (hd : Nat → Int32), ∃ (jb : Int32), u = ((upd (upd f 0 (0 : Int32)) 1 jb), g, (va_up (va_up (va_up (va_up (va_up r 2 kd) 3 wd) 4 hg) 6 tl) 7 hd), q) ∧ (r0.toInt = jA k0 w h (f 1) ∧ ((okJ k0 w h (f 1) ∧ jb.toInt = (f 1).toInt + 1 ∧ wd = upd (r 3) (f 1).toNatClampNeg w ∧ hg = upd (r 4) (f 1).toNatClampNeg h ∧ kd = upd (r 2) (f 1).toNatClampNeg k0) ∨ (¬ okJ k0 w h (f 1) ∧ jb = f 1 ∧ wd = r 3 ∧ hg = r 4 ∧ kd = r 2)) ∧ MI (upd (upd f 0 (0 : Int32)) 1 jb) (va_up (va_up (va_up (va_up (va_up r 2 kd) 3 wd) 4 hg) 6 tl) 7 hd))) (mB D cy mo a) (AM mo a)) #[Value.ref mo, Value.int k0, Value.int w, Value.int h] s 0 0 (AM mo a)) (F0 m 104 ls []) := by
          intro n
          induction n with
          | zero => intro x4 hd j104_0 hn; exact absurd hn (Nat.not_lt_zero _)
          | succ n ih_104 =>
            intro x4 hd j104_0 hn_104 H locs hP hS ls hl
            refine lv_iload hx hb dX10_job_104 (lv_at hl 0 rfl) ?_
            refine lv_bipush (v := 36) hx hb dX10_job_106 (by decide) ?_
            refine lv_aload_n hx hb dX10_job_108 rfl (lv_at hl 1 rfl) ?_
            refine m_get (v := .int (f 1)) hx hb hts hin hown hK hP 1 (by decide) rfl (hts (.fieldLink RX10 93 "ShadowBenchModel" "jobs" "I") (by decide +kernel)) rfl dX10_job_109 ?_
            refine lv_imul hx hb dX10_job_112 ?_
            refine lv_topi (fun v112 e112 => ?_)
            have i112 : v112.toInt = 36 * (f 1).toInt := by rw [e112]; exact mulcL rfl (by omega) (by omega)
            refine lv_bipush (v := 36) hx hb dX10_job_113 (by decide) ?_
            refine lv_iadd hx hb dX10_job_115 ?_
            refine lv_topi (fun v115 e115 => ?_)
            have i115 : v115.toInt = v112.toInt + (36 : Int32).toInt := by rw [e115]; exact fb_addI (by omega) (by omega)
            refine lv_icmp_ge (tgt := 133) hx hb dX10_job_116 (by decide) (fun c116 => ?_) (fun c116 => ?_)
            · skip
              have d116 := c116
              rw [fa_le] at d116
              refine lv_aload_n hx hb dX10_job_133 rfl (lv_at hl 1 rfl) ?_
              refine lv_dup hx hb dX10_job_134 rfl ?_
              refine m_get (v := .int (f 1)) hx hb hts hin hown hK hP 1 (by decide) rfl (hts (.fieldLink RX10 93 "ShadowBenchModel" "jobs" "I") (by decide +kernel)) rfl dX10_job_135 ?_
              refine lv_iconst (v := 1) hx hb dX10_job_138 (by decide) ?_
              refine lv_iadd hx hb dX10_job_139 ?_
              refine lv_topi (fun v139 e139 => ?_)
              have i139 : v139.toInt = (f 1).toInt + (1 : Int32).toInt := by rw [e139]; exact fb_addI (by omega) (by omega)
              refine m_put (v := .int v139) (ty := .int) hx hb hts hin hown hK hP hD hS 1 (by decide) rfl (hts (.fieldLink RX10 93 "ShadowBenchModel" "jobs" "I") (by decide +kernel)) rfl (by decide +kernel) rfl rfl (upd (upd f 0 (0 : Int32)) 1 v139) g rfl dX10_job_140 (fun H locs hP hS => ?_)
              refine lv_aload_n hx hb dX10_job_143 rfl (lv_at hl 1 rfl) ?_
              refine m_get (v := .int v139) hx hb hts hin hown hK hP 1 (by decide) rfl (hts (.fieldLink RX10 93 "ShadowBenchModel" "jobs" "I") (by decide +kernel)) rfl dX10_job_144 ?_
              refine lv_iconst (v := 1) hx hb dX10_job_147 (by decide) ?_
              refine lv_isub hx hb dX10_job_148 ?_
              refine lv_topi (fun v148 e148 => ?_)
              have i148 : v148.toInt = v139.toInt - (1 : Int32).toInt := by rw [e148]; exact fb_subI (by omega) (by omega)
              have hP := wm_eq rfl rfl (ec_r_2_3_4_6_7__2_3_4_6_7 r ((upd (r 2) (f 1).toNatClampNeg k0)) ((upd (r 3) (f 1).toNatClampNeg w)) ((upd (r 4) (f 1).toNatClampNeg h)) ((upd ((upd (r 6) v78.toNatClampNeg ((1 : Int32) &&& 1))) v92.toNatClampNeg ((1 : Int32) &&& 1))) hd) rfl hP
              exact W.iret (v := v148) hx hb hr (fun t ht hW => ⟨⟨_, ((upd (upd f 0 (0 : Int32)) 1 v139), g, (va_up (va_up (va_up (va_up (va_up r 2 (((upd (r 2) (f 1).toNatClampNeg k0)))) 3 (((upd (r 3) (f 1).toNatClampNeg w)))) 4 (((upd (r 4) (f 1).toNatClampNeg h)))) 6 (((upd ((upd (r 6) v78.toNatClampNeg ((1 : Int32) &&& 1))) v92.toNatClampNeg ((1 : Int32) &&& 1))))) 7 hd), q), rfl, ⟨((upd (r 2) (f 1).toNatClampNeg k0)), ((upd (r 3) (f 1).toNatClampNeg w)), ((upd (r 4) (f 1).toNatClampNeg h)), ((upd ((upd (r 6) v78.toNatClampNeg ((1 : Int32) &&& 1))) v92.toNatClampNeg ((1 : Int32) &&& 1))), hd, v139, rfl, ⟨(by unfold jA; rw [if_pos (by omega), if_pos (by omega)]; omega), (Or.inl ⟨(by unfold okJ; omega), (by omega), rfl, rfl, rfl⟩), (by first | exact hI | exact mi_job hI (k := k0) (w := w) (hh := h) (jb := v139) (by omega) (by omega) (by omega) (by omega) (by omega) rfl rfl rfl rfl rfl rfl rfl rfl)⟩⟩, by unfold mB; rw [ht]; exact hP⟩, hS.F ht⟩) hS.2.2 dX10_job_149
            · skip
              have d116 := c116
              rw [fa_le] at d116
              refine lv_aload_n hx hb dX10_job_119 rfl (lv_at hl 1 rfl) ?_
              refine m_get (v := .ref (a 7)) hx hb hts hin hown hK hP 7 (by decide) rfl (hts (.fieldLink RX10 26 "ShadowBenchModel" "held" "[I") (by decide +kernel)) rfl dX10_job_120 ?_
              refine lv_iload hx hb dX10_job_123 (lv_at hl 0 rfl) ?_
              refine lv_iconst (v := 2) hx hb dX10_job_125 (by decide) ?_
              refine m_iast (w := hd) hx hb hK hP hD hS 6 rfl (vp_in_iff.mpr ⟨by omega, by omega⟩) (va_up (va_up (va_up (va_up (va_up (va_up r 2 ((upd (r 2) (f 1).toNatClampNeg k0))) 3 ((upd (r 3) (f 1).toNatClampNeg w))) 4 ((upd (r 4) (f 1).toNatClampNeg h))) 6 ((upd ((upd (r 6) v78.toNatClampNeg ((1 : Int32) &&& 1))) v92.toNatClampNeg ((1 : Int32) &&& 1)))) 7 hd) 7 (upd hd x4.toNatClampNeg (2 : Int32))) (ms_7 cy mo a _ _ _ _ _) dX10_job_126 (fun H locs hP hS => ?_)
              have hP := wm_eq rfl rfl (es_r_2_3_4_6_7__7 r ((upd (r 2) (f 1).toNatClampNeg k0)) ((upd (r 3) (f 1).toNatClampNeg w)) ((upd (r 4) (f 1).toNatClampNeg h)) ((upd ((upd (r 6) v78.toNatClampNeg ((1 : Int32) &&& 1))) v92.toNatClampNeg ((1 : Int32) &&& 1))) hd (upd hd x4.toNatClampNeg (2 : Int32))) rfl hP
              obtain ⟨v127, e127⟩ : ∃ y : Int32, y = x4 + 1 := ⟨_, rfl⟩
              have i127 : v127.toInt = x4.toInt + 1 := by rw [e127]; exact fb_addI (by omega) (by omega)
              refine lv_iinc (v := v127) (lv' := [(4, .int v127), (0, .ref mo), (1, .int k0), (2, .int w), (3, .int h)]) hx hb dX10_job_127 hl (k := 0) rfl (by rw [e127]; rfl) (by decide) rfl (fun ls hl => ?_)
              refine lv_goto (tgt := 104) hx hb dX10_job_130 (by decide) ?_
              have hP := wm_eq rfl rfl (ec_r_2_3_4_6_7__2_3_4_6_7 r ((upd (r 2) (f 1).toNatClampNeg k0)) ((upd (r 3) (f 1).toNatClampNeg w)) ((upd (r 4) (f 1).toNatClampNeg h)) ((upd ((upd (r 6) v78.toNatClampNeg ((1 : Int32) &&& 1))) v92.toNatClampNeg ((1 : Int32) &&& 1))) ((upd hd x4.toNatClampNeg (2 : Int32)))) rfl hP
              exact ih_104 v127 (((upd hd x4.toNatClampNeg (2 : Int32)))) (by omega) (by omega) _ _ hP hS ls (lv_sub hl [0, 1, 2, 3, 4] rfl)
        have hP := wm_eq rfl rfl (ec_r_2_3_4_6__2_3_4_6_7 r ((upd (r 2) (f 1).toNatClampNeg k0)) ((upd (r 3) (f 1).toNatClampNeg w)) ((upd (r 4) (f 1).toNatClampNeg h)) ((upd ((upd (r 6) v78.toNatClampNeg ((1 : Int32) &&& 1))) v92.toNatClampNeg ((1 : Int32) &&& 1)))) rfl hP
        exact loop_104 (36 + 1) v101 (r 7) (by omega) (by omega) _ _ hP hS ls (lv_sub hl [0, 1, 2, 3, 4] rfl)
      · skip
        have d33 := c33
        rw [fa_eq] at d33
        refine lv_bipush (v := (-2)) hx hb dX10_job_36 (by decide) ?_
        have hP := wm_eq (ec_f_0__0_1 f (0 : Int32)) rfl (ec_r___2_3_4_6_7 r ) rfl hP
        exact W.iret (v := ((-2) : Int32)) hx hb hr (fun t ht hW => ⟨⟨_, ((upd (upd f 0 (0 : Int32)) 1 (f 1)), g, (va_up (va_up (va_up (va_up (va_up r 2 (r 2)) 3 (r 3)) 4 (r 4)) 6 (r 6)) 7 (r 7)), q), rfl, ⟨(r 2), (r 3), (r 4), (r 6), (r 7), (f 1), rfl, ⟨(by unfold jA; rw [if_pos (by omega), if_neg (by omega)]; rfl), (Or.inr ⟨(by unfold okJ; omega), rfl, rfl, rfl, rfl⟩), (by first | exact hI | exact mi_job hI (k := k0) (w := w) (hh := h) (jb := (f 1)) (by omega) (by omega) (by omega) (by omega) (by omega) rfl rfl rfl rfl rfl rfl rfl rfl)⟩⟩, by unfold mB; rw [ht]; exact hP⟩, hS.F ht⟩) hS.2.2 dX10_job_38
    · skip
      have b22 := bo_f q19 c22
      refine lv_iconst (v := (-1)) hx hb dX10_job_25 (by decide) ?_
      have hP := wm_eq (ec_f_0__0_1 f (0 : Int32)) rfl (ec_r___2_3_4_6_7 r ) rfl hP
      exact W.iret (v := ((-1) : Int32)) hx hb hr (fun t ht hW => ⟨⟨_, ((upd (upd f 0 (0 : Int32)) 1 (f 1)), g, (va_up (va_up (va_up (va_up (va_up r 2 (r 2)) 3 (r 3)) 4 (r 4)) 6 (r 6)) 7 (r 7)), q), rfl, ⟨(r 2), (r 3), (r 4), (r 6), (r 7), (f 1), rfl, ⟨(by unfold jA; rw [if_neg (by omega)]; rfl), (Or.inr ⟨(by unfold okJ; omega), rfl, rfl, rfl, rfl⟩), (by first | exact hI | exact mi_job hI (k := k0) (w := w) (hh := h) (jb := (f 1)) (by omega) (by omega) (by omega) (by omega) (by omega) rfl rfl rfl rfl rfl rfl rfl rfl)⟩⟩, by unfold mB; rw [ht]; exact hP⟩, hS.F ht⟩) hS.2.2 dX10_job_26
set_option maxHeartbeats 4000000 in
set_option maxRecDepth 100000 in
theorem c_X10_keep_x (l : Launch) (D : va_G) (cy : Nat → ClassId) (mo : Nat) (a : Nat → Nat) (f : Nat → Int32) (g : Nat → Int64) (r : Nat → Nat → Int32) (q : Nat → Nat → Int64) (d : Int32) (what : Int32) (k0 : Int32) (p0 : Int64) (hD : DM cy mo a) (hI : MI f r) : Mi l D cy mo a yX10_keep wsX10_keep ({ frames := 3, cells := 0, slots := 0, locals := 69 }) f g r q [.int d, .int what, .int k0, .long p0] (fun r0 u => ∃ (sh : Nat → Int32), ∃ (sz : Nat → Int32), ∃ (sw : Nat → Int32), ∃ (sf : Nat → Int32), ∃ (sr : Nat → Int64), u = ((upd f 0 (0 : Int32)), g, (va_up (va_up (va_up (va_up r 29 sh) 30 sz) 31 sw) 32 sf), (va_up q 33 sr)) ∧ (yesNo (okKeep (f 1) (fun j9 => (r 3 j9).toNatClampNeg) (fun j9 => (r 4 j9).toNatClampNeg) d what k0 p0) 0 (-1) r0 ∧ MI (upd f 0 (0 : Int32)) (va_up (va_up (va_up (va_up r 29 sh) 30 sz) 31 sw) 32 sf))) := by
  refine Met.ofW (cc := cX10_keep) (maxL := 8) (ret := (some .int)) (by decide) rfl ?_
  intro p e s m args below meth c s₁ B hml hv
  obtain ⟨rfl, hP, hK⟩ := hv
  have hx := B.exec
  have hb := B.bytes
  have hr := B.returns
  have hts := atoms_spec (ws := wsX10_keep) B.pre
  have hin : ∀ w ∈ u_ws RX10 TX10 35, w ∈ wsX10_keep := by decide +kernel
  have hown : s.vm.findClass RX10 = some m.cls := findClass_of_methodNamed B.named
  have hlocks := B.notSynchronized
  have hS : va_S (AM mo a) s.heap s.heap [] := va_S.rf
  have hl := lv_entry ([.ref mo, .int d, .int what, .int k0, .long p0]) (n := 8) (Nat.le_of_ble_eq_true rfl)
  rw [lg_entry_eq]
  generalize (lg_sl ([.ref mo, .int d, .int what, .int k0, .long p0]) ++ List.replicate (8 - (lg_sl ([.ref mo, .int d, .int what, .int k0, .long p0])).length) Slot.unset).toArray = ls at hl ⊢
  have hl : lv_has ls 8 [(0, .ref mo), (1, .int d), (2, .int what), (3, .int k0), (4, .long p0)] := hl
  have k_m15 : (-15 : Int32).toInt = -15 := by decide
  have k_m1 : (-1 : Int32).toInt = -1 := by decide
  have k_0 : (0 : Int32).toInt = 0 := by decide
  have k_1 : (1 : Int32).toInt = 1 := by decide
  have k_3 : (3 : Int32).toInt = 3 := by decide
  have k_4 : (4 : Int32).toInt = 4 := by decide
  have k_11 : (11 : Int32).toInt = 11 := by decide
  have k_44 : (44 : Int32).toInt = 44 := by decide
  have k_60 : (60 : Int32).toInt = 60 := by decide
  have hI1 := hI.1
  refine lv_aload_n hx hb dX10_keep_0 rfl (lv_at hl 0 rfl) ?_
  refine lv_iconst (v := 0) hx hb dX10_keep_1 (by decide) ?_
  refine m_put (v := .int (0 : Int32)) (ty := .int) hx hb hts hin hown hK hP hD hS 0 (by decide) rfl (hts (.fieldLink RX10 79 "ShadowBenchModel" "thrown" "I") (by decide +kernel)) rfl (by decide +kernel) rfl rfl (upd f 0 (0 : Int32)) g rfl dX10_keep_2 (fun H locs hP hS => ?_)
  refine lv_iload_n hx hb dX10_keep_5 rfl (lv_at hl 1 rfl) ?_
  refine m_pu (As := [.int d]) (rest := []) ⟨hx, hb, hml, hown, hts⟩ (c_X10_isShelf l d ) (va_cwS 1 hts gX10_keep_X10_isShelf rfl rfl rfl (by decide +kernel) ⟨Nat.le_of_ble_eq_true rfl, Nat.le_of_ble_eq_true rfl⟩) hP rfl hl.1 rfl (Nat.le_of_ble_eq_true rfl) dX10_keep_6 ⟨Nat.le_of_ble_eq_true rfl, Nat.le_of_ble_eq_true rfl⟩ hS (fun r6 H locs q6 hP hS => ?_)
  refine lv_if_eq (tgt := 71) hx hb dX10_keep_9 (by decide) (fun c9 => ?_) (fun c9 => ?_)
  · skip
    have b9 := bo_f q6 c9
    refine lv_iconst (v := 0) hx hb dX10_keep_71 (by decide) ?_
    refine lv_istore (lv' := [(6, .int (0 : Int32)), (0, .ref mo), (1, .int d), (2, .int what), (3, .int k0), (4, .long p0)]) hx hb dX10_keep_72 hl (by decide) rfl (fun ls hl => ?_)
    refine lv_iload hx hb dX10_keep_74 (lv_at hl 0 rfl) ?_
    refine lv_if_ne (tgt := 81) hx hb dX10_keep_76 (by decide) (fun c76 => ?_) (fun c76 => ?_)
    · first | exact absurd c76 (by decide) | exact absurd (by decide) c76
    · skip
      have d76 := c76
      rw [fa_eq] at d76
      refine lv_iconst (v := (-1)) hx hb dX10_keep_79 (by decide) ?_
      have hP := wm_eq rfl rfl (ec_r___29_30_31_32 r ) (ec_q___33 q ) hP
      exact W.iret (v := ((-1) : Int32)) hx hb hr (fun t ht hW => ⟨⟨_, ((upd f 0 (0 : Int32)), g, (va_up (va_up (va_up (va_up r 29 (r 29)) 30 (r 30)) 31 (r 31)) 32 (r 32)), (va_up q 33 (q 33))), rfl, ⟨(r 29), (r 30), (r 31), (r 32), (q 33), rfl, ⟨(Or.inr ⟨(fun z9 => by unfold okKeep okJob at z9; rcases z9.2 with z8 | ⟨z8, z7⟩ | ⟨z8, z7, z6⟩; (first | exact b9 z9.1 | omega); (first | exact b9 z9.1 | exact b31 z7 | omega); (first | exact b9 z9.1 | exact b44 z7 | (have szw := mi_w hI (x := k0) (by omega) (by omega) rfl; have szh := mi_h hI (x := k0) (by omega) (by omega) rfl; subst e52; subst e58; exact goodP_no b64 ⟨⟨szw, szh⟩, z6⟩) | omega)), rfl⟩), by first | exact hI | exact mi_sz (d := d) hI (v := v110) (by omega) rfl rfl rfl rfl rfl rfl rfl rfl | exact mi_sz (d := d) hI (v := v131) (by omega) rfl rfl rfl rfl rfl rfl rfl rfl | exact mi_sz (d := d) hI (v := 0) (by decide) rfl rfl rfl rfl rfl rfl rfl rfl⟩⟩, by unfold mB; rw [ht]; exact hP⟩, hS.F ht⟩) hS.2.2 dX10_keep_80
  · skip
    have b9 := bo_t q6 c9
    refine lv_iload_n hx hb dX10_keep_12 rfl (lv_at hl 2 rfl) ?_
    refine lv_if_eq (tgt := 67) hx hb dX10_keep_13 (by decide) (fun c13 => ?_) (fun c13 => ?_)
    · skip
      have d13 := c13
      rw [fa_eq] at d13
      refine lv_iconst (v := 1) hx hb dX10_keep_67 (by decide) ?_
      refine lv_goto (tgt := 72) hx hb dX10_keep_68 (by decide) ?_
      refine lv_istore (lv' := [(6, .int (1 : Int32)), (0, .ref mo), (1, .int d), (2, .int what), (3, .int k0), (4, .long p0)]) hx hb dX10_keep_72 hl (by decide) rfl (fun ls hl => ?_)
      refine lv_iload hx hb dX10_keep_74 (lv_at hl 0 rfl) ?_
      refine lv_if_ne (tgt := 81) hx hb dX10_keep_76 (by decide) (fun c76 => ?_) (fun c76 => ?_)
      · skip
        have d76 := c76
        rw [fa_eq] at d76
        refine lv_aload_n hx hb dX10_keep_81 rfl (lv_at hl 1 rfl) ?_
        refine m_get (v := .ref (a 29)) hx hb hts hin hown hK hP 29 (by decide) rfl (hts (.fieldLink RX10 61 "ShadowBenchModel" "shelf" "[I") (by decide +kernel)) rfl dX10_keep_82 ?_
        refine lv_iload_n hx hb dX10_keep_85 rfl (lv_at hl 2 rfl) ?_
        refine lv_iload_n hx hb dX10_keep_86 rfl (lv_at hl 3 rfl) ?_
        refine m_iast (w := (r 29)) hx hb hK hP hD hS 17 rfl (vp_in_iff.mpr ⟨by omega, by omega⟩) (va_up r 29 (upd (r 29) d.toNatClampNeg what)) (ms_29 cy mo a _ _ _ _ _) dX10_keep_87 (fun H locs hP hS => ?_)
        refine lv_aload_n hx hb dX10_keep_88 rfl (lv_at hl 1 rfl) ?_
        refine m_get (v := .ref (a 30)) hx hb hts hin hown hK hP 30 (by decide) rfl (hts (.fieldLink RX10 64 "ShadowBenchModel" "shelfSize" "[I") (by decide +kernel)) rfl dX10_keep_89 ?_
        refine lv_iload_n hx hb dX10_keep_92 rfl (lv_at hl 2 rfl) ?_
        refine lv_iload_n hx hb dX10_keep_93 rfl (lv_at hl 3 rfl) ?_
        refine lv_iconst (v := 3) hx hb dX10_keep_94 (by decide) ?_
        refine lv_icmp_ne (tgt := 114) hx hb dX10_keep_95 (by decide) (fun c95 => ?_) (fun c95 => ?_)
        · skip
          have d95 := c95
          rw [fa_eq] at d95
          refine lv_iload_n hx hb dX10_keep_114 rfl (lv_at hl 3 rfl) ?_
          refine lv_iconst (v := 4) hx hb dX10_keep_115 (by decide) ?_
          refine lv_icmp_ne (tgt := 135) hx hb dX10_keep_116 (by decide) (fun c116 => ?_) (fun c116 => ?_)
          · skip
            have d116 := c116
            rw [fa_eq] at d116
            refine lv_iconst (v := 0) hx hb dX10_keep_135 (by decide) ?_
            refine m_iast (w := (r 30)) hx hb hK hP hD hS 18 rfl (vp_in_iff.mpr ⟨by omega, by omega⟩) (va_up (va_up r 29 ((upd (r 29) d.toNatClampNeg what))) 30 (upd (r 30) d.toNatClampNeg (0 : Int32))) (ms_30 cy mo a _ _ _ _ _) dX10_keep_136 (fun H locs hP hS => ?_)
            refine lv_iload_n hx hb dX10_keep_137 rfl (lv_at hl 3 rfl) ?_
            refine lv_iconst (v := 1) hx hb dX10_keep_138 (by decide) ?_
            refine lv_icmp_ne (tgt := 174) hx hb dX10_keep_139 (by decide) (fun c139 => ?_) (fun c139 => ?_)
            · skip
              have d139 := c139
              rw [fa_eq] at d139
              refine lv_iconst (v := 0) hx hb dX10_keep_174 (by decide) ?_
              refine lv_istore (lv' := [(7, .int (0 : Int32)), (6, .int (1 : Int32)), (0, .ref mo), (1, .int d), (2, .int what), (3, .int k0), (4, .long p0)]) hx hb dX10_keep_175 hl (by decide) rfl (fun ls hl => ?_)
              have loop_177 : ∀ (n : Nat) (i : Nat) (s3 : Nat → Int64), (i ≤ 60) → 60 - i < n → ∀ (H : Heap) (locs : List Loc), va_P D vwCl (WM cy mo a (upd f 0 (0 : Int32)) g (va_up (va_up r 29 ((upd (r 29) d.toNatClampNeg what))) 30 ((upd (r 30) d.toNatClampNeg (0 : Int32)))) (va_up q 33 s3)) H → va_S (AM mo a) s.heap H locs → ∀ (ls : Array Slot), lv_has ls 8 [(7, .int (nI i)), (6, .int (1 : Int32)), (0, .ref mo), (1, .int d), (2, .int what), (3, .int k0), (4, .long p0)] → W p l e (headSpec wsX10_keep ({ frames := 3, cells := 0, slots := 0, locals := 69 })).room s m #[Value.ref mo, Value.int d, Value.int what, Value.int k0, Value.long p0] below meth c H locs 0 0 (MQ below (va_Qi (fun r0 u => ∃ (sh : Nat → Int32), ∃ (sz : Nat → Int32), ∃ (sw : Nat → Int32), ∃ (sf : Nat → Int32), ∃ (sr : Nat → Int64), u = ((upd f 0 (0 : Int32)), g, (va_up (va_up (va_up (va_up r 29 sh) 30 sz) 31 sw) 32 sf), (va_up q 33 sr)) ∧ (yesNo (okKeep (f 1) (fun j9 => (r 3 j9).toNatClampNeg) (fun j9 => (r 4 j9).toNatClampNeg) d what k0 p0) 0 (-1) r0 ∧ MI (upd f 0 (0 : Int32)) (va_up (va_up (va_up (va_up r 29 sh) 30 sz) 31 sw) 32 sf))) (mB D cy mo a) (AM mo a)) #[Value.ref mo, Value.int d, Value.int what, Value.int k0, Value.long p0] s 0 0 (AM mo a)) (F0 m 177 ls []) := by
                intro n
                induction n with
                | zero => intro i s3 j177_0 hn; exact absurd hn (Nat.not_lt_zero _)
                | succ n ih_177 =>
                  intro i s3 j177_0 hn_177 H locs hP hS ls hl
                  have ii : (nI i).toInt = (i : Int) := nI_toInt (by omega)
                  refine lv_iload hx hb dX10_keep_177 (lv_at hl 0 rfl) ?_
                  refine lv_aload_n hx hb dX10_keep_179 rfl (lv_at hl 2 rfl) ?_
                  refine m_get (v := .ref (a 30)) hx hb hts hin hown hK hP 30 (by decide) rfl (hts (.fieldLink RX10 64 "ShadowBenchModel" "shelfSize" "[I") (by decide +kernel)) rfl dX10_keep_180 ?_
                  refine lv_iload_n hx hb dX10_keep_183 rfl (lv_at hl 3 rfl) ?_
                  refine m_iald (w := ((upd (r 30) d.toNatClampNeg (0 : Int32)))) hx hb hK hP 18 rfl (vp_in_iff.mpr ⟨by omega, by omega⟩) dX10_keep_184 ?_
                  refine lv_topi (fun v184 e184 => ?_)
                  have i184 : v184.toInt = (((upd (r 30) d.toNatClampNeg (0 : Int32))) d.toNatClampNeg).toInt := congrArg Int32.toInt e184
                  have z184 := e184
                  simp only [upd, if_true] at z184
                  have y184 := congrArg Int32.toInt z184
                  refine lv_icmp_ge (tgt := 272) hx hb dX10_keep_185 (by decide) (fun c185 => ?_) (fun c185 => ?_)
                  · skip
                    have d185 := c185
                    rw [fa_le] at d185
                    refine lv_iconst (v := 0) hx hb dX10_keep_272 (by decide) ?_
                    have hP := wm_eq rfl rfl (ec_r_29_30__29_30_31_32 r ((upd (r 29) d.toNatClampNeg what)) ((upd (r 30) d.toNatClampNeg (0 : Int32)))) rfl hP
                    exact W.iret (v := (0 : Int32)) hx hb hr (fun t ht hW => ⟨⟨_, ((upd f 0 (0 : Int32)), g, (va_up (va_up (va_up (va_up r 29 (((upd (r 29) d.toNatClampNeg what)))) 30 (((upd (r 30) d.toNatClampNeg (0 : Int32))))) 31 (r 31)) 32 (r 32)), (va_up q 33 s3)), rfl, ⟨((upd (r 29) d.toNatClampNeg what)), ((upd (r 30) d.toNatClampNeg (0 : Int32))), (r 31), (r 32), s3, rfl, ⟨(Or.inl ⟨⟨b9, (by unfold okJob; first | exact Or.inl (by omega) | exact Or.inr (Or.inl ⟨by omega, b31⟩) | (have z9 := goodP_of b64; subst e52; subst e58; exact Or.inr (Or.inr ⟨by omega, b44, z9.2⟩)))⟩, rfl⟩), by first | exact hI | exact mi_sz (d := d) hI (v := v110) (by omega) rfl rfl rfl rfl rfl rfl rfl rfl | exact mi_sz (d := d) hI (v := v131) (by omega) rfl rfl rfl rfl rfl rfl rfl rfl | exact mi_sz (d := d) hI (v := 0) (by decide) rfl rfl rfl rfl rfl rfl rfl rfl⟩⟩, by unfold mB; rw [ht]; exact hP⟩, hS.F ht⟩) hS.2.2 dX10_keep_273
                  · skip
                    have d185 := c185
                    rw [fa_le] at d185
                    refine lv_aload_n hx hb dX10_keep_188 rfl (lv_at hl 2 rfl) ?_
                    refine m_get (v := .ref (a 33)) hx hb hts hin hown hK hP 33 (by decide) rfl (hts (.fieldLink RX10 73 "ShadowBenchModel" "shelfRow" "[J") (by decide +kernel)) rfl dX10_keep_189 ?_
                    refine lv_bipush (v := 60) hx hb dX10_keep_192 (by decide) ?_
                    refine lv_iload_n hx hb dX10_keep_194 rfl (lv_at hl 3 rfl) ?_
                    refine lv_imul hx hb dX10_keep_195 ?_
                    refine lv_topi (fun v195 e195 => ?_)
                    have i195 : v195.toInt = 60 * d.toInt := by rw [e195]; exact mulcL rfl (by omega) (by omega)
                    refine lv_iload hx hb dX10_keep_196 (lv_at hl 0 rfl) ?_
                    refine lv_iadd hx hb dX10_keep_198 ?_
                    refine lv_topi (fun v198 e198 => ?_)
                    have i198 : v198.toInt = v195.toInt + (nI i).toInt := by rw [e198]; exact fb_addI (by omega) (by omega)
                    refine lv_iload_n hx hb dX10_keep_199 rfl (lv_at hl 4 rfl) ?_
                    refine lv_iconst (v := 3) hx hb dX10_keep_200 (by decide) ?_
                    refine lv_icmp_ne (tgt := 215) hx hb dX10_keep_201 (by decide) (fun c201 => ?_) (fun c201 => ?_)
                    · skip
                      have d201 := c201
                      rw [fa_eq] at d201
                      refine lv_iload hx hb dX10_keep_215 (lv_at hl 0 rfl) ?_
                      refine lv_aload_n hx hb dX10_keep_217 rfl (lv_at hl 2 rfl) ?_
                      refine m_get (v := .ref (a 4)) hx hb hts hin hown hK hP 4 (by decide) rfl (hts (.fieldLink RX10 16 "ShadowBenchModel" "high" "[I") (by decide +kernel)) rfl dX10_keep_218 ?_
                      refine lv_iload_n hx hb dX10_keep_221 rfl (lv_at hl 5 rfl) ?_
                      refine m_iald (w := (r 4)) hx hb hK hP 3 rfl (vp_in_iff.mpr ⟨by omega, by omega⟩) dX10_keep_222 ?_
                      refine lv_topi (fun v222 e222 => ?_)
                      have i222 : v222.toInt = ((r 4) k0.toNatClampNeg).toInt := congrArg Int32.toInt e222
                      have w222 := mi_h hI (x := k0) (by omega) (by omega) e222
                      refine lv_icmp_ge (tgt := 242) hx hb dX10_keep_223 (by decide) (fun c223 => ?_) (fun c223 => ?_)
                      · skip
                        have d223 := c223
                        rw [fa_le] at d223
                        refine lv_aload_n hx hb dX10_keep_242 rfl (lv_at hl 2 rfl) ?_
                        refine m_get (v := .ref (a 5)) hx hb hts hin hown hK hP 5 (by decide) rfl (hts (.fieldLink RX10 19 "ShadowBenchModel" "sums" "[I") (by decide +kernel)) rfl dX10_keep_243 ?_
                        refine lv_bipush (v := 44) hx hb dX10_keep_246 (by decide) ?_
                        refine lv_iload_n hx hb dX10_keep_248 rfl (lv_at hl 5 rfl) ?_
                        refine lv_imul hx hb dX10_keep_249 ?_
                        refine lv_topi (fun v249 e249 => ?_)
                        have i249 : v249.toInt = 44 * k0.toInt := by rw [e249]; exact mulcL rfl (by omega) (by omega)
                        refine lv_bipush (v := 11) hx hb dX10_keep_250 (by decide) ?_
                        refine lv_iadd hx hb dX10_keep_252 ?_
                        refine lv_topi (fun v252 e252 => ?_)
                        have i252 : v252.toInt = v249.toInt + (11 : Int32).toInt := by rw [e252]; exact fb_addI (by omega) (by omega)
                        refine lv_iload hx hb dX10_keep_253 (lv_at hl 0 rfl) ?_
                        refine lv_iadd hx hb dX10_keep_255 ?_
                        refine lv_topi (fun v255 e255 => ?_)
                        have i255 : v255.toInt = v252.toInt + (nI i).toInt := by rw [e255]; exact fb_addI (by omega) (by omega)
                        refine lv_aload_n hx hb dX10_keep_256 rfl (lv_at hl 2 rfl) ?_
                        refine m_get (v := .ref (a 4)) hx hb hts hin hown hK hP 4 (by decide) rfl (hts (.fieldLink RX10 16 "ShadowBenchModel" "high" "[I") (by decide +kernel)) rfl dX10_keep_257 ?_
                        refine lv_iload_n hx hb dX10_keep_260 rfl (lv_at hl 5 rfl) ?_
                        refine m_iald (w := (r 4)) hx hb hK hP 3 rfl (vp_in_iff.mpr ⟨by omega, by omega⟩) dX10_keep_261 ?_
                        refine lv_topi (fun v261 e261 => ?_)
                        have i261 : v261.toInt = ((r 4) k0.toNatClampNeg).toInt := congrArg Int32.toInt e261
                        have w261 := mi_h hI (x := k0) (by omega) (by omega) e261
                        refine lv_isub hx hb dX10_keep_262 ?_
                        refine lv_topi (fun v262 e262 => ?_)
                        have i262 : v262.toInt = v255.toInt - v261.toInt := by rw [e262]; exact fb_subI (by omega) (by omega)
                        refine m_iald (w := (r 5)) hx hb hK hP 4 rfl (vp_in_iff.mpr ⟨by omega, by omega⟩) dX10_keep_263 ?_
                        refine lv_topi (fun v263 e263 => ?_)
                        have i263 : v263.toInt = ((r 5) v262.toNatClampNeg).toInt := congrArg Int32.toInt e263
                        refine lv_i2l (v := v263.toInt64) hx hb dX10_keep_264 rfl ?_
                        refine m_last (w := s3) hx hb hK hP hD hS 21 rfl (vp_in_iff.mpr ⟨by omega, by omega⟩) (va_up (va_up q 33 s3) 33 (vp_updL s3 v198.toNatClampNeg v263.toInt64)) (ms_33 cy mo a _ _ _ _ _) dX10_keep_265 (fun H locs hP hS => ?_)
                        have hP := wm_eq rfl rfl rfl (es_q_33__33 q s3 (vp_updL s3 v198.toNatClampNeg v263.toInt64)) hP
                        refine lv_iinc (v := (nI (i + 1))) (lv' := [(7, .int (nI (i + 1))), (6, .int (1 : Int32)), (0, .ref mo), (1, .int d), (2, .int what), (3, .int k0), (4, .long p0)]) hx hb dX10_keep_266 hl (k := 0) rfl (nI_1 _) (by decide) rfl (fun ls hl => ?_)
                        refine lv_goto (tgt := 177) hx hb dX10_keep_269 (by decide) ?_
                        have hP := wm_eq rfl rfl (ec_r_29_30__29_30 r ((upd (r 29) d.toNatClampNeg what)) ((upd (r 30) d.toNatClampNeg (0 : Int32)))) rfl hP
                        exact ih_177 (i + 1) (vp_updL s3 v198.toNatClampNeg v263.toInt64) (by omega) (by omega) _ _ hP hS ls (lv_sub hl [0, 1, 2, 3, 4, 5, 6] rfl)
                      · skip
                        have d223 := c223
                        rw [fa_le] at d223
                        refine lv_aload_n hx hb dX10_keep_226 rfl (lv_at hl 2 rfl) ?_
                        refine m_get (v := .ref (a 5)) hx hb hts hin hown hK hP 5 (by decide) rfl (hts (.fieldLink RX10 19 "ShadowBenchModel" "sums" "[I") (by decide +kernel)) rfl dX10_keep_227 ?_
                        refine lv_bipush (v := 44) hx hb dX10_keep_230 (by decide) ?_
                        refine lv_iload_n hx hb dX10_keep_232 rfl (lv_at hl 5 rfl) ?_
                        refine lv_imul hx hb dX10_keep_233 ?_
                        refine lv_topi (fun v233 e233 => ?_)
                        have i233 : v233.toInt = 44 * k0.toInt := by rw [e233]; exact mulcL rfl (by omega) (by omega)
                        refine lv_iload hx hb dX10_keep_234 (lv_at hl 0 rfl) ?_
                        refine lv_iadd hx hb dX10_keep_236 ?_
                        refine lv_topi (fun v236 e236 => ?_)
                        have i236 : v236.toInt = v233.toInt + (nI i).toInt := by rw [e236]; exact fb_addI (by omega) (by omega)
                        refine m_iald (w := (r 5)) hx hb hK hP 4 rfl (vp_in_iff.mpr ⟨by omega, by omega⟩) dX10_keep_237 ?_
                        refine lv_topi (fun v237 e237 => ?_)
                        have i237 : v237.toInt = ((r 5) v236.toNatClampNeg).toInt := congrArg Int32.toInt e237
                        refine lv_i2l (v := v237.toInt64) hx hb dX10_keep_238 rfl ?_
                        refine lv_goto (tgt := 265) hx hb dX10_keep_239 (by decide) ?_
                        refine m_last (w := s3) hx hb hK hP hD hS 21 rfl (vp_in_iff.mpr ⟨by omega, by omega⟩) (va_up (va_up q 33 s3) 33 (vp_updL s3 v198.toNatClampNeg v237.toInt64)) (ms_33 cy mo a _ _ _ _ _) dX10_keep_265 (fun H locs hP hS => ?_)
                        have hP := wm_eq rfl rfl rfl (es_q_33__33 q s3 (vp_updL s3 v198.toNatClampNeg v237.toInt64)) hP
                        refine lv_iinc (v := (nI (i + 1))) (lv' := [(7, .int (nI (i + 1))), (6, .int (1 : Int32)), (0, .ref mo), (1, .int d), (2, .int what), (3, .int k0), (4, .long p0)]) hx hb dX10_keep_266 hl (k := 0) rfl (nI_1 _) (by decide) rfl (fun ls hl => ?_)
                        refine lv_goto (tgt := 177) hx hb dX10_keep_269 (by decide) ?_
                        have hP := wm_eq rfl rfl (ec_r_29_30__29_30 r ((upd (r 29) d.toNatClampNeg what)) ((upd (r 30) d.toNatClampNeg (0 : Int32)))) rfl hP
                        exact ih_177 (i + 1) (vp_updL s3 v198.toNatClampNeg v237.toInt64) (by omega) (by omega) _ _ hP hS ls (lv_sub hl [0, 1, 2, 3, 4, 5, 6] rfl)
                    · first | exact absurd c201 c95 | exact absurd c95 c201
              have hP := wm_eq rfl rfl (ec_r_29_30__29_30 r ((upd (r 29) d.toNatClampNeg what)) ((upd (r 30) d.toNatClampNeg (0 : Int32)))) (ec_q___33 q ) hP
              exact loop_177 (60 + 1) 0 (q 33) (by omega) (by omega) _ _ hP hS ls (lv_sub hl [0, 1, 2, 3, 4, 5, 6] rfl)
            · skip
              have d139 := c139
              rw [fa_eq] at d139
              refine lv_aload_n hx hb dX10_keep_142 rfl (lv_at hl 1 rfl) ?_
              refine m_get (v := .ref (a 31)) hx hb hts hin hown hK hP 31 (by decide) rfl (hts (.fieldLink RX10 67 "ShadowBenchModel" "shelfWeight" "[I") (by decide +kernel)) rfl dX10_keep_143 ?_
              refine lv_iload_n hx hb dX10_keep_146 rfl (lv_at hl 2 rfl) ?_
              refine lv_aload_n hx hb dX10_keep_147 rfl (lv_at hl 1 rfl) ?_
              refine lv_iload_n hx hb dX10_keep_148 rfl (lv_at hl 4 rfl) ?_
              refine m_calli (As := [.int k0]) (rest := [.int d, .ref (a 31)]) ⟨hx, hb, hml, hown, hts⟩ (c_X10_weightOf l D cy mo a (upd f 0 (0 : Int32)) g (va_up (va_up r 29 ((upd (r 29) d.toNatClampNeg what))) 30 ((upd (r 30) d.toNatClampNeg (0 : Int32)))) q k0 hD (by first | exact hI | exact mi_sz (d := d) hI (v := 0) (by first | omega | decide) rfl rfl rfl rfl rfl rfl rfl rfl | exact mi_sz (d := d) hI (v := v131) (by first | omega | decide) rfl rfl rfl rfl rfl rfl rfl rfl | exact mi_sz (d := d) hI (v := v110) (by first | omega | decide) rfl rfl rfl rfl rfl rfl rfl rfl) (show 0 ≤ k0.toInt ∧ k0.toInt < (f 1).toInt by omega)) (cwV 1 hts gX10_keep_X10_weightOf rfl rfl rfl (by decide +kernel) ⟨Nat.le_of_ble_eq_true rfl, Nat.le_of_ble_eq_true rfl⟩) hK hP rfl hl.1 rfl (Nat.le_of_ble_eq_true rfl) dX10_keep_149 ⟨Nat.le_of_ble_eq_true rfl, Nat.le_of_ble_eq_true rfl⟩ hS (fun r149 u H locs q149 hP hS => ?_)
              obtain ⟨rfl, q149⟩ := q149
              have hP : va_P D vwCl (WM cy mo a (upd f 0 (0 : Int32)) g (va_up (va_up r 29 ((upd (r 29) d.toNatClampNeg what))) 30 ((upd (r 30) d.toNatClampNeg (0 : Int32)))) q) H := hP
              have q149 : True := q149
              refine m_iast (w := (r 31)) hx hb hK hP hD hS 19 rfl (vp_in_iff.mpr ⟨by omega, by omega⟩) (va_up (va_up (va_up r 29 ((upd (r 29) d.toNatClampNeg what))) 30 ((upd (r 30) d.toNatClampNeg (0 : Int32)))) 31 (upd (r 31) d.toNatClampNeg r149)) (ms_31 cy mo a _ _ _ _ _) dX10_keep_152 (fun H locs hP hS => ?_)
              refine lv_aload_n hx hb dX10_keep_153 rfl (lv_at hl 1 rfl) ?_
              refine m_get (v := .ref (a 32)) hx hb hts hin hown hK hP 32 (by decide) rfl (hts (.fieldLink RX10 70 "ShadowBenchModel" "shelfFailure" "[I") (by decide +kernel)) rfl dX10_keep_154 ?_
              refine lv_iload_n hx hb dX10_keep_157 rfl (lv_at hl 2 rfl) ?_
              refine lv_aload_n hx hb dX10_keep_158 rfl (lv_at hl 1 rfl) ?_
              refine m_get (v := .ref (a 2)) hx hb hts hin hown hK hP 2 (by decide) rfl (hts (.fieldLink RX10 7 "ShadowBenchModel" "kind" "[I") (by decide +kernel)) rfl dX10_keep_159 ?_
              refine lv_iload_n hx hb dX10_keep_162 rfl (lv_at hl 4 rfl) ?_
              refine m_iald (w := (r 2)) hx hb hK hP 1 rfl (vp_in_iff.mpr ⟨by omega, by omega⟩) dX10_keep_163 ?_
              refine lv_topi (fun v163 e163 => ?_)
              have i163 : v163.toInt = ((r 2) k0.toNatClampNeg).toInt := congrArg Int32.toInt e163
              refine lv_if_ne (tgt := 172) hx hb dX10_keep_164 (by decide) (fun c164 => ?_) (fun c164 => ?_)
              · skip
                have d164 := c164
                rw [fa_eq] at d164
                refine lv_iload_n hx hb dX10_keep_172 rfl (lv_at hl 4 rfl) ?_
                refine m_iast (w := (r 32)) hx hb hK hP hD hS 20 rfl (vp_in_iff.mpr ⟨by omega, by omega⟩) (va_up (va_up (va_up (va_up r 29 ((upd (r 29) d.toNatClampNeg what))) 30 ((upd (r 30) d.toNatClampNeg (0 : Int32)))) 31 ((upd (r 31) d.toNatClampNeg r149))) 32 (upd (r 32) d.toNatClampNeg k0)) (ms_32 cy mo a _ _ _ _ _) dX10_keep_173 (fun H locs hP hS => ?_)
                refine lv_iconst (v := 0) hx hb dX10_keep_174 (by decide) ?_
                refine lv_istore (lv' := [(7, .int (0 : Int32)), (6, .int (1 : Int32)), (0, .ref mo), (1, .int d), (2, .int what), (3, .int k0), (4, .long p0)]) hx hb dX10_keep_175 hl (by decide) rfl (fun ls hl => ?_)
                have loop_177 : ∀ (n : Nat) (i : Nat) (s3 : Nat → Int64), (i ≤ 60) → 60 - i < n → ∀ (H : Heap) (locs : List Loc), va_P D vwCl (WM cy mo a (upd f 0 (0 : Int32)) g (va_up (va_up (va_up (va_up r 29 ((upd (r 29) d.toNatClampNeg what))) 30 ((upd (r 30) d.toNatClampNeg (0 : Int32)))) 31 ((upd (r 31) d.toNatClampNeg r149))) 32 ((upd (r 32) d.toNatClampNeg k0))) (va_up q 33 s3)) H → va_S (AM mo a) s.heap H locs → ∀ (ls : Array Slot), lv_has ls 8 [(7, .int (nI i)), (6, .int (1 : Int32)), (0, .ref mo), (1, .int d), (2, .int what), (3, .int k0), (4, .long p0)] → W p l e (headSpec wsX10_keep ({ frames := 3, cells := 0, slots := 0, locals := 69 })).room s m #[Value.ref mo, Value.int d, Value.int what, Value.int k0, Value.long p0] below meth c H locs 0 0 (MQ below (va_Qi (fun r0 u => ∃ (sh : Nat → Int32), ∃ (sz : Nat → Int32), ∃ (sw : Nat → Int32), ∃ (sf : Nat → Int32), ∃ (sr : Nat → Int64), u = ((upd f 0 (0 : Int32)), g, (va_up (va_up (va_up (va_up r 29 sh) 30 sz) 31 sw) 32 sf), (va_up q 33 sr)) ∧ (yesNo (okKeep (f 1) (fun j9 => (r 3 j9).toNatClampNeg) (fun j9 => (r 4 j9).toNatClampNeg) d what k0 p0) 0 (-1) r0 ∧ MI (upd f 0 (0 : Int32)) (va_up (va_up (va_up (va_up r 29 sh) 30 sz) 31 sw) 32 sf))) (mB D cy mo a) (AM mo a)) #[Value.ref mo, Value.int d, Value.int what, Value.int k0, Value.long p0] s 0 0 (AM mo a)) (F0 m 177 ls []) := by
                  intro n
                  induction n with
                  | zero => intro i s3 j177_0 hn; exact absurd hn (Nat.not_lt_zero _)
                  | succ n ih_177 =>
                    intro i s3 j177_0 hn_177 H locs hP hS ls hl
                    have ii : (nI i).toInt = (i : Int) := nI_toInt (by omega)
                    refine lv_iload hx hb dX10_keep_177 (lv_at hl 0 rfl) ?_
                    refine lv_aload_n hx hb dX10_keep_179 rfl (lv_at hl 2 rfl) ?_
                    refine m_get (v := .ref (a 30)) hx hb hts hin hown hK hP 30 (by decide) rfl (hts (.fieldLink RX10 64 "ShadowBenchModel" "shelfSize" "[I") (by decide +kernel)) rfl dX10_keep_180 ?_
                    refine lv_iload_n hx hb dX10_keep_183 rfl (lv_at hl 3 rfl) ?_
                    refine m_iald (w := ((upd (r 30) d.toNatClampNeg (0 : Int32)))) hx hb hK hP 18 rfl (vp_in_iff.mpr ⟨by omega, by omega⟩) dX10_keep_184 ?_
                    refine lv_topi (fun v184 e184 => ?_)
                    have i184 : v184.toInt = (((upd (r 30) d.toNatClampNeg (0 : Int32))) d.toNatClampNeg).toInt := congrArg Int32.toInt e184
                    have z184 := e184
                    simp only [upd, if_true] at z184
                    have y184 := congrArg Int32.toInt z184
                    refine lv_icmp_ge (tgt := 272) hx hb dX10_keep_185 (by decide) (fun c185 => ?_) (fun c185 => ?_)
                    · skip
                      have d185 := c185
                      rw [fa_le] at d185
                      refine lv_iconst (v := 0) hx hb dX10_keep_272 (by decide) ?_
                      have hP := wm_eq rfl rfl (ec_r_29_30_31_32__29_30_31_32 r ((upd (r 29) d.toNatClampNeg what)) ((upd (r 30) d.toNatClampNeg (0 : Int32))) ((upd (r 31) d.toNatClampNeg r149)) ((upd (r 32) d.toNatClampNeg k0))) rfl hP
                      exact W.iret (v := (0 : Int32)) hx hb hr (fun t ht hW => ⟨⟨_, ((upd f 0 (0 : Int32)), g, (va_up (va_up (va_up (va_up r 29 (((upd (r 29) d.toNatClampNeg what)))) 30 (((upd (r 30) d.toNatClampNeg (0 : Int32))))) 31 (((upd (r 31) d.toNatClampNeg r149)))) 32 (((upd (r 32) d.toNatClampNeg k0)))), (va_up q 33 s3)), rfl, ⟨((upd (r 29) d.toNatClampNeg what)), ((upd (r 30) d.toNatClampNeg (0 : Int32))), ((upd (r 31) d.toNatClampNeg r149)), ((upd (r 32) d.toNatClampNeg k0)), s3, rfl, ⟨(Or.inl ⟨⟨b9, (by unfold okJob; first | exact Or.inl (by omega) | exact Or.inr (Or.inl ⟨by omega, b31⟩) | (have z9 := goodP_of b64; subst e52; subst e58; exact Or.inr (Or.inr ⟨by omega, b44, z9.2⟩)))⟩, rfl⟩), by first | exact hI | exact mi_sz (d := d) hI (v := v110) (by omega) rfl rfl rfl rfl rfl rfl rfl rfl | exact mi_sz (d := d) hI (v := v131) (by omega) rfl rfl rfl rfl rfl rfl rfl rfl | exact mi_sz (d := d) hI (v := 0) (by decide) rfl rfl rfl rfl rfl rfl rfl rfl⟩⟩, by unfold mB; rw [ht]; exact hP⟩, hS.F ht⟩) hS.2.2 dX10_keep_273
                    · skip
                      have d185 := c185
                      rw [fa_le] at d185
                      refine lv_aload_n hx hb dX10_keep_188 rfl (lv_at hl 2 rfl) ?_
                      refine m_get (v := .ref (a 33)) hx hb hts hin hown hK hP 33 (by decide) rfl (hts (.fieldLink RX10 73 "ShadowBenchModel" "shelfRow" "[J") (by decide +kernel)) rfl dX10_keep_189 ?_
                      refine lv_bipush (v := 60) hx hb dX10_keep_192 (by decide) ?_
                      refine lv_iload_n hx hb dX10_keep_194 rfl (lv_at hl 3 rfl) ?_
                      refine lv_imul hx hb dX10_keep_195 ?_
                      refine lv_topi (fun v195 e195 => ?_)
                      have i195 : v195.toInt = 60 * d.toInt := by rw [e195]; exact mulcL rfl (by omega) (by omega)
                      refine lv_iload hx hb dX10_keep_196 (lv_at hl 0 rfl) ?_
                      refine lv_iadd hx hb dX10_keep_198 ?_
                      refine lv_topi (fun v198 e198 => ?_)
                      have i198 : v198.toInt = v195.toInt + (nI i).toInt := by rw [e198]; exact fb_addI (by omega) (by omega)
                      refine lv_iload_n hx hb dX10_keep_199 rfl (lv_at hl 4 rfl) ?_
                      refine lv_iconst (v := 3) hx hb dX10_keep_200 (by decide) ?_
                      refine lv_icmp_ne (tgt := 215) hx hb dX10_keep_201 (by decide) (fun c201 => ?_) (fun c201 => ?_)
                      · skip
                        have d201 := c201
                        rw [fa_eq] at d201
                        refine lv_iload hx hb dX10_keep_215 (lv_at hl 0 rfl) ?_
                        refine lv_aload_n hx hb dX10_keep_217 rfl (lv_at hl 2 rfl) ?_
                        refine m_get (v := .ref (a 4)) hx hb hts hin hown hK hP 4 (by decide) rfl (hts (.fieldLink RX10 16 "ShadowBenchModel" "high" "[I") (by decide +kernel)) rfl dX10_keep_218 ?_
                        refine lv_iload_n hx hb dX10_keep_221 rfl (lv_at hl 5 rfl) ?_
                        refine m_iald (w := (r 4)) hx hb hK hP 3 rfl (vp_in_iff.mpr ⟨by omega, by omega⟩) dX10_keep_222 ?_
                        refine lv_topi (fun v222 e222 => ?_)
                        have i222 : v222.toInt = ((r 4) k0.toNatClampNeg).toInt := congrArg Int32.toInt e222
                        have w222 := mi_h hI (x := k0) (by omega) (by omega) e222
                        refine lv_icmp_ge (tgt := 242) hx hb dX10_keep_223 (by decide) (fun c223 => ?_) (fun c223 => ?_)
                        · skip
                          have d223 := c223
                          rw [fa_le] at d223
                          refine lv_aload_n hx hb dX10_keep_242 rfl (lv_at hl 2 rfl) ?_
                          refine m_get (v := .ref (a 5)) hx hb hts hin hown hK hP 5 (by decide) rfl (hts (.fieldLink RX10 19 "ShadowBenchModel" "sums" "[I") (by decide +kernel)) rfl dX10_keep_243 ?_
                          refine lv_bipush (v := 44) hx hb dX10_keep_246 (by decide) ?_
                          refine lv_iload_n hx hb dX10_keep_248 rfl (lv_at hl 5 rfl) ?_
                          refine lv_imul hx hb dX10_keep_249 ?_
                          refine lv_topi (fun v249 e249 => ?_)
                          have i249 : v249.toInt = 44 * k0.toInt := by rw [e249]; exact mulcL rfl (by omega) (by omega)
                          refine lv_bipush (v := 11) hx hb dX10_keep_250 (by decide) ?_
                          refine lv_iadd hx hb dX10_keep_252 ?_
                          refine lv_topi (fun v252 e252 => ?_)
                          have i252 : v252.toInt = v249.toInt + (11 : Int32).toInt := by rw [e252]; exact fb_addI (by omega) (by omega)
                          refine lv_iload hx hb dX10_keep_253 (lv_at hl 0 rfl) ?_
                          refine lv_iadd hx hb dX10_keep_255 ?_
                          refine lv_topi (fun v255 e255 => ?_)
                          have i255 : v255.toInt = v252.toInt + (nI i).toInt := by rw [e255]; exact fb_addI (by omega) (by omega)
                          refine lv_aload_n hx hb dX10_keep_256 rfl (lv_at hl 2 rfl) ?_
                          refine m_get (v := .ref (a 4)) hx hb hts hin hown hK hP 4 (by decide) rfl (hts (.fieldLink RX10 16 "ShadowBenchModel" "high" "[I") (by decide +kernel)) rfl dX10_keep_257 ?_
                          refine lv_iload_n hx hb dX10_keep_260 rfl (lv_at hl 5 rfl) ?_
                          refine m_iald (w := (r 4)) hx hb hK hP 3 rfl (vp_in_iff.mpr ⟨by omega, by omega⟩) dX10_keep_261 ?_
                          refine lv_topi (fun v261 e261 => ?_)
                          have i261 : v261.toInt = ((r 4) k0.toNatClampNeg).toInt := congrArg Int32.toInt e261
                          have w261 := mi_h hI (x := k0) (by omega) (by omega) e261
                          refine lv_isub hx hb dX10_keep_262 ?_
                          refine lv_topi (fun v262 e262 => ?_)
                          have i262 : v262.toInt = v255.toInt - v261.toInt := by rw [e262]; exact fb_subI (by omega) (by omega)
                          refine m_iald (w := (r 5)) hx hb hK hP 4 rfl (vp_in_iff.mpr ⟨by omega, by omega⟩) dX10_keep_263 ?_
                          refine lv_topi (fun v263 e263 => ?_)
                          have i263 : v263.toInt = ((r 5) v262.toNatClampNeg).toInt := congrArg Int32.toInt e263
                          refine lv_i2l (v := v263.toInt64) hx hb dX10_keep_264 rfl ?_
                          refine m_last (w := s3) hx hb hK hP hD hS 21 rfl (vp_in_iff.mpr ⟨by omega, by omega⟩) (va_up (va_up q 33 s3) 33 (vp_updL s3 v198.toNatClampNeg v263.toInt64)) (ms_33 cy mo a _ _ _ _ _) dX10_keep_265 (fun H locs hP hS => ?_)
                          have hP := wm_eq rfl rfl rfl (es_q_33__33 q s3 (vp_updL s3 v198.toNatClampNeg v263.toInt64)) hP
                          refine lv_iinc (v := (nI (i + 1))) (lv' := [(7, .int (nI (i + 1))), (6, .int (1 : Int32)), (0, .ref mo), (1, .int d), (2, .int what), (3, .int k0), (4, .long p0)]) hx hb dX10_keep_266 hl (k := 0) rfl (nI_1 _) (by decide) rfl (fun ls hl => ?_)
                          refine lv_goto (tgt := 177) hx hb dX10_keep_269 (by decide) ?_
                          have hP := wm_eq rfl rfl (ec_r_29_30_31_32__29_30_31_32 r ((upd (r 29) d.toNatClampNeg what)) ((upd (r 30) d.toNatClampNeg (0 : Int32))) ((upd (r 31) d.toNatClampNeg r149)) ((upd (r 32) d.toNatClampNeg k0))) rfl hP
                          exact ih_177 (i + 1) (vp_updL s3 v198.toNatClampNeg v263.toInt64) (by omega) (by omega) _ _ hP hS ls (lv_sub hl [0, 1, 2, 3, 4, 5, 6] rfl)
                        · skip
                          have d223 := c223
                          rw [fa_le] at d223
                          refine lv_aload_n hx hb dX10_keep_226 rfl (lv_at hl 2 rfl) ?_
                          refine m_get (v := .ref (a 5)) hx hb hts hin hown hK hP 5 (by decide) rfl (hts (.fieldLink RX10 19 "ShadowBenchModel" "sums" "[I") (by decide +kernel)) rfl dX10_keep_227 ?_
                          refine lv_bipush (v := 44) hx hb dX10_keep_230 (by decide) ?_
                          refine lv_iload_n hx hb dX10_keep_232 rfl (lv_at hl 5 rfl) ?_
                          refine lv_imul hx hb dX10_keep_233 ?_
                          refine lv_topi (fun v233 e233 => ?_)
                          have i233 : v233.toInt = 44 * k0.toInt := by rw [e233]; exact mulcL rfl (by omega) (by omega)
                          refine lv_iload hx hb dX10_keep_234 (lv_at hl 0 rfl) ?_
                          refine lv_iadd hx hb dX10_keep_236 ?_
                          refine lv_topi (fun v236 e236 => ?_)
                          have i236 : v236.toInt = v233.toInt + (nI i).toInt := by rw [e236]; exact fb_addI (by omega) (by omega)
                          refine m_iald (w := (r 5)) hx hb hK hP 4 rfl (vp_in_iff.mpr ⟨by omega, by omega⟩) dX10_keep_237 ?_
                          refine lv_topi (fun v237 e237 => ?_)
                          have i237 : v237.toInt = ((r 5) v236.toNatClampNeg).toInt := congrArg Int32.toInt e237
                          refine lv_i2l (v := v237.toInt64) hx hb dX10_keep_238 rfl ?_
                          refine lv_goto (tgt := 265) hx hb dX10_keep_239 (by decide) ?_
                          refine m_last (w := s3) hx hb hK hP hD hS 21 rfl (vp_in_iff.mpr ⟨by omega, by omega⟩) (va_up (va_up q 33 s3) 33 (vp_updL s3 v198.toNatClampNeg v237.toInt64)) (ms_33 cy mo a _ _ _ _ _) dX10_keep_265 (fun H locs hP hS => ?_)
                          have hP := wm_eq rfl rfl rfl (es_q_33__33 q s3 (vp_updL s3 v198.toNatClampNeg v237.toInt64)) hP
                          refine lv_iinc (v := (nI (i + 1))) (lv' := [(7, .int (nI (i + 1))), (6, .int (1 : Int32)), (0, .ref mo), (1, .int d), (2, .int what), (3, .int k0), (4, .long p0)]) hx hb dX10_keep_266 hl (k := 0) rfl (nI_1 _) (by decide) rfl (fun ls hl => ?_)
                          refine lv_goto (tgt := 177) hx hb dX10_keep_269 (by decide) ?_
                          have hP := wm_eq rfl rfl (ec_r_29_30_31_32__29_30_31_32 r ((upd (r 29) d.toNatClampNeg what)) ((upd (r 30) d.toNatClampNeg (0 : Int32))) ((upd (r 31) d.toNatClampNeg r149)) ((upd (r 32) d.toNatClampNeg k0))) rfl hP
                          exact ih_177 (i + 1) (vp_updL s3 v198.toNatClampNeg v237.toInt64) (by omega) (by omega) _ _ hP hS ls (lv_sub hl [0, 1, 2, 3, 4, 5, 6] rfl)
                      · first | exact absurd c201 c95 | exact absurd c95 c201
                have hP := wm_eq rfl rfl (ec_r_29_30_31_32__29_30_31_32 r ((upd (r 29) d.toNatClampNeg what)) ((upd (r 30) d.toNatClampNeg (0 : Int32))) ((upd (r 31) d.toNatClampNeg r149)) ((upd (r 32) d.toNatClampNeg k0))) (ec_q___33 q ) hP
                exact loop_177 (60 + 1) 0 (q 33) (by omega) (by omega) _ _ hP hS ls (lv_sub hl [0, 1, 2, 3, 4, 5, 6] rfl)
              · skip
                have d164 := c164
                rw [fa_eq] at d164
                refine lv_bipush (v := (-15)) hx hb dX10_keep_167 (by decide) ?_
                refine lv_goto (tgt := 173) hx hb dX10_keep_169 (by decide) ?_
                refine m_iast (w := (r 32)) hx hb hK hP hD hS 20 rfl (vp_in_iff.mpr ⟨by omega, by omega⟩) (va_up (va_up (va_up (va_up r 29 ((upd (r 29) d.toNatClampNeg what))) 30 ((upd (r 30) d.toNatClampNeg (0 : Int32)))) 31 ((upd (r 31) d.toNatClampNeg r149))) 32 (upd (r 32) d.toNatClampNeg (((-15) : Int32)))) (ms_32 cy mo a _ _ _ _ _) dX10_keep_173 (fun H locs hP hS => ?_)
                refine lv_iconst (v := 0) hx hb dX10_keep_174 (by decide) ?_
                refine lv_istore (lv' := [(7, .int (0 : Int32)), (6, .int (1 : Int32)), (0, .ref mo), (1, .int d), (2, .int what), (3, .int k0), (4, .long p0)]) hx hb dX10_keep_175 hl (by decide) rfl (fun ls hl => ?_)
                have loop_177 : ∀ (n : Nat) (i : Nat) (s3 : Nat → Int64), (i ≤ 60) → 60 - i < n → ∀ (H : Heap) (locs : List Loc), va_P D vwCl (WM cy mo a (upd f 0 (0 : Int32)) g (va_up (va_up (va_up (va_up r 29 ((upd (r 29) d.toNatClampNeg what))) 30 ((upd (r 30) d.toNatClampNeg (0 : Int32)))) 31 ((upd (r 31) d.toNatClampNeg r149))) 32 ((upd (r 32) d.toNatClampNeg (((-15) : Int32))))) (va_up q 33 s3)) H → va_S (AM mo a) s.heap H locs → ∀ (ls : Array Slot), lv_has ls 8 [(7, .int (nI i)), (6, .int (1 : Int32)), (0, .ref mo), (1, .int d), (2, .int what), (3, .int k0), (4, .long p0)] → W p l e (headSpec wsX10_keep ({ frames := 3, cells := 0, slots := 0, locals := 69 })).room s m #[Value.ref mo, Value.int d, Value.int what, Value.int k0, Value.long p0] below meth c H locs 0 0 (MQ below (va_Qi (fun r0 u => ∃ (sh : Nat → Int32), ∃ (sz : Nat → Int32), ∃ (sw : Nat → Int32), ∃ (sf : Nat → Int32), ∃ (sr : Nat → Int64), u = ((upd f 0 (0 : Int32)), g, (va_up (va_up (va_up (va_up r 29 sh) 30 sz) 31 sw) 32 sf), (va_up q 33 sr)) ∧ (yesNo (okKeep (f 1) (fun j9 => (r 3 j9).toNatClampNeg) (fun j9 => (r 4 j9).toNatClampNeg) d what k0 p0) 0 (-1) r0 ∧ MI (upd f 0 (0 : Int32)) (va_up (va_up (va_up (va_up r 29 sh) 30 sz) 31 sw) 32 sf))) (mB D cy mo a) (AM mo a)) #[Value.ref mo, Value.int d, Value.int what, Value.int k0, Value.long p0] s 0 0 (AM mo a)) (F0 m 177 ls []) := by
                  intro n
                  induction n with
                  | zero => intro i s3 j177_0 hn; exact absurd hn (Nat.not_lt_zero _)
                  | succ n ih_177 =>
                    intro i s3 j177_0 hn_177 H locs hP hS ls hl
                    have ii : (nI i).toInt = (i : Int) := nI_toInt (by omega)
                    refine lv_iload hx hb dX10_keep_177 (lv_at hl 0 rfl) ?_
                    refine lv_aload_n hx hb dX10_keep_179 rfl (lv_at hl 2 rfl) ?_
                    refine m_get (v := .ref (a 30)) hx hb hts hin hown hK hP 30 (by decide) rfl (hts (.fieldLink RX10 64 "ShadowBenchModel" "shelfSize" "[I") (by decide +kernel)) rfl dX10_keep_180 ?_
                    refine lv_iload_n hx hb dX10_keep_183 rfl (lv_at hl 3 rfl) ?_
                    refine m_iald (w := ((upd (r 30) d.toNatClampNeg (0 : Int32)))) hx hb hK hP 18 rfl (vp_in_iff.mpr ⟨by omega, by omega⟩) dX10_keep_184 ?_
                    refine lv_topi (fun v184 e184 => ?_)
                    have i184 : v184.toInt = (((upd (r 30) d.toNatClampNeg (0 : Int32))) d.toNatClampNeg).toInt := congrArg Int32.toInt e184
                    have z184 := e184
                    simp only [upd, if_true] at z184
                    have y184 := congrArg Int32.toInt z184
                    refine lv_icmp_ge (tgt := 272) hx hb dX10_keep_185 (by decide) (fun c185 => ?_) (fun c185 => ?_)
                    · skip
                      have d185 := c185
                      rw [fa_le] at d185
                      refine lv_iconst (v := 0) hx hb dX10_keep_272 (by decide) ?_
                      have hP := wm_eq rfl rfl (ec_r_29_30_31_32__29_30_31_32 r ((upd (r 29) d.toNatClampNeg what)) ((upd (r 30) d.toNatClampNeg (0 : Int32))) ((upd (r 31) d.toNatClampNeg r149)) ((upd (r 32) d.toNatClampNeg (((-15) : Int32))))) rfl hP
                      exact W.iret (v := (0 : Int32)) hx hb hr (fun t ht hW => ⟨⟨_, ((upd f 0 (0 : Int32)), g, (va_up (va_up (va_up (va_up r 29 (((upd (r 29) d.toNatClampNeg what)))) 30 (((upd (r 30) d.toNatClampNeg (0 : Int32))))) 31 (((upd (r 31) d.toNatClampNeg r149)))) 32 (((upd (r 32) d.toNatClampNeg (((-15) : Int32)))))), (va_up q 33 s3)), rfl, ⟨((upd (r 29) d.toNatClampNeg what)), ((upd (r 30) d.toNatClampNeg (0 : Int32))), ((upd (r 31) d.toNatClampNeg r149)), ((upd (r 32) d.toNatClampNeg (((-15) : Int32)))), s3, rfl, ⟨(Or.inl ⟨⟨b9, (by unfold okJob; first | exact Or.inl (by omega) | exact Or.inr (Or.inl ⟨by omega, b31⟩) | (have z9 := goodP_of b64; subst e52; subst e58; exact Or.inr (Or.inr ⟨by omega, b44, z9.2⟩)))⟩, rfl⟩), by first | exact hI | exact mi_sz (d := d) hI (v := v110) (by omega) rfl rfl rfl rfl rfl rfl rfl rfl | exact mi_sz (d := d) hI (v := v131) (by omega) rfl rfl rfl rfl rfl rfl rfl rfl | exact mi_sz (d := d) hI (v := 0) (by decide) rfl rfl rfl rfl rfl rfl rfl rfl⟩⟩, by unfold mB; rw [ht]; exact hP⟩, hS.F ht⟩) hS.2.2 dX10_keep_273
                    · skip
                      have d185 := c185
                      rw [fa_le] at d185
                      refine lv_aload_n hx hb dX10_keep_188 rfl (lv_at hl 2 rfl) ?_
                      refine m_get (v := .ref (a 33)) hx hb hts hin hown hK hP 33 (by decide) rfl (hts (.fieldLink RX10 73 "ShadowBenchModel" "shelfRow" "[J") (by decide +kernel)) rfl dX10_keep_189 ?_
                      refine lv_bipush (v := 60) hx hb dX10_keep_192 (by decide) ?_
                      refine lv_iload_n hx hb dX10_keep_194 rfl (lv_at hl 3 rfl) ?_
                      refine lv_imul hx hb dX10_keep_195 ?_
                      refine lv_topi (fun v195 e195 => ?_)
                      have i195 : v195.toInt = 60 * d.toInt := by rw [e195]; exact mulcL rfl (by omega) (by omega)
                      refine lv_iload hx hb dX10_keep_196 (lv_at hl 0 rfl) ?_
                      refine lv_iadd hx hb dX10_keep_198 ?_
                      refine lv_topi (fun v198 e198 => ?_)
                      have i198 : v198.toInt = v195.toInt + (nI i).toInt := by rw [e198]; exact fb_addI (by omega) (by omega)
                      refine lv_iload_n hx hb dX10_keep_199 rfl (lv_at hl 4 rfl) ?_
                      refine lv_iconst (v := 3) hx hb dX10_keep_200 (by decide) ?_
                      refine lv_icmp_ne (tgt := 215) hx hb dX10_keep_201 (by decide) (fun c201 => ?_) (fun c201 => ?_)
                      · skip
                        have d201 := c201
                        rw [fa_eq] at d201
                        refine lv_iload hx hb dX10_keep_215 (lv_at hl 0 rfl) ?_
                        refine lv_aload_n hx hb dX10_keep_217 rfl (lv_at hl 2 rfl) ?_
                        refine m_get (v := .ref (a 4)) hx hb hts hin hown hK hP 4 (by decide) rfl (hts (.fieldLink RX10 16 "ShadowBenchModel" "high" "[I") (by decide +kernel)) rfl dX10_keep_218 ?_
                        refine lv_iload_n hx hb dX10_keep_221 rfl (lv_at hl 5 rfl) ?_
                        refine m_iald (w := (r 4)) hx hb hK hP 3 rfl (vp_in_iff.mpr ⟨by omega, by omega⟩) dX10_keep_222 ?_
                        refine lv_topi (fun v222 e222 => ?_)
                        have i222 : v222.toInt = ((r 4) k0.toNatClampNeg).toInt := congrArg Int32.toInt e222
                        have w222 := mi_h hI (x := k0) (by omega) (by omega) e222
                        refine lv_icmp_ge (tgt := 242) hx hb dX10_keep_223 (by decide) (fun c223 => ?_) (fun c223 => ?_)
                        · skip
                          have d223 := c223
                          rw [fa_le] at d223
                          refine lv_aload_n hx hb dX10_keep_242 rfl (lv_at hl 2 rfl) ?_
                          refine m_get (v := .ref (a 5)) hx hb hts hin hown hK hP 5 (by decide) rfl (hts (.fieldLink RX10 19 "ShadowBenchModel" "sums" "[I") (by decide +kernel)) rfl dX10_keep_243 ?_
                          refine lv_bipush (v := 44) hx hb dX10_keep_246 (by decide) ?_
                          refine lv_iload_n hx hb dX10_keep_248 rfl (lv_at hl 5 rfl) ?_
                          refine lv_imul hx hb dX10_keep_249 ?_
                          refine lv_topi (fun v249 e249 => ?_)
                          have i249 : v249.toInt = 44 * k0.toInt := by rw [e249]; exact mulcL rfl (by omega) (by omega)
                          refine lv_bipush (v := 11) hx hb dX10_keep_250 (by decide) ?_
                          refine lv_iadd hx hb dX10_keep_252 ?_
                          refine lv_topi (fun v252 e252 => ?_)
                          have i252 : v252.toInt = v249.toInt + (11 : Int32).toInt := by rw [e252]; exact fb_addI (by omega) (by omega)
                          refine lv_iload hx hb dX10_keep_253 (lv_at hl 0 rfl) ?_
                          refine lv_iadd hx hb dX10_keep_255 ?_
                          refine lv_topi (fun v255 e255 => ?_)
                          have i255 : v255.toInt = v252.toInt + (nI i).toInt := by rw [e255]; exact fb_addI (by omega) (by omega)
                          refine lv_aload_n hx hb dX10_keep_256 rfl (lv_at hl 2 rfl) ?_
                          refine m_get (v := .ref (a 4)) hx hb hts hin hown hK hP 4 (by decide) rfl (hts (.fieldLink RX10 16 "ShadowBenchModel" "high" "[I") (by decide +kernel)) rfl dX10_keep_257 ?_
                          refine lv_iload_n hx hb dX10_keep_260 rfl (lv_at hl 5 rfl) ?_
                          refine m_iald (w := (r 4)) hx hb hK hP 3 rfl (vp_in_iff.mpr ⟨by omega, by omega⟩) dX10_keep_261 ?_
                          refine lv_topi (fun v261 e261 => ?_)
                          have i261 : v261.toInt = ((r 4) k0.toNatClampNeg).toInt := congrArg Int32.toInt e261
                          have w261 := mi_h hI (x := k0) (by omega) (by omega) e261
                          refine lv_isub hx hb dX10_keep_262 ?_
                          refine lv_topi (fun v262 e262 => ?_)
                          have i262 : v262.toInt = v255.toInt - v261.toInt := by rw [e262]; exact fb_subI (by omega) (by omega)
                          refine m_iald (w := (r 5)) hx hb hK hP 4 rfl (vp_in_iff.mpr ⟨by omega, by omega⟩) dX10_keep_263 ?_
                          refine lv_topi (fun v263 e263 => ?_)
                          have i263 : v263.toInt = ((r 5) v262.toNatClampNeg).toInt := congrArg Int32.toInt e263
                          refine lv_i2l (v := v263.toInt64) hx hb dX10_keep_264 rfl ?_
                          refine m_last (w := s3) hx hb hK hP hD hS 21 rfl (vp_in_iff.mpr ⟨by omega, by omega⟩) (va_up (va_up q 33 s3) 33 (vp_updL s3 v198.toNatClampNeg v263.toInt64)) (ms_33 cy mo a _ _ _ _ _) dX10_keep_265 (fun H locs hP hS => ?_)
                          have hP := wm_eq rfl rfl rfl (es_q_33__33 q s3 (vp_updL s3 v198.toNatClampNeg v263.toInt64)) hP
                          refine lv_iinc (v := (nI (i + 1))) (lv' := [(7, .int (nI (i + 1))), (6, .int (1 : Int32)), (0, .ref mo), (1, .int d), (2, .int what), (3, .int k0), (4, .long p0)]) hx hb dX10_keep_266 hl (k := 0) rfl (nI_1 _) (by decide) rfl (fun ls hl => ?_)
                          refine lv_goto (tgt := 177) hx hb dX10_keep_269 (by decide) ?_
                          have hP := wm_eq rfl rfl (ec_r_29_30_31_32__29_30_31_32 r ((upd (r 29) d.toNatClampNeg what)) ((upd (r 30) d.toNatClampNeg (0 : Int32))) ((upd (r 31) d.toNatClampNeg r149)) ((upd (r 32) d.toNatClampNeg (((-15) : Int32))))) rfl hP
                          exact ih_177 (i + 1) (vp_updL s3 v198.toNatClampNeg v263.toInt64) (by omega) (by omega) _ _ hP hS ls (lv_sub hl [0, 1, 2, 3, 4, 5, 6] rfl)
                        · skip
                          have d223 := c223
                          rw [fa_le] at d223
                          refine lv_aload_n hx hb dX10_keep_226 rfl (lv_at hl 2 rfl) ?_
                          refine m_get (v := .ref (a 5)) hx hb hts hin hown hK hP 5 (by decide) rfl (hts (.fieldLink RX10 19 "ShadowBenchModel" "sums" "[I") (by decide +kernel)) rfl dX10_keep_227 ?_
                          refine lv_bipush (v := 44) hx hb dX10_keep_230 (by decide) ?_
                          refine lv_iload_n hx hb dX10_keep_232 rfl (lv_at hl 5 rfl) ?_
                          refine lv_imul hx hb dX10_keep_233 ?_
                          refine lv_topi (fun v233 e233 => ?_)
                          have i233 : v233.toInt = 44 * k0.toInt := by rw [e233]; exact mulcL rfl (by omega) (by omega)
                          refine lv_iload hx hb dX10_keep_234 (lv_at hl 0 rfl) ?_
                          refine lv_iadd hx hb dX10_keep_236 ?_
                          refine lv_topi (fun v236 e236 => ?_)
                          have i236 : v236.toInt = v233.toInt + (nI i).toInt := by rw [e236]; exact fb_addI (by omega) (by omega)
                          refine m_iald (w := (r 5)) hx hb hK hP 4 rfl (vp_in_iff.mpr ⟨by omega, by omega⟩) dX10_keep_237 ?_
                          refine lv_topi (fun v237 e237 => ?_)
                          have i237 : v237.toInt = ((r 5) v236.toNatClampNeg).toInt := congrArg Int32.toInt e237
                          refine lv_i2l (v := v237.toInt64) hx hb dX10_keep_238 rfl ?_
                          refine lv_goto (tgt := 265) hx hb dX10_keep_239 (by decide) ?_
                          refine m_last (w := s3) hx hb hK hP hD hS 21 rfl (vp_in_iff.mpr ⟨by omega, by omega⟩) (va_up (va_up q 33 s3) 33 (vp_updL s3 v198.toNatClampNeg v237.toInt64)) (ms_33 cy mo a _ _ _ _ _) dX10_keep_265 (fun H locs hP hS => ?_)
                          have hP := wm_eq rfl rfl rfl (es_q_33__33 q s3 (vp_updL s3 v198.toNatClampNeg v237.toInt64)) hP
                          refine lv_iinc (v := (nI (i + 1))) (lv' := [(7, .int (nI (i + 1))), (6, .int (1 : Int32)), (0, .ref mo), (1, .int d), (2, .int what), (3, .int k0), (4, .long p0)]) hx hb dX10_keep_266 hl (k := 0) rfl (nI_1 _) (by decide) rfl (fun ls hl => ?_)
                          refine lv_goto (tgt := 177) hx hb dX10_keep_269 (by decide) ?_
                          have hP := wm_eq rfl rfl (ec_r_29_30_31_32__29_30_31_32 r ((upd (r 29) d.toNatClampNeg what)) ((upd (r 30) d.toNatClampNeg (0 : Int32))) ((upd (r 31) d.toNatClampNeg r149)) ((upd (r 32) d.toNatClampNeg (((-15) : Int32))))) rfl hP
                          exact ih_177 (i + 1) (vp_updL s3 v198.toNatClampNeg v237.toInt64) (by omega) (by omega) _ _ hP hS ls (lv_sub hl [0, 1, 2, 3, 4, 5, 6] rfl)
                      · first | exact absurd c201 c95 | exact absurd c95 c201
                have hP := wm_eq rfl rfl (ec_r_29_30_31_32__29_30_31_32 r ((upd (r 29) d.toNatClampNeg what)) ((upd (r 30) d.toNatClampNeg (0 : Int32))) ((upd (r 31) d.toNatClampNeg r149)) ((upd (r 32) d.toNatClampNeg (((-15) : Int32))))) (ec_q___33 q ) hP
                exact loop_177 (60 + 1) 0 (q 33) (by omega) (by omega) _ _ hP hS ls (lv_sub hl [0, 1, 2, 3, 4, 5, 6] rfl)
          · skip
            have d116 := c116
            rw [fa_eq] at d116
            refine lv_aload_n hx hb dX10_keep_119 rfl (lv_at hl 1 rfl) ?_
            refine m_get (v := .ref (a 4)) hx hb hts hin hown hK hP 4 (by decide) rfl (hts (.fieldLink RX10 16 "ShadowBenchModel" "high" "[I") (by decide +kernel)) rfl dX10_keep_120 ?_
            refine lv_iload_n hx hb dX10_keep_123 rfl (lv_at hl 4 rfl) ?_
            refine m_iald (w := (r 4)) hx hb hK hP 3 rfl (vp_in_iff.mpr ⟨by omega, by omega⟩) dX10_keep_124 ?_
            refine lv_topi (fun v124 e124 => ?_)
            have i124 : v124.toInt = ((r 4) k0.toNatClampNeg).toInt := congrArg Int32.toInt e124
            have w124 := mi_h hI (x := k0) (by omega) (by omega) e124
            refine lv_aload_n hx hb dX10_keep_125 rfl (lv_at hl 1 rfl) ?_
            refine m_get (v := .ref (a 3)) hx hb hts hin hown hK hP 3 (by decide) rfl (hts (.fieldLink RX10 13 "ShadowBenchModel" "wide" "[I") (by decide +kernel)) rfl dX10_keep_126 ?_
            refine lv_iload_n hx hb dX10_keep_129 rfl (lv_at hl 4 rfl) ?_
            refine m_iald (w := (r 3)) hx hb hK hP 2 rfl (vp_in_iff.mpr ⟨by omega, by omega⟩) dX10_keep_130 ?_
            refine lv_topi (fun v130 e130 => ?_)
            have i130 : v130.toInt = ((r 3) k0.toNatClampNeg).toInt := congrArg Int32.toInt e130
            have w130 := mi_w hI (x := k0) (by omega) (by omega) e130
            refine lv_iadd hx hb dX10_keep_131 ?_
            refine lv_topi (fun v131 e131 => ?_)
            have i131 : v131.toInt = v124.toInt + v130.toInt := by rw [e131]; exact fb_addI (by omega) (by omega)
            refine lv_goto (tgt := 136) hx hb dX10_keep_132 (by decide) ?_
            refine m_iast (w := (r 30)) hx hb hK hP hD hS 18 rfl (vp_in_iff.mpr ⟨by omega, by omega⟩) (va_up (va_up r 29 ((upd (r 29) d.toNatClampNeg what))) 30 (upd (r 30) d.toNatClampNeg v131)) (ms_30 cy mo a _ _ _ _ _) dX10_keep_136 (fun H locs hP hS => ?_)
            refine lv_iload_n hx hb dX10_keep_137 rfl (lv_at hl 3 rfl) ?_
            refine lv_iconst (v := 1) hx hb dX10_keep_138 (by decide) ?_
            refine lv_icmp_ne (tgt := 174) hx hb dX10_keep_139 (by decide) (fun c139 => ?_) (fun c139 => ?_)
            · skip
              have d139 := c139
              rw [fa_eq] at d139
              refine lv_iconst (v := 0) hx hb dX10_keep_174 (by decide) ?_
              refine lv_istore (lv' := [(7, .int (0 : Int32)), (6, .int (1 : Int32)), (0, .ref mo), (1, .int d), (2, .int what), (3, .int k0), (4, .long p0)]) hx hb dX10_keep_175 hl (by decide) rfl (fun ls hl => ?_)
              have loop_177 : ∀ (n : Nat) (i : Nat) (s3 : Nat → Int64), (i ≤ 60) → 60 - i < n → ∀ (H : Heap) (locs : List Loc), va_P D vwCl (WM cy mo a (upd f 0 (0 : Int32)) g (va_up (va_up r 29 ((upd (r 29) d.toNatClampNeg what))) 30 ((upd (r 30) d.toNatClampNeg v131))) (va_up q 33 s3)) H → va_S (AM mo a) s.heap H locs → ∀ (ls : Array Slot), lv_has ls 8 [(7, .int (nI i)), (6, .int (1 : Int32)), (0, .ref mo), (1, .int d), (2, .int what), (3, .int k0), (4, .long p0)] → W p l e (headSpec wsX10_keep ({ frames := 3, cells := 0, slots := 0, locals := 69 })).room s m #[Value.ref mo, Value.int d, Value.int what, Value.int k0, Value.long p0] below meth c H locs 0 0 (MQ below (va_Qi (fun r0 u => ∃ (sh : Nat → Int32), ∃ (sz : Nat → Int32), ∃ (sw : Nat → Int32), ∃ (sf : Nat → Int32), ∃ (sr : Nat → Int64), u = ((upd f 0 (0 : Int32)), g, (va_up (va_up (va_up (va_up r 29 sh) 30 sz) 31 sw) 32 sf), (va_up q 33 sr)) ∧ (yesNo (okKeep (f 1) (fun j9 => (r 3 j9).toNatClampNeg) (fun j9 => (r 4 j9).toNatClampNeg) d what k0 p0) 0 (-1) r0 ∧ MI (upd f 0 (0 : Int32)) (va_up (va_up (va_up (va_up r 29 sh) 30 sz) 31 sw) 32 sf))) (mB D cy mo a) (AM mo a)) #[Value.ref mo, Value.int d, Value.int what, Value.int k0, Value.long p0] s 0 0 (AM mo a)) (F0 m 177 ls []) := by
                intro n
                induction n with
                | zero => intro i s3 j177_0 hn; exact absurd hn (Nat.not_lt_zero _)
                | succ n ih_177 =>
                  intro i s3 j177_0 hn_177 H locs hP hS ls hl
                  have ii : (nI i).toInt = (i : Int) := nI_toInt (by omega)
                  refine lv_iload hx hb dX10_keep_177 (lv_at hl 0 rfl) ?_
                  refine lv_aload_n hx hb dX10_keep_179 rfl (lv_at hl 2 rfl) ?_
                  refine m_get (v := .ref (a 30)) hx hb hts hin hown hK hP 30 (by decide) rfl (hts (.fieldLink RX10 64 "ShadowBenchModel" "shelfSize" "[I") (by decide +kernel)) rfl dX10_keep_180 ?_
                  refine lv_iload_n hx hb dX10_keep_183 rfl (lv_at hl 3 rfl) ?_
                  refine m_iald (w := ((upd (r 30) d.toNatClampNeg v131))) hx hb hK hP 18 rfl (vp_in_iff.mpr ⟨by omega, by omega⟩) dX10_keep_184 ?_
                  refine lv_topi (fun v184 e184 => ?_)
                  have i184 : v184.toInt = (((upd (r 30) d.toNatClampNeg v131)) d.toNatClampNeg).toInt := congrArg Int32.toInt e184
                  have z184 := e184
                  simp only [upd, if_true] at z184
                  have y184 := congrArg Int32.toInt z184
                  refine lv_icmp_ge (tgt := 272) hx hb dX10_keep_185 (by decide) (fun c185 => ?_) (fun c185 => ?_)
                  · skip
                    have d185 := c185
                    rw [fa_le] at d185
                    refine lv_iconst (v := 0) hx hb dX10_keep_272 (by decide) ?_
                    have hP := wm_eq rfl rfl (ec_r_29_30__29_30_31_32 r ((upd (r 29) d.toNatClampNeg what)) ((upd (r 30) d.toNatClampNeg v131))) rfl hP
                    exact W.iret (v := (0 : Int32)) hx hb hr (fun t ht hW => ⟨⟨_, ((upd f 0 (0 : Int32)), g, (va_up (va_up (va_up (va_up r 29 (((upd (r 29) d.toNatClampNeg what)))) 30 (((upd (r 30) d.toNatClampNeg v131)))) 31 (r 31)) 32 (r 32)), (va_up q 33 s3)), rfl, ⟨((upd (r 29) d.toNatClampNeg what)), ((upd (r 30) d.toNatClampNeg v131)), (r 31), (r 32), s3, rfl, ⟨(Or.inl ⟨⟨b9, (by unfold okJob; first | exact Or.inl (by omega) | exact Or.inr (Or.inl ⟨by omega, b31⟩) | (have z9 := goodP_of b64; subst e52; subst e58; exact Or.inr (Or.inr ⟨by omega, b44, z9.2⟩)))⟩, rfl⟩), by first | exact hI | exact mi_sz (d := d) hI (v := v110) (by omega) rfl rfl rfl rfl rfl rfl rfl rfl | exact mi_sz (d := d) hI (v := v131) (by omega) rfl rfl rfl rfl rfl rfl rfl rfl | exact mi_sz (d := d) hI (v := 0) (by decide) rfl rfl rfl rfl rfl rfl rfl rfl⟩⟩, by unfold mB; rw [ht]; exact hP⟩, hS.F ht⟩) hS.2.2 dX10_keep_273
                  · skip
                    have d185 := c185
                    rw [fa_le] at d185
                    refine lv_aload_n hx hb dX10_keep_188 rfl (lv_at hl 2 rfl) ?_
                    refine m_get (v := .ref (a 33)) hx hb hts hin hown hK hP 33 (by decide) rfl (hts (.fieldLink RX10 73 "ShadowBenchModel" "shelfRow" "[J") (by decide +kernel)) rfl dX10_keep_189 ?_
                    refine lv_bipush (v := 60) hx hb dX10_keep_192 (by decide) ?_
                    refine lv_iload_n hx hb dX10_keep_194 rfl (lv_at hl 3 rfl) ?_
                    refine lv_imul hx hb dX10_keep_195 ?_
                    refine lv_topi (fun v195 e195 => ?_)
                    have i195 : v195.toInt = 60 * d.toInt := by rw [e195]; exact mulcL rfl (by omega) (by omega)
                    refine lv_iload hx hb dX10_keep_196 (lv_at hl 0 rfl) ?_
                    refine lv_iadd hx hb dX10_keep_198 ?_
                    refine lv_topi (fun v198 e198 => ?_)
                    have i198 : v198.toInt = v195.toInt + (nI i).toInt := by rw [e198]; exact fb_addI (by omega) (by omega)
                    refine lv_iload_n hx hb dX10_keep_199 rfl (lv_at hl 4 rfl) ?_
                    refine lv_iconst (v := 3) hx hb dX10_keep_200 (by decide) ?_
                    refine lv_icmp_ne (tgt := 215) hx hb dX10_keep_201 (by decide) (fun c201 => ?_) (fun c201 => ?_)
                    · skip
                      have d201 := c201
                      rw [fa_eq] at d201
                      refine lv_iload hx hb dX10_keep_215 (lv_at hl 0 rfl) ?_
                      refine lv_aload_n hx hb dX10_keep_217 rfl (lv_at hl 2 rfl) ?_
                      refine m_get (v := .ref (a 4)) hx hb hts hin hown hK hP 4 (by decide) rfl (hts (.fieldLink RX10 16 "ShadowBenchModel" "high" "[I") (by decide +kernel)) rfl dX10_keep_218 ?_
                      refine lv_iload_n hx hb dX10_keep_221 rfl (lv_at hl 5 rfl) ?_
                      refine m_iald (w := (r 4)) hx hb hK hP 3 rfl (vp_in_iff.mpr ⟨by omega, by omega⟩) dX10_keep_222 ?_
                      refine lv_topi (fun v222 e222 => ?_)
                      have i222 : v222.toInt = ((r 4) k0.toNatClampNeg).toInt := congrArg Int32.toInt e222
                      have w222 := mi_h hI (x := k0) (by omega) (by omega) e222
                      refine lv_icmp_ge (tgt := 242) hx hb dX10_keep_223 (by decide) (fun c223 => ?_) (fun c223 => ?_)
                      · skip
                        have d223 := c223
                        rw [fa_le] at d223
                        refine lv_aload_n hx hb dX10_keep_242 rfl (lv_at hl 2 rfl) ?_
                        refine m_get (v := .ref (a 5)) hx hb hts hin hown hK hP 5 (by decide) rfl (hts (.fieldLink RX10 19 "ShadowBenchModel" "sums" "[I") (by decide +kernel)) rfl dX10_keep_243 ?_
                        refine lv_bipush (v := 44) hx hb dX10_keep_246 (by decide) ?_
                        refine lv_iload_n hx hb dX10_keep_248 rfl (lv_at hl 5 rfl) ?_
                        refine lv_imul hx hb dX10_keep_249 ?_
                        refine lv_topi (fun v249 e249 => ?_)
                        have i249 : v249.toInt = 44 * k0.toInt := by rw [e249]; exact mulcL rfl (by omega) (by omega)
                        refine lv_bipush (v := 11) hx hb dX10_keep_250 (by decide) ?_
                        refine lv_iadd hx hb dX10_keep_252 ?_
                        refine lv_topi (fun v252 e252 => ?_)
                        have i252 : v252.toInt = v249.toInt + (11 : Int32).toInt := by rw [e252]; exact fb_addI (by omega) (by omega)
                        refine lv_iload hx hb dX10_keep_253 (lv_at hl 0 rfl) ?_
                        refine lv_iadd hx hb dX10_keep_255 ?_
                        refine lv_topi (fun v255 e255 => ?_)
                        have i255 : v255.toInt = v252.toInt + (nI i).toInt := by rw [e255]; exact fb_addI (by omega) (by omega)
                        refine lv_aload_n hx hb dX10_keep_256 rfl (lv_at hl 2 rfl) ?_
                        refine m_get (v := .ref (a 4)) hx hb hts hin hown hK hP 4 (by decide) rfl (hts (.fieldLink RX10 16 "ShadowBenchModel" "high" "[I") (by decide +kernel)) rfl dX10_keep_257 ?_
                        refine lv_iload_n hx hb dX10_keep_260 rfl (lv_at hl 5 rfl) ?_
                        refine m_iald (w := (r 4)) hx hb hK hP 3 rfl (vp_in_iff.mpr ⟨by omega, by omega⟩) dX10_keep_261 ?_
                        refine lv_topi (fun v261 e261 => ?_)
                        have i261 : v261.toInt = ((r 4) k0.toNatClampNeg).toInt := congrArg Int32.toInt e261
                        have w261 := mi_h hI (x := k0) (by omega) (by omega) e261
                        refine lv_isub hx hb dX10_keep_262 ?_
                        refine lv_topi (fun v262 e262 => ?_)
                        have i262 : v262.toInt = v255.toInt - v261.toInt := by rw [e262]; exact fb_subI (by omega) (by omega)
                        refine m_iald (w := (r 5)) hx hb hK hP 4 rfl (vp_in_iff.mpr ⟨by omega, by omega⟩) dX10_keep_263 ?_
                        refine lv_topi (fun v263 e263 => ?_)
                        have i263 : v263.toInt = ((r 5) v262.toNatClampNeg).toInt := congrArg Int32.toInt e263
                        refine lv_i2l (v := v263.toInt64) hx hb dX10_keep_264 rfl ?_
                        refine m_last (w := s3) hx hb hK hP hD hS 21 rfl (vp_in_iff.mpr ⟨by omega, by omega⟩) (va_up (va_up q 33 s3) 33 (vp_updL s3 v198.toNatClampNeg v263.toInt64)) (ms_33 cy mo a _ _ _ _ _) dX10_keep_265 (fun H locs hP hS => ?_)
                        have hP := wm_eq rfl rfl rfl (es_q_33__33 q s3 (vp_updL s3 v198.toNatClampNeg v263.toInt64)) hP
                        refine lv_iinc (v := (nI (i + 1))) (lv' := [(7, .int (nI (i + 1))), (6, .int (1 : Int32)), (0, .ref mo), (1, .int d), (2, .int what), (3, .int k0), (4, .long p0)]) hx hb dX10_keep_266 hl (k := 0) rfl (nI_1 _) (by decide) rfl (fun ls hl => ?_)
                        refine lv_goto (tgt := 177) hx hb dX10_keep_269 (by decide) ?_
                        have hP := wm_eq rfl rfl (ec_r_29_30__29_30 r ((upd (r 29) d.toNatClampNeg what)) ((upd (r 30) d.toNatClampNeg v131))) rfl hP
                        exact ih_177 (i + 1) (vp_updL s3 v198.toNatClampNeg v263.toInt64) (by omega) (by omega) _ _ hP hS ls (lv_sub hl [0, 1, 2, 3, 4, 5, 6] rfl)
                      · skip
                        have d223 := c223
                        rw [fa_le] at d223
                        refine lv_aload_n hx hb dX10_keep_226 rfl (lv_at hl 2 rfl) ?_
                        refine m_get (v := .ref (a 5)) hx hb hts hin hown hK hP 5 (by decide) rfl (hts (.fieldLink RX10 19 "ShadowBenchModel" "sums" "[I") (by decide +kernel)) rfl dX10_keep_227 ?_
                        refine lv_bipush (v := 44) hx hb dX10_keep_230 (by decide) ?_
                        refine lv_iload_n hx hb dX10_keep_232 rfl (lv_at hl 5 rfl) ?_
                        refine lv_imul hx hb dX10_keep_233 ?_
                        refine lv_topi (fun v233 e233 => ?_)
                        have i233 : v233.toInt = 44 * k0.toInt := by rw [e233]; exact mulcL rfl (by omega) (by omega)
                        refine lv_iload hx hb dX10_keep_234 (lv_at hl 0 rfl) ?_
                        refine lv_iadd hx hb dX10_keep_236 ?_
                        refine lv_topi (fun v236 e236 => ?_)
                        have i236 : v236.toInt = v233.toInt + (nI i).toInt := by rw [e236]; exact fb_addI (by omega) (by omega)
                        refine m_iald (w := (r 5)) hx hb hK hP 4 rfl (vp_in_iff.mpr ⟨by omega, by omega⟩) dX10_keep_237 ?_
                        refine lv_topi (fun v237 e237 => ?_)
                        have i237 : v237.toInt = ((r 5) v236.toNatClampNeg).toInt := congrArg Int32.toInt e237
                        refine lv_i2l (v := v237.toInt64) hx hb dX10_keep_238 rfl ?_
                        refine lv_goto (tgt := 265) hx hb dX10_keep_239 (by decide) ?_
                        refine m_last (w := s3) hx hb hK hP hD hS 21 rfl (vp_in_iff.mpr ⟨by omega, by omega⟩) (va_up (va_up q 33 s3) 33 (vp_updL s3 v198.toNatClampNeg v237.toInt64)) (ms_33 cy mo a _ _ _ _ _) dX10_keep_265 (fun H locs hP hS => ?_)
                        have hP := wm_eq rfl rfl rfl (es_q_33__33 q s3 (vp_updL s3 v198.toNatClampNeg v237.toInt64)) hP
                        refine lv_iinc (v := (nI (i + 1))) (lv' := [(7, .int (nI (i + 1))), (6, .int (1 : Int32)), (0, .ref mo), (1, .int d), (2, .int what), (3, .int k0), (4, .long p0)]) hx hb dX10_keep_266 hl (k := 0) rfl (nI_1 _) (by decide) rfl (fun ls hl => ?_)
                        refine lv_goto (tgt := 177) hx hb dX10_keep_269 (by decide) ?_
                        have hP := wm_eq rfl rfl (ec_r_29_30__29_30 r ((upd (r 29) d.toNatClampNeg what)) ((upd (r 30) d.toNatClampNeg v131))) rfl hP
                        exact ih_177 (i + 1) (vp_updL s3 v198.toNatClampNeg v237.toInt64) (by omega) (by omega) _ _ hP hS ls (lv_sub hl [0, 1, 2, 3, 4, 5, 6] rfl)
                    · first | exact absurd c201 c95 | exact absurd c95 c201
              have hP := wm_eq rfl rfl (ec_r_29_30__29_30 r ((upd (r 29) d.toNatClampNeg what)) ((upd (r 30) d.toNatClampNeg v131))) (ec_q___33 q ) hP
              exact loop_177 (60 + 1) 0 (q 33) (by omega) (by omega) _ _ hP hS ls (lv_sub hl [0, 1, 2, 3, 4, 5, 6] rfl)
            · skip
              have d139 := c139
              rw [fa_eq] at d139
              refine lv_aload_n hx hb dX10_keep_142 rfl (lv_at hl 1 rfl) ?_
              refine m_get (v := .ref (a 31)) hx hb hts hin hown hK hP 31 (by decide) rfl (hts (.fieldLink RX10 67 "ShadowBenchModel" "shelfWeight" "[I") (by decide +kernel)) rfl dX10_keep_143 ?_
              refine lv_iload_n hx hb dX10_keep_146 rfl (lv_at hl 2 rfl) ?_
              refine lv_aload_n hx hb dX10_keep_147 rfl (lv_at hl 1 rfl) ?_
              refine lv_iload_n hx hb dX10_keep_148 rfl (lv_at hl 4 rfl) ?_
              refine m_calli (As := [.int k0]) (rest := [.int d, .ref (a 31)]) ⟨hx, hb, hml, hown, hts⟩ (c_X10_weightOf l D cy mo a (upd f 0 (0 : Int32)) g (va_up (va_up r 29 ((upd (r 29) d.toNatClampNeg what))) 30 ((upd (r 30) d.toNatClampNeg v131))) q k0 hD (by first | exact hI | exact mi_sz (d := d) hI (v := 0) (by first | omega | decide) rfl rfl rfl rfl rfl rfl rfl rfl | exact mi_sz (d := d) hI (v := v131) (by first | omega | decide) rfl rfl rfl rfl rfl rfl rfl rfl | exact mi_sz (d := d) hI (v := v110) (by first | omega | decide) rfl rfl rfl rfl rfl rfl rfl rfl) (show 0 ≤ k0.toInt ∧ k0.toInt < (f 1).toInt by omega)) (cwV 1 hts gX10_keep_X10_weightOf rfl rfl rfl (by decide +kernel) ⟨Nat.le_of_ble_eq_true rfl, Nat.le_of_ble_eq_true rfl⟩) hK hP rfl hl.1 rfl (Nat.le_of_ble_eq_true rfl) dX10_keep_149 ⟨Nat.le_of_ble_eq_true rfl, Nat.le_of_ble_eq_true rfl⟩ hS (fun r149 u H locs q149 hP hS => ?_)
              obtain ⟨rfl, q149⟩ := q149
              have hP : va_P D vwCl (WM cy mo a (upd f 0 (0 : Int32)) g (va_up (va_up r 29 ((upd (r 29) d.toNatClampNeg what))) 30 ((upd (r 30) d.toNatClampNeg v131))) q) H := hP
              have q149 : True := q149
              refine m_iast (w := (r 31)) hx hb hK hP hD hS 19 rfl (vp_in_iff.mpr ⟨by omega, by omega⟩) (va_up (va_up (va_up r 29 ((upd (r 29) d.toNatClampNeg what))) 30 ((upd (r 30) d.toNatClampNeg v131))) 31 (upd (r 31) d.toNatClampNeg r149)) (ms_31 cy mo a _ _ _ _ _) dX10_keep_152 (fun H locs hP hS => ?_)
              refine lv_aload_n hx hb dX10_keep_153 rfl (lv_at hl 1 rfl) ?_
              refine m_get (v := .ref (a 32)) hx hb hts hin hown hK hP 32 (by decide) rfl (hts (.fieldLink RX10 70 "ShadowBenchModel" "shelfFailure" "[I") (by decide +kernel)) rfl dX10_keep_154 ?_
              refine lv_iload_n hx hb dX10_keep_157 rfl (lv_at hl 2 rfl) ?_
              refine lv_aload_n hx hb dX10_keep_158 rfl (lv_at hl 1 rfl) ?_
              refine m_get (v := .ref (a 2)) hx hb hts hin hown hK hP 2 (by decide) rfl (hts (.fieldLink RX10 7 "ShadowBenchModel" "kind" "[I") (by decide +kernel)) rfl dX10_keep_159 ?_
              refine lv_iload_n hx hb dX10_keep_162 rfl (lv_at hl 4 rfl) ?_
              refine m_iald (w := (r 2)) hx hb hK hP 1 rfl (vp_in_iff.mpr ⟨by omega, by omega⟩) dX10_keep_163 ?_
              refine lv_topi (fun v163 e163 => ?_)
              have i163 : v163.toInt = ((r 2) k0.toNatClampNeg).toInt := congrArg Int32.toInt e163
              refine lv_if_ne (tgt := 172) hx hb dX10_keep_164 (by decide) (fun c164 => ?_) (fun c164 => ?_)
              · skip
                have d164 := c164
                rw [fa_eq] at d164
                refine lv_iload_n hx hb dX10_keep_172 rfl (lv_at hl 4 rfl) ?_
                refine m_iast (w := (r 32)) hx hb hK hP hD hS 20 rfl (vp_in_iff.mpr ⟨by omega, by omega⟩) (va_up (va_up (va_up (va_up r 29 ((upd (r 29) d.toNatClampNeg what))) 30 ((upd (r 30) d.toNatClampNeg v131))) 31 ((upd (r 31) d.toNatClampNeg r149))) 32 (upd (r 32) d.toNatClampNeg k0)) (ms_32 cy mo a _ _ _ _ _) dX10_keep_173 (fun H locs hP hS => ?_)
                refine lv_iconst (v := 0) hx hb dX10_keep_174 (by decide) ?_
                refine lv_istore (lv' := [(7, .int (0 : Int32)), (6, .int (1 : Int32)), (0, .ref mo), (1, .int d), (2, .int what), (3, .int k0), (4, .long p0)]) hx hb dX10_keep_175 hl (by decide) rfl (fun ls hl => ?_)
                have loop_177 : ∀ (n : Nat) (i : Nat) (s3 : Nat → Int64), (i ≤ 60) → 60 - i < n → ∀ (H : Heap) (locs : List Loc), va_P D vwCl (WM cy mo a (upd f 0 (0 : Int32)) g (va_up (va_up (va_up (va_up r 29 ((upd (r 29) d.toNatClampNeg what))) 30 ((upd (r 30) d.toNatClampNeg v131))) 31 ((upd (r 31) d.toNatClampNeg r149))) 32 ((upd (r 32) d.toNatClampNeg k0))) (va_up q 33 s3)) H → va_S (AM mo a) s.heap H locs → ∀ (ls : Array Slot), lv_has ls 8 [(7, .int (nI i)), (6, .int (1 : Int32)), (0, .ref mo), (1, .int d), (2, .int what), (3, .int k0), (4, .long p0)] → W p l e (headSpec wsX10_keep ({ frames := 3, cells := 0, slots := 0, locals := 69 })).room s m #[Value.ref mo, Value.int d, Value.int what, Value.int k0, Value.long p0] below meth c H locs 0 0 (MQ below (va_Qi (fun r0 u => ∃ (sh : Nat → Int32), ∃ (sz : Nat → Int32), ∃ (sw : Nat → Int32), ∃ (sf : Nat → Int32), ∃ (sr : Nat → Int64), u = ((upd f 0 (0 : Int32)), g, (va_up (va_up (va_up (va_up r 29 sh) 30 sz) 31 sw) 32 sf), (va_up q 33 sr)) ∧ (yesNo (okKeep (f 1) (fun j9 => (r 3 j9).toNatClampNeg) (fun j9 => (r 4 j9).toNatClampNeg) d what k0 p0) 0 (-1) r0 ∧ MI (upd f 0 (0 : Int32)) (va_up (va_up (va_up (va_up r 29 sh) 30 sz) 31 sw) 32 sf))) (mB D cy mo a) (AM mo a)) #[Value.ref mo, Value.int d, Value.int what, Value.int k0, Value.long p0] s 0 0 (AM mo a)) (F0 m 177 ls []) := by
                  intro n
                  induction n with
                  | zero => intro i s3 j177_0 hn; exact absurd hn (Nat.not_lt_zero _)
                  | succ n ih_177 =>
                    intro i s3 j177_0 hn_177 H locs hP hS ls hl
                    have ii : (nI i).toInt = (i : Int) := nI_toInt (by omega)
                    refine lv_iload hx hb dX10_keep_177 (lv_at hl 0 rfl) ?_
                    refine lv_aload_n hx hb dX10_keep_179 rfl (lv_at hl 2 rfl) ?_
                    refine m_get (v := .ref (a 30)) hx hb hts hin hown hK hP 30 (by decide) rfl (hts (.fieldLink RX10 64 "ShadowBenchModel" "shelfSize" "[I") (by decide +kernel)) rfl dX10_keep_180 ?_
                    refine lv_iload_n hx hb dX10_keep_183 rfl (lv_at hl 3 rfl) ?_
                    refine m_iald (w := ((upd (r 30) d.toNatClampNeg v131))) hx hb hK hP 18 rfl (vp_in_iff.mpr ⟨by omega, by omega⟩) dX10_keep_184 ?_
                    refine lv_topi (fun v184 e184 => ?_)
                    have i184 : v184.toInt = (((upd (r 30) d.toNatClampNeg v131)) d.toNatClampNeg).toInt := congrArg Int32.toInt e184
                    have z184 := e184
                    simp only [upd, if_true] at z184
                    have y184 := congrArg Int32.toInt z184
                    refine lv_icmp_ge (tgt := 272) hx hb dX10_keep_185 (by decide) (fun c185 => ?_) (fun c185 => ?_)
                    · skip
                      have d185 := c185
                      rw [fa_le] at d185
                      refine lv_iconst (v := 0) hx hb dX10_keep_272 (by decide) ?_
                      have hP := wm_eq rfl rfl (ec_r_29_30_31_32__29_30_31_32 r ((upd (r 29) d.toNatClampNeg what)) ((upd (r 30) d.toNatClampNeg v131)) ((upd (r 31) d.toNatClampNeg r149)) ((upd (r 32) d.toNatClampNeg k0))) rfl hP
                      exact W.iret (v := (0 : Int32)) hx hb hr (fun t ht hW => ⟨⟨_, ((upd f 0 (0 : Int32)), g, (va_up (va_up (va_up (va_up r 29 (((upd (r 29) d.toNatClampNeg what)))) 30 (((upd (r 30) d.toNatClampNeg v131)))) 31 (((upd (r 31) d.toNatClampNeg r149)))) 32 (((upd (r 32) d.toNatClampNeg k0)))), (va_up q 33 s3)), rfl, ⟨((upd (r 29) d.toNatClampNeg what)), ((upd (r 30) d.toNatClampNeg v131)), ((upd (r 31) d.toNatClampNeg r149)), ((upd (r 32) d.toNatClampNeg k0)), s3, rfl, ⟨(Or.inl ⟨⟨b9, (by unfold okJob; first | exact Or.inl (by omega) | exact Or.inr (Or.inl ⟨by omega, b31⟩) | (have z9 := goodP_of b64; subst e52; subst e58; exact Or.inr (Or.inr ⟨by omega, b44, z9.2⟩)))⟩, rfl⟩), by first | exact hI | exact mi_sz (d := d) hI (v := v110) (by omega) rfl rfl rfl rfl rfl rfl rfl rfl | exact mi_sz (d := d) hI (v := v131) (by omega) rfl rfl rfl rfl rfl rfl rfl rfl | exact mi_sz (d := d) hI (v := 0) (by decide) rfl rfl rfl rfl rfl rfl rfl rfl⟩⟩, by unfold mB; rw [ht]; exact hP⟩, hS.F ht⟩) hS.2.2 dX10_keep_273
                    · skip
                      have d185 := c185
                      rw [fa_le] at d185
                      refine lv_aload_n hx hb dX10_keep_188 rfl (lv_at hl 2 rfl) ?_
                      refine m_get (v := .ref (a 33)) hx hb hts hin hown hK hP 33 (by decide) rfl (hts (.fieldLink RX10 73 "ShadowBenchModel" "shelfRow" "[J") (by decide +kernel)) rfl dX10_keep_189 ?_
                      refine lv_bipush (v := 60) hx hb dX10_keep_192 (by decide) ?_
                      refine lv_iload_n hx hb dX10_keep_194 rfl (lv_at hl 3 rfl) ?_
                      refine lv_imul hx hb dX10_keep_195 ?_
                      refine lv_topi (fun v195 e195 => ?_)
                      have i195 : v195.toInt = 60 * d.toInt := by rw [e195]; exact mulcL rfl (by omega) (by omega)
                      refine lv_iload hx hb dX10_keep_196 (lv_at hl 0 rfl) ?_
                      refine lv_iadd hx hb dX10_keep_198 ?_
                      refine lv_topi (fun v198 e198 => ?_)
                      have i198 : v198.toInt = v195.toInt + (nI i).toInt := by rw [e198]; exact fb_addI (by omega) (by omega)
                      refine lv_iload_n hx hb dX10_keep_199 rfl (lv_at hl 4 rfl) ?_
                      refine lv_iconst (v := 3) hx hb dX10_keep_200 (by decide) ?_
                      refine lv_icmp_ne (tgt := 215) hx hb dX10_keep_201 (by decide) (fun c201 => ?_) (fun c201 => ?_)
                      · skip
                        have d201 := c201
                        rw [fa_eq] at d201
                        refine lv_iload hx hb dX10_keep_215 (lv_at hl 0 rfl) ?_
                        refine lv_aload_n hx hb dX10_keep_217 rfl (lv_at hl 2 rfl) ?_
                        refine m_get (v := .ref (a 4)) hx hb hts hin hown hK hP 4 (by decide) rfl (hts (.fieldLink RX10 16 "ShadowBenchModel" "high" "[I") (by decide +kernel)) rfl dX10_keep_218 ?_
                        refine lv_iload_n hx hb dX10_keep_221 rfl (lv_at hl 5 rfl) ?_
                        refine m_iald (w := (r 4)) hx hb hK hP 3 rfl (vp_in_iff.mpr ⟨by omega, by omega⟩) dX10_keep_222 ?_
                        refine lv_topi (fun v222 e222 => ?_)
                        have i222 : v222.toInt = ((r 4) k0.toNatClampNeg).toInt := congrArg Int32.toInt e222
                        have w222 := mi_h hI (x := k0) (by omega) (by omega) e222
                        refine lv_icmp_ge (tgt := 242) hx hb dX10_keep_223 (by decide) (fun c223 => ?_) (fun c223 => ?_)
                        · skip
                          have d223 := c223
                          rw [fa_le] at d223
                          refine lv_aload_n hx hb dX10_keep_242 rfl (lv_at hl 2 rfl) ?_
                          refine m_get (v := .ref (a 5)) hx hb hts hin hown hK hP 5 (by decide) rfl (hts (.fieldLink RX10 19 "ShadowBenchModel" "sums" "[I") (by decide +kernel)) rfl dX10_keep_243 ?_
                          refine lv_bipush (v := 44) hx hb dX10_keep_246 (by decide) ?_
                          refine lv_iload_n hx hb dX10_keep_248 rfl (lv_at hl 5 rfl) ?_
                          refine lv_imul hx hb dX10_keep_249 ?_
                          refine lv_topi (fun v249 e249 => ?_)
                          have i249 : v249.toInt = 44 * k0.toInt := by rw [e249]; exact mulcL rfl (by omega) (by omega)
                          refine lv_bipush (v := 11) hx hb dX10_keep_250 (by decide) ?_
                          refine lv_iadd hx hb dX10_keep_252 ?_
                          refine lv_topi (fun v252 e252 => ?_)
                          have i252 : v252.toInt = v249.toInt + (11 : Int32).toInt := by rw [e252]; exact fb_addI (by omega) (by omega)
                          refine lv_iload hx hb dX10_keep_253 (lv_at hl 0 rfl) ?_
                          refine lv_iadd hx hb dX10_keep_255 ?_
                          refine lv_topi (fun v255 e255 => ?_)
                          have i255 : v255.toInt = v252.toInt + (nI i).toInt := by rw [e255]; exact fb_addI (by omega) (by omega)
                          refine lv_aload_n hx hb dX10_keep_256 rfl (lv_at hl 2 rfl) ?_
                          refine m_get (v := .ref (a 4)) hx hb hts hin hown hK hP 4 (by decide) rfl (hts (.fieldLink RX10 16 "ShadowBenchModel" "high" "[I") (by decide +kernel)) rfl dX10_keep_257 ?_
                          refine lv_iload_n hx hb dX10_keep_260 rfl (lv_at hl 5 rfl) ?_
                          refine m_iald (w := (r 4)) hx hb hK hP 3 rfl (vp_in_iff.mpr ⟨by omega, by omega⟩) dX10_keep_261 ?_
                          refine lv_topi (fun v261 e261 => ?_)
                          have i261 : v261.toInt = ((r 4) k0.toNatClampNeg).toInt := congrArg Int32.toInt e261
                          have w261 := mi_h hI (x := k0) (by omega) (by omega) e261
                          refine lv_isub hx hb dX10_keep_262 ?_
                          refine lv_topi (fun v262 e262 => ?_)
                          have i262 : v262.toInt = v255.toInt - v261.toInt := by rw [e262]; exact fb_subI (by omega) (by omega)
                          refine m_iald (w := (r 5)) hx hb hK hP 4 rfl (vp_in_iff.mpr ⟨by omega, by omega⟩) dX10_keep_263 ?_
                          refine lv_topi (fun v263 e263 => ?_)
                          have i263 : v263.toInt = ((r 5) v262.toNatClampNeg).toInt := congrArg Int32.toInt e263
                          refine lv_i2l (v := v263.toInt64) hx hb dX10_keep_264 rfl ?_
                          refine m_last (w := s3) hx hb hK hP hD hS 21 rfl (vp_in_iff.mpr ⟨by omega, by omega⟩) (va_up (va_up q 33 s3) 33 (vp_updL s3 v198.toNatClampNeg v263.toInt64)) (ms_33 cy mo a _ _ _ _ _) dX10_keep_265 (fun H locs hP hS => ?_)
                          have hP := wm_eq rfl rfl rfl (es_q_33__33 q s3 (vp_updL s3 v198.toNatClampNeg v263.toInt64)) hP
                          refine lv_iinc (v := (nI (i + 1))) (lv' := [(7, .int (nI (i + 1))), (6, .int (1 : Int32)), (0, .ref mo), (1, .int d), (2, .int what), (3, .int k0), (4, .long p0)]) hx hb dX10_keep_266 hl (k := 0) rfl (nI_1 _) (by decide) rfl (fun ls hl => ?_)
                          refine lv_goto (tgt := 177) hx hb dX10_keep_269 (by decide) ?_
                          have hP := wm_eq rfl rfl (ec_r_29_30_31_32__29_30_31_32 r ((upd (r 29) d.toNatClampNeg what)) ((upd (r 30) d.toNatClampNeg v131)) ((upd (r 31) d.toNatClampNeg r149)) ((upd (r 32) d.toNatClampNeg k0))) rfl hP
                          exact ih_177 (i + 1) (vp_updL s3 v198.toNatClampNeg v263.toInt64) (by omega) (by omega) _ _ hP hS ls (lv_sub hl [0, 1, 2, 3, 4, 5, 6] rfl)
                        · skip
                          have d223 := c223
                          rw [fa_le] at d223
                          refine lv_aload_n hx hb dX10_keep_226 rfl (lv_at hl 2 rfl) ?_
                          refine m_get (v := .ref (a 5)) hx hb hts hin hown hK hP 5 (by decide) rfl (hts (.fieldLink RX10 19 "ShadowBenchModel" "sums" "[I") (by decide +kernel)) rfl dX10_keep_227 ?_
                          refine lv_bipush (v := 44) hx hb dX10_keep_230 (by decide) ?_
                          refine lv_iload_n hx hb dX10_keep_232 rfl (lv_at hl 5 rfl) ?_
                          refine lv_imul hx hb dX10_keep_233 ?_
                          refine lv_topi (fun v233 e233 => ?_)
                          have i233 : v233.toInt = 44 * k0.toInt := by rw [e233]; exact mulcL rfl (by omega) (by omega)
                          refine lv_iload hx hb dX10_keep_234 (lv_at hl 0 rfl) ?_
                          refine lv_iadd hx hb dX10_keep_236 ?_
                          refine lv_topi (fun v236 e236 => ?_)
                          have i236 : v236.toInt = v233.toInt + (nI i).toInt := by rw [e236]; exact fb_addI (by omega) (by omega)
                          refine m_iald (w := (r 5)) hx hb hK hP 4 rfl (vp_in_iff.mpr ⟨by omega, by omega⟩) dX10_keep_237 ?_
                          refine lv_topi (fun v237 e237 => ?_)
                          have i237 : v237.toInt = ((r 5) v236.toNatClampNeg).toInt := congrArg Int32.toInt e237
                          refine lv_i2l (v := v237.toInt64) hx hb dX10_keep_238 rfl ?_
                          refine lv_goto (tgt := 265) hx hb dX10_keep_239 (by decide) ?_
                          refine m_last (w := s3) hx hb hK hP hD hS 21 rfl (vp_in_iff.mpr ⟨by omega, by omega⟩) (va_up (va_up q 33 s3) 33 (vp_updL s3 v198.toNatClampNeg v237.toInt64)) (ms_33 cy mo a _ _ _ _ _) dX10_keep_265 (fun H locs hP hS => ?_)
                          have hP := wm_eq rfl rfl rfl (es_q_33__33 q s3 (vp_updL s3 v198.toNatClampNeg v237.toInt64)) hP
                          refine lv_iinc (v := (nI (i + 1))) (lv' := [(7, .int (nI (i + 1))), (6, .int (1 : Int32)), (0, .ref mo), (1, .int d), (2, .int what), (3, .int k0), (4, .long p0)]) hx hb dX10_keep_266 hl (k := 0) rfl (nI_1 _) (by decide) rfl (fun ls hl => ?_)
                          refine lv_goto (tgt := 177) hx hb dX10_keep_269 (by decide) ?_
                          have hP := wm_eq rfl rfl (ec_r_29_30_31_32__29_30_31_32 r ((upd (r 29) d.toNatClampNeg what)) ((upd (r 30) d.toNatClampNeg v131)) ((upd (r 31) d.toNatClampNeg r149)) ((upd (r 32) d.toNatClampNeg k0))) rfl hP
                          exact ih_177 (i + 1) (vp_updL s3 v198.toNatClampNeg v237.toInt64) (by omega) (by omega) _ _ hP hS ls (lv_sub hl [0, 1, 2, 3, 4, 5, 6] rfl)
                      · first | exact absurd c201 c95 | exact absurd c95 c201
                have hP := wm_eq rfl rfl (ec_r_29_30_31_32__29_30_31_32 r ((upd (r 29) d.toNatClampNeg what)) ((upd (r 30) d.toNatClampNeg v131)) ((upd (r 31) d.toNatClampNeg r149)) ((upd (r 32) d.toNatClampNeg k0))) (ec_q___33 q ) hP
                exact loop_177 (60 + 1) 0 (q 33) (by omega) (by omega) _ _ hP hS ls (lv_sub hl [0, 1, 2, 3, 4, 5, 6] rfl)
              · skip
                have d164 := c164
                rw [fa_eq] at d164
                refine lv_bipush (v := (-15)) hx hb dX10_keep_167 (by decide) ?_
                refine lv_goto (tgt := 173) hx hb dX10_keep_169 (by decide) ?_
                refine m_iast (w := (r 32)) hx hb hK hP hD hS 20 rfl (vp_in_iff.mpr ⟨by omega, by omega⟩) (va_up (va_up (va_up (va_up r 29 ((upd (r 29) d.toNatClampNeg what))) 30 ((upd (r 30) d.toNatClampNeg v131))) 31 ((upd (r 31) d.toNatClampNeg r149))) 32 (upd (r 32) d.toNatClampNeg (((-15) : Int32)))) (ms_32 cy mo a _ _ _ _ _) dX10_keep_173 (fun H locs hP hS => ?_)
                refine lv_iconst (v := 0) hx hb dX10_keep_174 (by decide) ?_
                refine lv_istore (lv' := [(7, .int (0 : Int32)), (6, .int (1 : Int32)), (0, .ref mo), (1, .int d), (2, .int what), (3, .int k0), (4, .long p0)]) hx hb dX10_keep_175 hl (by decide) rfl (fun ls hl => ?_)
                have loop_177 : ∀ (n : Nat) (i : Nat) (s3 : Nat → Int64), (i ≤ 60) → 60 - i < n → ∀ (H : Heap) (locs : List Loc), va_P D vwCl (WM cy mo a (upd f 0 (0 : Int32)) g (va_up (va_up (va_up (va_up r 29 ((upd (r 29) d.toNatClampNeg what))) 30 ((upd (r 30) d.toNatClampNeg v131))) 31 ((upd (r 31) d.toNatClampNeg r149))) 32 ((upd (r 32) d.toNatClampNeg (((-15) : Int32))))) (va_up q 33 s3)) H → va_S (AM mo a) s.heap H locs → ∀ (ls : Array Slot), lv_has ls 8 [(7, .int (nI i)), (6, .int (1 : Int32)), (0, .ref mo), (1, .int d), (2, .int what), (3, .int k0), (4, .long p0)] → W p l e (headSpec wsX10_keep ({ frames := 3, cells := 0, slots := 0, locals := 69 })).room s m #[Value.ref mo, Value.int d, Value.int what, Value.int k0, Value.long p0] below meth c H locs 0 0 (MQ below (va_Qi (fun r0 u => ∃ (sh : Nat → Int32), ∃ (sz : Nat → Int32), ∃ (sw : Nat → Int32), ∃ (sf : Nat → Int32), ∃ (sr : Nat → Int64), u = ((upd f 0 (0 : Int32)), g, (va_up (va_up (va_up (va_up r 29 sh) 30 sz) 31 sw) 32 sf), (va_up q 33 sr)) ∧ (yesNo (okKeep (f 1) (fun j9 => (r 3 j9).toNatClampNeg) (fun j9 => (r 4 j9).toNatClampNeg) d what k0 p0) 0 (-1) r0 ∧ MI (upd f 0 (0 : Int32)) (va_up (va_up (va_up (va_up r 29 sh) 30 sz) 31 sw) 32 sf))) (mB D cy mo a) (AM mo a)) #[Value.ref mo, Value.int d, Value.int what, Value.int k0, Value.long p0] s 0 0 (AM mo a)) (F0 m 177 ls []) := by
                  intro n
                  induction n with
                  | zero => intro i s3 j177_0 hn; exact absurd hn (Nat.not_lt_zero _)
                  | succ n ih_177 =>
                    intro i s3 j177_0 hn_177 H locs hP hS ls hl
                    have ii : (nI i).toInt = (i : Int) := nI_toInt (by omega)
                    refine lv_iload hx hb dX10_keep_177 (lv_at hl 0 rfl) ?_
                    refine lv_aload_n hx hb dX10_keep_179 rfl (lv_at hl 2 rfl) ?_
                    refine m_get (v := .ref (a 30)) hx hb hts hin hown hK hP 30 (by decide) rfl (hts (.fieldLink RX10 64 "ShadowBenchModel" "shelfSize" "[I") (by decide +kernel)) rfl dX10_keep_180 ?_
                    refine lv_iload_n hx hb dX10_keep_183 rfl (lv_at hl 3 rfl) ?_
                    refine m_iald (w := ((upd (r 30) d.toNatClampNeg v131))) hx hb hK hP 18 rfl (vp_in_iff.mpr ⟨by omega, by omega⟩) dX10_keep_184 ?_
                    refine lv_topi (fun v184 e184 => ?_)
                    have i184 : v184.toInt = (((upd (r 30) d.toNatClampNeg v131)) d.toNatClampNeg).toInt := congrArg Int32.toInt e184
                    have z184 := e184
                    simp only [upd, if_true] at z184
                    have y184 := congrArg Int32.toInt z184
                    refine lv_icmp_ge (tgt := 272) hx hb dX10_keep_185 (by decide) (fun c185 => ?_) (fun c185 => ?_)
                    · skip
                      have d185 := c185
                      rw [fa_le] at d185
                      refine lv_iconst (v := 0) hx hb dX10_keep_272 (by decide) ?_
                      have hP := wm_eq rfl rfl (ec_r_29_30_31_32__29_30_31_32 r ((upd (r 29) d.toNatClampNeg what)) ((upd (r 30) d.toNatClampNeg v131)) ((upd (r 31) d.toNatClampNeg r149)) ((upd (r 32) d.toNatClampNeg (((-15) : Int32))))) rfl hP
                      exact W.iret (v := (0 : Int32)) hx hb hr (fun t ht hW => ⟨⟨_, ((upd f 0 (0 : Int32)), g, (va_up (va_up (va_up (va_up r 29 (((upd (r 29) d.toNatClampNeg what)))) 30 (((upd (r 30) d.toNatClampNeg v131)))) 31 (((upd (r 31) d.toNatClampNeg r149)))) 32 (((upd (r 32) d.toNatClampNeg (((-15) : Int32)))))), (va_up q 33 s3)), rfl, ⟨((upd (r 29) d.toNatClampNeg what)), ((upd (r 30) d.toNatClampNeg v131)), ((upd (r 31) d.toNatClampNeg r149)), ((upd (r 32) d.toNatClampNeg (((-15) : Int32)))), s3, rfl, ⟨(Or.inl ⟨⟨b9, (by unfold okJob; first | exact Or.inl (by omega) | exact Or.inr (Or.inl ⟨by omega, b31⟩) | (have z9 := goodP_of b64; subst e52; subst e58; exact Or.inr (Or.inr ⟨by omega, b44, z9.2⟩)))⟩, rfl⟩), by first | exact hI | exact mi_sz (d := d) hI (v := v110) (by omega) rfl rfl rfl rfl rfl rfl rfl rfl | exact mi_sz (d := d) hI (v := v131) (by omega) rfl rfl rfl rfl rfl rfl rfl rfl | exact mi_sz (d := d) hI (v := 0) (by decide) rfl rfl rfl rfl rfl rfl rfl rfl⟩⟩, by unfold mB; rw [ht]; exact hP⟩, hS.F ht⟩) hS.2.2 dX10_keep_273
                    · skip
                      have d185 := c185
                      rw [fa_le] at d185
                      refine lv_aload_n hx hb dX10_keep_188 rfl (lv_at hl 2 rfl) ?_
                      refine m_get (v := .ref (a 33)) hx hb hts hin hown hK hP 33 (by decide) rfl (hts (.fieldLink RX10 73 "ShadowBenchModel" "shelfRow" "[J") (by decide +kernel)) rfl dX10_keep_189 ?_
                      refine lv_bipush (v := 60) hx hb dX10_keep_192 (by decide) ?_
                      refine lv_iload_n hx hb dX10_keep_194 rfl (lv_at hl 3 rfl) ?_
                      refine lv_imul hx hb dX10_keep_195 ?_
                      refine lv_topi (fun v195 e195 => ?_)
                      have i195 : v195.toInt = 60 * d.toInt := by rw [e195]; exact mulcL rfl (by omega) (by omega)
                      refine lv_iload hx hb dX10_keep_196 (lv_at hl 0 rfl) ?_
                      refine lv_iadd hx hb dX10_keep_198 ?_
                      refine lv_topi (fun v198 e198 => ?_)
                      have i198 : v198.toInt = v195.toInt + (nI i).toInt := by rw [e198]; exact fb_addI (by omega) (by omega)
                      refine lv_iload_n hx hb dX10_keep_199 rfl (lv_at hl 4 rfl) ?_
                      refine lv_iconst (v := 3) hx hb dX10_keep_200 (by decide) ?_
                      refine lv_icmp_ne (tgt := 215) hx hb dX10_keep_201 (by decide) (fun c201 => ?_) (fun c201 => ?_)
                      · skip
                        have d201 := c201
                        rw [fa_eq] at d201
                        refine lv_iload hx hb dX10_keep_215 (lv_at hl 0 rfl) ?_
                        refine lv_aload_n hx hb dX10_keep_217 rfl (lv_at hl 2 rfl) ?_
                        refine m_get (v := .ref (a 4)) hx hb hts hin hown hK hP 4 (by decide) rfl (hts (.fieldLink RX10 16 "ShadowBenchModel" "high" "[I") (by decide +kernel)) rfl dX10_keep_218 ?_
                        refine lv_iload_n hx hb dX10_keep_221 rfl (lv_at hl 5 rfl) ?_
                        refine m_iald (w := (r 4)) hx hb hK hP 3 rfl (vp_in_iff.mpr ⟨by omega, by omega⟩) dX10_keep_222 ?_
                        refine lv_topi (fun v222 e222 => ?_)
                        have i222 : v222.toInt = ((r 4) k0.toNatClampNeg).toInt := congrArg Int32.toInt e222
                        have w222 := mi_h hI (x := k0) (by omega) (by omega) e222
                        refine lv_icmp_ge (tgt := 242) hx hb dX10_keep_223 (by decide) (fun c223 => ?_) (fun c223 => ?_)
                        · skip
                          have d223 := c223
                          rw [fa_le] at d223
                          refine lv_aload_n hx hb dX10_keep_242 rfl (lv_at hl 2 rfl) ?_
                          refine m_get (v := .ref (a 5)) hx hb hts hin hown hK hP 5 (by decide) rfl (hts (.fieldLink RX10 19 "ShadowBenchModel" "sums" "[I") (by decide +kernel)) rfl dX10_keep_243 ?_
                          refine lv_bipush (v := 44) hx hb dX10_keep_246 (by decide) ?_
                          refine lv_iload_n hx hb dX10_keep_248 rfl (lv_at hl 5 rfl) ?_
                          refine lv_imul hx hb dX10_keep_249 ?_
                          refine lv_topi (fun v249 e249 => ?_)
                          have i249 : v249.toInt = 44 * k0.toInt := by rw [e249]; exact mulcL rfl (by omega) (by omega)
                          refine lv_bipush (v := 11) hx hb dX10_keep_250 (by decide) ?_
                          refine lv_iadd hx hb dX10_keep_252 ?_
                          refine lv_topi (fun v252 e252 => ?_)
                          have i252 : v252.toInt = v249.toInt + (11 : Int32).toInt := by rw [e252]; exact fb_addI (by omega) (by omega)
                          refine lv_iload hx hb dX10_keep_253 (lv_at hl 0 rfl) ?_
                          refine lv_iadd hx hb dX10_keep_255 ?_
                          refine lv_topi (fun v255 e255 => ?_)
                          have i255 : v255.toInt = v252.toInt + (nI i).toInt := by rw [e255]; exact fb_addI (by omega) (by omega)
                          refine lv_aload_n hx hb dX10_keep_256 rfl (lv_at hl 2 rfl) ?_
                          refine m_get (v := .ref (a 4)) hx hb hts hin hown hK hP 4 (by decide) rfl (hts (.fieldLink RX10 16 "ShadowBenchModel" "high" "[I") (by decide +kernel)) rfl dX10_keep_257 ?_
                          refine lv_iload_n hx hb dX10_keep_260 rfl (lv_at hl 5 rfl) ?_
                          refine m_iald (w := (r 4)) hx hb hK hP 3 rfl (vp_in_iff.mpr ⟨by omega, by omega⟩) dX10_keep_261 ?_
                          refine lv_topi (fun v261 e261 => ?_)
                          have i261 : v261.toInt = ((r 4) k0.toNatClampNeg).toInt := congrArg Int32.toInt e261
                          have w261 := mi_h hI (x := k0) (by omega) (by omega) e261
                          refine lv_isub hx hb dX10_keep_262 ?_
                          refine lv_topi (fun v262 e262 => ?_)
                          have i262 : v262.toInt = v255.toInt - v261.toInt := by rw [e262]; exact fb_subI (by omega) (by omega)
                          refine m_iald (w := (r 5)) hx hb hK hP 4 rfl (vp_in_iff.mpr ⟨by omega, by omega⟩) dX10_keep_263 ?_
                          refine lv_topi (fun v263 e263 => ?_)
                          have i263 : v263.toInt = ((r 5) v262.toNatClampNeg).toInt := congrArg Int32.toInt e263
                          refine lv_i2l (v := v263.toInt64) hx hb dX10_keep_264 rfl ?_
                          refine m_last (w := s3) hx hb hK hP hD hS 21 rfl (vp_in_iff.mpr ⟨by omega, by omega⟩) (va_up (va_up q 33 s3) 33 (vp_updL s3 v198.toNatClampNeg v263.toInt64)) (ms_33 cy mo a _ _ _ _ _) dX10_keep_265 (fun H locs hP hS => ?_)
                          have hP := wm_eq rfl rfl rfl (es_q_33__33 q s3 (vp_updL s3 v198.toNatClampNeg v263.toInt64)) hP
                          refine lv_iinc (v := (nI (i + 1))) (lv' := [(7, .int (nI (i + 1))), (6, .int (1 : Int32)), (0, .ref mo), (1, .int d), (2, .int what), (3, .int k0), (4, .long p0)]) hx hb dX10_keep_266 hl (k := 0) rfl (nI_1 _) (by decide) rfl (fun ls hl => ?_)
                          refine lv_goto (tgt := 177) hx hb dX10_keep_269 (by decide) ?_
                          have hP := wm_eq rfl rfl (ec_r_29_30_31_32__29_30_31_32 r ((upd (r 29) d.toNatClampNeg what)) ((upd (r 30) d.toNatClampNeg v131)) ((upd (r 31) d.toNatClampNeg r149)) ((upd (r 32) d.toNatClampNeg (((-15) : Int32))))) rfl hP
                          exact ih_177 (i + 1) (vp_updL s3 v198.toNatClampNeg v263.toInt64) (by omega) (by omega) _ _ hP hS ls (lv_sub hl [0, 1, 2, 3, 4, 5, 6] rfl)
                        · skip
                          have d223 := c223
                          rw [fa_le] at d223
                          refine lv_aload_n hx hb dX10_keep_226 rfl (lv_at hl 2 rfl) ?_
                          refine m_get (v := .ref (a 5)) hx hb hts hin hown hK hP 5 (by decide) rfl (hts (.fieldLink RX10 19 "ShadowBenchModel" "sums" "[I") (by decide +kernel)) rfl dX10_keep_227 ?_
                          refine lv_bipush (v := 44) hx hb dX10_keep_230 (by decide) ?_
                          refine lv_iload_n hx hb dX10_keep_232 rfl (lv_at hl 5 rfl) ?_
                          refine lv_imul hx hb dX10_keep_233 ?_
                          refine lv_topi (fun v233 e233 => ?_)
                          have i233 : v233.toInt = 44 * k0.toInt := by rw [e233]; exact mulcL rfl (by omega) (by omega)
                          refine lv_iload hx hb dX10_keep_234 (lv_at hl 0 rfl) ?_
                          refine lv_iadd hx hb dX10_keep_236 ?_
                          refine lv_topi (fun v236 e236 => ?_)
                          have i236 : v236.toInt = v233.toInt + (nI i).toInt := by rw [e236]; exact fb_addI (by omega) (by omega)
                          refine m_iald (w := (r 5)) hx hb hK hP 4 rfl (vp_in_iff.mpr ⟨by omega, by omega⟩) dX10_keep_237 ?_
                          refine lv_topi (fun v237 e237 => ?_)
                          have i237 : v237.toInt = ((r 5) v236.toNatClampNeg).toInt := congrArg Int32.toInt e237
                          refine lv_i2l (v := v237.toInt64) hx hb dX10_keep_238 rfl ?_
                          refine lv_goto (tgt := 265) hx hb dX10_keep_239 (by decide) ?_
                          refine m_last (w := s3) hx hb hK hP hD hS 21 rfl (vp_in_iff.mpr ⟨by omega, by omega⟩) (va_up (va_up q 33 s3) 33 (vp_updL s3 v198.toNatClampNeg v237.toInt64)) (ms_33 cy mo a _ _ _ _ _) dX10_keep_265 (fun H locs hP hS => ?_)
                          have hP := wm_eq rfl rfl rfl (es_q_33__33 q s3 (vp_updL s3 v198.toNatClampNeg v237.toInt64)) hP
                          refine lv_iinc (v := (nI (i + 1))) (lv' := [(7, .int (nI (i + 1))), (6, .int (1 : Int32)), (0, .ref mo), (1, .int d), (2, .int what), (3, .int k0), (4, .long p0)]) hx hb dX10_keep_266 hl (k := 0) rfl (nI_1 _) (by decide) rfl (fun ls hl => ?_)
                          refine lv_goto (tgt := 177) hx hb dX10_keep_269 (by decide) ?_
                          have hP := wm_eq rfl rfl (ec_r_29_30_31_32__29_30_31_32 r ((upd (r 29) d.toNatClampNeg what)) ((upd (r 30) d.toNatClampNeg v131)) ((upd (r 31) d.toNatClampNeg r149)) ((upd (r 32) d.toNatClampNeg (((-15) : Int32))))) rfl hP
                          exact ih_177 (i + 1) (vp_updL s3 v198.toNatClampNeg v237.toInt64) (by omega) (by omega) _ _ hP hS ls (lv_sub hl [0, 1, 2, 3, 4, 5, 6] rfl)
                      · first | exact absurd c201 c95 | exact absurd c95 c201
                have hP := wm_eq rfl rfl (ec_r_29_30_31_32__29_30_31_32 r ((upd (r 29) d.toNatClampNeg what)) ((upd (r 30) d.toNatClampNeg v131)) ((upd (r 31) d.toNatClampNeg r149)) ((upd (r 32) d.toNatClampNeg (((-15) : Int32))))) (ec_q___33 q ) hP
                exact loop_177 (60 + 1) 0 (q 33) (by omega) (by omega) _ _ hP hS ls (lv_sub hl [0, 1, 2, 3, 4, 5, 6] rfl)
        · skip
          have d95 := c95
          rw [fa_eq] at d95
          refine lv_aload_n hx hb dX10_keep_98 rfl (lv_at hl 1 rfl) ?_
          refine m_get (v := .ref (a 3)) hx hb hts hin hown hK hP 3 (by decide) rfl (hts (.fieldLink RX10 13 "ShadowBenchModel" "wide" "[I") (by decide +kernel)) rfl dX10_keep_99 ?_
          refine lv_iload_n hx hb dX10_keep_102 rfl (lv_at hl 4 rfl) ?_
          refine m_iald (w := (r 3)) hx hb hK hP 2 rfl (vp_in_iff.mpr ⟨by omega, by omega⟩) dX10_keep_103 ?_
          refine lv_topi (fun v103 e103 => ?_)
          have i103 : v103.toInt = ((r 3) k0.toNatClampNeg).toInt := congrArg Int32.toInt e103
          have w103 := mi_w hI (x := k0) (by omega) (by omega) e103
          refine lv_aload_n hx hb dX10_keep_104 rfl (lv_at hl 1 rfl) ?_
          refine m_get (v := .ref (a 4)) hx hb hts hin hown hK hP 4 (by decide) rfl (hts (.fieldLink RX10 16 "ShadowBenchModel" "high" "[I") (by decide +kernel)) rfl dX10_keep_105 ?_
          refine lv_iload_n hx hb dX10_keep_108 rfl (lv_at hl 4 rfl) ?_
          refine m_iald (w := (r 4)) hx hb hK hP 3 rfl (vp_in_iff.mpr ⟨by omega, by omega⟩) dX10_keep_109 ?_
          refine lv_topi (fun v109 e109 => ?_)
          have i109 : v109.toInt = ((r 4) k0.toNatClampNeg).toInt := congrArg Int32.toInt e109
          have w109 := mi_h hI (x := k0) (by omega) (by omega) e109
          have m110 := mul66 w103 w109
          refine lv_imul hx hb dX10_keep_110 ?_
          refine lv_topi (fun v110 e110 => ?_)
          have i110 : v110.toInt = v103.toInt * v109.toInt := by rw [e110]; exact fb_mulI (by omega) (by omega)
          refine lv_goto (tgt := 136) hx hb dX10_keep_111 (by decide) ?_
          refine m_iast (w := (r 30)) hx hb hK hP hD hS 18 rfl (vp_in_iff.mpr ⟨by omega, by omega⟩) (va_up (va_up r 29 ((upd (r 29) d.toNatClampNeg what))) 30 (upd (r 30) d.toNatClampNeg v110)) (ms_30 cy mo a _ _ _ _ _) dX10_keep_136 (fun H locs hP hS => ?_)
          refine lv_iload_n hx hb dX10_keep_137 rfl (lv_at hl 3 rfl) ?_
          refine lv_iconst (v := 1) hx hb dX10_keep_138 (by decide) ?_
          refine lv_icmp_ne (tgt := 174) hx hb dX10_keep_139 (by decide) (fun c139 => ?_) (fun c139 => ?_)
          · skip
            have d139 := c139
            rw [fa_eq] at d139
            refine lv_iconst (v := 0) hx hb dX10_keep_174 (by decide) ?_
            refine lv_istore (lv' := [(7, .int (0 : Int32)), (6, .int (1 : Int32)), (0, .ref mo), (1, .int d), (2, .int what), (3, .int k0), (4, .long p0)]) hx hb dX10_keep_175 hl (by decide) rfl (fun ls hl => ?_)
            have loop_177 : ∀ (n : Nat) (i : Nat) (s3 : Nat → Int64), (i ≤ 60) → 60 - i < n → ∀ (H : Heap) (locs : List Loc), va_P D vwCl (WM cy mo a (upd f 0 (0 : Int32)) g (va_up (va_up r 29 ((upd (r 29) d.toNatClampNeg what))) 30 ((upd (r 30) d.toNatClampNeg v110))) (va_up q 33 s3)) H → va_S (AM mo a) s.heap H locs → ∀ (ls : Array Slot), lv_has ls 8 [(7, .int (nI i)), (6, .int (1 : Int32)), (0, .ref mo), (1, .int d), (2, .int what), (3, .int k0), (4, .long p0)] → W p l e (headSpec wsX10_keep ({ frames := 3, cells := 0, slots := 0, locals := 69 })).room s m #[Value.ref mo, Value.int d, Value.int what, Value.int k0, Value.long p0] below meth c H locs 0 0 (MQ below (va_Qi (fun r0 u => ∃ (sh : Nat → Int32), ∃ (sz : Nat → Int32), ∃ (sw : Nat → Int32), ∃ (sf : Nat → Int32), ∃ (sr : Nat → Int64), u = ((upd f 0 (0 : Int32)), g, (va_up (va_up (va_up (va_up r 29 sh) 30 sz) 31 sw) 32 sf), (va_up q 33 sr)) ∧ (yesNo (okKeep (f 1) (fun j9 => (r 3 j9).toNatClampNeg) (fun j9 => (r 4 j9).toNatClampNeg) d what k0 p0) 0 (-1) r0 ∧ MI (upd f 0 (0 : Int32)) (va_up (va_up (va_up (va_up r 29 sh) 30 sz) 31 sw) 32 sf))) (mB D cy mo a) (AM mo a)) #[Value.ref mo, Value.int d, Value.int what, Value.int k0, Value.long p0] s 0 0 (AM mo a)) (F0 m 177 ls []) := by
              intro n
              induction n with
              | zero => intro i s3 j177_0 hn; exact absurd hn (Nat.not_lt_zero _)
              | succ n ih_177 =>
                intro i s3 j177_0 hn_177 H locs hP hS ls hl
                have ii : (nI i).toInt = (i : Int) := nI_toInt (by omega)
                refine lv_iload hx hb dX10_keep_177 (lv_at hl 0 rfl) ?_
                refine lv_aload_n hx hb dX10_keep_179 rfl (lv_at hl 2 rfl) ?_
                refine m_get (v := .ref (a 30)) hx hb hts hin hown hK hP 30 (by decide) rfl (hts (.fieldLink RX10 64 "ShadowBenchModel" "shelfSize" "[I") (by decide +kernel)) rfl dX10_keep_180 ?_
                refine lv_iload_n hx hb dX10_keep_183 rfl (lv_at hl 3 rfl) ?_
                refine m_iald (w := ((upd (r 30) d.toNatClampNeg v110))) hx hb hK hP 18 rfl (vp_in_iff.mpr ⟨by omega, by omega⟩) dX10_keep_184 ?_
                refine lv_topi (fun v184 e184 => ?_)
                have i184 : v184.toInt = (((upd (r 30) d.toNatClampNeg v110)) d.toNatClampNeg).toInt := congrArg Int32.toInt e184
                have z184 := e184
                simp only [upd, if_true] at z184
                have y184 := congrArg Int32.toInt z184
                refine lv_icmp_ge (tgt := 272) hx hb dX10_keep_185 (by decide) (fun c185 => ?_) (fun c185 => ?_)
                · skip
                  have d185 := c185
                  rw [fa_le] at d185
                  refine lv_iconst (v := 0) hx hb dX10_keep_272 (by decide) ?_
                  have hP := wm_eq rfl rfl (ec_r_29_30__29_30_31_32 r ((upd (r 29) d.toNatClampNeg what)) ((upd (r 30) d.toNatClampNeg v110))) rfl hP
                  exact W.iret (v := (0 : Int32)) hx hb hr (fun t ht hW => ⟨⟨_, ((upd f 0 (0 : Int32)), g, (va_up (va_up (va_up (va_up r 29 (((upd (r 29) d.toNatClampNeg what)))) 30 (((upd (r 30) d.toNatClampNeg v110)))) 31 (r 31)) 32 (r 32)), (va_up q 33 s3)), rfl, ⟨((upd (r 29) d.toNatClampNeg what)), ((upd (r 30) d.toNatClampNeg v110)), (r 31), (r 32), s3, rfl, ⟨(Or.inl ⟨⟨b9, (by unfold okJob; first | exact Or.inl (by omega) | exact Or.inr (Or.inl ⟨by omega, b31⟩) | (have z9 := goodP_of b64; subst e52; subst e58; exact Or.inr (Or.inr ⟨by omega, b44, z9.2⟩)))⟩, rfl⟩), by first | exact hI | exact mi_sz (d := d) hI (v := v110) (by omega) rfl rfl rfl rfl rfl rfl rfl rfl | exact mi_sz (d := d) hI (v := v131) (by omega) rfl rfl rfl rfl rfl rfl rfl rfl | exact mi_sz (d := d) hI (v := 0) (by decide) rfl rfl rfl rfl rfl rfl rfl rfl⟩⟩, by unfold mB; rw [ht]; exact hP⟩, hS.F ht⟩) hS.2.2 dX10_keep_273
                · skip
                  have d185 := c185
                  rw [fa_le] at d185
                  refine lv_aload_n hx hb dX10_keep_188 rfl (lv_at hl 2 rfl) ?_
                  refine m_get (v := .ref (a 33)) hx hb hts hin hown hK hP 33 (by decide) rfl (hts (.fieldLink RX10 73 "ShadowBenchModel" "shelfRow" "[J") (by decide +kernel)) rfl dX10_keep_189 ?_
                  refine lv_bipush (v := 60) hx hb dX10_keep_192 (by decide) ?_
                  refine lv_iload_n hx hb dX10_keep_194 rfl (lv_at hl 3 rfl) ?_
                  refine lv_imul hx hb dX10_keep_195 ?_
                  refine lv_topi (fun v195 e195 => ?_)
                  have i195 : v195.toInt = 60 * d.toInt := by rw [e195]; exact mulcL rfl (by omega) (by omega)
                  refine lv_iload hx hb dX10_keep_196 (lv_at hl 0 rfl) ?_
                  refine lv_iadd hx hb dX10_keep_198 ?_
                  refine lv_topi (fun v198 e198 => ?_)
                  have i198 : v198.toInt = v195.toInt + (nI i).toInt := by rw [e198]; exact fb_addI (by omega) (by omega)
                  refine lv_iload_n hx hb dX10_keep_199 rfl (lv_at hl 4 rfl) ?_
                  refine lv_iconst (v := 3) hx hb dX10_keep_200 (by decide) ?_
                  refine lv_icmp_ne (tgt := 215) hx hb dX10_keep_201 (by decide) (fun c201 => ?_) (fun c201 => ?_)
                  · first | exact absurd c201 c95 | exact absurd c95 c201
                  · skip
                    have d201 := c201
                    rw [fa_eq] at d201
                    refine lv_lload hx hb dX10_keep_204 (lv_at hl 6 rfl) ?_
                    refine lv_iload hx hb dX10_keep_206 (lv_at hl 0 rfl) ?_
                    refine m_pu (As := [.long p0, .int (nI i)]) (rest := [.int v198, .ref (a 33)]) ⟨hx, hb, hml, hown, hts⟩ (c_X10_one l p0 (nI i) ) (va_cwS 2 hts gX10_keep_X10_one rfl rfl rfl (by decide +kernel) ⟨Nat.le_of_ble_eq_true rfl, Nat.le_of_ble_eq_true rfl⟩) hP rfl hl.1 rfl (Nat.le_of_ble_eq_true rfl) dX10_keep_208 ⟨Nat.le_of_ble_eq_true rfl, Nat.le_of_ble_eq_true rfl⟩ hS (fun r208 H locs q208 hP hS => ?_)
                    have i208 : r208.toInt = (r_one p0 (nI i)).toInt := congrArg Int32.toInt q208
                    refine lv_i2l (v := r208.toInt64) hx hb dX10_keep_211 rfl ?_
                    refine lv_goto (tgt := 265) hx hb dX10_keep_212 (by decide) ?_
                    refine m_last (w := s3) hx hb hK hP hD hS 21 rfl (vp_in_iff.mpr ⟨by omega, by omega⟩) (va_up (va_up q 33 s3) 33 (vp_updL s3 v198.toNatClampNeg r208.toInt64)) (ms_33 cy mo a _ _ _ _ _) dX10_keep_265 (fun H locs hP hS => ?_)
                    have hP := wm_eq rfl rfl rfl (es_q_33__33 q s3 (vp_updL s3 v198.toNatClampNeg r208.toInt64)) hP
                    refine lv_iinc (v := (nI (i + 1))) (lv' := [(7, .int (nI (i + 1))), (6, .int (1 : Int32)), (0, .ref mo), (1, .int d), (2, .int what), (3, .int k0), (4, .long p0)]) hx hb dX10_keep_266 hl (k := 0) rfl (nI_1 _) (by decide) rfl (fun ls hl => ?_)
                    refine lv_goto (tgt := 177) hx hb dX10_keep_269 (by decide) ?_
                    have hP := wm_eq rfl rfl (ec_r_29_30__29_30 r ((upd (r 29) d.toNatClampNeg what)) ((upd (r 30) d.toNatClampNeg v110))) rfl hP
                    exact ih_177 (i + 1) (vp_updL s3 v198.toNatClampNeg r208.toInt64) (by omega) (by omega) _ _ hP hS ls (lv_sub hl [0, 1, 2, 3, 4, 5, 6] rfl)
            have hP := wm_eq rfl rfl (ec_r_29_30__29_30 r ((upd (r 29) d.toNatClampNeg what)) ((upd (r 30) d.toNatClampNeg v110))) (ec_q___33 q ) hP
            exact loop_177 (60 + 1) 0 (q 33) (by omega) (by omega) _ _ hP hS ls (lv_sub hl [0, 1, 2, 3, 4, 5, 6] rfl)
          · skip
            have d139 := c139
            rw [fa_eq] at d139
            refine lv_aload_n hx hb dX10_keep_142 rfl (lv_at hl 1 rfl) ?_
            refine m_get (v := .ref (a 31)) hx hb hts hin hown hK hP 31 (by decide) rfl (hts (.fieldLink RX10 67 "ShadowBenchModel" "shelfWeight" "[I") (by decide +kernel)) rfl dX10_keep_143 ?_
            refine lv_iload_n hx hb dX10_keep_146 rfl (lv_at hl 2 rfl) ?_
            refine lv_aload_n hx hb dX10_keep_147 rfl (lv_at hl 1 rfl) ?_
            refine lv_iload_n hx hb dX10_keep_148 rfl (lv_at hl 4 rfl) ?_
            refine m_calli (As := [.int k0]) (rest := [.int d, .ref (a 31)]) ⟨hx, hb, hml, hown, hts⟩ (c_X10_weightOf l D cy mo a (upd f 0 (0 : Int32)) g (va_up (va_up r 29 ((upd (r 29) d.toNatClampNeg what))) 30 ((upd (r 30) d.toNatClampNeg v110))) q k0 hD (by first | exact hI | exact mi_sz (d := d) hI (v := 0) (by first | omega | decide) rfl rfl rfl rfl rfl rfl rfl rfl | exact mi_sz (d := d) hI (v := v131) (by first | omega | decide) rfl rfl rfl rfl rfl rfl rfl rfl | exact mi_sz (d := d) hI (v := v110) (by first | omega | decide) rfl rfl rfl rfl rfl rfl rfl rfl) (show 0 ≤ k0.toInt ∧ k0.toInt < (f 1).toInt by omega)) (cwV 1 hts gX10_keep_X10_weightOf rfl rfl rfl (by decide +kernel) ⟨Nat.le_of_ble_eq_true rfl, Nat.le_of_ble_eq_true rfl⟩) hK hP rfl hl.1 rfl (Nat.le_of_ble_eq_true rfl) dX10_keep_149 ⟨Nat.le_of_ble_eq_true rfl, Nat.le_of_ble_eq_true rfl⟩ hS (fun r149 u H locs q149 hP hS => ?_)
            obtain ⟨rfl, q149⟩ := q149
            have hP : va_P D vwCl (WM cy mo a (upd f 0 (0 : Int32)) g (va_up (va_up r 29 ((upd (r 29) d.toNatClampNeg what))) 30 ((upd (r 30) d.toNatClampNeg v110))) q) H := hP
            have q149 : True := q149
            refine m_iast (w := (r 31)) hx hb hK hP hD hS 19 rfl (vp_in_iff.mpr ⟨by omega, by omega⟩) (va_up (va_up (va_up r 29 ((upd (r 29) d.toNatClampNeg what))) 30 ((upd (r 30) d.toNatClampNeg v110))) 31 (upd (r 31) d.toNatClampNeg r149)) (ms_31 cy mo a _ _ _ _ _) dX10_keep_152 (fun H locs hP hS => ?_)
            refine lv_aload_n hx hb dX10_keep_153 rfl (lv_at hl 1 rfl) ?_
            refine m_get (v := .ref (a 32)) hx hb hts hin hown hK hP 32 (by decide) rfl (hts (.fieldLink RX10 70 "ShadowBenchModel" "shelfFailure" "[I") (by decide +kernel)) rfl dX10_keep_154 ?_
            refine lv_iload_n hx hb dX10_keep_157 rfl (lv_at hl 2 rfl) ?_
            refine lv_aload_n hx hb dX10_keep_158 rfl (lv_at hl 1 rfl) ?_
            refine m_get (v := .ref (a 2)) hx hb hts hin hown hK hP 2 (by decide) rfl (hts (.fieldLink RX10 7 "ShadowBenchModel" "kind" "[I") (by decide +kernel)) rfl dX10_keep_159 ?_
            refine lv_iload_n hx hb dX10_keep_162 rfl (lv_at hl 4 rfl) ?_
            refine m_iald (w := (r 2)) hx hb hK hP 1 rfl (vp_in_iff.mpr ⟨by omega, by omega⟩) dX10_keep_163 ?_
            refine lv_topi (fun v163 e163 => ?_)
            have i163 : v163.toInt = ((r 2) k0.toNatClampNeg).toInt := congrArg Int32.toInt e163
            refine lv_if_ne (tgt := 172) hx hb dX10_keep_164 (by decide) (fun c164 => ?_) (fun c164 => ?_)
            · skip
              have d164 := c164
              rw [fa_eq] at d164
              refine lv_iload_n hx hb dX10_keep_172 rfl (lv_at hl 4 rfl) ?_
              refine m_iast (w := (r 32)) hx hb hK hP hD hS 20 rfl (vp_in_iff.mpr ⟨by omega, by omega⟩) (va_up (va_up (va_up (va_up r 29 ((upd (r 29) d.toNatClampNeg what))) 30 ((upd (r 30) d.toNatClampNeg v110))) 31 ((upd (r 31) d.toNatClampNeg r149))) 32 (upd (r 32) d.toNatClampNeg k0)) (ms_32 cy mo a _ _ _ _ _) dX10_keep_173 (fun H locs hP hS => ?_)
              refine lv_iconst (v := 0) hx hb dX10_keep_174 (by decide) ?_
              refine lv_istore (lv' := [(7, .int (0 : Int32)), (6, .int (1 : Int32)), (0, .ref mo), (1, .int d), (2, .int what), (3, .int k0), (4, .long p0)]) hx hb dX10_keep_175 hl (by decide) rfl (fun ls hl => ?_)
              have loop_177 : ∀ (n : Nat) (i : Nat) (s3 : Nat → Int64), (i ≤ 60) → 60 - i < n → ∀ (H : Heap) (locs : List Loc), va_P D vwCl (WM cy mo a (upd f 0 (0 : Int32)) g (va_up (va_up (va_up (va_up r 29 ((upd (r 29) d.toNatClampNeg what))) 30 ((upd (r 30) d.toNatClampNeg v110))) 31 ((upd (r 31) d.toNatClampNeg r149))) 32 ((upd (r 32) d.toNatClampNeg k0))) (va_up q 33 s3)) H → va_S (AM mo a) s.heap H locs → ∀ (ls : Array Slot), lv_has ls 8 [(7, .int (nI i)), (6, .int (1 : Int32)), (0, .ref mo), (1, .int d), (2, .int what), (3, .int k0), (4, .long p0)] → W p l e (headSpec wsX10_keep ({ frames := 3, cells := 0, slots := 0, locals := 69 })).room s m #[Value.ref mo, Value.int d, Value.int what, Value.int k0, Value.long p0] below meth c H locs 0 0 (MQ below (va_Qi (fun r0 u => ∃ (sh : Nat → Int32), ∃ (sz : Nat → Int32), ∃ (sw : Nat → Int32), ∃ (sf : Nat → Int32), ∃ (sr : Nat → Int64), u = ((upd f 0 (0 : Int32)), g, (va_up (va_up (va_up (va_up r 29 sh) 30 sz) 31 sw) 32 sf), (va_up q 33 sr)) ∧ (yesNo (okKeep (f 1) (fun j9 => (r 3 j9).toNatClampNeg) (fun j9 => (r 4 j9).toNatClampNeg) d what k0 p0) 0 (-1) r0 ∧ MI (upd f 0 (0 : Int32)) (va_up (va_up (va_up (va_up r 29 sh) 30 sz) 31 sw) 32 sf))) (mB D cy mo a) (AM mo a)) #[Value.ref mo, Value.int d, Value.int what, Value.int k0, Value.long p0] s 0 0 (AM mo a)) (F0 m 177 ls []) := by
                intro n
                induction n with
                | zero => intro i s3 j177_0 hn; exact absurd hn (Nat.not_lt_zero _)
                | succ n ih_177 =>
                  intro i s3 j177_0 hn_177 H locs hP hS ls hl
                  have ii : (nI i).toInt = (i : Int) := nI_toInt (by omega)
                  refine lv_iload hx hb dX10_keep_177 (lv_at hl 0 rfl) ?_
                  refine lv_aload_n hx hb dX10_keep_179 rfl (lv_at hl 2 rfl) ?_
                  refine m_get (v := .ref (a 30)) hx hb hts hin hown hK hP 30 (by decide) rfl (hts (.fieldLink RX10 64 "ShadowBenchModel" "shelfSize" "[I") (by decide +kernel)) rfl dX10_keep_180 ?_
                  refine lv_iload_n hx hb dX10_keep_183 rfl (lv_at hl 3 rfl) ?_
                  refine m_iald (w := ((upd (r 30) d.toNatClampNeg v110))) hx hb hK hP 18 rfl (vp_in_iff.mpr ⟨by omega, by omega⟩) dX10_keep_184 ?_
                  refine lv_topi (fun v184 e184 => ?_)
                  have i184 : v184.toInt = (((upd (r 30) d.toNatClampNeg v110)) d.toNatClampNeg).toInt := congrArg Int32.toInt e184
                  have z184 := e184
                  simp only [upd, if_true] at z184
                  have y184 := congrArg Int32.toInt z184
                  refine lv_icmp_ge (tgt := 272) hx hb dX10_keep_185 (by decide) (fun c185 => ?_) (fun c185 => ?_)
                  · skip
                    have d185 := c185
                    rw [fa_le] at d185
                    refine lv_iconst (v := 0) hx hb dX10_keep_272 (by decide) ?_
                    have hP := wm_eq rfl rfl (ec_r_29_30_31_32__29_30_31_32 r ((upd (r 29) d.toNatClampNeg what)) ((upd (r 30) d.toNatClampNeg v110)) ((upd (r 31) d.toNatClampNeg r149)) ((upd (r 32) d.toNatClampNeg k0))) rfl hP
                    exact W.iret (v := (0 : Int32)) hx hb hr (fun t ht hW => ⟨⟨_, ((upd f 0 (0 : Int32)), g, (va_up (va_up (va_up (va_up r 29 (((upd (r 29) d.toNatClampNeg what)))) 30 (((upd (r 30) d.toNatClampNeg v110)))) 31 (((upd (r 31) d.toNatClampNeg r149)))) 32 (((upd (r 32) d.toNatClampNeg k0)))), (va_up q 33 s3)), rfl, ⟨((upd (r 29) d.toNatClampNeg what)), ((upd (r 30) d.toNatClampNeg v110)), ((upd (r 31) d.toNatClampNeg r149)), ((upd (r 32) d.toNatClampNeg k0)), s3, rfl, ⟨(Or.inl ⟨⟨b9, (by unfold okJob; first | exact Or.inl (by omega) | exact Or.inr (Or.inl ⟨by omega, b31⟩) | (have z9 := goodP_of b64; subst e52; subst e58; exact Or.inr (Or.inr ⟨by omega, b44, z9.2⟩)))⟩, rfl⟩), by first | exact hI | exact mi_sz (d := d) hI (v := v110) (by omega) rfl rfl rfl rfl rfl rfl rfl rfl | exact mi_sz (d := d) hI (v := v131) (by omega) rfl rfl rfl rfl rfl rfl rfl rfl | exact mi_sz (d := d) hI (v := 0) (by decide) rfl rfl rfl rfl rfl rfl rfl rfl⟩⟩, by unfold mB; rw [ht]; exact hP⟩, hS.F ht⟩) hS.2.2 dX10_keep_273
                  · skip
                    have d185 := c185
                    rw [fa_le] at d185
                    refine lv_aload_n hx hb dX10_keep_188 rfl (lv_at hl 2 rfl) ?_
                    refine m_get (v := .ref (a 33)) hx hb hts hin hown hK hP 33 (by decide) rfl (hts (.fieldLink RX10 73 "ShadowBenchModel" "shelfRow" "[J") (by decide +kernel)) rfl dX10_keep_189 ?_
                    refine lv_bipush (v := 60) hx hb dX10_keep_192 (by decide) ?_
                    refine lv_iload_n hx hb dX10_keep_194 rfl (lv_at hl 3 rfl) ?_
                    refine lv_imul hx hb dX10_keep_195 ?_
                    refine lv_topi (fun v195 e195 => ?_)
                    have i195 : v195.toInt = 60 * d.toInt := by rw [e195]; exact mulcL rfl (by omega) (by omega)
                    refine lv_iload hx hb dX10_keep_196 (lv_at hl 0 rfl) ?_
                    refine lv_iadd hx hb dX10_keep_198 ?_
                    refine lv_topi (fun v198 e198 => ?_)
                    have i198 : v198.toInt = v195.toInt + (nI i).toInt := by rw [e198]; exact fb_addI (by omega) (by omega)
                    refine lv_iload_n hx hb dX10_keep_199 rfl (lv_at hl 4 rfl) ?_
                    refine lv_iconst (v := 3) hx hb dX10_keep_200 (by decide) ?_
                    refine lv_icmp_ne (tgt := 215) hx hb dX10_keep_201 (by decide) (fun c201 => ?_) (fun c201 => ?_)
                    · first | exact absurd c201 c95 | exact absurd c95 c201
                    · skip
                      have d201 := c201
                      rw [fa_eq] at d201
                      refine lv_lload hx hb dX10_keep_204 (lv_at hl 6 rfl) ?_
                      refine lv_iload hx hb dX10_keep_206 (lv_at hl 0 rfl) ?_
                      refine m_pu (As := [.long p0, .int (nI i)]) (rest := [.int v198, .ref (a 33)]) ⟨hx, hb, hml, hown, hts⟩ (c_X10_one l p0 (nI i) ) (va_cwS 2 hts gX10_keep_X10_one rfl rfl rfl (by decide +kernel) ⟨Nat.le_of_ble_eq_true rfl, Nat.le_of_ble_eq_true rfl⟩) hP rfl hl.1 rfl (Nat.le_of_ble_eq_true rfl) dX10_keep_208 ⟨Nat.le_of_ble_eq_true rfl, Nat.le_of_ble_eq_true rfl⟩ hS (fun r208 H locs q208 hP hS => ?_)
                      have i208 : r208.toInt = (r_one p0 (nI i)).toInt := congrArg Int32.toInt q208
                      refine lv_i2l (v := r208.toInt64) hx hb dX10_keep_211 rfl ?_
                      refine lv_goto (tgt := 265) hx hb dX10_keep_212 (by decide) ?_
                      refine m_last (w := s3) hx hb hK hP hD hS 21 rfl (vp_in_iff.mpr ⟨by omega, by omega⟩) (va_up (va_up q 33 s3) 33 (vp_updL s3 v198.toNatClampNeg r208.toInt64)) (ms_33 cy mo a _ _ _ _ _) dX10_keep_265 (fun H locs hP hS => ?_)
                      have hP := wm_eq rfl rfl rfl (es_q_33__33 q s3 (vp_updL s3 v198.toNatClampNeg r208.toInt64)) hP
                      refine lv_iinc (v := (nI (i + 1))) (lv' := [(7, .int (nI (i + 1))), (6, .int (1 : Int32)), (0, .ref mo), (1, .int d), (2, .int what), (3, .int k0), (4, .long p0)]) hx hb dX10_keep_266 hl (k := 0) rfl (nI_1 _) (by decide) rfl (fun ls hl => ?_)
                      refine lv_goto (tgt := 177) hx hb dX10_keep_269 (by decide) ?_
                      have hP := wm_eq rfl rfl (ec_r_29_30_31_32__29_30_31_32 r ((upd (r 29) d.toNatClampNeg what)) ((upd (r 30) d.toNatClampNeg v110)) ((upd (r 31) d.toNatClampNeg r149)) ((upd (r 32) d.toNatClampNeg k0))) rfl hP
                      exact ih_177 (i + 1) (vp_updL s3 v198.toNatClampNeg r208.toInt64) (by omega) (by omega) _ _ hP hS ls (lv_sub hl [0, 1, 2, 3, 4, 5, 6] rfl)
              have hP := wm_eq rfl rfl (ec_r_29_30_31_32__29_30_31_32 r ((upd (r 29) d.toNatClampNeg what)) ((upd (r 30) d.toNatClampNeg v110)) ((upd (r 31) d.toNatClampNeg r149)) ((upd (r 32) d.toNatClampNeg k0))) (ec_q___33 q ) hP
              exact loop_177 (60 + 1) 0 (q 33) (by omega) (by omega) _ _ hP hS ls (lv_sub hl [0, 1, 2, 3, 4, 5, 6] rfl)
            · skip
              have d164 := c164
              rw [fa_eq] at d164
              refine lv_bipush (v := (-15)) hx hb dX10_keep_167 (by decide) ?_
              refine lv_goto (tgt := 173) hx hb dX10_keep_169 (by decide) ?_
              refine m_iast (w := (r 32)) hx hb hK hP hD hS 20 rfl (vp_in_iff.mpr ⟨by omega, by omega⟩) (va_up (va_up (va_up (va_up r 29 ((upd (r 29) d.toNatClampNeg what))) 30 ((upd (r 30) d.toNatClampNeg v110))) 31 ((upd (r 31) d.toNatClampNeg r149))) 32 (upd (r 32) d.toNatClampNeg (((-15) : Int32)))) (ms_32 cy mo a _ _ _ _ _) dX10_keep_173 (fun H locs hP hS => ?_)
              refine lv_iconst (v := 0) hx hb dX10_keep_174 (by decide) ?_
              refine lv_istore (lv' := [(7, .int (0 : Int32)), (6, .int (1 : Int32)), (0, .ref mo), (1, .int d), (2, .int what), (3, .int k0), (4, .long p0)]) hx hb dX10_keep_175 hl (by decide) rfl (fun ls hl => ?_)
              have loop_177 : ∀ (n : Nat) (i : Nat) (s3 : Nat → Int64), (i ≤ 60) → 60 - i < n → ∀ (H : Heap) (locs : List Loc), va_P D vwCl (WM cy mo a (upd f 0 (0 : Int32)) g (va_up (va_up (va_up (va_up r 29 ((upd (r 29) d.toNatClampNeg what))) 30 ((upd (r 30) d.toNatClampNeg v110))) 31 ((upd (r 31) d.toNatClampNeg r149))) 32 ((upd (r 32) d.toNatClampNeg (((-15) : Int32))))) (va_up q 33 s3)) H → va_S (AM mo a) s.heap H locs → ∀ (ls : Array Slot), lv_has ls 8 [(7, .int (nI i)), (6, .int (1 : Int32)), (0, .ref mo), (1, .int d), (2, .int what), (3, .int k0), (4, .long p0)] → W p l e (headSpec wsX10_keep ({ frames := 3, cells := 0, slots := 0, locals := 69 })).room s m #[Value.ref mo, Value.int d, Value.int what, Value.int k0, Value.long p0] below meth c H locs 0 0 (MQ below (va_Qi (fun r0 u => ∃ (sh : Nat → Int32), ∃ (sz : Nat → Int32), ∃ (sw : Nat → Int32), ∃ (sf : Nat → Int32), ∃ (sr : Nat → Int64), u = ((upd f 0 (0 : Int32)), g, (va_up (va_up (va_up (va_up r 29 sh) 30 sz) 31 sw) 32 sf), (va_up q 33 sr)) ∧ (yesNo (okKeep (f 1) (fun j9 => (r 3 j9).toNatClampNeg) (fun j9 => (r 4 j9).toNatClampNeg) d what k0 p0) 0 (-1) r0 ∧ MI (upd f 0 (0 : Int32)) (va_up (va_up (va_up (va_up r 29 sh) 30 sz) 31 sw) 32 sf))) (mB D cy mo a) (AM mo a)) #[Value.ref mo, Value.int d, Value.int what, Value.int k0, Value.long p0] s 0 0 (AM mo a)) (F0 m 177 ls []) := by
                intro n
                induction n with
                | zero => intro i s3 j177_0 hn; exact absurd hn (Nat.not_lt_zero _)
                | succ n ih_177 =>
                  intro i s3 j177_0 hn_177 H locs hP hS ls hl
                  have ii : (nI i).toInt = (i : Int) := nI_toInt (by omega)
                  refine lv_iload hx hb dX10_keep_177 (lv_at hl 0 rfl) ?_
                  refine lv_aload_n hx hb dX10_keep_179 rfl (lv_at hl 2 rfl) ?_
                  refine m_get (v := .ref (a 30)) hx hb hts hin hown hK hP 30 (by decide) rfl (hts (.fieldLink RX10 64 "ShadowBenchModel" "shelfSize" "[I") (by decide +kernel)) rfl dX10_keep_180 ?_
                  refine lv_iload_n hx hb dX10_keep_183 rfl (lv_at hl 3 rfl) ?_
                  refine m_iald (w := ((upd (r 30) d.toNatClampNeg v110))) hx hb hK hP 18 rfl (vp_in_iff.mpr ⟨by omega, by omega⟩) dX10_keep_184 ?_
                  refine lv_topi (fun v184 e184 => ?_)
                  have i184 : v184.toInt = (((upd (r 30) d.toNatClampNeg v110)) d.toNatClampNeg).toInt := congrArg Int32.toInt e184
                  have z184 := e184
                  simp only [upd, if_true] at z184
                  have y184 := congrArg Int32.toInt z184
                  refine lv_icmp_ge (tgt := 272) hx hb dX10_keep_185 (by decide) (fun c185 => ?_) (fun c185 => ?_)
                  · skip
                    have d185 := c185
                    rw [fa_le] at d185
                    refine lv_iconst (v := 0) hx hb dX10_keep_272 (by decide) ?_
                    have hP := wm_eq rfl rfl (ec_r_29_30_31_32__29_30_31_32 r ((upd (r 29) d.toNatClampNeg what)) ((upd (r 30) d.toNatClampNeg v110)) ((upd (r 31) d.toNatClampNeg r149)) ((upd (r 32) d.toNatClampNeg (((-15) : Int32))))) rfl hP
                    exact W.iret (v := (0 : Int32)) hx hb hr (fun t ht hW => ⟨⟨_, ((upd f 0 (0 : Int32)), g, (va_up (va_up (va_up (va_up r 29 (((upd (r 29) d.toNatClampNeg what)))) 30 (((upd (r 30) d.toNatClampNeg v110)))) 31 (((upd (r 31) d.toNatClampNeg r149)))) 32 (((upd (r 32) d.toNatClampNeg (((-15) : Int32)))))), (va_up q 33 s3)), rfl, ⟨((upd (r 29) d.toNatClampNeg what)), ((upd (r 30) d.toNatClampNeg v110)), ((upd (r 31) d.toNatClampNeg r149)), ((upd (r 32) d.toNatClampNeg (((-15) : Int32)))), s3, rfl, ⟨(Or.inl ⟨⟨b9, (by unfold okJob; first | exact Or.inl (by omega) | exact Or.inr (Or.inl ⟨by omega, b31⟩) | (have z9 := goodP_of b64; subst e52; subst e58; exact Or.inr (Or.inr ⟨by omega, b44, z9.2⟩)))⟩, rfl⟩), by first | exact hI | exact mi_sz (d := d) hI (v := v110) (by omega) rfl rfl rfl rfl rfl rfl rfl rfl | exact mi_sz (d := d) hI (v := v131) (by omega) rfl rfl rfl rfl rfl rfl rfl rfl | exact mi_sz (d := d) hI (v := 0) (by decide) rfl rfl rfl rfl rfl rfl rfl rfl⟩⟩, by unfold mB; rw [ht]; exact hP⟩, hS.F ht⟩) hS.2.2 dX10_keep_273
                  · skip
                    have d185 := c185
                    rw [fa_le] at d185
                    refine lv_aload_n hx hb dX10_keep_188 rfl (lv_at hl 2 rfl) ?_
                    refine m_get (v := .ref (a 33)) hx hb hts hin hown hK hP 33 (by decide) rfl (hts (.fieldLink RX10 73 "ShadowBenchModel" "shelfRow" "[J") (by decide +kernel)) rfl dX10_keep_189 ?_
                    refine lv_bipush (v := 60) hx hb dX10_keep_192 (by decide) ?_
                    refine lv_iload_n hx hb dX10_keep_194 rfl (lv_at hl 3 rfl) ?_
                    refine lv_imul hx hb dX10_keep_195 ?_
                    refine lv_topi (fun v195 e195 => ?_)
                    have i195 : v195.toInt = 60 * d.toInt := by rw [e195]; exact mulcL rfl (by omega) (by omega)
                    refine lv_iload hx hb dX10_keep_196 (lv_at hl 0 rfl) ?_
                    refine lv_iadd hx hb dX10_keep_198 ?_
                    refine lv_topi (fun v198 e198 => ?_)
                    have i198 : v198.toInt = v195.toInt + (nI i).toInt := by rw [e198]; exact fb_addI (by omega) (by omega)
                    refine lv_iload_n hx hb dX10_keep_199 rfl (lv_at hl 4 rfl) ?_
                    refine lv_iconst (v := 3) hx hb dX10_keep_200 (by decide) ?_
                    refine lv_icmp_ne (tgt := 215) hx hb dX10_keep_201 (by decide) (fun c201 => ?_) (fun c201 => ?_)
                    · first | exact absurd c201 c95 | exact absurd c95 c201
                    · skip
                      have d201 := c201
                      rw [fa_eq] at d201
                      refine lv_lload hx hb dX10_keep_204 (lv_at hl 6 rfl) ?_
                      refine lv_iload hx hb dX10_keep_206 (lv_at hl 0 rfl) ?_
                      refine m_pu (As := [.long p0, .int (nI i)]) (rest := [.int v198, .ref (a 33)]) ⟨hx, hb, hml, hown, hts⟩ (c_X10_one l p0 (nI i) ) (va_cwS 2 hts gX10_keep_X10_one rfl rfl rfl (by decide +kernel) ⟨Nat.le_of_ble_eq_true rfl, Nat.le_of_ble_eq_true rfl⟩) hP rfl hl.1 rfl (Nat.le_of_ble_eq_true rfl) dX10_keep_208 ⟨Nat.le_of_ble_eq_true rfl, Nat.le_of_ble_eq_true rfl⟩ hS (fun r208 H locs q208 hP hS => ?_)
                      have i208 : r208.toInt = (r_one p0 (nI i)).toInt := congrArg Int32.toInt q208
                      refine lv_i2l (v := r208.toInt64) hx hb dX10_keep_211 rfl ?_
                      refine lv_goto (tgt := 265) hx hb dX10_keep_212 (by decide) ?_
                      refine m_last (w := s3) hx hb hK hP hD hS 21 rfl (vp_in_iff.mpr ⟨by omega, by omega⟩) (va_up (va_up q 33 s3) 33 (vp_updL s3 v198.toNatClampNeg r208.toInt64)) (ms_33 cy mo a _ _ _ _ _) dX10_keep_265 (fun H locs hP hS => ?_)
                      have hP := wm_eq rfl rfl rfl (es_q_33__33 q s3 (vp_updL s3 v198.toNatClampNeg r208.toInt64)) hP
                      refine lv_iinc (v := (nI (i + 1))) (lv' := [(7, .int (nI (i + 1))), (6, .int (1 : Int32)), (0, .ref mo), (1, .int d), (2, .int what), (3, .int k0), (4, .long p0)]) hx hb dX10_keep_266 hl (k := 0) rfl (nI_1 _) (by decide) rfl (fun ls hl => ?_)
                      refine lv_goto (tgt := 177) hx hb dX10_keep_269 (by decide) ?_
                      have hP := wm_eq rfl rfl (ec_r_29_30_31_32__29_30_31_32 r ((upd (r 29) d.toNatClampNeg what)) ((upd (r 30) d.toNatClampNeg v110)) ((upd (r 31) d.toNatClampNeg r149)) ((upd (r 32) d.toNatClampNeg (((-15) : Int32))))) rfl hP
                      exact ih_177 (i + 1) (vp_updL s3 v198.toNatClampNeg r208.toInt64) (by omega) (by omega) _ _ hP hS ls (lv_sub hl [0, 1, 2, 3, 4, 5, 6] rfl)
              have hP := wm_eq rfl rfl (ec_r_29_30_31_32__29_30_31_32 r ((upd (r 29) d.toNatClampNeg what)) ((upd (r 30) d.toNatClampNeg v110)) ((upd (r 31) d.toNatClampNeg r149)) ((upd (r 32) d.toNatClampNeg (((-15) : Int32))))) (ec_q___33 q ) hP
              exact loop_177 (60 + 1) 0 (q 33) (by omega) (by omega) _ _ hP hS ls (lv_sub hl [0, 1, 2, 3, 4, 5, 6] rfl)
      · first | exact absurd c76 (by decide) | exact absurd (by decide) c76
    · skip
      have d13 := c13
      rw [fa_eq] at d13
      refine lv_iload_n hx hb dX10_keep_16 rfl (lv_at hl 2 rfl) ?_
      refine lv_iconst (v := 1) hx hb dX10_keep_17 (by decide) ?_
      refine lv_icmp_eq (tgt := 26) hx hb dX10_keep_18 (by decide) (fun c18 => ?_) (fun c18 => ?_)
      · skip
        have d18 := c18
        rw [fa_eq] at d18
        refine lv_aload_n hx hb dX10_keep_26 rfl (lv_at hl 0 rfl) ?_
        refine lv_iload_n hx hb dX10_keep_27 rfl (lv_at hl 3 rfl) ?_
        refine m_calli (As := [.int k0]) (rest := []) ⟨hx, hb, hml, hown, hts⟩ (c_X10_isJob l D cy mo a (upd f 0 (0 : Int32)) g r q k0 hD) (cwV 1 hts gX10_keep_X10_isJob rfl rfl rfl (by decide +kernel) ⟨Nat.le_of_ble_eq_true rfl, Nat.le_of_ble_eq_true rfl⟩) hK hP rfl hl.1 rfl (Nat.le_of_ble_eq_true rfl) dX10_keep_28 ⟨Nat.le_of_ble_eq_true rfl, Nat.le_of_ble_eq_true rfl⟩ hS (fun r28 u H locs q28 hP hS => ?_)
        obtain ⟨rfl, q28⟩ := q28
        have hP : va_P D vwCl (WM cy mo a (upd f 0 (0 : Int32)) g r q) H := hP
        have q28 : Bo r28 (0 ≤ k0.toInt ∧ k0.toInt < ((f 1)).toInt) := q28
        refine lv_if_ne (tgt := 67) hx hb dX10_keep_31 (by decide) (fun c31 => ?_) (fun c31 => ?_)
        · skip
          have b31 := bo_t q28 c31
          refine lv_iconst (v := 1) hx hb dX10_keep_67 (by decide) ?_
          refine lv_goto (tgt := 72) hx hb dX10_keep_68 (by decide) ?_
          refine lv_istore (lv' := [(6, .int (1 : Int32)), (0, .ref mo), (1, .int d), (2, .int what), (3, .int k0), (4, .long p0)]) hx hb dX10_keep_72 hl (by decide) rfl (fun ls hl => ?_)
          refine lv_iload hx hb dX10_keep_74 (lv_at hl 0 rfl) ?_
          refine lv_if_ne (tgt := 81) hx hb dX10_keep_76 (by decide) (fun c76 => ?_) (fun c76 => ?_)
          · skip
            have d76 := c76
            rw [fa_eq] at d76
            refine lv_aload_n hx hb dX10_keep_81 rfl (lv_at hl 1 rfl) ?_
            refine m_get (v := .ref (a 29)) hx hb hts hin hown hK hP 29 (by decide) rfl (hts (.fieldLink RX10 61 "ShadowBenchModel" "shelf" "[I") (by decide +kernel)) rfl dX10_keep_82 ?_
            refine lv_iload_n hx hb dX10_keep_85 rfl (lv_at hl 2 rfl) ?_
            refine lv_iload_n hx hb dX10_keep_86 rfl (lv_at hl 3 rfl) ?_
            refine m_iast (w := (r 29)) hx hb hK hP hD hS 17 rfl (vp_in_iff.mpr ⟨by omega, by omega⟩) (va_up r 29 (upd (r 29) d.toNatClampNeg what)) (ms_29 cy mo a _ _ _ _ _) dX10_keep_87 (fun H locs hP hS => ?_)
            refine lv_aload_n hx hb dX10_keep_88 rfl (lv_at hl 1 rfl) ?_
            refine m_get (v := .ref (a 30)) hx hb hts hin hown hK hP 30 (by decide) rfl (hts (.fieldLink RX10 64 "ShadowBenchModel" "shelfSize" "[I") (by decide +kernel)) rfl dX10_keep_89 ?_
            refine lv_iload_n hx hb dX10_keep_92 rfl (lv_at hl 2 rfl) ?_
            refine lv_iload_n hx hb dX10_keep_93 rfl (lv_at hl 3 rfl) ?_
            refine lv_iconst (v := 3) hx hb dX10_keep_94 (by decide) ?_
            refine lv_icmp_ne (tgt := 114) hx hb dX10_keep_95 (by decide) (fun c95 => ?_) (fun c95 => ?_)
            · skip
              have d95 := c95
              rw [fa_eq] at d95
              refine lv_iload_n hx hb dX10_keep_114 rfl (lv_at hl 3 rfl) ?_
              refine lv_iconst (v := 4) hx hb dX10_keep_115 (by decide) ?_
              refine lv_icmp_ne (tgt := 135) hx hb dX10_keep_116 (by decide) (fun c116 => ?_) (fun c116 => ?_)
              · skip
                have d116 := c116
                rw [fa_eq] at d116
                refine lv_iconst (v := 0) hx hb dX10_keep_135 (by decide) ?_
                refine m_iast (w := (r 30)) hx hb hK hP hD hS 18 rfl (vp_in_iff.mpr ⟨by omega, by omega⟩) (va_up (va_up r 29 ((upd (r 29) d.toNatClampNeg what))) 30 (upd (r 30) d.toNatClampNeg (0 : Int32))) (ms_30 cy mo a _ _ _ _ _) dX10_keep_136 (fun H locs hP hS => ?_)
                refine lv_iload_n hx hb dX10_keep_137 rfl (lv_at hl 3 rfl) ?_
                refine lv_iconst (v := 1) hx hb dX10_keep_138 (by decide) ?_
                refine lv_icmp_ne (tgt := 174) hx hb dX10_keep_139 (by decide) (fun c139 => ?_) (fun c139 => ?_)
                · skip
                  have d139 := c139
                  rw [fa_eq] at d139
                  refine lv_iconst (v := 0) hx hb dX10_keep_174 (by decide) ?_
                  refine lv_istore (lv' := [(7, .int (0 : Int32)), (6, .int (1 : Int32)), (0, .ref mo), (1, .int d), (2, .int what), (3, .int k0), (4, .long p0)]) hx hb dX10_keep_175 hl (by decide) rfl (fun ls hl => ?_)
                  have loop_177 : ∀ (n : Nat) (i : Nat) (s3 : Nat → Int64), (i ≤ 60) → 60 - i < n → ∀ (H : Heap) (locs : List Loc), va_P D vwCl (WM cy mo a (upd f 0 (0 : Int32)) g (va_up (va_up r 29 ((upd (r 29) d.toNatClampNeg what))) 30 ((upd (r 30) d.toNatClampNeg (0 : Int32)))) (va_up q 33 s3)) H → va_S (AM mo a) s.heap H locs → ∀ (ls : Array Slot), lv_has ls 8 [(7, .int (nI i)), (6, .int (1 : Int32)), (0, .ref mo), (1, .int d), (2, .int what), (3, .int k0), (4, .long p0)] → W p l e (headSpec wsX10_keep ({ frames := 3, cells := 0, slots := 0, locals := 69 })).room s m #[Value.ref mo, Value.int d, Value.int what, Value.int k0, Value.long p0] below meth c H locs 0 0 (MQ below (va_Qi (fun r0 u => ∃ (sh : Nat → Int32), ∃ (sz : Nat → Int32), ∃ (sw : Nat → Int32), ∃ (sf : Nat → Int32), ∃ (sr : Nat → Int64), u = ((upd f 0 (0 : Int32)), g, (va_up (va_up (va_up (va_up r 29 sh) 30 sz) 31 sw) 32 sf), (va_up q 33 sr)) ∧ (yesNo (okKeep (f 1) (fun j9 => (r 3 j9).toNatClampNeg) (fun j9 => (r 4 j9).toNatClampNeg) d what k0 p0) 0 (-1) r0 ∧ MI (upd f 0 (0 : Int32)) (va_up (va_up (va_up (va_up r 29 sh) 30 sz) 31 sw) 32 sf))) (mB D cy mo a) (AM mo a)) #[Value.ref mo, Value.int d, Value.int what, Value.int k0, Value.long p0] s 0 0 (AM mo a)) (F0 m 177 ls []) := by
                    intro n
                    induction n with
                    | zero => intro i s3 j177_0 hn; exact absurd hn (Nat.not_lt_zero _)
                    | succ n ih_177 =>
                      intro i s3 j177_0 hn_177 H locs hP hS ls hl
                      have ii : (nI i).toInt = (i : Int) := nI_toInt (by omega)
                      refine lv_iload hx hb dX10_keep_177 (lv_at hl 0 rfl) ?_
                      refine lv_aload_n hx hb dX10_keep_179 rfl (lv_at hl 2 rfl) ?_
                      refine m_get (v := .ref (a 30)) hx hb hts hin hown hK hP 30 (by decide) rfl (hts (.fieldLink RX10 64 "ShadowBenchModel" "shelfSize" "[I") (by decide +kernel)) rfl dX10_keep_180 ?_
                      refine lv_iload_n hx hb dX10_keep_183 rfl (lv_at hl 3 rfl) ?_
                      refine m_iald (w := ((upd (r 30) d.toNatClampNeg (0 : Int32)))) hx hb hK hP 18 rfl (vp_in_iff.mpr ⟨by omega, by omega⟩) dX10_keep_184 ?_
                      refine lv_topi (fun v184 e184 => ?_)
                      have i184 : v184.toInt = (((upd (r 30) d.toNatClampNeg (0 : Int32))) d.toNatClampNeg).toInt := congrArg Int32.toInt e184
                      have z184 := e184
                      simp only [upd, if_true] at z184
                      have y184 := congrArg Int32.toInt z184
                      refine lv_icmp_ge (tgt := 272) hx hb dX10_keep_185 (by decide) (fun c185 => ?_) (fun c185 => ?_)
                      · skip
                        have d185 := c185
                        rw [fa_le] at d185
                        refine lv_iconst (v := 0) hx hb dX10_keep_272 (by decide) ?_
                        have hP := wm_eq rfl rfl (ec_r_29_30__29_30_31_32 r ((upd (r 29) d.toNatClampNeg what)) ((upd (r 30) d.toNatClampNeg (0 : Int32)))) rfl hP
                        exact W.iret (v := (0 : Int32)) hx hb hr (fun t ht hW => ⟨⟨_, ((upd f 0 (0 : Int32)), g, (va_up (va_up (va_up (va_up r 29 (((upd (r 29) d.toNatClampNeg what)))) 30 (((upd (r 30) d.toNatClampNeg (0 : Int32))))) 31 (r 31)) 32 (r 32)), (va_up q 33 s3)), rfl, ⟨((upd (r 29) d.toNatClampNeg what)), ((upd (r 30) d.toNatClampNeg (0 : Int32))), (r 31), (r 32), s3, rfl, ⟨(Or.inl ⟨⟨b9, (by unfold okJob; first | exact Or.inl (by omega) | exact Or.inr (Or.inl ⟨by omega, b31⟩) | (have z9 := goodP_of b64; subst e52; subst e58; exact Or.inr (Or.inr ⟨by omega, b44, z9.2⟩)))⟩, rfl⟩), by first | exact hI | exact mi_sz (d := d) hI (v := v110) (by omega) rfl rfl rfl rfl rfl rfl rfl rfl | exact mi_sz (d := d) hI (v := v131) (by omega) rfl rfl rfl rfl rfl rfl rfl rfl | exact mi_sz (d := d) hI (v := 0) (by decide) rfl rfl rfl rfl rfl rfl rfl rfl⟩⟩, by unfold mB; rw [ht]; exact hP⟩, hS.F ht⟩) hS.2.2 dX10_keep_273
                      · skip
                        have d185 := c185
                        rw [fa_le] at d185
                        refine lv_aload_n hx hb dX10_keep_188 rfl (lv_at hl 2 rfl) ?_
                        refine m_get (v := .ref (a 33)) hx hb hts hin hown hK hP 33 (by decide) rfl (hts (.fieldLink RX10 73 "ShadowBenchModel" "shelfRow" "[J") (by decide +kernel)) rfl dX10_keep_189 ?_
                        refine lv_bipush (v := 60) hx hb dX10_keep_192 (by decide) ?_
                        refine lv_iload_n hx hb dX10_keep_194 rfl (lv_at hl 3 rfl) ?_
                        refine lv_imul hx hb dX10_keep_195 ?_
                        refine lv_topi (fun v195 e195 => ?_)
                        have i195 : v195.toInt = 60 * d.toInt := by rw [e195]; exact mulcL rfl (by omega) (by omega)
                        refine lv_iload hx hb dX10_keep_196 (lv_at hl 0 rfl) ?_
                        refine lv_iadd hx hb dX10_keep_198 ?_
                        refine lv_topi (fun v198 e198 => ?_)
                        have i198 : v198.toInt = v195.toInt + (nI i).toInt := by rw [e198]; exact fb_addI (by omega) (by omega)
                        refine lv_iload_n hx hb dX10_keep_199 rfl (lv_at hl 4 rfl) ?_
                        refine lv_iconst (v := 3) hx hb dX10_keep_200 (by decide) ?_
                        refine lv_icmp_ne (tgt := 215) hx hb dX10_keep_201 (by decide) (fun c201 => ?_) (fun c201 => ?_)
                        · skip
                          have d201 := c201
                          rw [fa_eq] at d201
                          refine lv_iload hx hb dX10_keep_215 (lv_at hl 0 rfl) ?_
                          refine lv_aload_n hx hb dX10_keep_217 rfl (lv_at hl 2 rfl) ?_
                          refine m_get (v := .ref (a 4)) hx hb hts hin hown hK hP 4 (by decide) rfl (hts (.fieldLink RX10 16 "ShadowBenchModel" "high" "[I") (by decide +kernel)) rfl dX10_keep_218 ?_
                          refine lv_iload_n hx hb dX10_keep_221 rfl (lv_at hl 5 rfl) ?_
                          refine m_iald (w := (r 4)) hx hb hK hP 3 rfl (vp_in_iff.mpr ⟨by omega, by omega⟩) dX10_keep_222 ?_
                          refine lv_topi (fun v222 e222 => ?_)
                          have i222 : v222.toInt = ((r 4) k0.toNatClampNeg).toInt := congrArg Int32.toInt e222
                          have w222 := mi_h hI (x := k0) (by omega) (by omega) e222
                          refine lv_icmp_ge (tgt := 242) hx hb dX10_keep_223 (by decide) (fun c223 => ?_) (fun c223 => ?_)
                          · skip
                            have d223 := c223
                            rw [fa_le] at d223
                            refine lv_aload_n hx hb dX10_keep_242 rfl (lv_at hl 2 rfl) ?_
                            refine m_get (v := .ref (a 5)) hx hb hts hin hown hK hP 5 (by decide) rfl (hts (.fieldLink RX10 19 "ShadowBenchModel" "sums" "[I") (by decide +kernel)) rfl dX10_keep_243 ?_
                            refine lv_bipush (v := 44) hx hb dX10_keep_246 (by decide) ?_
                            refine lv_iload_n hx hb dX10_keep_248 rfl (lv_at hl 5 rfl) ?_
                            refine lv_imul hx hb dX10_keep_249 ?_
                            refine lv_topi (fun v249 e249 => ?_)
                            have i249 : v249.toInt = 44 * k0.toInt := by rw [e249]; exact mulcL rfl (by omega) (by omega)
                            refine lv_bipush (v := 11) hx hb dX10_keep_250 (by decide) ?_
                            refine lv_iadd hx hb dX10_keep_252 ?_
                            refine lv_topi (fun v252 e252 => ?_)
                            have i252 : v252.toInt = v249.toInt + (11 : Int32).toInt := by rw [e252]; exact fb_addI (by omega) (by omega)
                            refine lv_iload hx hb dX10_keep_253 (lv_at hl 0 rfl) ?_
                            refine lv_iadd hx hb dX10_keep_255 ?_
                            refine lv_topi (fun v255 e255 => ?_)
                            have i255 : v255.toInt = v252.toInt + (nI i).toInt := by rw [e255]; exact fb_addI (by omega) (by omega)
                            refine lv_aload_n hx hb dX10_keep_256 rfl (lv_at hl 2 rfl) ?_
                            refine m_get (v := .ref (a 4)) hx hb hts hin hown hK hP 4 (by decide) rfl (hts (.fieldLink RX10 16 "ShadowBenchModel" "high" "[I") (by decide +kernel)) rfl dX10_keep_257 ?_
                            refine lv_iload_n hx hb dX10_keep_260 rfl (lv_at hl 5 rfl) ?_
                            refine m_iald (w := (r 4)) hx hb hK hP 3 rfl (vp_in_iff.mpr ⟨by omega, by omega⟩) dX10_keep_261 ?_
                            refine lv_topi (fun v261 e261 => ?_)
                            have i261 : v261.toInt = ((r 4) k0.toNatClampNeg).toInt := congrArg Int32.toInt e261
                            have w261 := mi_h hI (x := k0) (by omega) (by omega) e261
                            refine lv_isub hx hb dX10_keep_262 ?_
                            refine lv_topi (fun v262 e262 => ?_)
                            have i262 : v262.toInt = v255.toInt - v261.toInt := by rw [e262]; exact fb_subI (by omega) (by omega)
                            refine m_iald (w := (r 5)) hx hb hK hP 4 rfl (vp_in_iff.mpr ⟨by omega, by omega⟩) dX10_keep_263 ?_
                            refine lv_topi (fun v263 e263 => ?_)
                            have i263 : v263.toInt = ((r 5) v262.toNatClampNeg).toInt := congrArg Int32.toInt e263
                            refine lv_i2l (v := v263.toInt64) hx hb dX10_keep_264 rfl ?_
                            refine m_last (w := s3) hx hb hK hP hD hS 21 rfl (vp_in_iff.mpr ⟨by omega, by omega⟩) (va_up (va_up q 33 s3) 33 (vp_updL s3 v198.toNatClampNeg v263.toInt64)) (ms_33 cy mo a _ _ _ _ _) dX10_keep_265 (fun H locs hP hS => ?_)
                            have hP := wm_eq rfl rfl rfl (es_q_33__33 q s3 (vp_updL s3 v198.toNatClampNeg v263.toInt64)) hP
                            refine lv_iinc (v := (nI (i + 1))) (lv' := [(7, .int (nI (i + 1))), (6, .int (1 : Int32)), (0, .ref mo), (1, .int d), (2, .int what), (3, .int k0), (4, .long p0)]) hx hb dX10_keep_266 hl (k := 0) rfl (nI_1 _) (by decide) rfl (fun ls hl => ?_)
                            refine lv_goto (tgt := 177) hx hb dX10_keep_269 (by decide) ?_
                            have hP := wm_eq rfl rfl (ec_r_29_30__29_30 r ((upd (r 29) d.toNatClampNeg what)) ((upd (r 30) d.toNatClampNeg (0 : Int32)))) rfl hP
                            exact ih_177 (i + 1) (vp_updL s3 v198.toNatClampNeg v263.toInt64) (by omega) (by omega) _ _ hP hS ls (lv_sub hl [0, 1, 2, 3, 4, 5, 6] rfl)
                          · skip
                            have d223 := c223
                            rw [fa_le] at d223
                            refine lv_aload_n hx hb dX10_keep_226 rfl (lv_at hl 2 rfl) ?_
                            refine m_get (v := .ref (a 5)) hx hb hts hin hown hK hP 5 (by decide) rfl (hts (.fieldLink RX10 19 "ShadowBenchModel" "sums" "[I") (by decide +kernel)) rfl dX10_keep_227 ?_
                            refine lv_bipush (v := 44) hx hb dX10_keep_230 (by decide) ?_
                            refine lv_iload_n hx hb dX10_keep_232 rfl (lv_at hl 5 rfl) ?_
                            refine lv_imul hx hb dX10_keep_233 ?_
                            refine lv_topi (fun v233 e233 => ?_)
                            have i233 : v233.toInt = 44 * k0.toInt := by rw [e233]; exact mulcL rfl (by omega) (by omega)
                            refine lv_iload hx hb dX10_keep_234 (lv_at hl 0 rfl) ?_
                            refine lv_iadd hx hb dX10_keep_236 ?_
                            refine lv_topi (fun v236 e236 => ?_)
                            have i236 : v236.toInt = v233.toInt + (nI i).toInt := by rw [e236]; exact fb_addI (by omega) (by omega)
                            refine m_iald (w := (r 5)) hx hb hK hP 4 rfl (vp_in_iff.mpr ⟨by omega, by omega⟩) dX10_keep_237 ?_
                            refine lv_topi (fun v237 e237 => ?_)
                            have i237 : v237.toInt = ((r 5) v236.toNatClampNeg).toInt := congrArg Int32.toInt e237
                            refine lv_i2l (v := v237.toInt64) hx hb dX10_keep_238 rfl ?_
                            refine lv_goto (tgt := 265) hx hb dX10_keep_239 (by decide) ?_
                            refine m_last (w := s3) hx hb hK hP hD hS 21 rfl (vp_in_iff.mpr ⟨by omega, by omega⟩) (va_up (va_up q 33 s3) 33 (vp_updL s3 v198.toNatClampNeg v237.toInt64)) (ms_33 cy mo a _ _ _ _ _) dX10_keep_265 (fun H locs hP hS => ?_)
                            have hP := wm_eq rfl rfl rfl (es_q_33__33 q s3 (vp_updL s3 v198.toNatClampNeg v237.toInt64)) hP
                            refine lv_iinc (v := (nI (i + 1))) (lv' := [(7, .int (nI (i + 1))), (6, .int (1 : Int32)), (0, .ref mo), (1, .int d), (2, .int what), (3, .int k0), (4, .long p0)]) hx hb dX10_keep_266 hl (k := 0) rfl (nI_1 _) (by decide) rfl (fun ls hl => ?_)
                            refine lv_goto (tgt := 177) hx hb dX10_keep_269 (by decide) ?_
                            have hP := wm_eq rfl rfl (ec_r_29_30__29_30 r ((upd (r 29) d.toNatClampNeg what)) ((upd (r 30) d.toNatClampNeg (0 : Int32)))) rfl hP
                            exact ih_177 (i + 1) (vp_updL s3 v198.toNatClampNeg v237.toInt64) (by omega) (by omega) _ _ hP hS ls (lv_sub hl [0, 1, 2, 3, 4, 5, 6] rfl)
                        · first | exact absurd c201 c95 | exact absurd c95 c201
                  have hP := wm_eq rfl rfl (ec_r_29_30__29_30 r ((upd (r 29) d.toNatClampNeg what)) ((upd (r 30) d.toNatClampNeg (0 : Int32)))) (ec_q___33 q ) hP
                  exact loop_177 (60 + 1) 0 (q 33) (by omega) (by omega) _ _ hP hS ls (lv_sub hl [0, 1, 2, 3, 4, 5, 6] rfl)
                · skip
                  have d139 := c139
                  rw [fa_eq] at d139
                  refine lv_aload_n hx hb dX10_keep_142 rfl (lv_at hl 1 rfl) ?_
                  refine m_get (v := .ref (a 31)) hx hb hts hin hown hK hP 31 (by decide) rfl (hts (.fieldLink RX10 67 "ShadowBenchModel" "shelfWeight" "[I") (by decide +kernel)) rfl dX10_keep_143 ?_
                  refine lv_iload_n hx hb dX10_keep_146 rfl (lv_at hl 2 rfl) ?_
                  refine lv_aload_n hx hb dX10_keep_147 rfl (lv_at hl 1 rfl) ?_
                  refine lv_iload_n hx hb dX10_keep_148 rfl (lv_at hl 4 rfl) ?_
                  refine m_calli (As := [.int k0]) (rest := [.int d, .ref (a 31)]) ⟨hx, hb, hml, hown, hts⟩ (c_X10_weightOf l D cy mo a (upd f 0 (0 : Int32)) g (va_up (va_up r 29 ((upd (r 29) d.toNatClampNeg what))) 30 ((upd (r 30) d.toNatClampNeg (0 : Int32)))) q k0 hD (by first | exact hI | exact mi_sz (d := d) hI (v := 0) (by first | omega | decide) rfl rfl rfl rfl rfl rfl rfl rfl | exact mi_sz (d := d) hI (v := v131) (by first | omega | decide) rfl rfl rfl rfl rfl rfl rfl rfl | exact mi_sz (d := d) hI (v := v110) (by first | omega | decide) rfl rfl rfl rfl rfl rfl rfl rfl) (show 0 ≤ k0.toInt ∧ k0.toInt < (f 1).toInt by omega)) (cwV 1 hts gX10_keep_X10_weightOf rfl rfl rfl (by decide +kernel) ⟨Nat.le_of_ble_eq_true rfl, Nat.le_of_ble_eq_true rfl⟩) hK hP rfl hl.1 rfl (Nat.le_of_ble_eq_true rfl) dX10_keep_149 ⟨Nat.le_of_ble_eq_true rfl, Nat.le_of_ble_eq_true rfl⟩ hS (fun r149 u H locs q149 hP hS => ?_)
                  obtain ⟨rfl, q149⟩ := q149
                  have hP : va_P D vwCl (WM cy mo a (upd f 0 (0 : Int32)) g (va_up (va_up r 29 ((upd (r 29) d.toNatClampNeg what))) 30 ((upd (r 30) d.toNatClampNeg (0 : Int32)))) q) H := hP
                  have q149 : True := q149
                  refine m_iast (w := (r 31)) hx hb hK hP hD hS 19 rfl (vp_in_iff.mpr ⟨by omega, by omega⟩) (va_up (va_up (va_up r 29 ((upd (r 29) d.toNatClampNeg what))) 30 ((upd (r 30) d.toNatClampNeg (0 : Int32)))) 31 (upd (r 31) d.toNatClampNeg r149)) (ms_31 cy mo a _ _ _ _ _) dX10_keep_152 (fun H locs hP hS => ?_)
                  refine lv_aload_n hx hb dX10_keep_153 rfl (lv_at hl 1 rfl) ?_
                  refine m_get (v := .ref (a 32)) hx hb hts hin hown hK hP 32 (by decide) rfl (hts (.fieldLink RX10 70 "ShadowBenchModel" "shelfFailure" "[I") (by decide +kernel)) rfl dX10_keep_154 ?_
                  refine lv_iload_n hx hb dX10_keep_157 rfl (lv_at hl 2 rfl) ?_
                  refine lv_aload_n hx hb dX10_keep_158 rfl (lv_at hl 1 rfl) ?_
                  refine m_get (v := .ref (a 2)) hx hb hts hin hown hK hP 2 (by decide) rfl (hts (.fieldLink RX10 7 "ShadowBenchModel" "kind" "[I") (by decide +kernel)) rfl dX10_keep_159 ?_
                  refine lv_iload_n hx hb dX10_keep_162 rfl (lv_at hl 4 rfl) ?_
                  refine m_iald (w := (r 2)) hx hb hK hP 1 rfl (vp_in_iff.mpr ⟨by omega, by omega⟩) dX10_keep_163 ?_
                  refine lv_topi (fun v163 e163 => ?_)
                  have i163 : v163.toInt = ((r 2) k0.toNatClampNeg).toInt := congrArg Int32.toInt e163
                  refine lv_if_ne (tgt := 172) hx hb dX10_keep_164 (by decide) (fun c164 => ?_) (fun c164 => ?_)
                  · skip
                    have d164 := c164
                    rw [fa_eq] at d164
                    refine lv_iload_n hx hb dX10_keep_172 rfl (lv_at hl 4 rfl) ?_
                    refine m_iast (w := (r 32)) hx hb hK hP hD hS 20 rfl (vp_in_iff.mpr ⟨by omega, by omega⟩) (va_up (va_up (va_up (va_up r 29 ((upd (r 29) d.toNatClampNeg what))) 30 ((upd (r 30) d.toNatClampNeg (0 : Int32)))) 31 ((upd (r 31) d.toNatClampNeg r149))) 32 (upd (r 32) d.toNatClampNeg k0)) (ms_32 cy mo a _ _ _ _ _) dX10_keep_173 (fun H locs hP hS => ?_)
                    refine lv_iconst (v := 0) hx hb dX10_keep_174 (by decide) ?_
                    refine lv_istore (lv' := [(7, .int (0 : Int32)), (6, .int (1 : Int32)), (0, .ref mo), (1, .int d), (2, .int what), (3, .int k0), (4, .long p0)]) hx hb dX10_keep_175 hl (by decide) rfl (fun ls hl => ?_)
                    have loop_177 : ∀ (n : Nat) (i : Nat) (s3 : Nat → Int64), (i ≤ 60) → 60 - i < n → ∀ (H : Heap) (locs : List Loc), va_P D vwCl (WM cy mo a (upd f 0 (0 : Int32)) g (va_up (va_up (va_up (va_up r 29 ((upd (r 29) d.toNatClampNeg what))) 30 ((upd (r 30) d.toNatClampNeg (0 : Int32)))) 31 ((upd (r 31) d.toNatClampNeg r149))) 32 ((upd (r 32) d.toNatClampNeg k0))) (va_up q 33 s3)) H → va_S (AM mo a) s.heap H locs → ∀ (ls : Array Slot), lv_has ls 8 [(7, .int (nI i)), (6, .int (1 : Int32)), (0, .ref mo), (1, .int d), (2, .int what), (3, .int k0), (4, .long p0)] → W p l e (headSpec wsX10_keep ({ frames := 3, cells := 0, slots := 0, locals := 69 })).room s m #[Value.ref mo, Value.int d, Value.int what, Value.int k0, Value.long p0] below meth c H locs 0 0 (MQ below (va_Qi (fun r0 u => ∃ (sh : Nat → Int32), ∃ (sz : Nat → Int32), ∃ (sw : Nat → Int32), ∃ (sf : Nat → Int32), ∃ (sr : Nat → Int64), u = ((upd f 0 (0 : Int32)), g, (va_up (va_up (va_up (va_up r 29 sh) 30 sz) 31 sw) 32 sf), (va_up q 33 sr)) ∧ (yesNo (okKeep (f 1) (fun j9 => (r 3 j9).toNatClampNeg) (fun j9 => (r 4 j9).toNatClampNeg) d what k0 p0) 0 (-1) r0 ∧ MI (upd f 0 (0 : Int32)) (va_up (va_up (va_up (va_up r 29 sh) 30 sz) 31 sw) 32 sf))) (mB D cy mo a) (AM mo a)) #[Value.ref mo, Value.int d, Value.int what, Value.int k0, Value.long p0] s 0 0 (AM mo a)) (F0 m 177 ls []) := by
                      intro n
                      induction n with
                      | zero => intro i s3 j177_0 hn; exact absurd hn (Nat.not_lt_zero _)
                      | succ n ih_177 =>
                        intro i s3 j177_0 hn_177 H locs hP hS ls hl
                        have ii : (nI i).toInt = (i : Int) := nI_toInt (by omega)
                        refine lv_iload hx hb dX10_keep_177 (lv_at hl 0 rfl) ?_
                        refine lv_aload_n hx hb dX10_keep_179 rfl (lv_at hl 2 rfl) ?_
                        refine m_get (v := .ref (a 30)) hx hb hts hin hown hK hP 30 (by decide) rfl (hts (.fieldLink RX10 64 "ShadowBenchModel" "shelfSize" "[I") (by decide +kernel)) rfl dX10_keep_180 ?_
                        refine lv_iload_n hx hb dX10_keep_183 rfl (lv_at hl 3 rfl) ?_
                        refine m_iald (w := ((upd (r 30) d.toNatClampNeg (0 : Int32)))) hx hb hK hP 18 rfl (vp_in_iff.mpr ⟨by omega, by omega⟩) dX10_keep_184 ?_
                        refine lv_topi (fun v184 e184 => ?_)
                        have i184 : v184.toInt = (((upd (r 30) d.toNatClampNeg (0 : Int32))) d.toNatClampNeg).toInt := congrArg Int32.toInt e184
                        have z184 := e184
                        simp only [upd, if_true] at z184
                        have y184 := congrArg Int32.toInt z184
                        refine lv_icmp_ge (tgt := 272) hx hb dX10_keep_185 (by decide) (fun c185 => ?_) (fun c185 => ?_)
                        · skip
                          have d185 := c185
                          rw [fa_le] at d185
                          refine lv_iconst (v := 0) hx hb dX10_keep_272 (by decide) ?_
                          have hP := wm_eq rfl rfl (ec_r_29_30_31_32__29_30_31_32 r ((upd (r 29) d.toNatClampNeg what)) ((upd (r 30) d.toNatClampNeg (0 : Int32))) ((upd (r 31) d.toNatClampNeg r149)) ((upd (r 32) d.toNatClampNeg k0))) rfl hP
                          exact W.iret (v := (0 : Int32)) hx hb hr (fun t ht hW => ⟨⟨_, ((upd f 0 (0 : Int32)), g, (va_up (va_up (va_up (va_up r 29 (((upd (r 29) d.toNatClampNeg what)))) 30 (((upd (r 30) d.toNatClampNeg (0 : Int32))))) 31 (((upd (r 31) d.toNatClampNeg r149)))) 32 (((upd (r 32) d.toNatClampNeg k0)))), (va_up q 33 s3)), rfl, ⟨((upd (r 29) d.toNatClampNeg what)), ((upd (r 30) d.toNatClampNeg (0 : Int32))), ((upd (r 31) d.toNatClampNeg r149)), ((upd (r 32) d.toNatClampNeg k0)), s3, rfl, ⟨(Or.inl ⟨⟨b9, (by unfold okJob; first | exact Or.inl (by omega) | exact Or.inr (Or.inl ⟨by omega, b31⟩) | (have z9 := goodP_of b64; subst e52; subst e58; exact Or.inr (Or.inr ⟨by omega, b44, z9.2⟩)))⟩, rfl⟩), by first | exact hI | exact mi_sz (d := d) hI (v := v110) (by omega) rfl rfl rfl rfl rfl rfl rfl rfl | exact mi_sz (d := d) hI (v := v131) (by omega) rfl rfl rfl rfl rfl rfl rfl rfl | exact mi_sz (d := d) hI (v := 0) (by decide) rfl rfl rfl rfl rfl rfl rfl rfl⟩⟩, by unfold mB; rw [ht]; exact hP⟩, hS.F ht⟩) hS.2.2 dX10_keep_273
                        · skip
                          have d185 := c185
                          rw [fa_le] at d185
                          refine lv_aload_n hx hb dX10_keep_188 rfl (lv_at hl 2 rfl) ?_
                          refine m_get (v := .ref (a 33)) hx hb hts hin hown hK hP 33 (by decide) rfl (hts (.fieldLink RX10 73 "ShadowBenchModel" "shelfRow" "[J") (by decide +kernel)) rfl dX10_keep_189 ?_
                          refine lv_bipush (v := 60) hx hb dX10_keep_192 (by decide) ?_
                          refine lv_iload_n hx hb dX10_keep_194 rfl (lv_at hl 3 rfl) ?_
                          refine lv_imul hx hb dX10_keep_195 ?_
                          refine lv_topi (fun v195 e195 => ?_)
                          have i195 : v195.toInt = 60 * d.toInt := by rw [e195]; exact mulcL rfl (by omega) (by omega)
                          refine lv_iload hx hb dX10_keep_196 (lv_at hl 0 rfl) ?_
                          refine lv_iadd hx hb dX10_keep_198 ?_
                          refine lv_topi (fun v198 e198 => ?_)
                          have i198 : v198.toInt = v195.toInt + (nI i).toInt := by rw [e198]; exact fb_addI (by omega) (by omega)
                          refine lv_iload_n hx hb dX10_keep_199 rfl (lv_at hl 4 rfl) ?_
                          refine lv_iconst (v := 3) hx hb dX10_keep_200 (by decide) ?_
                          refine lv_icmp_ne (tgt := 215) hx hb dX10_keep_201 (by decide) (fun c201 => ?_) (fun c201 => ?_)
                          · skip
                            have d201 := c201
                            rw [fa_eq] at d201
                            refine lv_iload hx hb dX10_keep_215 (lv_at hl 0 rfl) ?_
                            refine lv_aload_n hx hb dX10_keep_217 rfl (lv_at hl 2 rfl) ?_
                            refine m_get (v := .ref (a 4)) hx hb hts hin hown hK hP 4 (by decide) rfl (hts (.fieldLink RX10 16 "ShadowBenchModel" "high" "[I") (by decide +kernel)) rfl dX10_keep_218 ?_
                            refine lv_iload_n hx hb dX10_keep_221 rfl (lv_at hl 5 rfl) ?_
                            refine m_iald (w := (r 4)) hx hb hK hP 3 rfl (vp_in_iff.mpr ⟨by omega, by omega⟩) dX10_keep_222 ?_
                            refine lv_topi (fun v222 e222 => ?_)
                            have i222 : v222.toInt = ((r 4) k0.toNatClampNeg).toInt := congrArg Int32.toInt e222
                            have w222 := mi_h hI (x := k0) (by omega) (by omega) e222
                            refine lv_icmp_ge (tgt := 242) hx hb dX10_keep_223 (by decide) (fun c223 => ?_) (fun c223 => ?_)
                            · skip
                              have d223 := c223
                              rw [fa_le] at d223
                              refine lv_aload_n hx hb dX10_keep_242 rfl (lv_at hl 2 rfl) ?_
                              refine m_get (v := .ref (a 5)) hx hb hts hin hown hK hP 5 (by decide) rfl (hts (.fieldLink RX10 19 "ShadowBenchModel" "sums" "[I") (by decide +kernel)) rfl dX10_keep_243 ?_
                              refine lv_bipush (v := 44) hx hb dX10_keep_246 (by decide) ?_
                              refine lv_iload_n hx hb dX10_keep_248 rfl (lv_at hl 5 rfl) ?_
                              refine lv_imul hx hb dX10_keep_249 ?_
                              refine lv_topi (fun v249 e249 => ?_)
                              have i249 : v249.toInt = 44 * k0.toInt := by rw [e249]; exact mulcL rfl (by omega) (by omega)
                              refine lv_bipush (v := 11) hx hb dX10_keep_250 (by decide) ?_
                              refine lv_iadd hx hb dX10_keep_252 ?_
                              refine lv_topi (fun v252 e252 => ?_)
                              have i252 : v252.toInt = v249.toInt + (11 : Int32).toInt := by rw [e252]; exact fb_addI (by omega) (by omega)
                              refine lv_iload hx hb dX10_keep_253 (lv_at hl 0 rfl) ?_
                              refine lv_iadd hx hb dX10_keep_255 ?_
                              refine lv_topi (fun v255 e255 => ?_)
                              have i255 : v255.toInt = v252.toInt + (nI i).toInt := by rw [e255]; exact fb_addI (by omega) (by omega)
                              refine lv_aload_n hx hb dX10_keep_256 rfl (lv_at hl 2 rfl) ?_
                              refine m_get (v := .ref (a 4)) hx hb hts hin hown hK hP 4 (by decide) rfl (hts (.fieldLink RX10 16 "ShadowBenchModel" "high" "[I") (by decide +kernel)) rfl dX10_keep_257 ?_
                              refine lv_iload_n hx hb dX10_keep_260 rfl (lv_at hl 5 rfl) ?_
                              refine m_iald (w := (r 4)) hx hb hK hP 3 rfl (vp_in_iff.mpr ⟨by omega, by omega⟩) dX10_keep_261 ?_
                              refine lv_topi (fun v261 e261 => ?_)
                              have i261 : v261.toInt = ((r 4) k0.toNatClampNeg).toInt := congrArg Int32.toInt e261
                              have w261 := mi_h hI (x := k0) (by omega) (by omega) e261
                              refine lv_isub hx hb dX10_keep_262 ?_
                              refine lv_topi (fun v262 e262 => ?_)
                              have i262 : v262.toInt = v255.toInt - v261.toInt := by rw [e262]; exact fb_subI (by omega) (by omega)
                              refine m_iald (w := (r 5)) hx hb hK hP 4 rfl (vp_in_iff.mpr ⟨by omega, by omega⟩) dX10_keep_263 ?_
                              refine lv_topi (fun v263 e263 => ?_)
                              have i263 : v263.toInt = ((r 5) v262.toNatClampNeg).toInt := congrArg Int32.toInt e263
                              refine lv_i2l (v := v263.toInt64) hx hb dX10_keep_264 rfl ?_
                              refine m_last (w := s3) hx hb hK hP hD hS 21 rfl (vp_in_iff.mpr ⟨by omega, by omega⟩) (va_up (va_up q 33 s3) 33 (vp_updL s3 v198.toNatClampNeg v263.toInt64)) (ms_33 cy mo a _ _ _ _ _) dX10_keep_265 (fun H locs hP hS => ?_)
                              have hP := wm_eq rfl rfl rfl (es_q_33__33 q s3 (vp_updL s3 v198.toNatClampNeg v263.toInt64)) hP
                              refine lv_iinc (v := (nI (i + 1))) (lv' := [(7, .int (nI (i + 1))), (6, .int (1 : Int32)), (0, .ref mo), (1, .int d), (2, .int what), (3, .int k0), (4, .long p0)]) hx hb dX10_keep_266 hl (k := 0) rfl (nI_1 _) (by decide) rfl (fun ls hl => ?_)
                              refine lv_goto (tgt := 177) hx hb dX10_keep_269 (by decide) ?_
                              have hP := wm_eq rfl rfl (ec_r_29_30_31_32__29_30_31_32 r ((upd (r 29) d.toNatClampNeg what)) ((upd (r 30) d.toNatClampNeg (0 : Int32))) ((upd (r 31) d.toNatClampNeg r149)) ((upd (r 32) d.toNatClampNeg k0))) rfl hP
                              exact ih_177 (i + 1) (vp_updL s3 v198.toNatClampNeg v263.toInt64) (by omega) (by omega) _ _ hP hS ls (lv_sub hl [0, 1, 2, 3, 4, 5, 6] rfl)
                            · skip
                              have d223 := c223
                              rw [fa_le] at d223
                              refine lv_aload_n hx hb dX10_keep_226 rfl (lv_at hl 2 rfl) ?_
                              refine m_get (v := .ref (a 5)) hx hb hts hin hown hK hP 5 (by decide) rfl (hts (.fieldLink RX10 19 "ShadowBenchModel" "sums" "[I") (by decide +kernel)) rfl dX10_keep_227 ?_
                              refine lv_bipush (v := 44) hx hb dX10_keep_230 (by decide) ?_
                              refine lv_iload_n hx hb dX10_keep_232 rfl (lv_at hl 5 rfl) ?_
                              refine lv_imul hx hb dX10_keep_233 ?_
                              refine lv_topi (fun v233 e233 => ?_)
                              have i233 : v233.toInt = 44 * k0.toInt := by rw [e233]; exact mulcL rfl (by omega) (by omega)
                              refine lv_iload hx hb dX10_keep_234 (lv_at hl 0 rfl) ?_
                              refine lv_iadd hx hb dX10_keep_236 ?_
                              refine lv_topi (fun v236 e236 => ?_)
                              have i236 : v236.toInt = v233.toInt + (nI i).toInt := by rw [e236]; exact fb_addI (by omega) (by omega)
                              refine m_iald (w := (r 5)) hx hb hK hP 4 rfl (vp_in_iff.mpr ⟨by omega, by omega⟩) dX10_keep_237 ?_
                              refine lv_topi (fun v237 e237 => ?_)
                              have i237 : v237.toInt = ((r 5) v236.toNatClampNeg).toInt := congrArg Int32.toInt e237
                              refine lv_i2l (v := v237.toInt64) hx hb dX10_keep_238 rfl ?_
                              refine lv_goto (tgt := 265) hx hb dX10_keep_239 (by decide) ?_
                              refine m_last (w := s3) hx hb hK hP hD hS 21 rfl (vp_in_iff.mpr ⟨by omega, by omega⟩) (va_up (va_up q 33 s3) 33 (vp_updL s3 v198.toNatClampNeg v237.toInt64)) (ms_33 cy mo a _ _ _ _ _) dX10_keep_265 (fun H locs hP hS => ?_)
                              have hP := wm_eq rfl rfl rfl (es_q_33__33 q s3 (vp_updL s3 v198.toNatClampNeg v237.toInt64)) hP
                              refine lv_iinc (v := (nI (i + 1))) (lv' := [(7, .int (nI (i + 1))), (6, .int (1 : Int32)), (0, .ref mo), (1, .int d), (2, .int what), (3, .int k0), (4, .long p0)]) hx hb dX10_keep_266 hl (k := 0) rfl (nI_1 _) (by decide) rfl (fun ls hl => ?_)
                              refine lv_goto (tgt := 177) hx hb dX10_keep_269 (by decide) ?_
                              have hP := wm_eq rfl rfl (ec_r_29_30_31_32__29_30_31_32 r ((upd (r 29) d.toNatClampNeg what)) ((upd (r 30) d.toNatClampNeg (0 : Int32))) ((upd (r 31) d.toNatClampNeg r149)) ((upd (r 32) d.toNatClampNeg k0))) rfl hP
                              exact ih_177 (i + 1) (vp_updL s3 v198.toNatClampNeg v237.toInt64) (by omega) (by omega) _ _ hP hS ls (lv_sub hl [0, 1, 2, 3, 4, 5, 6] rfl)
                          · first | exact absurd c201 c95 | exact absurd c95 c201
                    have hP := wm_eq rfl rfl (ec_r_29_30_31_32__29_30_31_32 r ((upd (r 29) d.toNatClampNeg what)) ((upd (r 30) d.toNatClampNeg (0 : Int32))) ((upd (r 31) d.toNatClampNeg r149)) ((upd (r 32) d.toNatClampNeg k0))) (ec_q___33 q ) hP
                    exact loop_177 (60 + 1) 0 (q 33) (by omega) (by omega) _ _ hP hS ls (lv_sub hl [0, 1, 2, 3, 4, 5, 6] rfl)
                  · skip
                    have d164 := c164
                    rw [fa_eq] at d164
                    refine lv_bipush (v := (-15)) hx hb dX10_keep_167 (by decide) ?_
                    refine lv_goto (tgt := 173) hx hb dX10_keep_169 (by decide) ?_
                    refine m_iast (w := (r 32)) hx hb hK hP hD hS 20 rfl (vp_in_iff.mpr ⟨by omega, by omega⟩) (va_up (va_up (va_up (va_up r 29 ((upd (r 29) d.toNatClampNeg what))) 30 ((upd (r 30) d.toNatClampNeg (0 : Int32)))) 31 ((upd (r 31) d.toNatClampNeg r149))) 32 (upd (r 32) d.toNatClampNeg (((-15) : Int32)))) (ms_32 cy mo a _ _ _ _ _) dX10_keep_173 (fun H locs hP hS => ?_)
                    refine lv_iconst (v := 0) hx hb dX10_keep_174 (by decide) ?_
                    refine lv_istore (lv' := [(7, .int (0 : Int32)), (6, .int (1 : Int32)), (0, .ref mo), (1, .int d), (2, .int what), (3, .int k0), (4, .long p0)]) hx hb dX10_keep_175 hl (by decide) rfl (fun ls hl => ?_)
                    have loop_177 : ∀ (n : Nat) (i : Nat) (s3 : Nat → Int64), (i ≤ 60) → 60 - i < n → ∀ (H : Heap) (locs : List Loc), va_P D vwCl (WM cy mo a (upd f 0 (0 : Int32)) g (va_up (va_up (va_up (va_up r 29 ((upd (r 29) d.toNatClampNeg what))) 30 ((upd (r 30) d.toNatClampNeg (0 : Int32)))) 31 ((upd (r 31) d.toNatClampNeg r149))) 32 ((upd (r 32) d.toNatClampNeg (((-15) : Int32))))) (va_up q 33 s3)) H → va_S (AM mo a) s.heap H locs → ∀ (ls : Array Slot), lv_has ls 8 [(7, .int (nI i)), (6, .int (1 : Int32)), (0, .ref mo), (1, .int d), (2, .int what), (3, .int k0), (4, .long p0)] → W p l e (headSpec wsX10_keep ({ frames := 3, cells := 0, slots := 0, locals := 69 })).room s m #[Value.ref mo, Value.int d, Value.int what, Value.int k0, Value.long p0] below meth c H locs 0 0 (MQ below (va_Qi (fun r0 u => ∃ (sh : Nat → Int32), ∃ (sz : Nat → Int32), ∃ (sw : Nat → Int32), ∃ (sf : Nat → Int32), ∃ (sr : Nat → Int64), u = ((upd f 0 (0 : Int32)), g, (va_up (va_up (va_up (va_up r 29 sh) 30 sz) 31 sw) 32 sf), (va_up q 33 sr)) ∧ (yesNo (okKeep (f 1) (fun j9 => (r 3 j9).toNatClampNeg) (fun j9 => (r 4 j9).toNatClampNeg) d what k0 p0) 0 (-1) r0 ∧ MI (upd f 0 (0 : Int32)) (va_up (va_up (va_up (va_up r 29 sh) 30 sz) 31 sw) 32 sf))) (mB D cy mo a) (AM mo a)) #[Value.ref mo, Value.int d, Value.int what, Value.int k0, Value.long p0] s 0 0 (AM mo a)) (F0 m 177 ls []) := by
                      intro n
                      induction n with
                      | zero => intro i s3 j177_0 hn; exact absurd hn (Nat.not_lt_zero _)
                      | succ n ih_177 =>
                        intro i s3 j177_0 hn_177 H locs hP hS ls hl
                        have ii : (nI i).toInt = (i : Int) := nI_toInt (by omega)
                        refine lv_iload hx hb dX10_keep_177 (lv_at hl 0 rfl) ?_
                        refine lv_aload_n hx hb dX10_keep_179 rfl (lv_at hl 2 rfl) ?_
                        refine m_get (v := .ref (a 30)) hx hb hts hin hown hK hP 30 (by decide) rfl (hts (.fieldLink RX10 64 "ShadowBenchModel" "shelfSize" "[I") (by decide +kernel)) rfl dX10_keep_180 ?_
                        refine lv_iload_n hx hb dX10_keep_183 rfl (lv_at hl 3 rfl) ?_
                        refine m_iald (w := ((upd (r 30) d.toNatClampNeg (0 : Int32)))) hx hb hK hP 18 rfl (vp_in_iff.mpr ⟨by omega, by omega⟩) dX10_keep_184 ?_
                        refine lv_topi (fun v184 e184 => ?_)
                        have i184 : v184.toInt = (((upd (r 30) d.toNatClampNeg (0 : Int32))) d.toNatClampNeg).toInt := congrArg Int32.toInt e184
                        have z184 := e184
                        simp only [upd, if_true] at z184
                        have y184 := congrArg Int32.toInt z184
                        refine lv_icmp_ge (tgt := 272) hx hb dX10_keep_185 (by decide) (fun c185 => ?_) (fun c185 => ?_)
                        · skip
                          have d185 := c185
                          rw [fa_le] at d185
                          refine lv_iconst (v := 0) hx hb dX10_keep_272 (by decide) ?_
                          have hP := wm_eq rfl rfl (ec_r_29_30_31_32__29_30_31_32 r ((upd (r 29) d.toNatClampNeg what)) ((upd (r 30) d.toNatClampNeg (0 : Int32))) ((upd (r 31) d.toNatClampNeg r149)) ((upd (r 32) d.toNatClampNeg (((-15) : Int32))))) rfl hP
                          exact W.iret (v := (0 : Int32)) hx hb hr (fun t ht hW => ⟨⟨_, ((upd f 0 (0 : Int32)), g, (va_up (va_up (va_up (va_up r 29 (((upd (r 29) d.toNatClampNeg what)))) 30 (((upd (r 30) d.toNatClampNeg (0 : Int32))))) 31 (((upd (r 31) d.toNatClampNeg r149)))) 32 (((upd (r 32) d.toNatClampNeg (((-15) : Int32)))))), (va_up q 33 s3)), rfl, ⟨((upd (r 29) d.toNatClampNeg what)), ((upd (r 30) d.toNatClampNeg (0 : Int32))), ((upd (r 31) d.toNatClampNeg r149)), ((upd (r 32) d.toNatClampNeg (((-15) : Int32)))), s3, rfl, ⟨(Or.inl ⟨⟨b9, (by unfold okJob; first | exact Or.inl (by omega) | exact Or.inr (Or.inl ⟨by omega, b31⟩) | (have z9 := goodP_of b64; subst e52; subst e58; exact Or.inr (Or.inr ⟨by omega, b44, z9.2⟩)))⟩, rfl⟩), by first | exact hI | exact mi_sz (d := d) hI (v := v110) (by omega) rfl rfl rfl rfl rfl rfl rfl rfl | exact mi_sz (d := d) hI (v := v131) (by omega) rfl rfl rfl rfl rfl rfl rfl rfl | exact mi_sz (d := d) hI (v := 0) (by decide) rfl rfl rfl rfl rfl rfl rfl rfl⟩⟩, by unfold mB; rw [ht]; exact hP⟩, hS.F ht⟩) hS.2.2 dX10_keep_273
                        · skip
                          have d185 := c185
                          rw [fa_le] at d185
                          refine lv_aload_n hx hb dX10_keep_188 rfl (lv_at hl 2 rfl) ?_
                          refine m_get (v := .ref (a 33)) hx hb hts hin hown hK hP 33 (by decide) rfl (hts (.fieldLink RX10 73 "ShadowBenchModel" "shelfRow" "[J") (by decide +kernel)) rfl dX10_keep_189 ?_
                          refine lv_bipush (v := 60) hx hb dX10_keep_192 (by decide) ?_
                          refine lv_iload_n hx hb dX10_keep_194 rfl (lv_at hl 3 rfl) ?_
                          refine lv_imul hx hb dX10_keep_195 ?_
                          refine lv_topi (fun v195 e195 => ?_)
                          have i195 : v195.toInt = 60 * d.toInt := by rw [e195]; exact mulcL rfl (by omega) (by omega)
                          refine lv_iload hx hb dX10_keep_196 (lv_at hl 0 rfl) ?_
                          refine lv_iadd hx hb dX10_keep_198 ?_
                          refine lv_topi (fun v198 e198 => ?_)
                          have i198 : v198.toInt = v195.toInt + (nI i).toInt := by rw [e198]; exact fb_addI (by omega) (by omega)
                          refine lv_iload_n hx hb dX10_keep_199 rfl (lv_at hl 4 rfl) ?_
                          refine lv_iconst (v := 3) hx hb dX10_keep_200 (by decide) ?_
                          refine lv_icmp_ne (tgt := 215) hx hb dX10_keep_201 (by decide) (fun c201 => ?_) (fun c201 => ?_)
                          · skip
                            have d201 := c201
                            rw [fa_eq] at d201
                            refine lv_iload hx hb dX10_keep_215 (lv_at hl 0 rfl) ?_
                            refine lv_aload_n hx hb dX10_keep_217 rfl (lv_at hl 2 rfl) ?_
                            refine m_get (v := .ref (a 4)) hx hb hts hin hown hK hP 4 (by decide) rfl (hts (.fieldLink RX10 16 "ShadowBenchModel" "high" "[I") (by decide +kernel)) rfl dX10_keep_218 ?_
                            refine lv_iload_n hx hb dX10_keep_221 rfl (lv_at hl 5 rfl) ?_
                            refine m_iald (w := (r 4)) hx hb hK hP 3 rfl (vp_in_iff.mpr ⟨by omega, by omega⟩) dX10_keep_222 ?_
                            refine lv_topi (fun v222 e222 => ?_)
                            have i222 : v222.toInt = ((r 4) k0.toNatClampNeg).toInt := congrArg Int32.toInt e222
                            have w222 := mi_h hI (x := k0) (by omega) (by omega) e222
                            refine lv_icmp_ge (tgt := 242) hx hb dX10_keep_223 (by decide) (fun c223 => ?_) (fun c223 => ?_)
                            · skip
                              have d223 := c223
                              rw [fa_le] at d223
                              refine lv_aload_n hx hb dX10_keep_242 rfl (lv_at hl 2 rfl) ?_
                              refine m_get (v := .ref (a 5)) hx hb hts hin hown hK hP 5 (by decide) rfl (hts (.fieldLink RX10 19 "ShadowBenchModel" "sums" "[I") (by decide +kernel)) rfl dX10_keep_243 ?_
                              refine lv_bipush (v := 44) hx hb dX10_keep_246 (by decide) ?_
                              refine lv_iload_n hx hb dX10_keep_248 rfl (lv_at hl 5 rfl) ?_
                              refine lv_imul hx hb dX10_keep_249 ?_
                              refine lv_topi (fun v249 e249 => ?_)
                              have i249 : v249.toInt = 44 * k0.toInt := by rw [e249]; exact mulcL rfl (by omega) (by omega)
                              refine lv_bipush (v := 11) hx hb dX10_keep_250 (by decide) ?_
                              refine lv_iadd hx hb dX10_keep_252 ?_
                              refine lv_topi (fun v252 e252 => ?_)
                              have i252 : v252.toInt = v249.toInt + (11 : Int32).toInt := by rw [e252]; exact fb_addI (by omega) (by omega)
                              refine lv_iload hx hb dX10_keep_253 (lv_at hl 0 rfl) ?_
                              refine lv_iadd hx hb dX10_keep_255 ?_
                              refine lv_topi (fun v255 e255 => ?_)
                              have i255 : v255.toInt = v252.toInt + (nI i).toInt := by rw [e255]; exact fb_addI (by omega) (by omega)
                              refine lv_aload_n hx hb dX10_keep_256 rfl (lv_at hl 2 rfl) ?_
                              refine m_get (v := .ref (a 4)) hx hb hts hin hown hK hP 4 (by decide) rfl (hts (.fieldLink RX10 16 "ShadowBenchModel" "high" "[I") (by decide +kernel)) rfl dX10_keep_257 ?_
                              refine lv_iload_n hx hb dX10_keep_260 rfl (lv_at hl 5 rfl) ?_
                              refine m_iald (w := (r 4)) hx hb hK hP 3 rfl (vp_in_iff.mpr ⟨by omega, by omega⟩) dX10_keep_261 ?_
                              refine lv_topi (fun v261 e261 => ?_)
                              have i261 : v261.toInt = ((r 4) k0.toNatClampNeg).toInt := congrArg Int32.toInt e261
                              have w261 := mi_h hI (x := k0) (by omega) (by omega) e261
                              refine lv_isub hx hb dX10_keep_262 ?_
                              refine lv_topi (fun v262 e262 => ?_)
                              have i262 : v262.toInt = v255.toInt - v261.toInt := by rw [e262]; exact fb_subI (by omega) (by omega)
                              refine m_iald (w := (r 5)) hx hb hK hP 4 rfl (vp_in_iff.mpr ⟨by omega, by omega⟩) dX10_keep_263 ?_
                              refine lv_topi (fun v263 e263 => ?_)
                              have i263 : v263.toInt = ((r 5) v262.toNatClampNeg).toInt := congrArg Int32.toInt e263
                              refine lv_i2l (v := v263.toInt64) hx hb dX10_keep_264 rfl ?_
                              refine m_last (w := s3) hx hb hK hP hD hS 21 rfl (vp_in_iff.mpr ⟨by omega, by omega⟩) (va_up (va_up q 33 s3) 33 (vp_updL s3 v198.toNatClampNeg v263.toInt64)) (ms_33 cy mo a _ _ _ _ _) dX10_keep_265 (fun H locs hP hS => ?_)
                              have hP := wm_eq rfl rfl rfl (es_q_33__33 q s3 (vp_updL s3 v198.toNatClampNeg v263.toInt64)) hP
                              refine lv_iinc (v := (nI (i + 1))) (lv' := [(7, .int (nI (i + 1))), (6, .int (1 : Int32)), (0, .ref mo), (1, .int d), (2, .int what), (3, .int k0), (4, .long p0)]) hx hb dX10_keep_266 hl (k := 0) rfl (nI_1 _) (by decide) rfl (fun ls hl => ?_)
                              refine lv_goto (tgt := 177) hx hb dX10_keep_269 (by decide) ?_
                              have hP := wm_eq rfl rfl (ec_r_29_30_31_32__29_30_31_32 r ((upd (r 29) d.toNatClampNeg what)) ((upd (r 30) d.toNatClampNeg (0 : Int32))) ((upd (r 31) d.toNatClampNeg r149)) ((upd (r 32) d.toNatClampNeg (((-15) : Int32))))) rfl hP
                              exact ih_177 (i + 1) (vp_updL s3 v198.toNatClampNeg v263.toInt64) (by omega) (by omega) _ _ hP hS ls (lv_sub hl [0, 1, 2, 3, 4, 5, 6] rfl)
                            · skip
                              have d223 := c223
                              rw [fa_le] at d223
                              refine lv_aload_n hx hb dX10_keep_226 rfl (lv_at hl 2 rfl) ?_
                              refine m_get (v := .ref (a 5)) hx hb hts hin hown hK hP 5 (by decide) rfl (hts (.fieldLink RX10 19 "ShadowBenchModel" "sums" "[I") (by decide +kernel)) rfl dX10_keep_227 ?_
                              refine lv_bipush (v := 44) hx hb dX10_keep_230 (by decide) ?_
                              refine lv_iload_n hx hb dX10_keep_232 rfl (lv_at hl 5 rfl) ?_
                              refine lv_imul hx hb dX10_keep_233 ?_
                              refine lv_topi (fun v233 e233 => ?_)
                              have i233 : v233.toInt = 44 * k0.toInt := by rw [e233]; exact mulcL rfl (by omega) (by omega)
                              refine lv_iload hx hb dX10_keep_234 (lv_at hl 0 rfl) ?_
                              refine lv_iadd hx hb dX10_keep_236 ?_
                              refine lv_topi (fun v236 e236 => ?_)
                              have i236 : v236.toInt = v233.toInt + (nI i).toInt := by rw [e236]; exact fb_addI (by omega) (by omega)
                              refine m_iald (w := (r 5)) hx hb hK hP 4 rfl (vp_in_iff.mpr ⟨by omega, by omega⟩) dX10_keep_237 ?_
                              refine lv_topi (fun v237 e237 => ?_)
                              have i237 : v237.toInt = ((r 5) v236.toNatClampNeg).toInt := congrArg Int32.toInt e237
                              refine lv_i2l (v := v237.toInt64) hx hb dX10_keep_238 rfl ?_
                              refine lv_goto (tgt := 265) hx hb dX10_keep_239 (by decide) ?_
                              refine m_last (w := s3) hx hb hK hP hD hS 21 rfl (vp_in_iff.mpr ⟨by omega, by omega⟩) (va_up (va_up q 33 s3) 33 (vp_updL s3 v198.toNatClampNeg v237.toInt64)) (ms_33 cy mo a _ _ _ _ _) dX10_keep_265 (fun H locs hP hS => ?_)
                              have hP := wm_eq rfl rfl rfl (es_q_33__33 q s3 (vp_updL s3 v198.toNatClampNeg v237.toInt64)) hP
                              refine lv_iinc (v := (nI (i + 1))) (lv' := [(7, .int (nI (i + 1))), (6, .int (1 : Int32)), (0, .ref mo), (1, .int d), (2, .int what), (3, .int k0), (4, .long p0)]) hx hb dX10_keep_266 hl (k := 0) rfl (nI_1 _) (by decide) rfl (fun ls hl => ?_)
                              refine lv_goto (tgt := 177) hx hb dX10_keep_269 (by decide) ?_
                              have hP := wm_eq rfl rfl (ec_r_29_30_31_32__29_30_31_32 r ((upd (r 29) d.toNatClampNeg what)) ((upd (r 30) d.toNatClampNeg (0 : Int32))) ((upd (r 31) d.toNatClampNeg r149)) ((upd (r 32) d.toNatClampNeg (((-15) : Int32))))) rfl hP
                              exact ih_177 (i + 1) (vp_updL s3 v198.toNatClampNeg v237.toInt64) (by omega) (by omega) _ _ hP hS ls (lv_sub hl [0, 1, 2, 3, 4, 5, 6] rfl)
                          · first | exact absurd c201 c95 | exact absurd c95 c201
                    have hP := wm_eq rfl rfl (ec_r_29_30_31_32__29_30_31_32 r ((upd (r 29) d.toNatClampNeg what)) ((upd (r 30) d.toNatClampNeg (0 : Int32))) ((upd (r 31) d.toNatClampNeg r149)) ((upd (r 32) d.toNatClampNeg (((-15) : Int32))))) (ec_q___33 q ) hP
                    exact loop_177 (60 + 1) 0 (q 33) (by omega) (by omega) _ _ hP hS ls (lv_sub hl [0, 1, 2, 3, 4, 5, 6] rfl)
              · skip
                have d116 := c116
                rw [fa_eq] at d116
                refine lv_aload_n hx hb dX10_keep_119 rfl (lv_at hl 1 rfl) ?_
                refine m_get (v := .ref (a 4)) hx hb hts hin hown hK hP 4 (by decide) rfl (hts (.fieldLink RX10 16 "ShadowBenchModel" "high" "[I") (by decide +kernel)) rfl dX10_keep_120 ?_
                refine lv_iload_n hx hb dX10_keep_123 rfl (lv_at hl 4 rfl) ?_
                refine m_iald (w := (r 4)) hx hb hK hP 3 rfl (vp_in_iff.mpr ⟨by omega, by omega⟩) dX10_keep_124 ?_
                refine lv_topi (fun v124 e124 => ?_)
                have i124 : v124.toInt = ((r 4) k0.toNatClampNeg).toInt := congrArg Int32.toInt e124
                have w124 := mi_h hI (x := k0) (by omega) (by omega) e124
                refine lv_aload_n hx hb dX10_keep_125 rfl (lv_at hl 1 rfl) ?_
                refine m_get (v := .ref (a 3)) hx hb hts hin hown hK hP 3 (by decide) rfl (hts (.fieldLink RX10 13 "ShadowBenchModel" "wide" "[I") (by decide +kernel)) rfl dX10_keep_126 ?_
                refine lv_iload_n hx hb dX10_keep_129 rfl (lv_at hl 4 rfl) ?_
                refine m_iald (w := (r 3)) hx hb hK hP 2 rfl (vp_in_iff.mpr ⟨by omega, by omega⟩) dX10_keep_130 ?_
                refine lv_topi (fun v130 e130 => ?_)
                have i130 : v130.toInt = ((r 3) k0.toNatClampNeg).toInt := congrArg Int32.toInt e130
                have w130 := mi_w hI (x := k0) (by omega) (by omega) e130
                refine lv_iadd hx hb dX10_keep_131 ?_
                refine lv_topi (fun v131 e131 => ?_)
                have i131 : v131.toInt = v124.toInt + v130.toInt := by rw [e131]; exact fb_addI (by omega) (by omega)
                refine lv_goto (tgt := 136) hx hb dX10_keep_132 (by decide) ?_
                refine m_iast (w := (r 30)) hx hb hK hP hD hS 18 rfl (vp_in_iff.mpr ⟨by omega, by omega⟩) (va_up (va_up r 29 ((upd (r 29) d.toNatClampNeg what))) 30 (upd (r 30) d.toNatClampNeg v131)) (ms_30 cy mo a _ _ _ _ _) dX10_keep_136 (fun H locs hP hS => ?_)
                refine lv_iload_n hx hb dX10_keep_137 rfl (lv_at hl 3 rfl) ?_
                refine lv_iconst (v := 1) hx hb dX10_keep_138 (by decide) ?_
                refine lv_icmp_ne (tgt := 174) hx hb dX10_keep_139 (by decide) (fun c139 => ?_) (fun c139 => ?_)
                · skip
                  have d139 := c139
                  rw [fa_eq] at d139
                  refine lv_iconst (v := 0) hx hb dX10_keep_174 (by decide) ?_
                  refine lv_istore (lv' := [(7, .int (0 : Int32)), (6, .int (1 : Int32)), (0, .ref mo), (1, .int d), (2, .int what), (3, .int k0), (4, .long p0)]) hx hb dX10_keep_175 hl (by decide) rfl (fun ls hl => ?_)
                  have loop_177 : ∀ (n : Nat) (i : Nat) (s3 : Nat → Int64), (i ≤ 60) → 60 - i < n → ∀ (H : Heap) (locs : List Loc), va_P D vwCl (WM cy mo a (upd f 0 (0 : Int32)) g (va_up (va_up r 29 ((upd (r 29) d.toNatClampNeg what))) 30 ((upd (r 30) d.toNatClampNeg v131))) (va_up q 33 s3)) H → va_S (AM mo a) s.heap H locs → ∀ (ls : Array Slot), lv_has ls 8 [(7, .int (nI i)), (6, .int (1 : Int32)), (0, .ref mo), (1, .int d), (2, .int what), (3, .int k0), (4, .long p0)] → W p l e (headSpec wsX10_keep ({ frames := 3, cells := 0, slots := 0, locals := 69 })).room s m #[Value.ref mo, Value.int d, Value.int what, Value.int k0, Value.long p0] below meth c H locs 0 0 (MQ below (va_Qi (fun r0 u => ∃ (sh : Nat → Int32), ∃ (sz : Nat → Int32), ∃ (sw : Nat → Int32), ∃ (sf : Nat → Int32), ∃ (sr : Nat → Int64), u = ((upd f 0 (0 : Int32)), g, (va_up (va_up (va_up (va_up r 29 sh) 30 sz) 31 sw) 32 sf), (va_up q 33 sr)) ∧ (yesNo (okKeep (f 1) (fun j9 => (r 3 j9).toNatClampNeg) (fun j9 => (r 4 j9).toNatClampNeg) d what k0 p0) 0 (-1) r0 ∧ MI (upd f 0 (0 : Int32)) (va_up (va_up (va_up (va_up r 29 sh) 30 sz) 31 sw) 32 sf))) (mB D cy mo a) (AM mo a)) #[Value.ref mo, Value.int d, Value.int what, Value.int k0, Value.long p0] s 0 0 (AM mo a)) (F0 m 177 ls []) := by
                    intro n
                    induction n with
                    | zero => intro i s3 j177_0 hn; exact absurd hn (Nat.not_lt_zero _)
                    | succ n ih_177 =>
                      intro i s3 j177_0 hn_177 H locs hP hS ls hl
                      have ii : (nI i).toInt = (i : Int) := nI_toInt (by omega)
                      refine lv_iload hx hb dX10_keep_177 (lv_at hl 0 rfl) ?_
                      refine lv_aload_n hx hb dX10_keep_179 rfl (lv_at hl 2 rfl) ?_
                      refine m_get (v := .ref (a 30)) hx hb hts hin hown hK hP 30 (by decide) rfl (hts (.fieldLink RX10 64 "ShadowBenchModel" "shelfSize" "[I") (by decide +kernel)) rfl dX10_keep_180 ?_
                      refine lv_iload_n hx hb dX10_keep_183 rfl (lv_at hl 3 rfl) ?_
                      refine m_iald (w := ((upd (r 30) d.toNatClampNeg v131))) hx hb hK hP 18 rfl (vp_in_iff.mpr ⟨by omega, by omega⟩) dX10_keep_184 ?_
                      refine lv_topi (fun v184 e184 => ?_)
                      have i184 : v184.toInt = (((upd (r 30) d.toNatClampNeg v131)) d.toNatClampNeg).toInt := congrArg Int32.toInt e184
                      have z184 := e184
                      simp only [upd, if_true] at z184
                      have y184 := congrArg Int32.toInt z184
                      refine lv_icmp_ge (tgt := 272) hx hb dX10_keep_185 (by decide) (fun c185 => ?_) (fun c185 => ?_)
                      · skip
                        have d185 := c185
                        rw [fa_le] at d185
                        refine lv_iconst (v := 0) hx hb dX10_keep_272 (by decide) ?_
                        have hP := wm_eq rfl rfl (ec_r_29_30__29_30_31_32 r ((upd (r 29) d.toNatClampNeg what)) ((upd (r 30) d.toNatClampNeg v131))) rfl hP
                        exact W.iret (v := (0 : Int32)) hx hb hr (fun t ht hW => ⟨⟨_, ((upd f 0 (0 : Int32)), g, (va_up (va_up (va_up (va_up r 29 (((upd (r 29) d.toNatClampNeg what)))) 30 (((upd (r 30) d.toNatClampNeg v131)))) 31 (r 31)) 32 (r 32)), (va_up q 33 s3)), rfl, ⟨((upd (r 29) d.toNatClampNeg what)), ((upd (r 30) d.toNatClampNeg v131)), (r 31), (r 32), s3, rfl, ⟨(Or.inl ⟨⟨b9, (by unfold okJob; first | exact Or.inl (by omega) | exact Or.inr (Or.inl ⟨by omega, b31⟩) | (have z9 := goodP_of b64; subst e52; subst e58; exact Or.inr (Or.inr ⟨by omega, b44, z9.2⟩)))⟩, rfl⟩), by first | exact hI | exact mi_sz (d := d) hI (v := v110) (by omega) rfl rfl rfl rfl rfl rfl rfl rfl | exact mi_sz (d := d) hI (v := v131) (by omega) rfl rfl rfl rfl rfl rfl rfl rfl | exact mi_sz (d := d) hI (v := 0) (by decide) rfl rfl rfl rfl rfl rfl rfl rfl⟩⟩, by unfold mB; rw [ht]; exact hP⟩, hS.F ht⟩) hS.2.2 dX10_keep_273
                      · skip
                        have d185 := c185
                        rw [fa_le] at d185
                        refine lv_aload_n hx hb dX10_keep_188 rfl (lv_at hl 2 rfl) ?_
                        refine m_get (v := .ref (a 33)) hx hb hts hin hown hK hP 33 (by decide) rfl (hts (.fieldLink RX10 73 "ShadowBenchModel" "shelfRow" "[J") (by decide +kernel)) rfl dX10_keep_189 ?_
                        refine lv_bipush (v := 60) hx hb dX10_keep_192 (by decide) ?_
                        refine lv_iload_n hx hb dX10_keep_194 rfl (lv_at hl 3 rfl) ?_
                        refine lv_imul hx hb dX10_keep_195 ?_
                        refine lv_topi (fun v195 e195 => ?_)
                        have i195 : v195.toInt = 60 * d.toInt := by rw [e195]; exact mulcL rfl (by omega) (by omega)
                        refine lv_iload hx hb dX10_keep_196 (lv_at hl 0 rfl) ?_
                        refine lv_iadd hx hb dX10_keep_198 ?_
                        refine lv_topi (fun v198 e198 => ?_)
                        have i198 : v198.toInt = v195.toInt + (nI i).toInt := by rw [e198]; exact fb_addI (by omega) (by omega)
                        refine lv_iload_n hx hb dX10_keep_199 rfl (lv_at hl 4 rfl) ?_
                        refine lv_iconst (v := 3) hx hb dX10_keep_200 (by decide) ?_
                        refine lv_icmp_ne (tgt := 215) hx hb dX10_keep_201 (by decide) (fun c201 => ?_) (fun c201 => ?_)
                        · skip
                          have d201 := c201
                          rw [fa_eq] at d201
                          refine lv_iload hx hb dX10_keep_215 (lv_at hl 0 rfl) ?_
                          refine lv_aload_n hx hb dX10_keep_217 rfl (lv_at hl 2 rfl) ?_
                          refine m_get (v := .ref (a 4)) hx hb hts hin hown hK hP 4 (by decide) rfl (hts (.fieldLink RX10 16 "ShadowBenchModel" "high" "[I") (by decide +kernel)) rfl dX10_keep_218 ?_
                          refine lv_iload_n hx hb dX10_keep_221 rfl (lv_at hl 5 rfl) ?_
                          refine m_iald (w := (r 4)) hx hb hK hP 3 rfl (vp_in_iff.mpr ⟨by omega, by omega⟩) dX10_keep_222 ?_
                          refine lv_topi (fun v222 e222 => ?_)
                          have i222 : v222.toInt = ((r 4) k0.toNatClampNeg).toInt := congrArg Int32.toInt e222
                          have w222 := mi_h hI (x := k0) (by omega) (by omega) e222
                          refine lv_icmp_ge (tgt := 242) hx hb dX10_keep_223 (by decide) (fun c223 => ?_) (fun c223 => ?_)
                          · skip
                            have d223 := c223
                            rw [fa_le] at d223
                            refine lv_aload_n hx hb dX10_keep_242 rfl (lv_at hl 2 rfl) ?_
                            refine m_get (v := .ref (a 5)) hx hb hts hin hown hK hP 5 (by decide) rfl (hts (.fieldLink RX10 19 "ShadowBenchModel" "sums" "[I") (by decide +kernel)) rfl dX10_keep_243 ?_
                            refine lv_bipush (v := 44) hx hb dX10_keep_246 (by decide) ?_
                            refine lv_iload_n hx hb dX10_keep_248 rfl (lv_at hl 5 rfl) ?_
                            refine lv_imul hx hb dX10_keep_249 ?_
                            refine lv_topi (fun v249 e249 => ?_)
                            have i249 : v249.toInt = 44 * k0.toInt := by rw [e249]; exact mulcL rfl (by omega) (by omega)
                            refine lv_bipush (v := 11) hx hb dX10_keep_250 (by decide) ?_
                            refine lv_iadd hx hb dX10_keep_252 ?_
                            refine lv_topi (fun v252 e252 => ?_)
                            have i252 : v252.toInt = v249.toInt + (11 : Int32).toInt := by rw [e252]; exact fb_addI (by omega) (by omega)
                            refine lv_iload hx hb dX10_keep_253 (lv_at hl 0 rfl) ?_
                            refine lv_iadd hx hb dX10_keep_255 ?_
                            refine lv_topi (fun v255 e255 => ?_)
                            have i255 : v255.toInt = v252.toInt + (nI i).toInt := by rw [e255]; exact fb_addI (by omega) (by omega)
                            refine lv_aload_n hx hb dX10_keep_256 rfl (lv_at hl 2 rfl) ?_
                            refine m_get (v := .ref (a 4)) hx hb hts hin hown hK hP 4 (by decide) rfl (hts (.fieldLink RX10 16 "ShadowBenchModel" "high" "[I") (by decide +kernel)) rfl dX10_keep_257 ?_
                            refine lv_iload_n hx hb dX10_keep_260 rfl (lv_at hl 5 rfl) ?_
                            refine m_iald (w := (r 4)) hx hb hK hP 3 rfl (vp_in_iff.mpr ⟨by omega, by omega⟩) dX10_keep_261 ?_
                            refine lv_topi (fun v261 e261 => ?_)
                            have i261 : v261.toInt = ((r 4) k0.toNatClampNeg).toInt := congrArg Int32.toInt e261
                            have w261 := mi_h hI (x := k0) (by omega) (by omega) e261
                            refine lv_isub hx hb dX10_keep_262 ?_
                            refine lv_topi (fun v262 e262 => ?_)
                            have i262 : v262.toInt = v255.toInt - v261.toInt := by rw [e262]; exact fb_subI (by omega) (by omega)
                            refine m_iald (w := (r 5)) hx hb hK hP 4 rfl (vp_in_iff.mpr ⟨by omega, by omega⟩) dX10_keep_263 ?_
                            refine lv_topi (fun v263 e263 => ?_)
                            have i263 : v263.toInt = ((r 5) v262.toNatClampNeg).toInt := congrArg Int32.toInt e263
                            refine lv_i2l (v := v263.toInt64) hx hb dX10_keep_264 rfl ?_
                            refine m_last (w := s3) hx hb hK hP hD hS 21 rfl (vp_in_iff.mpr ⟨by omega, by omega⟩) (va_up (va_up q 33 s3) 33 (vp_updL s3 v198.toNatClampNeg v263.toInt64)) (ms_33 cy mo a _ _ _ _ _) dX10_keep_265 (fun H locs hP hS => ?_)
                            have hP := wm_eq rfl rfl rfl (es_q_33__33 q s3 (vp_updL s3 v198.toNatClampNeg v263.toInt64)) hP
                            refine lv_iinc (v := (nI (i + 1))) (lv' := [(7, .int (nI (i + 1))), (6, .int (1 : Int32)), (0, .ref mo), (1, .int d), (2, .int what), (3, .int k0), (4, .long p0)]) hx hb dX10_keep_266 hl (k := 0) rfl (nI_1 _) (by decide) rfl (fun ls hl => ?_)
                            refine lv_goto (tgt := 177) hx hb dX10_keep_269 (by decide) ?_
                            have hP := wm_eq rfl rfl (ec_r_29_30__29_30 r ((upd (r 29) d.toNatClampNeg what)) ((upd (r 30) d.toNatClampNeg v131))) rfl hP
                            exact ih_177 (i + 1) (vp_updL s3 v198.toNatClampNeg v263.toInt64) (by omega) (by omega) _ _ hP hS ls (lv_sub hl [0, 1, 2, 3, 4, 5, 6] rfl)
                          · skip
                            have d223 := c223
                            rw [fa_le] at d223
                            refine lv_aload_n hx hb dX10_keep_226 rfl (lv_at hl 2 rfl) ?_
                            refine m_get (v := .ref (a 5)) hx hb hts hin hown hK hP 5 (by decide) rfl (hts (.fieldLink RX10 19 "ShadowBenchModel" "sums" "[I") (by decide +kernel)) rfl dX10_keep_227 ?_
                            refine lv_bipush (v := 44) hx hb dX10_keep_230 (by decide) ?_
                            refine lv_iload_n hx hb dX10_keep_232 rfl (lv_at hl 5 rfl) ?_
                            refine lv_imul hx hb dX10_keep_233 ?_
                            refine lv_topi (fun v233 e233 => ?_)
                            have i233 : v233.toInt = 44 * k0.toInt := by rw [e233]; exact mulcL rfl (by omega) (by omega)
                            refine lv_iload hx hb dX10_keep_234 (lv_at hl 0 rfl) ?_
                            refine lv_iadd hx hb dX10_keep_236 ?_
                            refine lv_topi (fun v236 e236 => ?_)
                            have i236 : v236.toInt = v233.toInt + (nI i).toInt := by rw [e236]; exact fb_addI (by omega) (by omega)
                            refine m_iald (w := (r 5)) hx hb hK hP 4 rfl (vp_in_iff.mpr ⟨by omega, by omega⟩) dX10_keep_237 ?_
                            refine lv_topi (fun v237 e237 => ?_)
                            have i237 : v237.toInt = ((r 5) v236.toNatClampNeg).toInt := congrArg Int32.toInt e237
                            refine lv_i2l (v := v237.toInt64) hx hb dX10_keep_238 rfl ?_
                            refine lv_goto (tgt := 265) hx hb dX10_keep_239 (by decide) ?_
                            refine m_last (w := s3) hx hb hK hP hD hS 21 rfl (vp_in_iff.mpr ⟨by omega, by omega⟩) (va_up (va_up q 33 s3) 33 (vp_updL s3 v198.toNatClampNeg v237.toInt64)) (ms_33 cy mo a _ _ _ _ _) dX10_keep_265 (fun H locs hP hS => ?_)
                            have hP := wm_eq rfl rfl rfl (es_q_33__33 q s3 (vp_updL s3 v198.toNatClampNeg v237.toInt64)) hP
                            refine lv_iinc (v := (nI (i + 1))) (lv' := [(7, .int (nI (i + 1))), (6, .int (1 : Int32)), (0, .ref mo), (1, .int d), (2, .int what), (3, .int k0), (4, .long p0)]) hx hb dX10_keep_266 hl (k := 0) rfl (nI_1 _) (by decide) rfl (fun ls hl => ?_)
                            refine lv_goto (tgt := 177) hx hb dX10_keep_269 (by decide) ?_
                            have hP := wm_eq rfl rfl (ec_r_29_30__29_30 r ((upd (r 29) d.toNatClampNeg what)) ((upd (r 30) d.toNatClampNeg v131))) rfl hP
                            exact ih_177 (i + 1) (vp_updL s3 v198.toNatClampNeg v237.toInt64) (by omega) (by omega) _ _ hP hS ls (lv_sub hl [0, 1, 2, 3, 4, 5, 6] rfl)
                        · first | exact absurd c201 c95 | exact absurd c95 c201
                  have hP := wm_eq rfl rfl (ec_r_29_30__29_30 r ((upd (r 29) d.toNatClampNeg what)) ((upd (r 30) d.toNatClampNeg v131))) (ec_q___33 q ) hP
                  exact loop_177 (60 + 1) 0 (q 33) (by omega) (by omega) _ _ hP hS ls (lv_sub hl [0, 1, 2, 3, 4, 5, 6] rfl)
                · skip
                  have d139 := c139
                  rw [fa_eq] at d139
                  refine lv_aload_n hx hb dX10_keep_142 rfl (lv_at hl 1 rfl) ?_
                  refine m_get (v := .ref (a 31)) hx hb hts hin hown hK hP 31 (by decide) rfl (hts (.fieldLink RX10 67 "ShadowBenchModel" "shelfWeight" "[I") (by decide +kernel)) rfl dX10_keep_143 ?_
                  refine lv_iload_n hx hb dX10_keep_146 rfl (lv_at hl 2 rfl) ?_
                  refine lv_aload_n hx hb dX10_keep_147 rfl (lv_at hl 1 rfl) ?_
                  refine lv_iload_n hx hb dX10_keep_148 rfl (lv_at hl 4 rfl) ?_
                  refine m_calli (As := [.int k0]) (rest := [.int d, .ref (a 31)]) ⟨hx, hb, hml, hown, hts⟩ (c_X10_weightOf l D cy mo a (upd f 0 (0 : Int32)) g (va_up (va_up r 29 ((upd (r 29) d.toNatClampNeg what))) 30 ((upd (r 30) d.toNatClampNeg v131))) q k0 hD (by first | exact hI | exact mi_sz (d := d) hI (v := 0) (by first | omega | decide) rfl rfl rfl rfl rfl rfl rfl rfl | exact mi_sz (d := d) hI (v := v131) (by first | omega | decide) rfl rfl rfl rfl rfl rfl rfl rfl | exact mi_sz (d := d) hI (v := v110) (by first | omega | decide) rfl rfl rfl rfl rfl rfl rfl rfl) (show 0 ≤ k0.toInt ∧ k0.toInt < (f 1).toInt by omega)) (cwV 1 hts gX10_keep_X10_weightOf rfl rfl rfl (by decide +kernel) ⟨Nat.le_of_ble_eq_true rfl, Nat.le_of_ble_eq_true rfl⟩) hK hP rfl hl.1 rfl (Nat.le_of_ble_eq_true rfl) dX10_keep_149 ⟨Nat.le_of_ble_eq_true rfl, Nat.le_of_ble_eq_true rfl⟩ hS (fun r149 u H locs q149 hP hS => ?_)
                  obtain ⟨rfl, q149⟩ := q149
                  have hP : va_P D vwCl (WM cy mo a (upd f 0 (0 : Int32)) g (va_up (va_up r 29 ((upd (r 29) d.toNatClampNeg what))) 30 ((upd (r 30) d.toNatClampNeg v131))) q) H := hP
                  have q149 : True := q149
                  refine m_iast (w := (r 31)) hx hb hK hP hD hS 19 rfl (vp_in_iff.mpr ⟨by omega, by omega⟩) (va_up (va_up (va_up r 29 ((upd (r 29) d.toNatClampNeg what))) 30 ((upd (r 30) d.toNatClampNeg v131))) 31 (upd (r 31) d.toNatClampNeg r149)) (ms_31 cy mo a _ _ _ _ _) dX10_keep_152 (fun H locs hP hS => ?_)
                  refine lv_aload_n hx hb dX10_keep_153 rfl (lv_at hl 1 rfl) ?_
                  refine m_get (v := .ref (a 32)) hx hb hts hin hown hK hP 32 (by decide) rfl (hts (.fieldLink RX10 70 "ShadowBenchModel" "shelfFailure" "[I") (by decide +kernel)) rfl dX10_keep_154 ?_
                  refine lv_iload_n hx hb dX10_keep_157 rfl (lv_at hl 2 rfl) ?_
                  refine lv_aload_n hx hb dX10_keep_158 rfl (lv_at hl 1 rfl) ?_
                  refine m_get (v := .ref (a 2)) hx hb hts hin hown hK hP 2 (by decide) rfl (hts (.fieldLink RX10 7 "ShadowBenchModel" "kind" "[I") (by decide +kernel)) rfl dX10_keep_159 ?_
                  refine lv_iload_n hx hb dX10_keep_162 rfl (lv_at hl 4 rfl) ?_
                  refine m_iald (w := (r 2)) hx hb hK hP 1 rfl (vp_in_iff.mpr ⟨by omega, by omega⟩) dX10_keep_163 ?_
                  refine lv_topi (fun v163 e163 => ?_)
                  have i163 : v163.toInt = ((r 2) k0.toNatClampNeg).toInt := congrArg Int32.toInt e163
                  refine lv_if_ne (tgt := 172) hx hb dX10_keep_164 (by decide) (fun c164 => ?_) (fun c164 => ?_)
                  · skip
                    have d164 := c164
                    rw [fa_eq] at d164
                    refine lv_iload_n hx hb dX10_keep_172 rfl (lv_at hl 4 rfl) ?_
                    refine m_iast (w := (r 32)) hx hb hK hP hD hS 20 rfl (vp_in_iff.mpr ⟨by omega, by omega⟩) (va_up (va_up (va_up (va_up r 29 ((upd (r 29) d.toNatClampNeg what))) 30 ((upd (r 30) d.toNatClampNeg v131))) 31 ((upd (r 31) d.toNatClampNeg r149))) 32 (upd (r 32) d.toNatClampNeg k0)) (ms_32 cy mo a _ _ _ _ _) dX10_keep_173 (fun H locs hP hS => ?_)
                    refine lv_iconst (v := 0) hx hb dX10_keep_174 (by decide) ?_
                    refine lv_istore (lv' := [(7, .int (0 : Int32)), (6, .int (1 : Int32)), (0, .ref mo), (1, .int d), (2, .int what), (3, .int k0), (4, .long p0)]) hx hb dX10_keep_175 hl (by decide) rfl (fun ls hl => ?_)
                    have loop_177 : ∀ (n : Nat) (i : Nat) (s3 : Nat → Int64), (i ≤ 60) → 60 - i < n → ∀ (H : Heap) (locs : List Loc), va_P D vwCl (WM cy mo a (upd f 0 (0 : Int32)) g (va_up (va_up (va_up (va_up r 29 ((upd (r 29) d.toNatClampNeg what))) 30 ((upd (r 30) d.toNatClampNeg v131))) 31 ((upd (r 31) d.toNatClampNeg r149))) 32 ((upd (r 32) d.toNatClampNeg k0))) (va_up q 33 s3)) H → va_S (AM mo a) s.heap H locs → ∀ (ls : Array Slot), lv_has ls 8 [(7, .int (nI i)), (6, .int (1 : Int32)), (0, .ref mo), (1, .int d), (2, .int what), (3, .int k0), (4, .long p0)] → W p l e (headSpec wsX10_keep ({ frames := 3, cells := 0, slots := 0, locals := 69 })).room s m #[Value.ref mo, Value.int d, Value.int what, Value.int k0, Value.long p0] below meth c H locs 0 0 (MQ below (va_Qi (fun r0 u => ∃ (sh : Nat → Int32), ∃ (sz : Nat → Int32), ∃ (sw : Nat → Int32), ∃ (sf : Nat → Int32), ∃ (sr : Nat → Int64), u = ((upd f 0 (0 : Int32)), g, (va_up (va_up (va_up (va_up r 29 sh) 30 sz) 31 sw) 32 sf), (va_up q 33 sr)) ∧ (yesNo (okKeep (f 1) (fun j9 => (r 3 j9).toNatClampNeg) (fun j9 => (r 4 j9).toNatClampNeg) d what k0 p0) 0 (-1) r0 ∧ MI (upd f 0 (0 : Int32)) (va_up (va_up (va_up (va_up r 29 sh) 30 sz) 31 sw) 32 sf))) (mB D cy mo a) (AM mo a)) #[Value.ref mo, Value.int d, Value.int what, Value.int k0, Value.long p0] s 0 0 (AM mo a)) (F0 m 177 ls []) := by
                      intro n
                      induction n with
                      | zero => intro i s3 j177_0 hn; exact absurd hn (Nat.not_lt_zero _)
                      | succ n ih_177 =>
                        intro i s3 j177_0 hn_177 H locs hP hS ls hl
                        have ii : (nI i).toInt = (i : Int) := nI_toInt (by omega)
                        refine lv_iload hx hb dX10_keep_177 (lv_at hl 0 rfl) ?_
                        refine lv_aload_n hx hb dX10_keep_179 rfl (lv_at hl 2 rfl) ?_
                        refine m_get (v := .ref (a 30)) hx hb hts hin hown hK hP 30 (by decide) rfl (hts (.fieldLink RX10 64 "ShadowBenchModel" "shelfSize" "[I") (by decide +kernel)) rfl dX10_keep_180 ?_
                        refine lv_iload_n hx hb dX10_keep_183 rfl (lv_at hl 3 rfl) ?_
                        refine m_iald (w := ((upd (r 30) d.toNatClampNeg v131))) hx hb hK hP 18 rfl (vp_in_iff.mpr ⟨by omega, by omega⟩) dX10_keep_184 ?_
                        refine lv_topi (fun v184 e184 => ?_)
                        have i184 : v184.toInt = (((upd (r 30) d.toNatClampNeg v131)) d.toNatClampNeg).toInt := congrArg Int32.toInt e184
                        have z184 := e184
                        simp only [upd, if_true] at z184
                        have y184 := congrArg Int32.toInt z184
                        refine lv_icmp_ge (tgt := 272) hx hb dX10_keep_185 (by decide) (fun c185 => ?_) (fun c185 => ?_)
                        · skip
                          have d185 := c185
                          rw [fa_le] at d185
                          refine lv_iconst (v := 0) hx hb dX10_keep_272 (by decide) ?_
                          have hP := wm_eq rfl rfl (ec_r_29_30_31_32__29_30_31_32 r ((upd (r 29) d.toNatClampNeg what)) ((upd (r 30) d.toNatClampNeg v131)) ((upd (r 31) d.toNatClampNeg r149)) ((upd (r 32) d.toNatClampNeg k0))) rfl hP
                          exact W.iret (v := (0 : Int32)) hx hb hr (fun t ht hW => ⟨⟨_, ((upd f 0 (0 : Int32)), g, (va_up (va_up (va_up (va_up r 29 (((upd (r 29) d.toNatClampNeg what)))) 30 (((upd (r 30) d.toNatClampNeg v131)))) 31 (((upd (r 31) d.toNatClampNeg r149)))) 32 (((upd (r 32) d.toNatClampNeg k0)))), (va_up q 33 s3)), rfl, ⟨((upd (r 29) d.toNatClampNeg what)), ((upd (r 30) d.toNatClampNeg v131)), ((upd (r 31) d.toNatClampNeg r149)), ((upd (r 32) d.toNatClampNeg k0)), s3, rfl, ⟨(Or.inl ⟨⟨b9, (by unfold okJob; first | exact Or.inl (by omega) | exact Or.inr (Or.inl ⟨by omega, b31⟩) | (have z9 := goodP_of b64; subst e52; subst e58; exact Or.inr (Or.inr ⟨by omega, b44, z9.2⟩)))⟩, rfl⟩), by first | exact hI | exact mi_sz (d := d) hI (v := v110) (by omega) rfl rfl rfl rfl rfl rfl rfl rfl | exact mi_sz (d := d) hI (v := v131) (by omega) rfl rfl rfl rfl rfl rfl rfl rfl | exact mi_sz (d := d) hI (v := 0) (by decide) rfl rfl rfl rfl rfl rfl rfl rfl⟩⟩, by unfold mB; rw [ht]; exact hP⟩, hS.F ht⟩) hS.2.2 dX10_keep_273
                        · skip
                          have d185 := c185
                          rw [fa_le] at d185
                          refine lv_aload_n hx hb dX10_keep_188 rfl (lv_at hl 2 rfl) ?_
                          refine m_get (v := .ref (a 33)) hx hb hts hin hown hK hP 33 (by decide) rfl (hts (.fieldLink RX10 73 "ShadowBenchModel" "shelfRow" "[J") (by decide +kernel)) rfl dX10_keep_189 ?_
                          refine lv_bipush (v := 60) hx hb dX10_keep_192 (by decide) ?_
                          refine lv_iload_n hx hb dX10_keep_194 rfl (lv_at hl 3 rfl) ?_
                          refine lv_imul hx hb dX10_keep_195 ?_
                          refine lv_topi (fun v195 e195 => ?_)
                          have i195 : v195.toInt = 60 * d.toInt := by rw [e195]; exact mulcL rfl (by omega) (by omega)
                          refine lv_iload hx hb dX10_keep_196 (lv_at hl 0 rfl) ?_
                          refine lv_iadd hx hb dX10_keep_198 ?_
                          refine lv_topi (fun v198 e198 => ?_)
                          have i198 : v198.toInt = v195.toInt + (nI i).toInt := by rw [e198]; exact fb_addI (by omega) (by omega)
                          refine lv_iload_n hx hb dX10_keep_199 rfl (lv_at hl 4 rfl) ?_
                          refine lv_iconst (v := 3) hx hb dX10_keep_200 (by decide) ?_
                          refine lv_icmp_ne (tgt := 215) hx hb dX10_keep_201 (by decide) (fun c201 => ?_) (fun c201 => ?_)
                          · skip
                            have d201 := c201
                            rw [fa_eq] at d201
                            refine lv_iload hx hb dX10_keep_215 (lv_at hl 0 rfl) ?_
                            refine lv_aload_n hx hb dX10_keep_217 rfl (lv_at hl 2 rfl) ?_
                            refine m_get (v := .ref (a 4)) hx hb hts hin hown hK hP 4 (by decide) rfl (hts (.fieldLink RX10 16 "ShadowBenchModel" "high" "[I") (by decide +kernel)) rfl dX10_keep_218 ?_
                            refine lv_iload_n hx hb dX10_keep_221 rfl (lv_at hl 5 rfl) ?_
                            refine m_iald (w := (r 4)) hx hb hK hP 3 rfl (vp_in_iff.mpr ⟨by omega, by omega⟩) dX10_keep_222 ?_
                            refine lv_topi (fun v222 e222 => ?_)
                            have i222 : v222.toInt = ((r 4) k0.toNatClampNeg).toInt := congrArg Int32.toInt e222
                            have w222 := mi_h hI (x := k0) (by omega) (by omega) e222
                            refine lv_icmp_ge (tgt := 242) hx hb dX10_keep_223 (by decide) (fun c223 => ?_) (fun c223 => ?_)
                            · skip
                              have d223 := c223
                              rw [fa_le] at d223
                              refine lv_aload_n hx hb dX10_keep_242 rfl (lv_at hl 2 rfl) ?_
                              refine m_get (v := .ref (a 5)) hx hb hts hin hown hK hP 5 (by decide) rfl (hts (.fieldLink RX10 19 "ShadowBenchModel" "sums" "[I") (by decide +kernel)) rfl dX10_keep_243 ?_
                              refine lv_bipush (v := 44) hx hb dX10_keep_246 (by decide) ?_
                              refine lv_iload_n hx hb dX10_keep_248 rfl (lv_at hl 5 rfl) ?_
                              refine lv_imul hx hb dX10_keep_249 ?_
                              refine lv_topi (fun v249 e249 => ?_)
                              have i249 : v249.toInt = 44 * k0.toInt := by rw [e249]; exact mulcL rfl (by omega) (by omega)
                              refine lv_bipush (v := 11) hx hb dX10_keep_250 (by decide) ?_
                              refine lv_iadd hx hb dX10_keep_252 ?_
                              refine lv_topi (fun v252 e252 => ?_)
                              have i252 : v252.toInt = v249.toInt + (11 : Int32).toInt := by rw [e252]; exact fb_addI (by omega) (by omega)
                              refine lv_iload hx hb dX10_keep_253 (lv_at hl 0 rfl) ?_
                              refine lv_iadd hx hb dX10_keep_255 ?_
                              refine lv_topi (fun v255 e255 => ?_)
                              have i255 : v255.toInt = v252.toInt + (nI i).toInt := by rw [e255]; exact fb_addI (by omega) (by omega)
                              refine lv_aload_n hx hb dX10_keep_256 rfl (lv_at hl 2 rfl) ?_
                              refine m_get (v := .ref (a 4)) hx hb hts hin hown hK hP 4 (by decide) rfl (hts (.fieldLink RX10 16 "ShadowBenchModel" "high" "[I") (by decide +kernel)) rfl dX10_keep_257 ?_
                              refine lv_iload_n hx hb dX10_keep_260 rfl (lv_at hl 5 rfl) ?_
                              refine m_iald (w := (r 4)) hx hb hK hP 3 rfl (vp_in_iff.mpr ⟨by omega, by omega⟩) dX10_keep_261 ?_
                              refine lv_topi (fun v261 e261 => ?_)
                              have i261 : v261.toInt = ((r 4) k0.toNatClampNeg).toInt := congrArg Int32.toInt e261
                              have w261 := mi_h hI (x := k0) (by omega) (by omega) e261
                              refine lv_isub hx hb dX10_keep_262 ?_
                              refine lv_topi (fun v262 e262 => ?_)
                              have i262 : v262.toInt = v255.toInt - v261.toInt := by rw [e262]; exact fb_subI (by omega) (by omega)
                              refine m_iald (w := (r 5)) hx hb hK hP 4 rfl (vp_in_iff.mpr ⟨by omega, by omega⟩) dX10_keep_263 ?_
                              refine lv_topi (fun v263 e263 => ?_)
                              have i263 : v263.toInt = ((r 5) v262.toNatClampNeg).toInt := congrArg Int32.toInt e263
                              refine lv_i2l (v := v263.toInt64) hx hb dX10_keep_264 rfl ?_
                              refine m_last (w := s3) hx hb hK hP hD hS 21 rfl (vp_in_iff.mpr ⟨by omega, by omega⟩) (va_up (va_up q 33 s3) 33 (vp_updL s3 v198.toNatClampNeg v263.toInt64)) (ms_33 cy mo a _ _ _ _ _) dX10_keep_265 (fun H locs hP hS => ?_)
                              have hP := wm_eq rfl rfl rfl (es_q_33__33 q s3 (vp_updL s3 v198.toNatClampNeg v263.toInt64)) hP
                              refine lv_iinc (v := (nI (i + 1))) (lv' := [(7, .int (nI (i + 1))), (6, .int (1 : Int32)), (0, .ref mo), (1, .int d), (2, .int what), (3, .int k0), (4, .long p0)]) hx hb dX10_keep_266 hl (k := 0) rfl (nI_1 _) (by decide) rfl (fun ls hl => ?_)
                              refine lv_goto (tgt := 177) hx hb dX10_keep_269 (by decide) ?_
                              have hP := wm_eq rfl rfl (ec_r_29_30_31_32__29_30_31_32 r ((upd (r 29) d.toNatClampNeg what)) ((upd (r 30) d.toNatClampNeg v131)) ((upd (r 31) d.toNatClampNeg r149)) ((upd (r 32) d.toNatClampNeg k0))) rfl hP
                              exact ih_177 (i + 1) (vp_updL s3 v198.toNatClampNeg v263.toInt64) (by omega) (by omega) _ _ hP hS ls (lv_sub hl [0, 1, 2, 3, 4, 5, 6] rfl)
                            · skip
                              have d223 := c223
                              rw [fa_le] at d223
                              refine lv_aload_n hx hb dX10_keep_226 rfl (lv_at hl 2 rfl) ?_
                              refine m_get (v := .ref (a 5)) hx hb hts hin hown hK hP 5 (by decide) rfl (hts (.fieldLink RX10 19 "ShadowBenchModel" "sums" "[I") (by decide +kernel)) rfl dX10_keep_227 ?_
                              refine lv_bipush (v := 44) hx hb dX10_keep_230 (by decide) ?_
                              refine lv_iload_n hx hb dX10_keep_232 rfl (lv_at hl 5 rfl) ?_
                              refine lv_imul hx hb dX10_keep_233 ?_
                              refine lv_topi (fun v233 e233 => ?_)
                              have i233 : v233.toInt = 44 * k0.toInt := by rw [e233]; exact mulcL rfl (by omega) (by omega)
                              refine lv_iload hx hb dX10_keep_234 (lv_at hl 0 rfl) ?_
                              refine lv_iadd hx hb dX10_keep_236 ?_
                              refine lv_topi (fun v236 e236 => ?_)
                              have i236 : v236.toInt = v233.toInt + (nI i).toInt := by rw [e236]; exact fb_addI (by omega) (by omega)
                              refine m_iald (w := (r 5)) hx hb hK hP 4 rfl (vp_in_iff.mpr ⟨by omega, by omega⟩) dX10_keep_237 ?_
                              refine lv_topi (fun v237 e237 => ?_)
                              have i237 : v237.toInt = ((r 5) v236.toNatClampNeg).toInt := congrArg Int32.toInt e237
                              refine lv_i2l (v := v237.toInt64) hx hb dX10_keep_238 rfl ?_
                              refine lv_goto (tgt := 265) hx hb dX10_keep_239 (by decide) ?_
                              refine m_last (w := s3) hx hb hK hP hD hS 21 rfl (vp_in_iff.mpr ⟨by omega, by omega⟩) (va_up (va_up q 33 s3) 33 (vp_updL s3 v198.toNatClampNeg v237.toInt64)) (ms_33 cy mo a _ _ _ _ _) dX10_keep_265 (fun H locs hP hS => ?_)
                              have hP := wm_eq rfl rfl rfl (es_q_33__33 q s3 (vp_updL s3 v198.toNatClampNeg v237.toInt64)) hP
                              refine lv_iinc (v := (nI (i + 1))) (lv' := [(7, .int (nI (i + 1))), (6, .int (1 : Int32)), (0, .ref mo), (1, .int d), (2, .int what), (3, .int k0), (4, .long p0)]) hx hb dX10_keep_266 hl (k := 0) rfl (nI_1 _) (by decide) rfl (fun ls hl => ?_)
                              refine lv_goto (tgt := 177) hx hb dX10_keep_269 (by decide) ?_
                              have hP := wm_eq rfl rfl (ec_r_29_30_31_32__29_30_31_32 r ((upd (r 29) d.toNatClampNeg what)) ((upd (r 30) d.toNatClampNeg v131)) ((upd (r 31) d.toNatClampNeg r149)) ((upd (r 32) d.toNatClampNeg k0))) rfl hP
                              exact ih_177 (i + 1) (vp_updL s3 v198.toNatClampNeg v237.toInt64) (by omega) (by omega) _ _ hP hS ls (lv_sub hl [0, 1, 2, 3, 4, 5, 6] rfl)
                          · first | exact absurd c201 c95 | exact absurd c95 c201
                    have hP := wm_eq rfl rfl (ec_r_29_30_31_32__29_30_31_32 r ((upd (r 29) d.toNatClampNeg what)) ((upd (r 30) d.toNatClampNeg v131)) ((upd (r 31) d.toNatClampNeg r149)) ((upd (r 32) d.toNatClampNeg k0))) (ec_q___33 q ) hP
                    exact loop_177 (60 + 1) 0 (q 33) (by omega) (by omega) _ _ hP hS ls (lv_sub hl [0, 1, 2, 3, 4, 5, 6] rfl)
                  · skip
                    have d164 := c164
                    rw [fa_eq] at d164
                    refine lv_bipush (v := (-15)) hx hb dX10_keep_167 (by decide) ?_
                    refine lv_goto (tgt := 173) hx hb dX10_keep_169 (by decide) ?_
                    refine m_iast (w := (r 32)) hx hb hK hP hD hS 20 rfl (vp_in_iff.mpr ⟨by omega, by omega⟩) (va_up (va_up (va_up (va_up r 29 ((upd (r 29) d.toNatClampNeg what))) 30 ((upd (r 30) d.toNatClampNeg v131))) 31 ((upd (r 31) d.toNatClampNeg r149))) 32 (upd (r 32) d.toNatClampNeg (((-15) : Int32)))) (ms_32 cy mo a _ _ _ _ _) dX10_keep_173 (fun H locs hP hS => ?_)
                    refine lv_iconst (v := 0) hx hb dX10_keep_174 (by decide) ?_
                    refine lv_istore (lv' := [(7, .int (0 : Int32)), (6, .int (1 : Int32)), (0, .ref mo), (1, .int d), (2, .int what), (3, .int k0), (4, .long p0)]) hx hb dX10_keep_175 hl (by decide) rfl (fun ls hl => ?_)
                    have loop_177 : ∀ (n : Nat) (i : Nat) (s3 : Nat → Int64), (i ≤ 60) → 60 - i < n → ∀ (H : Heap) (locs : List Loc), va_P D vwCl (WM cy mo a (upd f 0 (0 : Int32)) g (va_up (va_up (va_up (va_up r 29 ((upd (r 29) d.toNatClampNeg what))) 30 ((upd (r 30) d.toNatClampNeg v131))) 31 ((upd (r 31) d.toNatClampNeg r149))) 32 ((upd (r 32) d.toNatClampNeg (((-15) : Int32))))) (va_up q 33 s3)) H → va_S (AM mo a) s.heap H locs → ∀ (ls : Array Slot), lv_has ls 8 [(7, .int (nI i)), (6, .int (1 : Int32)), (0, .ref mo), (1, .int d), (2, .int what), (3, .int k0), (4, .long p0)] → W p l e (headSpec wsX10_keep ({ frames := 3, cells := 0, slots := 0, locals := 69 })).room s m #[Value.ref mo, Value.int d, Value.int what, Value.int k0, Value.long p0] below meth c H locs 0 0 (MQ below (va_Qi (fun r0 u => ∃ (sh : Nat → Int32), ∃ (sz : Nat → Int32), ∃ (sw : Nat → Int32), ∃ (sf : Nat → Int32), ∃ (sr : Nat → Int64), u = ((upd f 0 (0 : Int32)), g, (va_up (va_up (va_up (va_up r 29 sh) 30 sz) 31 sw) 32 sf), (va_up q 33 sr)) ∧ (yesNo (okKeep (f 1) (fun j9 => (r 3 j9).toNatClampNeg) (fun j9 => (r 4 j9).toNatClampNeg) d what k0 p0) 0 (-1) r0 ∧ MI (upd f 0 (0 : Int32)) (va_up (va_up (va_up (va_up r 29 sh) 30 sz) 31 sw) 32 sf))) (mB D cy mo a) (AM mo a)) #[Value.ref mo, Value.int d, Value.int what, Value.int k0, Value.long p0] s 0 0 (AM mo a)) (F0 m 177 ls []) := by
                      intro n
                      induction n with
                      | zero => intro i s3 j177_0 hn; exact absurd hn (Nat.not_lt_zero _)
                      | succ n ih_177 =>
                        intro i s3 j177_0 hn_177 H locs hP hS ls hl
                        have ii : (nI i).toInt = (i : Int) := nI_toInt (by omega)
                        refine lv_iload hx hb dX10_keep_177 (lv_at hl 0 rfl) ?_
                        refine lv_aload_n hx hb dX10_keep_179 rfl (lv_at hl 2 rfl) ?_
                        refine m_get (v := .ref (a 30)) hx hb hts hin hown hK hP 30 (by decide) rfl (hts (.fieldLink RX10 64 "ShadowBenchModel" "shelfSize" "[I") (by decide +kernel)) rfl dX10_keep_180 ?_
                        refine lv_iload_n hx hb dX10_keep_183 rfl (lv_at hl 3 rfl) ?_
                        refine m_iald (w := ((upd (r 30) d.toNatClampNeg v131))) hx hb hK hP 18 rfl (vp_in_iff.mpr ⟨by omega, by omega⟩) dX10_keep_184 ?_
                        refine lv_topi (fun v184 e184 => ?_)
                        have i184 : v184.toInt = (((upd (r 30) d.toNatClampNeg v131)) d.toNatClampNeg).toInt := congrArg Int32.toInt e184
                        have z184 := e184
                        simp only [upd, if_true] at z184
                        have y184 := congrArg Int32.toInt z184
                        refine lv_icmp_ge (tgt := 272) hx hb dX10_keep_185 (by decide) (fun c185 => ?_) (fun c185 => ?_)
                        · skip
                          have d185 := c185
                          rw [fa_le] at d185
                          refine lv_iconst (v := 0) hx hb dX10_keep_272 (by decide) ?_
                          have hP := wm_eq rfl rfl (ec_r_29_30_31_32__29_30_31_32 r ((upd (r 29) d.toNatClampNeg what)) ((upd (r 30) d.toNatClampNeg v131)) ((upd (r 31) d.toNatClampNeg r149)) ((upd (r 32) d.toNatClampNeg (((-15) : Int32))))) rfl hP
                          exact W.iret (v := (0 : Int32)) hx hb hr (fun t ht hW => ⟨⟨_, ((upd f 0 (0 : Int32)), g, (va_up (va_up (va_up (va_up r 29 (((upd (r 29) d.toNatClampNeg what)))) 30 (((upd (r 30) d.toNatClampNeg v131)))) 31 (((upd (r 31) d.toNatClampNeg r149)))) 32 (((upd (r 32) d.toNatClampNeg (((-15) : Int32)))))), (va_up q 33 s3)), rfl, ⟨((upd (r 29) d.toNatClampNeg what)), ((upd (r 30) d.toNatClampNeg v131)), ((upd (r 31) d.toNatClampNeg r149)), ((upd (r 32) d.toNatClampNeg (((-15) : Int32)))), s3, rfl, ⟨(Or.inl ⟨⟨b9, (by unfold okJob; first | exact Or.inl (by omega) | exact Or.inr (Or.inl ⟨by omega, b31⟩) | (have z9 := goodP_of b64; subst e52; subst e58; exact Or.inr (Or.inr ⟨by omega, b44, z9.2⟩)))⟩, rfl⟩), by first | exact hI | exact mi_sz (d := d) hI (v := v110) (by omega) rfl rfl rfl rfl rfl rfl rfl rfl | exact mi_sz (d := d) hI (v := v131) (by omega) rfl rfl rfl rfl rfl rfl rfl rfl | exact mi_sz (d := d) hI (v := 0) (by decide) rfl rfl rfl rfl rfl rfl rfl rfl⟩⟩, by unfold mB; rw [ht]; exact hP⟩, hS.F ht⟩) hS.2.2 dX10_keep_273
                        · skip
                          have d185 := c185
                          rw [fa_le] at d185
                          refine lv_aload_n hx hb dX10_keep_188 rfl (lv_at hl 2 rfl) ?_
                          refine m_get (v := .ref (a 33)) hx hb hts hin hown hK hP 33 (by decide) rfl (hts (.fieldLink RX10 73 "ShadowBenchModel" "shelfRow" "[J") (by decide +kernel)) rfl dX10_keep_189 ?_
                          refine lv_bipush (v := 60) hx hb dX10_keep_192 (by decide) ?_
                          refine lv_iload_n hx hb dX10_keep_194 rfl (lv_at hl 3 rfl) ?_
                          refine lv_imul hx hb dX10_keep_195 ?_
                          refine lv_topi (fun v195 e195 => ?_)
                          have i195 : v195.toInt = 60 * d.toInt := by rw [e195]; exact mulcL rfl (by omega) (by omega)
                          refine lv_iload hx hb dX10_keep_196 (lv_at hl 0 rfl) ?_
                          refine lv_iadd hx hb dX10_keep_198 ?_
                          refine lv_topi (fun v198 e198 => ?_)
                          have i198 : v198.toInt = v195.toInt + (nI i).toInt := by rw [e198]; exact fb_addI (by omega) (by omega)
                          refine lv_iload_n hx hb dX10_keep_199 rfl (lv_at hl 4 rfl) ?_
                          refine lv_iconst (v := 3) hx hb dX10_keep_200 (by decide) ?_
                          refine lv_icmp_ne (tgt := 215) hx hb dX10_keep_201 (by decide) (fun c201 => ?_) (fun c201 => ?_)
                          · skip
                            have d201 := c201
                            rw [fa_eq] at d201
                            refine lv_iload hx hb dX10_keep_215 (lv_at hl 0 rfl) ?_
                            refine lv_aload_n hx hb dX10_keep_217 rfl (lv_at hl 2 rfl) ?_
                            refine m_get (v := .ref (a 4)) hx hb hts hin hown hK hP 4 (by decide) rfl (hts (.fieldLink RX10 16 "ShadowBenchModel" "high" "[I") (by decide +kernel)) rfl dX10_keep_218 ?_
                            refine lv_iload_n hx hb dX10_keep_221 rfl (lv_at hl 5 rfl) ?_
                            refine m_iald (w := (r 4)) hx hb hK hP 3 rfl (vp_in_iff.mpr ⟨by omega, by omega⟩) dX10_keep_222 ?_
                            refine lv_topi (fun v222 e222 => ?_)
                            have i222 : v222.toInt = ((r 4) k0.toNatClampNeg).toInt := congrArg Int32.toInt e222
                            have w222 := mi_h hI (x := k0) (by omega) (by omega) e222
                            refine lv_icmp_ge (tgt := 242) hx hb dX10_keep_223 (by decide) (fun c223 => ?_) (fun c223 => ?_)
                            · skip
                              have d223 := c223
                              rw [fa_le] at d223
                              refine lv_aload_n hx hb dX10_keep_242 rfl (lv_at hl 2 rfl) ?_
                              refine m_get (v := .ref (a 5)) hx hb hts hin hown hK hP 5 (by decide) rfl (hts (.fieldLink RX10 19 "ShadowBenchModel" "sums" "[I") (by decide +kernel)) rfl dX10_keep_243 ?_
                              refine lv_bipush (v := 44) hx hb dX10_keep_246 (by decide) ?_
                              refine lv_iload_n hx hb dX10_keep_248 rfl (lv_at hl 5 rfl) ?_
                              refine lv_imul hx hb dX10_keep_249 ?_
                              refine lv_topi (fun v249 e249 => ?_)
                              have i249 : v249.toInt = 44 * k0.toInt := by rw [e249]; exact mulcL rfl (by omega) (by omega)
                              refine lv_bipush (v := 11) hx hb dX10_keep_250 (by decide) ?_
                              refine lv_iadd hx hb dX10_keep_252 ?_
                              refine lv_topi (fun v252 e252 => ?_)
                              have i252 : v252.toInt = v249.toInt + (11 : Int32).toInt := by rw [e252]; exact fb_addI (by omega) (by omega)
                              refine lv_iload hx hb dX10_keep_253 (lv_at hl 0 rfl) ?_
                              refine lv_iadd hx hb dX10_keep_255 ?_
                              refine lv_topi (fun v255 e255 => ?_)
                              have i255 : v255.toInt = v252.toInt + (nI i).toInt := by rw [e255]; exact fb_addI (by omega) (by omega)
                              refine lv_aload_n hx hb dX10_keep_256 rfl (lv_at hl 2 rfl) ?_
                              refine m_get (v := .ref (a 4)) hx hb hts hin hown hK hP 4 (by decide) rfl (hts (.fieldLink RX10 16 "ShadowBenchModel" "high" "[I") (by decide +kernel)) rfl dX10_keep_257 ?_
                              refine lv_iload_n hx hb dX10_keep_260 rfl (lv_at hl 5 rfl) ?_
                              refine m_iald (w := (r 4)) hx hb hK hP 3 rfl (vp_in_iff.mpr ⟨by omega, by omega⟩) dX10_keep_261 ?_
                              refine lv_topi (fun v261 e261 => ?_)
                              have i261 : v261.toInt = ((r 4) k0.toNatClampNeg).toInt := congrArg Int32.toInt e261
                              have w261 := mi_h hI (x := k0) (by omega) (by omega) e261
                              refine lv_isub hx hb dX10_keep_262 ?_
                              refine lv_topi (fun v262 e262 => ?_)
                              have i262 : v262.toInt = v255.toInt - v261.toInt := by rw [e262]; exact fb_subI (by omega) (by omega)
                              refine m_iald (w := (r 5)) hx hb hK hP 4 rfl (vp_in_iff.mpr ⟨by omega, by omega⟩) dX10_keep_263 ?_
                              refine lv_topi (fun v263 e263 => ?_)
                              have i263 : v263.toInt = ((r 5) v262.toNatClampNeg).toInt := congrArg Int32.toInt e263
                              refine lv_i2l (v := v263.toInt64) hx hb dX10_keep_264 rfl ?_
                              refine m_last (w := s3) hx hb hK hP hD hS 21 rfl (vp_in_iff.mpr ⟨by omega, by omega⟩) (va_up (va_up q 33 s3) 33 (vp_updL s3 v198.toNatClampNeg v263.toInt64)) (ms_33 cy mo a _ _ _ _ _) dX10_keep_265 (fun H locs hP hS => ?_)
                              have hP := wm_eq rfl rfl rfl (es_q_33__33 q s3 (vp_updL s3 v198.toNatClampNeg v263.toInt64)) hP
                              refine lv_iinc (v := (nI (i + 1))) (lv' := [(7, .int (nI (i + 1))), (6, .int (1 : Int32)), (0, .ref mo), (1, .int d), (2, .int what), (3, .int k0), (4, .long p0)]) hx hb dX10_keep_266 hl (k := 0) rfl (nI_1 _) (by decide) rfl (fun ls hl => ?_)
                              refine lv_goto (tgt := 177) hx hb dX10_keep_269 (by decide) ?_
                              have hP := wm_eq rfl rfl (ec_r_29_30_31_32__29_30_31_32 r ((upd (r 29) d.toNatClampNeg what)) ((upd (r 30) d.toNatClampNeg v131)) ((upd (r 31) d.toNatClampNeg r149)) ((upd (r 32) d.toNatClampNeg (((-15) : Int32))))) rfl hP
                              exact ih_177 (i + 1) (vp_updL s3 v198.toNatClampNeg v263.toInt64) (by omega) (by omega) _ _ hP hS ls (lv_sub hl [0, 1, 2, 3, 4, 5, 6] rfl)
                            · skip
                              have d223 := c223
                              rw [fa_le] at d223
                              refine lv_aload_n hx hb dX10_keep_226 rfl (lv_at hl 2 rfl) ?_
                              refine m_get (v := .ref (a 5)) hx hb hts hin hown hK hP 5 (by decide) rfl (hts (.fieldLink RX10 19 "ShadowBenchModel" "sums" "[I") (by decide +kernel)) rfl dX10_keep_227 ?_
                              refine lv_bipush (v := 44) hx hb dX10_keep_230 (by decide) ?_
                              refine lv_iload_n hx hb dX10_keep_232 rfl (lv_at hl 5 rfl) ?_
                              refine lv_imul hx hb dX10_keep_233 ?_
                              refine lv_topi (fun v233 e233 => ?_)
                              have i233 : v233.toInt = 44 * k0.toInt := by rw [e233]; exact mulcL rfl (by omega) (by omega)
                              refine lv_iload hx hb dX10_keep_234 (lv_at hl 0 rfl) ?_
                              refine lv_iadd hx hb dX10_keep_236 ?_
                              refine lv_topi (fun v236 e236 => ?_)
                              have i236 : v236.toInt = v233.toInt + (nI i).toInt := by rw [e236]; exact fb_addI (by omega) (by omega)
                              refine m_iald (w := (r 5)) hx hb hK hP 4 rfl (vp_in_iff.mpr ⟨by omega, by omega⟩) dX10_keep_237 ?_
                              refine lv_topi (fun v237 e237 => ?_)
                              have i237 : v237.toInt = ((r 5) v236.toNatClampNeg).toInt := congrArg Int32.toInt e237
                              refine lv_i2l (v := v237.toInt64) hx hb dX10_keep_238 rfl ?_
                              refine lv_goto (tgt := 265) hx hb dX10_keep_239 (by decide) ?_
                              refine m_last (w := s3) hx hb hK hP hD hS 21 rfl (vp_in_iff.mpr ⟨by omega, by omega⟩) (va_up (va_up q 33 s3) 33 (vp_updL s3 v198.toNatClampNeg v237.toInt64)) (ms_33 cy mo a _ _ _ _ _) dX10_keep_265 (fun H locs hP hS => ?_)
                              have hP := wm_eq rfl rfl rfl (es_q_33__33 q s3 (vp_updL s3 v198.toNatClampNeg v237.toInt64)) hP
                              refine lv_iinc (v := (nI (i + 1))) (lv' := [(7, .int (nI (i + 1))), (6, .int (1 : Int32)), (0, .ref mo), (1, .int d), (2, .int what), (3, .int k0), (4, .long p0)]) hx hb dX10_keep_266 hl (k := 0) rfl (nI_1 _) (by decide) rfl (fun ls hl => ?_)
                              refine lv_goto (tgt := 177) hx hb dX10_keep_269 (by decide) ?_
                              have hP := wm_eq rfl rfl (ec_r_29_30_31_32__29_30_31_32 r ((upd (r 29) d.toNatClampNeg what)) ((upd (r 30) d.toNatClampNeg v131)) ((upd (r 31) d.toNatClampNeg r149)) ((upd (r 32) d.toNatClampNeg (((-15) : Int32))))) rfl hP
                              exact ih_177 (i + 1) (vp_updL s3 v198.toNatClampNeg v237.toInt64) (by omega) (by omega) _ _ hP hS ls (lv_sub hl [0, 1, 2, 3, 4, 5, 6] rfl)
                          · first | exact absurd c201 c95 | exact absurd c95 c201
                    have hP := wm_eq rfl rfl (ec_r_29_30_31_32__29_30_31_32 r ((upd (r 29) d.toNatClampNeg what)) ((upd (r 30) d.toNatClampNeg v131)) ((upd (r 31) d.toNatClampNeg r149)) ((upd (r 32) d.toNatClampNeg (((-15) : Int32))))) (ec_q___33 q ) hP
                    exact loop_177 (60 + 1) 0 (q 33) (by omega) (by omega) _ _ hP hS ls (lv_sub hl [0, 1, 2, 3, 4, 5, 6] rfl)
            · skip
              have d95 := c95
              rw [fa_eq] at d95
              refine lv_aload_n hx hb dX10_keep_98 rfl (lv_at hl 1 rfl) ?_
              refine m_get (v := .ref (a 3)) hx hb hts hin hown hK hP 3 (by decide) rfl (hts (.fieldLink RX10 13 "ShadowBenchModel" "wide" "[I") (by decide +kernel)) rfl dX10_keep_99 ?_
              refine lv_iload_n hx hb dX10_keep_102 rfl (lv_at hl 4 rfl) ?_
              refine m_iald (w := (r 3)) hx hb hK hP 2 rfl (vp_in_iff.mpr ⟨by omega, by omega⟩) dX10_keep_103 ?_
              refine lv_topi (fun v103 e103 => ?_)
              have i103 : v103.toInt = ((r 3) k0.toNatClampNeg).toInt := congrArg Int32.toInt e103
              have w103 := mi_w hI (x := k0) (by omega) (by omega) e103
              refine lv_aload_n hx hb dX10_keep_104 rfl (lv_at hl 1 rfl) ?_
              refine m_get (v := .ref (a 4)) hx hb hts hin hown hK hP 4 (by decide) rfl (hts (.fieldLink RX10 16 "ShadowBenchModel" "high" "[I") (by decide +kernel)) rfl dX10_keep_105 ?_
              refine lv_iload_n hx hb dX10_keep_108 rfl (lv_at hl 4 rfl) ?_
              refine m_iald (w := (r 4)) hx hb hK hP 3 rfl (vp_in_iff.mpr ⟨by omega, by omega⟩) dX10_keep_109 ?_
              refine lv_topi (fun v109 e109 => ?_)
              have i109 : v109.toInt = ((r 4) k0.toNatClampNeg).toInt := congrArg Int32.toInt e109
              have w109 := mi_h hI (x := k0) (by omega) (by omega) e109
              have m110 := mul66 w103 w109
              refine lv_imul hx hb dX10_keep_110 ?_
              refine lv_topi (fun v110 e110 => ?_)
              have i110 : v110.toInt = v103.toInt * v109.toInt := by rw [e110]; exact fb_mulI (by omega) (by omega)
              refine lv_goto (tgt := 136) hx hb dX10_keep_111 (by decide) ?_
              refine m_iast (w := (r 30)) hx hb hK hP hD hS 18 rfl (vp_in_iff.mpr ⟨by omega, by omega⟩) (va_up (va_up r 29 ((upd (r 29) d.toNatClampNeg what))) 30 (upd (r 30) d.toNatClampNeg v110)) (ms_30 cy mo a _ _ _ _ _) dX10_keep_136 (fun H locs hP hS => ?_)
              refine lv_iload_n hx hb dX10_keep_137 rfl (lv_at hl 3 rfl) ?_
              refine lv_iconst (v := 1) hx hb dX10_keep_138 (by decide) ?_
              refine lv_icmp_ne (tgt := 174) hx hb dX10_keep_139 (by decide) (fun c139 => ?_) (fun c139 => ?_)
              · skip
                have d139 := c139
                rw [fa_eq] at d139
                refine lv_iconst (v := 0) hx hb dX10_keep_174 (by decide) ?_
                refine lv_istore (lv' := [(7, .int (0 : Int32)), (6, .int (1 : Int32)), (0, .ref mo), (1, .int d), (2, .int what), (3, .int k0), (4, .long p0)]) hx hb dX10_keep_175 hl (by decide) rfl (fun ls hl => ?_)
                have loop_177 : ∀ (n : Nat) (i : Nat) (s3 : Nat → Int64), (i ≤ 60) → 60 - i < n → ∀ (H : Heap) (locs : List Loc), va_P D vwCl (WM cy mo a (upd f 0 (0 : Int32)) g (va_up (va_up r 29 ((upd (r 29) d.toNatClampNeg what))) 30 ((upd (r 30) d.toNatClampNeg v110))) (va_up q 33 s3)) H → va_S (AM mo a) s.heap H locs → ∀ (ls : Array Slot), lv_has ls 8 [(7, .int (nI i)), (6, .int (1 : Int32)), (0, .ref mo), (1, .int d), (2, .int what), (3, .int k0), (4, .long p0)] → W p l e (headSpec wsX10_keep ({ frames := 3, cells := 0, slots := 0, locals := 69 })).room s m #[Value.ref mo, Value.int d, Value.int what, Value.int k0, Value.long p0] below meth c H locs 0 0 (MQ below (va_Qi (fun r0 u => ∃ (sh : Nat → Int32), ∃ (sz : Nat → Int32), ∃ (sw : Nat → Int32), ∃ (sf : Nat → Int32), ∃ (sr : Nat → Int64), u = ((upd f 0 (0 : Int32)), g, (va_up (va_up (va_up (va_up r 29 sh) 30 sz) 31 sw) 32 sf), (va_up q 33 sr)) ∧ (yesNo (okKeep (f 1) (fun j9 => (r 3 j9).toNatClampNeg) (fun j9 => (r 4 j9).toNatClampNeg) d what k0 p0) 0 (-1) r0 ∧ MI (upd f 0 (0 : Int32)) (va_up (va_up (va_up (va_up r 29 sh) 30 sz) 31 sw) 32 sf))) (mB D cy mo a) (AM mo a)) #[Value.ref mo, Value.int d, Value.int what, Value.int k0, Value.long p0] s 0 0 (AM mo a)) (F0 m 177 ls []) := by
                  intro n
                  induction n with
                  | zero => intro i s3 j177_0 hn; exact absurd hn (Nat.not_lt_zero _)
                  | succ n ih_177 =>
                    intro i s3 j177_0 hn_177 H locs hP hS ls hl
                    have ii : (nI i).toInt = (i : Int) := nI_toInt (by omega)
                    refine lv_iload hx hb dX10_keep_177 (lv_at hl 0 rfl) ?_
                    refine lv_aload_n hx hb dX10_keep_179 rfl (lv_at hl 2 rfl) ?_
                    refine m_get (v := .ref (a 30)) hx hb hts hin hown hK hP 30 (by decide) rfl (hts (.fieldLink RX10 64 "ShadowBenchModel" "shelfSize" "[I") (by decide +kernel)) rfl dX10_keep_180 ?_
                    refine lv_iload_n hx hb dX10_keep_183 rfl (lv_at hl 3 rfl) ?_
                    refine m_iald (w := ((upd (r 30) d.toNatClampNeg v110))) hx hb hK hP 18 rfl (vp_in_iff.mpr ⟨by omega, by omega⟩) dX10_keep_184 ?_
                    refine lv_topi (fun v184 e184 => ?_)
                    have i184 : v184.toInt = (((upd (r 30) d.toNatClampNeg v110)) d.toNatClampNeg).toInt := congrArg Int32.toInt e184
                    have z184 := e184
                    simp only [upd, if_true] at z184
                    have y184 := congrArg Int32.toInt z184
                    refine lv_icmp_ge (tgt := 272) hx hb dX10_keep_185 (by decide) (fun c185 => ?_) (fun c185 => ?_)
                    · skip
                      have d185 := c185
                      rw [fa_le] at d185
                      refine lv_iconst (v := 0) hx hb dX10_keep_272 (by decide) ?_
                      have hP := wm_eq rfl rfl (ec_r_29_30__29_30_31_32 r ((upd (r 29) d.toNatClampNeg what)) ((upd (r 30) d.toNatClampNeg v110))) rfl hP
                      exact W.iret (v := (0 : Int32)) hx hb hr (fun t ht hW => ⟨⟨_, ((upd f 0 (0 : Int32)), g, (va_up (va_up (va_up (va_up r 29 (((upd (r 29) d.toNatClampNeg what)))) 30 (((upd (r 30) d.toNatClampNeg v110)))) 31 (r 31)) 32 (r 32)), (va_up q 33 s3)), rfl, ⟨((upd (r 29) d.toNatClampNeg what)), ((upd (r 30) d.toNatClampNeg v110)), (r 31), (r 32), s3, rfl, ⟨(Or.inl ⟨⟨b9, (by unfold okJob; first | exact Or.inl (by omega) | exact Or.inr (Or.inl ⟨by omega, b31⟩) | (have z9 := goodP_of b64; subst e52; subst e58; exact Or.inr (Or.inr ⟨by omega, b44, z9.2⟩)))⟩, rfl⟩), by first | exact hI | exact mi_sz (d := d) hI (v := v110) (by omega) rfl rfl rfl rfl rfl rfl rfl rfl | exact mi_sz (d := d) hI (v := v131) (by omega) rfl rfl rfl rfl rfl rfl rfl rfl | exact mi_sz (d := d) hI (v := 0) (by decide) rfl rfl rfl rfl rfl rfl rfl rfl⟩⟩, by unfold mB; rw [ht]; exact hP⟩, hS.F ht⟩) hS.2.2 dX10_keep_273
                    · skip
                      have d185 := c185
                      rw [fa_le] at d185
                      refine lv_aload_n hx hb dX10_keep_188 rfl (lv_at hl 2 rfl) ?_
                      refine m_get (v := .ref (a 33)) hx hb hts hin hown hK hP 33 (by decide) rfl (hts (.fieldLink RX10 73 "ShadowBenchModel" "shelfRow" "[J") (by decide +kernel)) rfl dX10_keep_189 ?_
                      refine lv_bipush (v := 60) hx hb dX10_keep_192 (by decide) ?_
                      refine lv_iload_n hx hb dX10_keep_194 rfl (lv_at hl 3 rfl) ?_
                      refine lv_imul hx hb dX10_keep_195 ?_
                      refine lv_topi (fun v195 e195 => ?_)
                      have i195 : v195.toInt = 60 * d.toInt := by rw [e195]; exact mulcL rfl (by omega) (by omega)
                      refine lv_iload hx hb dX10_keep_196 (lv_at hl 0 rfl) ?_
                      refine lv_iadd hx hb dX10_keep_198 ?_
                      refine lv_topi (fun v198 e198 => ?_)
                      have i198 : v198.toInt = v195.toInt + (nI i).toInt := by rw [e198]; exact fb_addI (by omega) (by omega)
                      refine lv_iload_n hx hb dX10_keep_199 rfl (lv_at hl 4 rfl) ?_
                      refine lv_iconst (v := 3) hx hb dX10_keep_200 (by decide) ?_
                      refine lv_icmp_ne (tgt := 215) hx hb dX10_keep_201 (by decide) (fun c201 => ?_) (fun c201 => ?_)
                      · first | exact absurd c201 c95 | exact absurd c95 c201
                      · skip
                        have d201 := c201
                        rw [fa_eq] at d201
                        refine lv_lload hx hb dX10_keep_204 (lv_at hl 6 rfl) ?_
                        refine lv_iload hx hb dX10_keep_206 (lv_at hl 0 rfl) ?_
                        refine m_pu (As := [.long p0, .int (nI i)]) (rest := [.int v198, .ref (a 33)]) ⟨hx, hb, hml, hown, hts⟩ (c_X10_one l p0 (nI i) ) (va_cwS 2 hts gX10_keep_X10_one rfl rfl rfl (by decide +kernel) ⟨Nat.le_of_ble_eq_true rfl, Nat.le_of_ble_eq_true rfl⟩) hP rfl hl.1 rfl (Nat.le_of_ble_eq_true rfl) dX10_keep_208 ⟨Nat.le_of_ble_eq_true rfl, Nat.le_of_ble_eq_true rfl⟩ hS (fun r208 H locs q208 hP hS => ?_)
                        have i208 : r208.toInt = (r_one p0 (nI i)).toInt := congrArg Int32.toInt q208
                        refine lv_i2l (v := r208.toInt64) hx hb dX10_keep_211 rfl ?_
                        refine lv_goto (tgt := 265) hx hb dX10_keep_212 (by decide) ?_
                        refine m_last (w := s3) hx hb hK hP hD hS 21 rfl (vp_in_iff.mpr ⟨by omega, by omega⟩) (va_up (va_up q 33 s3) 33 (vp_updL s3 v198.toNatClampNeg r208.toInt64)) (ms_33 cy mo a _ _ _ _ _) dX10_keep_265 (fun H locs hP hS => ?_)
                        have hP := wm_eq rfl rfl rfl (es_q_33__33 q s3 (vp_updL s3 v198.toNatClampNeg r208.toInt64)) hP
                        refine lv_iinc (v := (nI (i + 1))) (lv' := [(7, .int (nI (i + 1))), (6, .int (1 : Int32)), (0, .ref mo), (1, .int d), (2, .int what), (3, .int k0), (4, .long p0)]) hx hb dX10_keep_266 hl (k := 0) rfl (nI_1 _) (by decide) rfl (fun ls hl => ?_)
                        refine lv_goto (tgt := 177) hx hb dX10_keep_269 (by decide) ?_
                        have hP := wm_eq rfl rfl (ec_r_29_30__29_30 r ((upd (r 29) d.toNatClampNeg what)) ((upd (r 30) d.toNatClampNeg v110))) rfl hP
                        exact ih_177 (i + 1) (vp_updL s3 v198.toNatClampNeg r208.toInt64) (by omega) (by omega) _ _ hP hS ls (lv_sub hl [0, 1, 2, 3, 4, 5, 6] rfl)
                have hP := wm_eq rfl rfl (ec_r_29_30__29_30 r ((upd (r 29) d.toNatClampNeg what)) ((upd (r 30) d.toNatClampNeg v110))) (ec_q___33 q ) hP
                exact loop_177 (60 + 1) 0 (q 33) (by omega) (by omega) _ _ hP hS ls (lv_sub hl [0, 1, 2, 3, 4, 5, 6] rfl)
              · skip
                have d139 := c139
                rw [fa_eq] at d139
                refine lv_aload_n hx hb dX10_keep_142 rfl (lv_at hl 1 rfl) ?_
                refine m_get (v := .ref (a 31)) hx hb hts hin hown hK hP 31 (by decide) rfl (hts (.fieldLink RX10 67 "ShadowBenchModel" "shelfWeight" "[I") (by decide +kernel)) rfl dX10_keep_143 ?_
                refine lv_iload_n hx hb dX10_keep_146 rfl (lv_at hl 2 rfl) ?_
                refine lv_aload_n hx hb dX10_keep_147 rfl (lv_at hl 1 rfl) ?_
                refine lv_iload_n hx hb dX10_keep_148 rfl (lv_at hl 4 rfl) ?_
                refine m_calli (As := [.int k0]) (rest := [.int d, .ref (a 31)]) ⟨hx, hb, hml, hown, hts⟩ (c_X10_weightOf l D cy mo a (upd f 0 (0 : Int32)) g (va_up (va_up r 29 ((upd (r 29) d.toNatClampNeg what))) 30 ((upd (r 30) d.toNatClampNeg v110))) q k0 hD (by first | exact hI | exact mi_sz (d := d) hI (v := 0) (by first | omega | decide) rfl rfl rfl rfl rfl rfl rfl rfl | exact mi_sz (d := d) hI (v := v131) (by first | omega | decide) rfl rfl rfl rfl rfl rfl rfl rfl | exact mi_sz (d := d) hI (v := v110) (by first | omega | decide) rfl rfl rfl rfl rfl rfl rfl rfl) (show 0 ≤ k0.toInt ∧ k0.toInt < (f 1).toInt by omega)) (cwV 1 hts gX10_keep_X10_weightOf rfl rfl rfl (by decide +kernel) ⟨Nat.le_of_ble_eq_true rfl, Nat.le_of_ble_eq_true rfl⟩) hK hP rfl hl.1 rfl (Nat.le_of_ble_eq_true rfl) dX10_keep_149 ⟨Nat.le_of_ble_eq_true rfl, Nat.le_of_ble_eq_true rfl⟩ hS (fun r149 u H locs q149 hP hS => ?_)
                obtain ⟨rfl, q149⟩ := q149
                have hP : va_P D vwCl (WM cy mo a (upd f 0 (0 : Int32)) g (va_up (va_up r 29 ((upd (r 29) d.toNatClampNeg what))) 30 ((upd (r 30) d.toNatClampNeg v110))) q) H := hP
                have q149 : True := q149
                refine m_iast (w := (r 31)) hx hb hK hP hD hS 19 rfl (vp_in_iff.mpr ⟨by omega, by omega⟩) (va_up (va_up (va_up r 29 ((upd (r 29) d.toNatClampNeg what))) 30 ((upd (r 30) d.toNatClampNeg v110))) 31 (upd (r 31) d.toNatClampNeg r149)) (ms_31 cy mo a _ _ _ _ _) dX10_keep_152 (fun H locs hP hS => ?_)
                refine lv_aload_n hx hb dX10_keep_153 rfl (lv_at hl 1 rfl) ?_
                refine m_get (v := .ref (a 32)) hx hb hts hin hown hK hP 32 (by decide) rfl (hts (.fieldLink RX10 70 "ShadowBenchModel" "shelfFailure" "[I") (by decide +kernel)) rfl dX10_keep_154 ?_
                refine lv_iload_n hx hb dX10_keep_157 rfl (lv_at hl 2 rfl) ?_
                refine lv_aload_n hx hb dX10_keep_158 rfl (lv_at hl 1 rfl) ?_
                refine m_get (v := .ref (a 2)) hx hb hts hin hown hK hP 2 (by decide) rfl (hts (.fieldLink RX10 7 "ShadowBenchModel" "kind" "[I") (by decide +kernel)) rfl dX10_keep_159 ?_
                refine lv_iload_n hx hb dX10_keep_162 rfl (lv_at hl 4 rfl) ?_
                refine m_iald (w := (r 2)) hx hb hK hP 1 rfl (vp_in_iff.mpr ⟨by omega, by omega⟩) dX10_keep_163 ?_
                refine lv_topi (fun v163 e163 => ?_)
                have i163 : v163.toInt = ((r 2) k0.toNatClampNeg).toInt := congrArg Int32.toInt e163
                refine lv_if_ne (tgt := 172) hx hb dX10_keep_164 (by decide) (fun c164 => ?_) (fun c164 => ?_)
                · skip
                  have d164 := c164
                  rw [fa_eq] at d164
                  refine lv_iload_n hx hb dX10_keep_172 rfl (lv_at hl 4 rfl) ?_
                  refine m_iast (w := (r 32)) hx hb hK hP hD hS 20 rfl (vp_in_iff.mpr ⟨by omega, by omega⟩) (va_up (va_up (va_up (va_up r 29 ((upd (r 29) d.toNatClampNeg what))) 30 ((upd (r 30) d.toNatClampNeg v110))) 31 ((upd (r 31) d.toNatClampNeg r149))) 32 (upd (r 32) d.toNatClampNeg k0)) (ms_32 cy mo a _ _ _ _ _) dX10_keep_173 (fun H locs hP hS => ?_)
                  refine lv_iconst (v := 0) hx hb dX10_keep_174 (by decide) ?_
                  refine lv_istore (lv' := [(7, .int (0 : Int32)), (6, .int (1 : Int32)), (0, .ref mo), (1, .int d), (2, .int what), (3, .int k0), (4, .long p0)]) hx hb dX10_keep_175 hl (by decide) rfl (fun ls hl => ?_)
                  have loop_177 : ∀ (n : Nat) (i : Nat) (s3 : Nat → Int64), (i ≤ 60) → 60 - i < n → ∀ (H : Heap) (locs : List Loc), va_P D vwCl (WM cy mo a (upd f 0 (0 : Int32)) g (va_up (va_up (va_up (va_up r 29 ((upd (r 29) d.toNatClampNeg what))) 30 ((upd (r 30) d.toNatClampNeg v110))) 31 ((upd (r 31) d.toNatClampNeg r149))) 32 ((upd (r 32) d.toNatClampNeg k0))) (va_up q 33 s3)) H → va_S (AM mo a) s.heap H locs → ∀ (ls : Array Slot), lv_has ls 8 [(7, .int (nI i)), (6, .int (1 : Int32)), (0, .ref mo), (1, .int d), (2, .int what), (3, .int k0), (4, .long p0)] → W p l e (headSpec wsX10_keep ({ frames := 3, cells := 0, slots := 0, locals := 69 })).room s m #[Value.ref mo, Value.int d, Value.int what, Value.int k0, Value.long p0] below meth c H locs 0 0 (MQ below (va_Qi (fun r0 u => ∃ (sh : Nat → Int32), ∃ (sz : Nat → Int32), ∃ (sw : Nat → Int32), ∃ (sf : Nat → Int32), ∃ (sr : Nat → Int64), u = ((upd f 0 (0 : Int32)), g, (va_up (va_up (va_up (va_up r 29 sh) 30 sz) 31 sw) 32 sf), (va_up q 33 sr)) ∧ (yesNo (okKeep (f 1) (fun j9 => (r 3 j9).toNatClampNeg) (fun j9 => (r 4 j9).toNatClampNeg) d what k0 p0) 0 (-1) r0 ∧ MI (upd f 0 (0 : Int32)) (va_up (va_up (va_up (va_up r 29 sh) 30 sz) 31 sw) 32 sf))) (mB D cy mo a) (AM mo a)) #[Value.ref mo, Value.int d, Value.int what, Value.int k0, Value.long p0] s 0 0 (AM mo a)) (F0 m 177 ls []) := by
                    intro n
                    induction n with
                    | zero => intro i s3 j177_0 hn; exact absurd hn (Nat.not_lt_zero _)
                    | succ n ih_177 =>
                      intro i s3 j177_0 hn_177 H locs hP hS ls hl
                      have ii : (nI i).toInt = (i : Int) := nI_toInt (by omega)
                      refine lv_iload hx hb dX10_keep_177 (lv_at hl 0 rfl) ?_
                      refine lv_aload_n hx hb dX10_keep_179 rfl (lv_at hl 2 rfl) ?_
                      refine m_get (v := .ref (a 30)) hx hb hts hin hown hK hP 30 (by decide) rfl (hts (.fieldLink RX10 64 "ShadowBenchModel" "shelfSize" "[I") (by decide +kernel)) rfl dX10_keep_180 ?_
                      refine lv_iload_n hx hb dX10_keep_183 rfl (lv_at hl 3 rfl) ?_
                      refine m_iald (w := ((upd (r 30) d.toNatClampNeg v110))) hx hb hK hP 18 rfl (vp_in_iff.mpr ⟨by omega, by omega⟩) dX10_keep_184 ?_
                      refine lv_topi (fun v184 e184 => ?_)
                      have i184 : v184.toInt = (((upd (r 30) d.toNatClampNeg v110)) d.toNatClampNeg).toInt := congrArg Int32.toInt e184
                      have z184 := e184
                      simp only [upd, if_true] at z184
                      have y184 := congrArg Int32.toInt z184
                      refine lv_icmp_ge (tgt := 272) hx hb dX10_keep_185 (by decide) (fun c185 => ?_) (fun c185 => ?_)
                      · skip
                        have d185 := c185
                        rw [fa_le] at d185
                        refine lv_iconst (v := 0) hx hb dX10_keep_272 (by decide) ?_
                        have hP := wm_eq rfl rfl (ec_r_29_30_31_32__29_30_31_32 r ((upd (r 29) d.toNatClampNeg what)) ((upd (r 30) d.toNatClampNeg v110)) ((upd (r 31) d.toNatClampNeg r149)) ((upd (r 32) d.toNatClampNeg k0))) rfl hP
                        exact W.iret (v := (0 : Int32)) hx hb hr (fun t ht hW => ⟨⟨_, ((upd f 0 (0 : Int32)), g, (va_up (va_up (va_up (va_up r 29 (((upd (r 29) d.toNatClampNeg what)))) 30 (((upd (r 30) d.toNatClampNeg v110)))) 31 (((upd (r 31) d.toNatClampNeg r149)))) 32 (((upd (r 32) d.toNatClampNeg k0)))), (va_up q 33 s3)), rfl, ⟨((upd (r 29) d.toNatClampNeg what)), ((upd (r 30) d.toNatClampNeg v110)), ((upd (r 31) d.toNatClampNeg r149)), ((upd (r 32) d.toNatClampNeg k0)), s3, rfl, ⟨(Or.inl ⟨⟨b9, (by unfold okJob; first | exact Or.inl (by omega) | exact Or.inr (Or.inl ⟨by omega, b31⟩) | (have z9 := goodP_of b64; subst e52; subst e58; exact Or.inr (Or.inr ⟨by omega, b44, z9.2⟩)))⟩, rfl⟩), by first | exact hI | exact mi_sz (d := d) hI (v := v110) (by omega) rfl rfl rfl rfl rfl rfl rfl rfl | exact mi_sz (d := d) hI (v := v131) (by omega) rfl rfl rfl rfl rfl rfl rfl rfl | exact mi_sz (d := d) hI (v := 0) (by decide) rfl rfl rfl rfl rfl rfl rfl rfl⟩⟩, by unfold mB; rw [ht]; exact hP⟩, hS.F ht⟩) hS.2.2 dX10_keep_273
                      · skip
                        have d185 := c185
                        rw [fa_le] at d185
                        refine lv_aload_n hx hb dX10_keep_188 rfl (lv_at hl 2 rfl) ?_
                        refine m_get (v := .ref (a 33)) hx hb hts hin hown hK hP 33 (by decide) rfl (hts (.fieldLink RX10 73 "ShadowBenchModel" "shelfRow" "[J") (by decide +kernel)) rfl dX10_keep_189 ?_
                        refine lv_bipush (v := 60) hx hb dX10_keep_192 (by decide) ?_
                        refine lv_iload_n hx hb dX10_keep_194 rfl (lv_at hl 3 rfl) ?_
                        refine lv_imul hx hb dX10_keep_195 ?_
                        refine lv_topi (fun v195 e195 => ?_)
                        have i195 : v195.toInt = 60 * d.toInt := by rw [e195]; exact mulcL rfl (by omega) (by omega)
                        refine lv_iload hx hb dX10_keep_196 (lv_at hl 0 rfl) ?_
                        refine lv_iadd hx hb dX10_keep_198 ?_
                        refine lv_topi (fun v198 e198 => ?_)
                        have i198 : v198.toInt = v195.toInt + (nI i).toInt := by rw [e198]; exact fb_addI (by omega) (by omega)
                        refine lv_iload_n hx hb dX10_keep_199 rfl (lv_at hl 4 rfl) ?_
                        refine lv_iconst (v := 3) hx hb dX10_keep_200 (by decide) ?_
                        refine lv_icmp_ne (tgt := 215) hx hb dX10_keep_201 (by decide) (fun c201 => ?_) (fun c201 => ?_)
                        · first | exact absurd c201 c95 | exact absurd c95 c201
                        · skip
                          have d201 := c201
                          rw [fa_eq] at d201
                          refine lv_lload hx hb dX10_keep_204 (lv_at hl 6 rfl) ?_
                          refine lv_iload hx hb dX10_keep_206 (lv_at hl 0 rfl) ?_
                          refine m_pu (As := [.long p0, .int (nI i)]) (rest := [.int v198, .ref (a 33)]) ⟨hx, hb, hml, hown, hts⟩ (c_X10_one l p0 (nI i) ) (va_cwS 2 hts gX10_keep_X10_one rfl rfl rfl (by decide +kernel) ⟨Nat.le_of_ble_eq_true rfl, Nat.le_of_ble_eq_true rfl⟩) hP rfl hl.1 rfl (Nat.le_of_ble_eq_true rfl) dX10_keep_208 ⟨Nat.le_of_ble_eq_true rfl, Nat.le_of_ble_eq_true rfl⟩ hS (fun r208 H locs q208 hP hS => ?_)
                          have i208 : r208.toInt = (r_one p0 (nI i)).toInt := congrArg Int32.toInt q208
                          refine lv_i2l (v := r208.toInt64) hx hb dX10_keep_211 rfl ?_
                          refine lv_goto (tgt := 265) hx hb dX10_keep_212 (by decide) ?_
                          refine m_last (w := s3) hx hb hK hP hD hS 21 rfl (vp_in_iff.mpr ⟨by omega, by omega⟩) (va_up (va_up q 33 s3) 33 (vp_updL s3 v198.toNatClampNeg r208.toInt64)) (ms_33 cy mo a _ _ _ _ _) dX10_keep_265 (fun H locs hP hS => ?_)
                          have hP := wm_eq rfl rfl rfl (es_q_33__33 q s3 (vp_updL s3 v198.toNatClampNeg r208.toInt64)) hP
                          refine lv_iinc (v := (nI (i + 1))) (lv' := [(7, .int (nI (i + 1))), (6, .int (1 : Int32)), (0, .ref mo), (1, .int d), (2, .int what), (3, .int k0), (4, .long p0)]) hx hb dX10_keep_266 hl (k := 0) rfl (nI_1 _) (by decide) rfl (fun ls hl => ?_)
                          refine lv_goto (tgt := 177) hx hb dX10_keep_269 (by decide) ?_
                          have hP := wm_eq rfl rfl (ec_r_29_30_31_32__29_30_31_32 r ((upd (r 29) d.toNatClampNeg what)) ((upd (r 30) d.toNatClampNeg v110)) ((upd (r 31) d.toNatClampNeg r149)) ((upd (r 32) d.toNatClampNeg k0))) rfl hP
                          exact ih_177 (i + 1) (vp_updL s3 v198.toNatClampNeg r208.toInt64) (by omega) (by omega) _ _ hP hS ls (lv_sub hl [0, 1, 2, 3, 4, 5, 6] rfl)
                  have hP := wm_eq rfl rfl (ec_r_29_30_31_32__29_30_31_32 r ((upd (r 29) d.toNatClampNeg what)) ((upd (r 30) d.toNatClampNeg v110)) ((upd (r 31) d.toNatClampNeg r149)) ((upd (r 32) d.toNatClampNeg k0))) (ec_q___33 q ) hP
                  exact loop_177 (60 + 1) 0 (q 33) (by omega) (by omega) _ _ hP hS ls (lv_sub hl [0, 1, 2, 3, 4, 5, 6] rfl)
                · skip
                  have d164 := c164
                  rw [fa_eq] at d164
                  refine lv_bipush (v := (-15)) hx hb dX10_keep_167 (by decide) ?_
                  refine lv_goto (tgt := 173) hx hb dX10_keep_169 (by decide) ?_
                  refine m_iast (w := (r 32)) hx hb hK hP hD hS 20 rfl (vp_in_iff.mpr ⟨by omega, by omega⟩) (va_up (va_up (va_up (va_up r 29 ((upd (r 29) d.toNatClampNeg what))) 30 ((upd (r 30) d.toNatClampNeg v110))) 31 ((upd (r 31) d.toNatClampNeg r149))) 32 (upd (r 32) d.toNatClampNeg (((-15) : Int32)))) (ms_32 cy mo a _ _ _ _ _) dX10_keep_173 (fun H locs hP hS => ?_)
                  refine lv_iconst (v := 0) hx hb dX10_keep_174 (by decide) ?_
                  refine lv_istore (lv' := [(7, .int (0 : Int32)), (6, .int (1 : Int32)), (0, .ref mo), (1, .int d), (2, .int what), (3, .int k0), (4, .long p0)]) hx hb dX10_keep_175 hl (by decide) rfl (fun ls hl => ?_)
                  have loop_177 : ∀ (n : Nat) (i : Nat) (s3 : Nat → Int64), (i ≤ 60) → 60 - i < n → ∀ (H : Heap) (locs : List Loc), va_P D vwCl (WM cy mo a (upd f 0 (0 : Int32)) g (va_up (va_up (va_up (va_up r 29 ((upd (r 29) d.toNatClampNeg what))) 30 ((upd (r 30) d.toNatClampNeg v110))) 31 ((upd (r 31) d.toNatClampNeg r149))) 32 ((upd (r 32) d.toNatClampNeg (((-15) : Int32))))) (va_up q 33 s3)) H → va_S (AM mo a) s.heap H locs → ∀ (ls : Array Slot), lv_has ls 8 [(7, .int (nI i)), (6, .int (1 : Int32)), (0, .ref mo), (1, .int d), (2, .int what), (3, .int k0), (4, .long p0)] → W p l e (headSpec wsX10_keep ({ frames := 3, cells := 0, slots := 0, locals := 69 })).room s m #[Value.ref mo, Value.int d, Value.int what, Value.int k0, Value.long p0] below meth c H locs 0 0 (MQ below (va_Qi (fun r0 u => ∃ (sh : Nat → Int32), ∃ (sz : Nat → Int32), ∃ (sw : Nat → Int32), ∃ (sf : Nat → Int32), ∃ (sr : Nat → Int64), u = ((upd f 0 (0 : Int32)), g, (va_up (va_up (va_up (va_up r 29 sh) 30 sz) 31 sw) 32 sf), (va_up q 33 sr)) ∧ (yesNo (okKeep (f 1) (fun j9 => (r 3 j9).toNatClampNeg) (fun j9 => (r 4 j9).toNatClampNeg) d what k0 p0) 0 (-1) r0 ∧ MI (upd f 0 (0 : Int32)) (va_up (va_up (va_up (va_up r 29 sh) 30 sz) 31 sw) 32 sf))) (mB D cy mo a) (AM mo a)) #[Value.ref mo, Value.int d, Value.int what, Value.int k0, Value.long p0] s 0 0 (AM mo a)) (F0 m 177 ls []) := by
                    intro n
                    induction n with
                    | zero => intro i s3 j177_0 hn; exact absurd hn (Nat.not_lt_zero _)
                    | succ n ih_177 =>
                      intro i s3 j177_0 hn_177 H locs hP hS ls hl
                      have ii : (nI i).toInt = (i : Int) := nI_toInt (by omega)
                      refine lv_iload hx hb dX10_keep_177 (lv_at hl 0 rfl) ?_
                      refine lv_aload_n hx hb dX10_keep_179 rfl (lv_at hl 2 rfl) ?_
                      refine m_get (v := .ref (a 30)) hx hb hts hin hown hK hP 30 (by decide) rfl (hts (.fieldLink RX10 64 "ShadowBenchModel" "shelfSize" "[I") (by decide +kernel)) rfl dX10_keep_180 ?_
                      refine lv_iload_n hx hb dX10_keep_183 rfl (lv_at hl 3 rfl) ?_
                      refine m_iald (w := ((upd (r 30) d.toNatClampNeg v110))) hx hb hK hP 18 rfl (vp_in_iff.mpr ⟨by omega, by omega⟩) dX10_keep_184 ?_
                      refine lv_topi (fun v184 e184 => ?_)
                      have i184 : v184.toInt = (((upd (r 30) d.toNatClampNeg v110)) d.toNatClampNeg).toInt := congrArg Int32.toInt e184
                      have z184 := e184
                      simp only [upd, if_true] at z184
                      have y184 := congrArg Int32.toInt z184
                      refine lv_icmp_ge (tgt := 272) hx hb dX10_keep_185 (by decide) (fun c185 => ?_) (fun c185 => ?_)
                      · skip
                        have d185 := c185
                        rw [fa_le] at d185
                        refine lv_iconst (v := 0) hx hb dX10_keep_272 (by decide) ?_
                        have hP := wm_eq rfl rfl (ec_r_29_30_31_32__29_30_31_32 r ((upd (r 29) d.toNatClampNeg what)) ((upd (r 30) d.toNatClampNeg v110)) ((upd (r 31) d.toNatClampNeg r149)) ((upd (r 32) d.toNatClampNeg (((-15) : Int32))))) rfl hP
                        exact W.iret (v := (0 : Int32)) hx hb hr (fun t ht hW => ⟨⟨_, ((upd f 0 (0 : Int32)), g, (va_up (va_up (va_up (va_up r 29 (((upd (r 29) d.toNatClampNeg what)))) 30 (((upd (r 30) d.toNatClampNeg v110)))) 31 (((upd (r 31) d.toNatClampNeg r149)))) 32 (((upd (r 32) d.toNatClampNeg (((-15) : Int32)))))), (va_up q 33 s3)), rfl, ⟨((upd (r 29) d.toNatClampNeg what)), ((upd (r 30) d.toNatClampNeg v110)), ((upd (r 31) d.toNatClampNeg r149)), ((upd (r 32) d.toNatClampNeg (((-15) : Int32)))), s3, rfl, ⟨(Or.inl ⟨⟨b9, (by unfold okJob; first | exact Or.inl (by omega) | exact Or.inr (Or.inl ⟨by omega, b31⟩) | (have z9 := goodP_of b64; subst e52; subst e58; exact Or.inr (Or.inr ⟨by omega, b44, z9.2⟩)))⟩, rfl⟩), by first | exact hI | exact mi_sz (d := d) hI (v := v110) (by omega) rfl rfl rfl rfl rfl rfl rfl rfl | exact mi_sz (d := d) hI (v := v131) (by omega) rfl rfl rfl rfl rfl rfl rfl rfl | exact mi_sz (d := d) hI (v := 0) (by decide) rfl rfl rfl rfl rfl rfl rfl rfl⟩⟩, by unfold mB; rw [ht]; exact hP⟩, hS.F ht⟩) hS.2.2 dX10_keep_273
                      · skip
                        have d185 := c185
                        rw [fa_le] at d185
                        refine lv_aload_n hx hb dX10_keep_188 rfl (lv_at hl 2 rfl) ?_
                        refine m_get (v := .ref (a 33)) hx hb hts hin hown hK hP 33 (by decide) rfl (hts (.fieldLink RX10 73 "ShadowBenchModel" "shelfRow" "[J") (by decide +kernel)) rfl dX10_keep_189 ?_
                        refine lv_bipush (v := 60) hx hb dX10_keep_192 (by decide) ?_
                        refine lv_iload_n hx hb dX10_keep_194 rfl (lv_at hl 3 rfl) ?_
                        refine lv_imul hx hb dX10_keep_195 ?_
                        refine lv_topi (fun v195 e195 => ?_)
                        have i195 : v195.toInt = 60 * d.toInt := by rw [e195]; exact mulcL rfl (by omega) (by omega)
                        refine lv_iload hx hb dX10_keep_196 (lv_at hl 0 rfl) ?_
                        refine lv_iadd hx hb dX10_keep_198 ?_
                        refine lv_topi (fun v198 e198 => ?_)
                        have i198 : v198.toInt = v195.toInt + (nI i).toInt := by rw [e198]; exact fb_addI (by omega) (by omega)
                        refine lv_iload_n hx hb dX10_keep_199 rfl (lv_at hl 4 rfl) ?_
                        refine lv_iconst (v := 3) hx hb dX10_keep_200 (by decide) ?_
                        refine lv_icmp_ne (tgt := 215) hx hb dX10_keep_201 (by decide) (fun c201 => ?_) (fun c201 => ?_)
                        · first | exact absurd c201 c95 | exact absurd c95 c201
                        · skip
                          have d201 := c201
                          rw [fa_eq] at d201
                          refine lv_lload hx hb dX10_keep_204 (lv_at hl 6 rfl) ?_
                          refine lv_iload hx hb dX10_keep_206 (lv_at hl 0 rfl) ?_
                          refine m_pu (As := [.long p0, .int (nI i)]) (rest := [.int v198, .ref (a 33)]) ⟨hx, hb, hml, hown, hts⟩ (c_X10_one l p0 (nI i) ) (va_cwS 2 hts gX10_keep_X10_one rfl rfl rfl (by decide +kernel) ⟨Nat.le_of_ble_eq_true rfl, Nat.le_of_ble_eq_true rfl⟩) hP rfl hl.1 rfl (Nat.le_of_ble_eq_true rfl) dX10_keep_208 ⟨Nat.le_of_ble_eq_true rfl, Nat.le_of_ble_eq_true rfl⟩ hS (fun r208 H locs q208 hP hS => ?_)
                          have i208 : r208.toInt = (r_one p0 (nI i)).toInt := congrArg Int32.toInt q208
                          refine lv_i2l (v := r208.toInt64) hx hb dX10_keep_211 rfl ?_
                          refine lv_goto (tgt := 265) hx hb dX10_keep_212 (by decide) ?_
                          refine m_last (w := s3) hx hb hK hP hD hS 21 rfl (vp_in_iff.mpr ⟨by omega, by omega⟩) (va_up (va_up q 33 s3) 33 (vp_updL s3 v198.toNatClampNeg r208.toInt64)) (ms_33 cy mo a _ _ _ _ _) dX10_keep_265 (fun H locs hP hS => ?_)
                          have hP := wm_eq rfl rfl rfl (es_q_33__33 q s3 (vp_updL s3 v198.toNatClampNeg r208.toInt64)) hP
                          refine lv_iinc (v := (nI (i + 1))) (lv' := [(7, .int (nI (i + 1))), (6, .int (1 : Int32)), (0, .ref mo), (1, .int d), (2, .int what), (3, .int k0), (4, .long p0)]) hx hb dX10_keep_266 hl (k := 0) rfl (nI_1 _) (by decide) rfl (fun ls hl => ?_)
                          refine lv_goto (tgt := 177) hx hb dX10_keep_269 (by decide) ?_
                          have hP := wm_eq rfl rfl (ec_r_29_30_31_32__29_30_31_32 r ((upd (r 29) d.toNatClampNeg what)) ((upd (r 30) d.toNatClampNeg v110)) ((upd (r 31) d.toNatClampNeg r149)) ((upd (r 32) d.toNatClampNeg (((-15) : Int32))))) rfl hP
                          exact ih_177 (i + 1) (vp_updL s3 v198.toNatClampNeg r208.toInt64) (by omega) (by omega) _ _ hP hS ls (lv_sub hl [0, 1, 2, 3, 4, 5, 6] rfl)
                  have hP := wm_eq rfl rfl (ec_r_29_30_31_32__29_30_31_32 r ((upd (r 29) d.toNatClampNeg what)) ((upd (r 30) d.toNatClampNeg v110)) ((upd (r 31) d.toNatClampNeg r149)) ((upd (r 32) d.toNatClampNeg (((-15) : Int32))))) (ec_q___33 q ) hP
                  exact loop_177 (60 + 1) 0 (q 33) (by omega) (by omega) _ _ hP hS ls (lv_sub hl [0, 1, 2, 3, 4, 5, 6] rfl)
          · first | exact absurd c76 (by decide) | exact absurd (by decide) c76
        · skip
          have b31 := bo_f q28 c31
          refine lv_iload_n hx hb dX10_keep_34 rfl (lv_at hl 2 rfl) ?_
          refine lv_iconst (v := 3) hx hb dX10_keep_35 (by decide) ?_
          refine lv_icmp_ne (tgt := 71) hx hb dX10_keep_36 (by decide) (fun c36 => ?_) (fun c36 => ?_)
          · skip
            have d36 := c36
            rw [fa_eq] at d36
            refine lv_iconst (v := 0) hx hb dX10_keep_71 (by decide) ?_
            refine lv_istore (lv' := [(6, .int (0 : Int32)), (0, .ref mo), (1, .int d), (2, .int what), (3, .int k0), (4, .long p0)]) hx hb dX10_keep_72 hl (by decide) rfl (fun ls hl => ?_)
            refine lv_iload hx hb dX10_keep_74 (lv_at hl 0 rfl) ?_
            refine lv_if_ne (tgt := 81) hx hb dX10_keep_76 (by decide) (fun c76 => ?_) (fun c76 => ?_)
            · first | exact absurd c76 (by decide) | exact absurd (by decide) c76
            · skip
              have d76 := c76
              rw [fa_eq] at d76
              refine lv_iconst (v := (-1)) hx hb dX10_keep_79 (by decide) ?_
              have hP := wm_eq rfl rfl (ec_r___29_30_31_32 r ) (ec_q___33 q ) hP
              exact W.iret (v := ((-1) : Int32)) hx hb hr (fun t ht hW => ⟨⟨_, ((upd f 0 (0 : Int32)), g, (va_up (va_up (va_up (va_up r 29 (r 29)) 30 (r 30)) 31 (r 31)) 32 (r 32)), (va_up q 33 (q 33))), rfl, ⟨(r 29), (r 30), (r 31), (r 32), (q 33), rfl, ⟨(Or.inr ⟨(fun z9 => by unfold okKeep okJob at z9; rcases z9.2 with z8 | ⟨z8, z7⟩ | ⟨z8, z7, z6⟩; (first | exact b9 z9.1 | omega); (first | exact b9 z9.1 | exact b31 z7 | omega); (first | exact b9 z9.1 | exact b44 z7 | (have szw := mi_w hI (x := k0) (by omega) (by omega) rfl; have szh := mi_h hI (x := k0) (by omega) (by omega) rfl; subst e52; subst e58; exact goodP_no b64 ⟨⟨szw, szh⟩, z6⟩) | omega)), rfl⟩), by first | exact hI | exact mi_sz (d := d) hI (v := v110) (by omega) rfl rfl rfl rfl rfl rfl rfl rfl | exact mi_sz (d := d) hI (v := v131) (by omega) rfl rfl rfl rfl rfl rfl rfl rfl | exact mi_sz (d := d) hI (v := 0) (by decide) rfl rfl rfl rfl rfl rfl rfl rfl⟩⟩, by unfold mB; rw [ht]; exact hP⟩, hS.F ht⟩) hS.2.2 dX10_keep_80
          · skip
            have d36 := c36
            rw [fa_eq] at d36
            refine lv_aload_n hx hb dX10_keep_39 rfl (lv_at hl 0 rfl) ?_
            refine lv_iload_n hx hb dX10_keep_40 rfl (lv_at hl 3 rfl) ?_
            refine m_calli (As := [.int k0]) (rest := []) ⟨hx, hb, hml, hown, hts⟩ (c_X10_isJob l D cy mo a (upd f 0 (0 : Int32)) g r q k0 hD) (cwV 1 hts gX10_keep_X10_isJob rfl rfl rfl (by decide +kernel) ⟨Nat.le_of_ble_eq_true rfl, Nat.le_of_ble_eq_true rfl⟩) hK hP rfl hl.1 rfl (Nat.le_of_ble_eq_true rfl) dX10_keep_41 ⟨Nat.le_of_ble_eq_true rfl, Nat.le_of_ble_eq_true rfl⟩ hS (fun r41 u H locs q41 hP hS => ?_)
            obtain ⟨rfl, q41⟩ := q41
            have hP : va_P D vwCl (WM cy mo a (upd f 0 (0 : Int32)) g r q) H := hP
            have q41 : Bo r41 (0 ≤ k0.toInt ∧ k0.toInt < ((f 1)).toInt) := q41
            refine lv_if_eq (tgt := 71) hx hb dX10_keep_44 (by decide) (fun c44 => ?_) (fun c44 => ?_)
            · skip
              have b44 := bo_f q41 c44
              refine lv_iconst (v := 0) hx hb dX10_keep_71 (by decide) ?_
              refine lv_istore (lv' := [(6, .int (0 : Int32)), (0, .ref mo), (1, .int d), (2, .int what), (3, .int k0), (4, .long p0)]) hx hb dX10_keep_72 hl (by decide) rfl (fun ls hl => ?_)
              refine lv_iload hx hb dX10_keep_74 (lv_at hl 0 rfl) ?_
              refine lv_if_ne (tgt := 81) hx hb dX10_keep_76 (by decide) (fun c76 => ?_) (fun c76 => ?_)
              · first | exact absurd c76 (by decide) | exact absurd (by decide) c76
              · skip
                have d76 := c76
                rw [fa_eq] at d76
                refine lv_iconst (v := (-1)) hx hb dX10_keep_79 (by decide) ?_
                have hP := wm_eq rfl rfl (ec_r___29_30_31_32 r ) (ec_q___33 q ) hP
                exact W.iret (v := ((-1) : Int32)) hx hb hr (fun t ht hW => ⟨⟨_, ((upd f 0 (0 : Int32)), g, (va_up (va_up (va_up (va_up r 29 (r 29)) 30 (r 30)) 31 (r 31)) 32 (r 32)), (va_up q 33 (q 33))), rfl, ⟨(r 29), (r 30), (r 31), (r 32), (q 33), rfl, ⟨(Or.inr ⟨(fun z9 => by unfold okKeep okJob at z9; rcases z9.2 with z8 | ⟨z8, z7⟩ | ⟨z8, z7, z6⟩; (first | exact b9 z9.1 | omega); (first | exact b9 z9.1 | exact b31 z7 | omega); (first | exact b9 z9.1 | exact b44 z7 | (have szw := mi_w hI (x := k0) (by omega) (by omega) rfl; have szh := mi_h hI (x := k0) (by omega) (by omega) rfl; subst e52; subst e58; exact goodP_no b64 ⟨⟨szw, szh⟩, z6⟩) | omega)), rfl⟩), by first | exact hI | exact mi_sz (d := d) hI (v := v110) (by omega) rfl rfl rfl rfl rfl rfl rfl rfl | exact mi_sz (d := d) hI (v := v131) (by omega) rfl rfl rfl rfl rfl rfl rfl rfl | exact mi_sz (d := d) hI (v := 0) (by decide) rfl rfl rfl rfl rfl rfl rfl rfl⟩⟩, by unfold mB; rw [ht]; exact hP⟩, hS.F ht⟩) hS.2.2 dX10_keep_80
            · skip
              have b44 := bo_t q41 c44
              refine lv_aload_n hx hb dX10_keep_47 rfl (lv_at hl 0 rfl) ?_
              refine m_get (v := .ref (a 3)) hx hb hts hin hown hK hP 3 (by decide) rfl (hts (.fieldLink RX10 13 "ShadowBenchModel" "wide" "[I") (by decide +kernel)) rfl dX10_keep_48 ?_
              refine lv_iload_n hx hb dX10_keep_51 rfl (lv_at hl 3 rfl) ?_
              refine m_iald (w := (r 3)) hx hb hK hP 2 rfl (vp_in_iff.mpr ⟨by omega, by omega⟩) dX10_keep_52 ?_
              refine lv_topi (fun v52 e52 => ?_)
              have i52 : v52.toInt = ((r 3) k0.toNatClampNeg).toInt := congrArg Int32.toInt e52
              have w52 := mi_w hI (x := k0) (by omega) (by omega) e52
              refine lv_aload_n hx hb dX10_keep_53 rfl (lv_at hl 0 rfl) ?_
              refine m_get (v := .ref (a 4)) hx hb hts hin hown hK hP 4 (by decide) rfl (hts (.fieldLink RX10 16 "ShadowBenchModel" "high" "[I") (by decide +kernel)) rfl dX10_keep_54 ?_
              refine lv_iload_n hx hb dX10_keep_57 rfl (lv_at hl 3 rfl) ?_
              refine m_iald (w := (r 4)) hx hb hK hP 3 rfl (vp_in_iff.mpr ⟨by omega, by omega⟩) dX10_keep_58 ?_
              refine lv_topi (fun v58 e58 => ?_)
              have i58 : v58.toInt = ((r 4) k0.toNatClampNeg).toInt := congrArg Int32.toInt e58
              have w58 := mi_h hI (x := k0) (by omega) (by omega) e58
              refine lv_lload hx hb dX10_keep_59 (lv_at hl 4 rfl) ?_
              refine m_pu (As := [.int v52, .int v58, .long p0]) (rest := []) ⟨hx, hb, hml, hown, hts⟩ (c_X10_isPicture l v52 v58 p0 ) (va_cwS 3 hts gX10_keep_X10_isPicture rfl rfl rfl (by decide +kernel) ⟨Nat.le_of_ble_eq_true rfl, Nat.le_of_ble_eq_true rfl⟩) hP rfl hl.1 rfl (Nat.le_of_ble_eq_true rfl) dX10_keep_61 ⟨Nat.le_of_ble_eq_true rfl, Nat.le_of_ble_eq_true rfl⟩ hS (fun r61 H locs q61 hP hS => ?_)
              refine lv_if_eq (tgt := 71) hx hb dX10_keep_64 (by decide) (fun c64 => ?_) (fun c64 => ?_)
              · skip
                have b64 := bo_f q61 c64
                refine lv_iconst (v := 0) hx hb dX10_keep_71 (by decide) ?_
                refine lv_istore (lv' := [(6, .int (0 : Int32)), (0, .ref mo), (1, .int d), (2, .int what), (3, .int k0), (4, .long p0)]) hx hb dX10_keep_72 hl (by decide) rfl (fun ls hl => ?_)
                refine lv_iload hx hb dX10_keep_74 (lv_at hl 0 rfl) ?_
                refine lv_if_ne (tgt := 81) hx hb dX10_keep_76 (by decide) (fun c76 => ?_) (fun c76 => ?_)
                · first | exact absurd c76 (by decide) | exact absurd (by decide) c76
                · skip
                  have d76 := c76
                  rw [fa_eq] at d76
                  refine lv_iconst (v := (-1)) hx hb dX10_keep_79 (by decide) ?_
                  have hP := wm_eq rfl rfl (ec_r___29_30_31_32 r ) (ec_q___33 q ) hP
                  exact W.iret (v := ((-1) : Int32)) hx hb hr (fun t ht hW => ⟨⟨_, ((upd f 0 (0 : Int32)), g, (va_up (va_up (va_up (va_up r 29 (r 29)) 30 (r 30)) 31 (r 31)) 32 (r 32)), (va_up q 33 (q 33))), rfl, ⟨(r 29), (r 30), (r 31), (r 32), (q 33), rfl, ⟨(Or.inr ⟨(fun z9 => by unfold okKeep okJob at z9; rcases z9.2 with z8 | ⟨z8, z7⟩ | ⟨z8, z7, z6⟩; (first | exact b9 z9.1 | omega); (first | exact b9 z9.1 | exact b31 z7 | omega); (first | exact b9 z9.1 | exact b44 z7 | (have szw := mi_w hI (x := k0) (by omega) (by omega) rfl; have szh := mi_h hI (x := k0) (by omega) (by omega) rfl; subst e52; subst e58; exact goodP_no b64 ⟨⟨szw, szh⟩, z6⟩) | omega)), rfl⟩), by first | exact hI | exact mi_sz (d := d) hI (v := v110) (by omega) rfl rfl rfl rfl rfl rfl rfl rfl | exact mi_sz (d := d) hI (v := v131) (by omega) rfl rfl rfl rfl rfl rfl rfl rfl | exact mi_sz (d := d) hI (v := 0) (by decide) rfl rfl rfl rfl rfl rfl rfl rfl⟩⟩, by unfold mB; rw [ht]; exact hP⟩, hS.F ht⟩) hS.2.2 dX10_keep_80
              · skip
                have b64 := bo_t q61 c64
                refine lv_iconst (v := 1) hx hb dX10_keep_67 (by decide) ?_
                refine lv_goto (tgt := 72) hx hb dX10_keep_68 (by decide) ?_
                refine lv_istore (lv' := [(6, .int (1 : Int32)), (0, .ref mo), (1, .int d), (2, .int what), (3, .int k0), (4, .long p0)]) hx hb dX10_keep_72 hl (by decide) rfl (fun ls hl => ?_)
                refine lv_iload hx hb dX10_keep_74 (lv_at hl 0 rfl) ?_
                refine lv_if_ne (tgt := 81) hx hb dX10_keep_76 (by decide) (fun c76 => ?_) (fun c76 => ?_)
                · skip
                  have d76 := c76
                  rw [fa_eq] at d76
                  refine lv_aload_n hx hb dX10_keep_81 rfl (lv_at hl 1 rfl) ?_
                  refine m_get (v := .ref (a 29)) hx hb hts hin hown hK hP 29 (by decide) rfl (hts (.fieldLink RX10 61 "ShadowBenchModel" "shelf" "[I") (by decide +kernel)) rfl dX10_keep_82 ?_
                  refine lv_iload_n hx hb dX10_keep_85 rfl (lv_at hl 2 rfl) ?_
                  refine lv_iload_n hx hb dX10_keep_86 rfl (lv_at hl 3 rfl) ?_
                  refine m_iast (w := (r 29)) hx hb hK hP hD hS 17 rfl (vp_in_iff.mpr ⟨by omega, by omega⟩) (va_up r 29 (upd (r 29) d.toNatClampNeg what)) (ms_29 cy mo a _ _ _ _ _) dX10_keep_87 (fun H locs hP hS => ?_)
                  refine lv_aload_n hx hb dX10_keep_88 rfl (lv_at hl 1 rfl) ?_
                  refine m_get (v := .ref (a 30)) hx hb hts hin hown hK hP 30 (by decide) rfl (hts (.fieldLink RX10 64 "ShadowBenchModel" "shelfSize" "[I") (by decide +kernel)) rfl dX10_keep_89 ?_
                  refine lv_iload_n hx hb dX10_keep_92 rfl (lv_at hl 2 rfl) ?_
                  refine lv_iload_n hx hb dX10_keep_93 rfl (lv_at hl 3 rfl) ?_
                  refine lv_iconst (v := 3) hx hb dX10_keep_94 (by decide) ?_
                  refine lv_icmp_ne (tgt := 114) hx hb dX10_keep_95 (by decide) (fun c95 => ?_) (fun c95 => ?_)
                  · first | exact absurd c95 c36 | exact absurd c36 c95
                  · skip
                    have d95 := c95
                    rw [fa_eq] at d95
                    refine lv_aload_n hx hb dX10_keep_98 rfl (lv_at hl 1 rfl) ?_
                    refine m_get (v := .ref (a 3)) hx hb hts hin hown hK hP 3 (by decide) rfl (hts (.fieldLink RX10 13 "ShadowBenchModel" "wide" "[I") (by decide +kernel)) rfl dX10_keep_99 ?_
                    refine lv_iload_n hx hb dX10_keep_102 rfl (lv_at hl 4 rfl) ?_
                    refine m_iald (w := (r 3)) hx hb hK hP 2 rfl (vp_in_iff.mpr ⟨by omega, by omega⟩) dX10_keep_103 ?_
                    refine lv_topi (fun v103 e103 => ?_)
                    have i103 : v103.toInt = ((r 3) k0.toNatClampNeg).toInt := congrArg Int32.toInt e103
                    have w103 := mi_w hI (x := k0) (by omega) (by omega) e103
                    refine lv_aload_n hx hb dX10_keep_104 rfl (lv_at hl 1 rfl) ?_
                    refine m_get (v := .ref (a 4)) hx hb hts hin hown hK hP 4 (by decide) rfl (hts (.fieldLink RX10 16 "ShadowBenchModel" "high" "[I") (by decide +kernel)) rfl dX10_keep_105 ?_
                    refine lv_iload_n hx hb dX10_keep_108 rfl (lv_at hl 4 rfl) ?_
                    refine m_iald (w := (r 4)) hx hb hK hP 3 rfl (vp_in_iff.mpr ⟨by omega, by omega⟩) dX10_keep_109 ?_
                    refine lv_topi (fun v109 e109 => ?_)
                    have i109 : v109.toInt = ((r 4) k0.toNatClampNeg).toInt := congrArg Int32.toInt e109
                    have w109 := mi_h hI (x := k0) (by omega) (by omega) e109
                    have m110 := mul66 w103 w109
                    refine lv_imul hx hb dX10_keep_110 ?_
                    refine lv_topi (fun v110 e110 => ?_)
                    have i110 : v110.toInt = v103.toInt * v109.toInt := by rw [e110]; exact fb_mulI (by omega) (by omega)
                    refine lv_goto (tgt := 136) hx hb dX10_keep_111 (by decide) ?_
                    refine m_iast (w := (r 30)) hx hb hK hP hD hS 18 rfl (vp_in_iff.mpr ⟨by omega, by omega⟩) (va_up (va_up r 29 ((upd (r 29) d.toNatClampNeg what))) 30 (upd (r 30) d.toNatClampNeg v110)) (ms_30 cy mo a _ _ _ _ _) dX10_keep_136 (fun H locs hP hS => ?_)
                    refine lv_iload_n hx hb dX10_keep_137 rfl (lv_at hl 3 rfl) ?_
                    refine lv_iconst (v := 1) hx hb dX10_keep_138 (by decide) ?_
                    refine lv_icmp_ne (tgt := 174) hx hb dX10_keep_139 (by decide) (fun c139 => ?_) (fun c139 => ?_)
                    · skip
                      have d139 := c139
                      rw [fa_eq] at d139
                      refine lv_iconst (v := 0) hx hb dX10_keep_174 (by decide) ?_
                      refine lv_istore (lv' := [(7, .int (0 : Int32)), (6, .int (1 : Int32)), (0, .ref mo), (1, .int d), (2, .int what), (3, .int k0), (4, .long p0)]) hx hb dX10_keep_175 hl (by decide) rfl (fun ls hl => ?_)
                      have loop_177 : ∀ (n : Nat) (i : Nat) (s3 : Nat → Int64), (i ≤ 60) → 60 - i < n → ∀ (H : Heap) (locs : List Loc), va_P D vwCl (WM cy mo a (upd f 0 (0 : Int32)) g (va_up (va_up r 29 ((upd (r 29) d.toNatClampNeg what))) 30 ((upd (r 30) d.toNatClampNeg v110))) (va_up q 33 s3)) H → va_S (AM mo a) s.heap H locs → ∀ (ls : Array Slot), lv_has ls 8 [(7, .int (nI i)), (6, .int (1 : Int32)), (0, .ref mo), (1, .int d), (2, .int what), (3, .int k0), (4, .long p0)] → W p l e (headSpec wsX10_keep ({ frames := 3, cells := 0, slots := 0, locals := 69 })).room s m #[Value.ref mo, Value.int d, Value.int what, Value.int k0, Value.long p0] below meth c H locs 0 0 (MQ below (va_Qi (fun r0 u => ∃ (sh : Nat → Int32), ∃ (sz : Nat → Int32), ∃ (sw : Nat → Int32), ∃ (sf : Nat → Int32), ∃ (sr : Nat → Int64), u = ((upd f 0 (0 : Int32)), g, (va_up (va_up (va_up (va_up r 29 sh) 30 sz) 31 sw) 32 sf), (va_up q 33 sr)) ∧ (yesNo (okKeep (f 1) (fun j9 => (r 3 j9).toNatClampNeg) (fun j9 => (r 4 j9).toNatClampNeg) d what k0 p0) 0 (-1) r0 ∧ MI (upd f 0 (0 : Int32)) (va_up (va_up (va_up (va_up r 29 sh) 30 sz) 31 sw) 32 sf))) (mB D cy mo a) (AM mo a)) #[Value.ref mo, Value.int d, Value.int what, Value.int k0, Value.long p0] s 0 0 (AM mo a)) (F0 m 177 ls []) := by
                        intro n
                        induction n with
                        | zero => intro i s3 j177_0 hn; exact absurd hn (Nat.not_lt_zero _)
                        | succ n ih_177 =>
                          intro i s3 j177_0 hn_177 H locs hP hS ls hl
                          have ii : (nI i).toInt = (i : Int) := nI_toInt (by omega)
                          refine lv_iload hx hb dX10_keep_177 (lv_at hl 0 rfl) ?_
                          refine lv_aload_n hx hb dX10_keep_179 rfl (lv_at hl 2 rfl) ?_
                          refine m_get (v := .ref (a 30)) hx hb hts hin hown hK hP 30 (by decide) rfl (hts (.fieldLink RX10 64 "ShadowBenchModel" "shelfSize" "[I") (by decide +kernel)) rfl dX10_keep_180 ?_
                          refine lv_iload_n hx hb dX10_keep_183 rfl (lv_at hl 3 rfl) ?_
                          refine m_iald (w := ((upd (r 30) d.toNatClampNeg v110))) hx hb hK hP 18 rfl (vp_in_iff.mpr ⟨by omega, by omega⟩) dX10_keep_184 ?_
                          refine lv_topi (fun v184 e184 => ?_)
                          have i184 : v184.toInt = (((upd (r 30) d.toNatClampNeg v110)) d.toNatClampNeg).toInt := congrArg Int32.toInt e184
                          have z184 := e184
                          simp only [upd, if_true] at z184
                          have y184 := congrArg Int32.toInt z184
                          refine lv_icmp_ge (tgt := 272) hx hb dX10_keep_185 (by decide) (fun c185 => ?_) (fun c185 => ?_)
                          · skip
                            have d185 := c185
                            rw [fa_le] at d185
                            refine lv_iconst (v := 0) hx hb dX10_keep_272 (by decide) ?_
                            have hP := wm_eq rfl rfl (ec_r_29_30__29_30_31_32 r ((upd (r 29) d.toNatClampNeg what)) ((upd (r 30) d.toNatClampNeg v110))) rfl hP
                            exact W.iret (v := (0 : Int32)) hx hb hr (fun t ht hW => ⟨⟨_, ((upd f 0 (0 : Int32)), g, (va_up (va_up (va_up (va_up r 29 (((upd (r 29) d.toNatClampNeg what)))) 30 (((upd (r 30) d.toNatClampNeg v110)))) 31 (r 31)) 32 (r 32)), (va_up q 33 s3)), rfl, ⟨((upd (r 29) d.toNatClampNeg what)), ((upd (r 30) d.toNatClampNeg v110)), (r 31), (r 32), s3, rfl, ⟨(Or.inl ⟨⟨b9, (by unfold okJob; first | exact Or.inl (by omega) | exact Or.inr (Or.inl ⟨by omega, b31⟩) | (have z9 := goodP_of b64; subst e52; subst e58; exact Or.inr (Or.inr ⟨by omega, b44, z9.2⟩)))⟩, rfl⟩), by first | exact hI | exact mi_sz (d := d) hI (v := v110) (by omega) rfl rfl rfl rfl rfl rfl rfl rfl | exact mi_sz (d := d) hI (v := v131) (by omega) rfl rfl rfl rfl rfl rfl rfl rfl | exact mi_sz (d := d) hI (v := 0) (by decide) rfl rfl rfl rfl rfl rfl rfl rfl⟩⟩, by unfold mB; rw [ht]; exact hP⟩, hS.F ht⟩) hS.2.2 dX10_keep_273
                          · skip
                            have d185 := c185
                            rw [fa_le] at d185
                            refine lv_aload_n hx hb dX10_keep_188 rfl (lv_at hl 2 rfl) ?_
                            refine m_get (v := .ref (a 33)) hx hb hts hin hown hK hP 33 (by decide) rfl (hts (.fieldLink RX10 73 "ShadowBenchModel" "shelfRow" "[J") (by decide +kernel)) rfl dX10_keep_189 ?_
                            refine lv_bipush (v := 60) hx hb dX10_keep_192 (by decide) ?_
                            refine lv_iload_n hx hb dX10_keep_194 rfl (lv_at hl 3 rfl) ?_
                            refine lv_imul hx hb dX10_keep_195 ?_
                            refine lv_topi (fun v195 e195 => ?_)
                            have i195 : v195.toInt = 60 * d.toInt := by rw [e195]; exact mulcL rfl (by omega) (by omega)
                            refine lv_iload hx hb dX10_keep_196 (lv_at hl 0 rfl) ?_
                            refine lv_iadd hx hb dX10_keep_198 ?_
                            refine lv_topi (fun v198 e198 => ?_)
                            have i198 : v198.toInt = v195.toInt + (nI i).toInt := by rw [e198]; exact fb_addI (by omega) (by omega)
                            refine lv_iload_n hx hb dX10_keep_199 rfl (lv_at hl 4 rfl) ?_
                            refine lv_iconst (v := 3) hx hb dX10_keep_200 (by decide) ?_
                            refine lv_icmp_ne (tgt := 215) hx hb dX10_keep_201 (by decide) (fun c201 => ?_) (fun c201 => ?_)
                            · first | exact absurd c201 c95 | exact absurd c95 c201
                            · skip
                              have d201 := c201
                              rw [fa_eq] at d201
                              refine lv_lload hx hb dX10_keep_204 (lv_at hl 6 rfl) ?_
                              refine lv_iload hx hb dX10_keep_206 (lv_at hl 0 rfl) ?_
                              refine m_pu (As := [.long p0, .int (nI i)]) (rest := [.int v198, .ref (a 33)]) ⟨hx, hb, hml, hown, hts⟩ (c_X10_one l p0 (nI i) ) (va_cwS 2 hts gX10_keep_X10_one rfl rfl rfl (by decide +kernel) ⟨Nat.le_of_ble_eq_true rfl, Nat.le_of_ble_eq_true rfl⟩) hP rfl hl.1 rfl (Nat.le_of_ble_eq_true rfl) dX10_keep_208 ⟨Nat.le_of_ble_eq_true rfl, Nat.le_of_ble_eq_true rfl⟩ hS (fun r208 H locs q208 hP hS => ?_)
                              have i208 : r208.toInt = (r_one p0 (nI i)).toInt := congrArg Int32.toInt q208
                              refine lv_i2l (v := r208.toInt64) hx hb dX10_keep_211 rfl ?_
                              refine lv_goto (tgt := 265) hx hb dX10_keep_212 (by decide) ?_
                              refine m_last (w := s3) hx hb hK hP hD hS 21 rfl (vp_in_iff.mpr ⟨by omega, by omega⟩) (va_up (va_up q 33 s3) 33 (vp_updL s3 v198.toNatClampNeg r208.toInt64)) (ms_33 cy mo a _ _ _ _ _) dX10_keep_265 (fun H locs hP hS => ?_)
                              have hP := wm_eq rfl rfl rfl (es_q_33__33 q s3 (vp_updL s3 v198.toNatClampNeg r208.toInt64)) hP
                              refine lv_iinc (v := (nI (i + 1))) (lv' := [(7, .int (nI (i + 1))), (6, .int (1 : Int32)), (0, .ref mo), (1, .int d), (2, .int what), (3, .int k0), (4, .long p0)]) hx hb dX10_keep_266 hl (k := 0) rfl (nI_1 _) (by decide) rfl (fun ls hl => ?_)
                              refine lv_goto (tgt := 177) hx hb dX10_keep_269 (by decide) ?_
                              have hP := wm_eq rfl rfl (ec_r_29_30__29_30 r ((upd (r 29) d.toNatClampNeg what)) ((upd (r 30) d.toNatClampNeg v110))) rfl hP
                              exact ih_177 (i + 1) (vp_updL s3 v198.toNatClampNeg r208.toInt64) (by omega) (by omega) _ _ hP hS ls (lv_sub hl [0, 1, 2, 3, 4, 5, 6] rfl)
                      have hP := wm_eq rfl rfl (ec_r_29_30__29_30 r ((upd (r 29) d.toNatClampNeg what)) ((upd (r 30) d.toNatClampNeg v110))) (ec_q___33 q ) hP
                      exact loop_177 (60 + 1) 0 (q 33) (by omega) (by omega) _ _ hP hS ls (lv_sub hl [0, 1, 2, 3, 4, 5, 6] rfl)
                    · skip
                      have d139 := c139
                      rw [fa_eq] at d139
                      refine lv_aload_n hx hb dX10_keep_142 rfl (lv_at hl 1 rfl) ?_
                      refine m_get (v := .ref (a 31)) hx hb hts hin hown hK hP 31 (by decide) rfl (hts (.fieldLink RX10 67 "ShadowBenchModel" "shelfWeight" "[I") (by decide +kernel)) rfl dX10_keep_143 ?_
                      refine lv_iload_n hx hb dX10_keep_146 rfl (lv_at hl 2 rfl) ?_
                      refine lv_aload_n hx hb dX10_keep_147 rfl (lv_at hl 1 rfl) ?_
                      refine lv_iload_n hx hb dX10_keep_148 rfl (lv_at hl 4 rfl) ?_
                      refine m_calli (As := [.int k0]) (rest := [.int d, .ref (a 31)]) ⟨hx, hb, hml, hown, hts⟩ (c_X10_weightOf l D cy mo a (upd f 0 (0 : Int32)) g (va_up (va_up r 29 ((upd (r 29) d.toNatClampNeg what))) 30 ((upd (r 30) d.toNatClampNeg v110))) q k0 hD (by first | exact hI | exact mi_sz (d := d) hI (v := 0) (by first | omega | decide) rfl rfl rfl rfl rfl rfl rfl rfl | exact mi_sz (d := d) hI (v := v131) (by first | omega | decide) rfl rfl rfl rfl rfl rfl rfl rfl | exact mi_sz (d := d) hI (v := v110) (by first | omega | decide) rfl rfl rfl rfl rfl rfl rfl rfl) (show 0 ≤ k0.toInt ∧ k0.toInt < (f 1).toInt by omega)) (cwV 1 hts gX10_keep_X10_weightOf rfl rfl rfl (by decide +kernel) ⟨Nat.le_of_ble_eq_true rfl, Nat.le_of_ble_eq_true rfl⟩) hK hP rfl hl.1 rfl (Nat.le_of_ble_eq_true rfl) dX10_keep_149 ⟨Nat.le_of_ble_eq_true rfl, Nat.le_of_ble_eq_true rfl⟩ hS (fun r149 u H locs q149 hP hS => ?_)
                      obtain ⟨rfl, q149⟩ := q149
                      have hP : va_P D vwCl (WM cy mo a (upd f 0 (0 : Int32)) g (va_up (va_up r 29 ((upd (r 29) d.toNatClampNeg what))) 30 ((upd (r 30) d.toNatClampNeg v110))) q) H := hP
                      have q149 : True := q149
                      refine m_iast (w := (r 31)) hx hb hK hP hD hS 19 rfl (vp_in_iff.mpr ⟨by omega, by omega⟩) (va_up (va_up (va_up r 29 ((upd (r 29) d.toNatClampNeg what))) 30 ((upd (r 30) d.toNatClampNeg v110))) 31 (upd (r 31) d.toNatClampNeg r149)) (ms_31 cy mo a _ _ _ _ _) dX10_keep_152 (fun H locs hP hS => ?_)
                      refine lv_aload_n hx hb dX10_keep_153 rfl (lv_at hl 1 rfl) ?_
                      refine m_get (v := .ref (a 32)) hx hb hts hin hown hK hP 32 (by decide) rfl (hts (.fieldLink RX10 70 "ShadowBenchModel" "shelfFailure" "[I") (by decide +kernel)) rfl dX10_keep_154 ?_
                      refine lv_iload_n hx hb dX10_keep_157 rfl (lv_at hl 2 rfl) ?_
                      refine lv_aload_n hx hb dX10_keep_158 rfl (lv_at hl 1 rfl) ?_
                      refine m_get (v := .ref (a 2)) hx hb hts hin hown hK hP 2 (by decide) rfl (hts (.fieldLink RX10 7 "ShadowBenchModel" "kind" "[I") (by decide +kernel)) rfl dX10_keep_159 ?_
                      refine lv_iload_n hx hb dX10_keep_162 rfl (lv_at hl 4 rfl) ?_
                      refine m_iald (w := (r 2)) hx hb hK hP 1 rfl (vp_in_iff.mpr ⟨by omega, by omega⟩) dX10_keep_163 ?_
                      refine lv_topi (fun v163 e163 => ?_)
                      have i163 : v163.toInt = ((r 2) k0.toNatClampNeg).toInt := congrArg Int32.toInt e163
                      refine lv_if_ne (tgt := 172) hx hb dX10_keep_164 (by decide) (fun c164 => ?_) (fun c164 => ?_)
                      · skip
                        have d164 := c164
                        rw [fa_eq] at d164
                        refine lv_iload_n hx hb dX10_keep_172 rfl (lv_at hl 4 rfl) ?_
                        refine m_iast (w := (r 32)) hx hb hK hP hD hS 20 rfl (vp_in_iff.mpr ⟨by omega, by omega⟩) (va_up (va_up (va_up (va_up r 29 ((upd (r 29) d.toNatClampNeg what))) 30 ((upd (r 30) d.toNatClampNeg v110))) 31 ((upd (r 31) d.toNatClampNeg r149))) 32 (upd (r 32) d.toNatClampNeg k0)) (ms_32 cy mo a _ _ _ _ _) dX10_keep_173 (fun H locs hP hS => ?_)
                        refine lv_iconst (v := 0) hx hb dX10_keep_174 (by decide) ?_
                        refine lv_istore (lv' := [(7, .int (0 : Int32)), (6, .int (1 : Int32)), (0, .ref mo), (1, .int d), (2, .int what), (3, .int k0), (4, .long p0)]) hx hb dX10_keep_175 hl (by decide) rfl (fun ls hl => ?_)
                        have loop_177 : ∀ (n : Nat) (i : Nat) (s3 : Nat → Int64), (i ≤ 60) → 60 - i < n → ∀ (H : Heap) (locs : List Loc), va_P D vwCl (WM cy mo a (upd f 0 (0 : Int32)) g (va_up (va_up (va_up (va_up r 29 ((upd (r 29) d.toNatClampNeg what))) 30 ((upd (r 30) d.toNatClampNeg v110))) 31 ((upd (r 31) d.toNatClampNeg r149))) 32 ((upd (r 32) d.toNatClampNeg k0))) (va_up q 33 s3)) H → va_S (AM mo a) s.heap H locs → ∀ (ls : Array Slot), lv_has ls 8 [(7, .int (nI i)), (6, .int (1 : Int32)), (0, .ref mo), (1, .int d), (2, .int what), (3, .int k0), (4, .long p0)] → W p l e (headSpec wsX10_keep ({ frames := 3, cells := 0, slots := 0, locals := 69 })).room s m #[Value.ref mo, Value.int d, Value.int what, Value.int k0, Value.long p0] below meth c H locs 0 0 (MQ below (va_Qi (fun r0 u => ∃ (sh : Nat → Int32), ∃ (sz : Nat → Int32), ∃ (sw : Nat → Int32), ∃ (sf : Nat → Int32), ∃ (sr : Nat → Int64), u = ((upd f 0 (0 : Int32)), g, (va_up (va_up (va_up (va_up r 29 sh) 30 sz) 31 sw) 32 sf), (va_up q 33 sr)) ∧ (yesNo (okKeep (f 1) (fun j9 => (r 3 j9).toNatClampNeg) (fun j9 => (r 4 j9).toNatClampNeg) d what k0 p0) 0 (-1) r0 ∧ MI (upd f 0 (0 : Int32)) (va_up (va_up (va_up (va_up r 29 sh) 30 sz) 31 sw) 32 sf))) (mB D cy mo a) (AM mo a)) #[Value.ref mo, Value.int d, Value.int what, Value.int k0, Value.long p0] s 0 0 (AM mo a)) (F0 m 177 ls []) := by
                          intro n
                          induction n with
                          | zero => intro i s3 j177_0 hn; exact absurd hn (Nat.not_lt_zero _)
                          | succ n ih_177 =>
                            intro i s3 j177_0 hn_177 H locs hP hS ls hl
                            have ii : (nI i).toInt = (i : Int) := nI_toInt (by omega)
                            refine lv_iload hx hb dX10_keep_177 (lv_at hl 0 rfl) ?_
                            refine lv_aload_n hx hb dX10_keep_179 rfl (lv_at hl 2 rfl) ?_
                            refine m_get (v := .ref (a 30)) hx hb hts hin hown hK hP 30 (by decide) rfl (hts (.fieldLink RX10 64 "ShadowBenchModel" "shelfSize" "[I") (by decide +kernel)) rfl dX10_keep_180 ?_
                            refine lv_iload_n hx hb dX10_keep_183 rfl (lv_at hl 3 rfl) ?_
                            refine m_iald (w := ((upd (r 30) d.toNatClampNeg v110))) hx hb hK hP 18 rfl (vp_in_iff.mpr ⟨by omega, by omega⟩) dX10_keep_184 ?_
                            refine lv_topi (fun v184 e184 => ?_)
                            have i184 : v184.toInt = (((upd (r 30) d.toNatClampNeg v110)) d.toNatClampNeg).toInt := congrArg Int32.toInt e184
                            have z184 := e184
                            simp only [upd, if_true] at z184
                            have y184 := congrArg Int32.toInt z184
                            refine lv_icmp_ge (tgt := 272) hx hb dX10_keep_185 (by decide) (fun c185 => ?_) (fun c185 => ?_)
                            · skip
                              have d185 := c185
                              rw [fa_le] at d185
                              refine lv_iconst (v := 0) hx hb dX10_keep_272 (by decide) ?_
                              have hP := wm_eq rfl rfl (ec_r_29_30_31_32__29_30_31_32 r ((upd (r 29) d.toNatClampNeg what)) ((upd (r 30) d.toNatClampNeg v110)) ((upd (r 31) d.toNatClampNeg r149)) ((upd (r 32) d.toNatClampNeg k0))) rfl hP
                              exact W.iret (v := (0 : Int32)) hx hb hr (fun t ht hW => ⟨⟨_, ((upd f 0 (0 : Int32)), g, (va_up (va_up (va_up (va_up r 29 (((upd (r 29) d.toNatClampNeg what)))) 30 (((upd (r 30) d.toNatClampNeg v110)))) 31 (((upd (r 31) d.toNatClampNeg r149)))) 32 (((upd (r 32) d.toNatClampNeg k0)))), (va_up q 33 s3)), rfl, ⟨((upd (r 29) d.toNatClampNeg what)), ((upd (r 30) d.toNatClampNeg v110)), ((upd (r 31) d.toNatClampNeg r149)), ((upd (r 32) d.toNatClampNeg k0)), s3, rfl, ⟨(Or.inl ⟨⟨b9, (by unfold okJob; first | exact Or.inl (by omega) | exact Or.inr (Or.inl ⟨by omega, b31⟩) | (have z9 := goodP_of b64; subst e52; subst e58; exact Or.inr (Or.inr ⟨by omega, b44, z9.2⟩)))⟩, rfl⟩), by first | exact hI | exact mi_sz (d := d) hI (v := v110) (by omega) rfl rfl rfl rfl rfl rfl rfl rfl | exact mi_sz (d := d) hI (v := v131) (by omega) rfl rfl rfl rfl rfl rfl rfl rfl | exact mi_sz (d := d) hI (v := 0) (by decide) rfl rfl rfl rfl rfl rfl rfl rfl⟩⟩, by unfold mB; rw [ht]; exact hP⟩, hS.F ht⟩) hS.2.2 dX10_keep_273
                            · skip
                              have d185 := c185
                              rw [fa_le] at d185
                              refine lv_aload_n hx hb dX10_keep_188 rfl (lv_at hl 2 rfl) ?_
                              refine m_get (v := .ref (a 33)) hx hb hts hin hown hK hP 33 (by decide) rfl (hts (.fieldLink RX10 73 "ShadowBenchModel" "shelfRow" "[J") (by decide +kernel)) rfl dX10_keep_189 ?_
                              refine lv_bipush (v := 60) hx hb dX10_keep_192 (by decide) ?_
                              refine lv_iload_n hx hb dX10_keep_194 rfl (lv_at hl 3 rfl) ?_
                              refine lv_imul hx hb dX10_keep_195 ?_
                              refine lv_topi (fun v195 e195 => ?_)
                              have i195 : v195.toInt = 60 * d.toInt := by rw [e195]; exact mulcL rfl (by omega) (by omega)
                              refine lv_iload hx hb dX10_keep_196 (lv_at hl 0 rfl) ?_
                              refine lv_iadd hx hb dX10_keep_198 ?_
                              refine lv_topi (fun v198 e198 => ?_)
                              have i198 : v198.toInt = v195.toInt + (nI i).toInt := by rw [e198]; exact fb_addI (by omega) (by omega)
                              refine lv_iload_n hx hb dX10_keep_199 rfl (lv_at hl 4 rfl) ?_
                              refine lv_iconst (v := 3) hx hb dX10_keep_200 (by decide) ?_
                              refine lv_icmp_ne (tgt := 215) hx hb dX10_keep_201 (by decide) (fun c201 => ?_) (fun c201 => ?_)
                              · first | exact absurd c201 c95 | exact absurd c95 c201
                              · skip
                                have d201 := c201
                                rw [fa_eq] at d201
                                refine lv_lload hx hb dX10_keep_204 (lv_at hl 6 rfl) ?_
                                refine lv_iload hx hb dX10_keep_206 (lv_at hl 0 rfl) ?_
                                refine m_pu (As := [.long p0, .int (nI i)]) (rest := [.int v198, .ref (a 33)]) ⟨hx, hb, hml, hown, hts⟩ (c_X10_one l p0 (nI i) ) (va_cwS 2 hts gX10_keep_X10_one rfl rfl rfl (by decide +kernel) ⟨Nat.le_of_ble_eq_true rfl, Nat.le_of_ble_eq_true rfl⟩) hP rfl hl.1 rfl (Nat.le_of_ble_eq_true rfl) dX10_keep_208 ⟨Nat.le_of_ble_eq_true rfl, Nat.le_of_ble_eq_true rfl⟩ hS (fun r208 H locs q208 hP hS => ?_)
                                have i208 : r208.toInt = (r_one p0 (nI i)).toInt := congrArg Int32.toInt q208
                                refine lv_i2l (v := r208.toInt64) hx hb dX10_keep_211 rfl ?_
                                refine lv_goto (tgt := 265) hx hb dX10_keep_212 (by decide) ?_
                                refine m_last (w := s3) hx hb hK hP hD hS 21 rfl (vp_in_iff.mpr ⟨by omega, by omega⟩) (va_up (va_up q 33 s3) 33 (vp_updL s3 v198.toNatClampNeg r208.toInt64)) (ms_33 cy mo a _ _ _ _ _) dX10_keep_265 (fun H locs hP hS => ?_)
                                have hP := wm_eq rfl rfl rfl (es_q_33__33 q s3 (vp_updL s3 v198.toNatClampNeg r208.toInt64)) hP
                                refine lv_iinc (v := (nI (i + 1))) (lv' := [(7, .int (nI (i + 1))), (6, .int (1 : Int32)), (0, .ref mo), (1, .int d), (2, .int what), (3, .int k0), (4, .long p0)]) hx hb dX10_keep_266 hl (k := 0) rfl (nI_1 _) (by decide) rfl (fun ls hl => ?_)
                                refine lv_goto (tgt := 177) hx hb dX10_keep_269 (by decide) ?_
                                have hP := wm_eq rfl rfl (ec_r_29_30_31_32__29_30_31_32 r ((upd (r 29) d.toNatClampNeg what)) ((upd (r 30) d.toNatClampNeg v110)) ((upd (r 31) d.toNatClampNeg r149)) ((upd (r 32) d.toNatClampNeg k0))) rfl hP
                                exact ih_177 (i + 1) (vp_updL s3 v198.toNatClampNeg r208.toInt64) (by omega) (by omega) _ _ hP hS ls (lv_sub hl [0, 1, 2, 3, 4, 5, 6] rfl)
                        have hP := wm_eq rfl rfl (ec_r_29_30_31_32__29_30_31_32 r ((upd (r 29) d.toNatClampNeg what)) ((upd (r 30) d.toNatClampNeg v110)) ((upd (r 31) d.toNatClampNeg r149)) ((upd (r 32) d.toNatClampNeg k0))) (ec_q___33 q ) hP
                        exact loop_177 (60 + 1) 0 (q 33) (by omega) (by omega) _ _ hP hS ls (lv_sub hl [0, 1, 2, 3, 4, 5, 6] rfl)
                      · skip
                        have d164 := c164
                        rw [fa_eq] at d164
                        refine lv_bipush (v := (-15)) hx hb dX10_keep_167 (by decide) ?_
                        refine lv_goto (tgt := 173) hx hb dX10_keep_169 (by decide) ?_
                        refine m_iast (w := (r 32)) hx hb hK hP hD hS 20 rfl (vp_in_iff.mpr ⟨by omega, by omega⟩) (va_up (va_up (va_up (va_up r 29 ((upd (r 29) d.toNatClampNeg what))) 30 ((upd (r 30) d.toNatClampNeg v110))) 31 ((upd (r 31) d.toNatClampNeg r149))) 32 (upd (r 32) d.toNatClampNeg (((-15) : Int32)))) (ms_32 cy mo a _ _ _ _ _) dX10_keep_173 (fun H locs hP hS => ?_)
                        refine lv_iconst (v := 0) hx hb dX10_keep_174 (by decide) ?_
                        refine lv_istore (lv' := [(7, .int (0 : Int32)), (6, .int (1 : Int32)), (0, .ref mo), (1, .int d), (2, .int what), (3, .int k0), (4, .long p0)]) hx hb dX10_keep_175 hl (by decide) rfl (fun ls hl => ?_)
                        have loop_177 : ∀ (n : Nat) (i : Nat) (s3 : Nat → Int64), (i ≤ 60) → 60 - i < n → ∀ (H : Heap) (locs : List Loc), va_P D vwCl (WM cy mo a (upd f 0 (0 : Int32)) g (va_up (va_up (va_up (va_up r 29 ((upd (r 29) d.toNatClampNeg what))) 30 ((upd (r 30) d.toNatClampNeg v110))) 31 ((upd (r 31) d.toNatClampNeg r149))) 32 ((upd (r 32) d.toNatClampNeg (((-15) : Int32))))) (va_up q 33 s3)) H → va_S (AM mo a) s.heap H locs → ∀ (ls : Array Slot), lv_has ls 8 [(7, .int (nI i)), (6, .int (1 : Int32)), (0, .ref mo), (1, .int d), (2, .int what), (3, .int k0), (4, .long p0)] → W p l e (headSpec wsX10_keep ({ frames := 3, cells := 0, slots := 0, locals := 69 })).room s m #[Value.ref mo, Value.int d, Value.int what, Value.int k0, Value.long p0] below meth c H locs 0 0 (MQ below (va_Qi (fun r0 u => ∃ (sh : Nat → Int32), ∃ (sz : Nat → Int32), ∃ (sw : Nat → Int32), ∃ (sf : Nat → Int32), ∃ (sr : Nat → Int64), u = ((upd f 0 (0 : Int32)), g, (va_up (va_up (va_up (va_up r 29 sh) 30 sz) 31 sw) 32 sf), (va_up q 33 sr)) ∧ (yesNo (okKeep (f 1) (fun j9 => (r 3 j9).toNatClampNeg) (fun j9 => (r 4 j9).toNatClampNeg) d what k0 p0) 0 (-1) r0 ∧ MI (upd f 0 (0 : Int32)) (va_up (va_up (va_up (va_up r 29 sh) 30 sz) 31 sw) 32 sf))) (mB D cy mo a) (AM mo a)) #[Value.ref mo, Value.int d, Value.int what, Value.int k0, Value.long p0] s 0 0 (AM mo a)) (F0 m 177 ls []) := by
                          intro n
                          induction n with
                          | zero => intro i s3 j177_0 hn; exact absurd hn (Nat.not_lt_zero _)
                          | succ n ih_177 =>
                            intro i s3 j177_0 hn_177 H locs hP hS ls hl
                            have ii : (nI i).toInt = (i : Int) := nI_toInt (by omega)
                            refine lv_iload hx hb dX10_keep_177 (lv_at hl 0 rfl) ?_
                            refine lv_aload_n hx hb dX10_keep_179 rfl (lv_at hl 2 rfl) ?_
                            refine m_get (v := .ref (a 30)) hx hb hts hin hown hK hP 30 (by decide) rfl (hts (.fieldLink RX10 64 "ShadowBenchModel" "shelfSize" "[I") (by decide +kernel)) rfl dX10_keep_180 ?_
                            refine lv_iload_n hx hb dX10_keep_183 rfl (lv_at hl 3 rfl) ?_
                            refine m_iald (w := ((upd (r 30) d.toNatClampNeg v110))) hx hb hK hP 18 rfl (vp_in_iff.mpr ⟨by omega, by omega⟩) dX10_keep_184 ?_
                            refine lv_topi (fun v184 e184 => ?_)
                            have i184 : v184.toInt = (((upd (r 30) d.toNatClampNeg v110)) d.toNatClampNeg).toInt := congrArg Int32.toInt e184
                            have z184 := e184
                            simp only [upd, if_true] at z184
                            have y184 := congrArg Int32.toInt z184
                            refine lv_icmp_ge (tgt := 272) hx hb dX10_keep_185 (by decide) (fun c185 => ?_) (fun c185 => ?_)
                            · skip
                              have d185 := c185
                              rw [fa_le] at d185
                              refine lv_iconst (v := 0) hx hb dX10_keep_272 (by decide) ?_
                              have hP := wm_eq rfl rfl (ec_r_29_30_31_32__29_30_31_32 r ((upd (r 29) d.toNatClampNeg what)) ((upd (r 30) d.toNatClampNeg v110)) ((upd (r 31) d.toNatClampNeg r149)) ((upd (r 32) d.toNatClampNeg (((-15) : Int32))))) rfl hP
                              exact W.iret (v := (0 : Int32)) hx hb hr (fun t ht hW => ⟨⟨_, ((upd f 0 (0 : Int32)), g, (va_up (va_up (va_up (va_up r 29 (((upd (r 29) d.toNatClampNeg what)))) 30 (((upd (r 30) d.toNatClampNeg v110)))) 31 (((upd (r 31) d.toNatClampNeg r149)))) 32 (((upd (r 32) d.toNatClampNeg (((-15) : Int32)))))), (va_up q 33 s3)), rfl, ⟨((upd (r 29) d.toNatClampNeg what)), ((upd (r 30) d.toNatClampNeg v110)), ((upd (r 31) d.toNatClampNeg r149)), ((upd (r 32) d.toNatClampNeg (((-15) : Int32)))), s3, rfl, ⟨(Or.inl ⟨⟨b9, (by unfold okJob; first | exact Or.inl (by omega) | exact Or.inr (Or.inl ⟨by omega, b31⟩) | (have z9 := goodP_of b64; subst e52; subst e58; exact Or.inr (Or.inr ⟨by omega, b44, z9.2⟩)))⟩, rfl⟩), by first | exact hI | exact mi_sz (d := d) hI (v := v110) (by omega) rfl rfl rfl rfl rfl rfl rfl rfl | exact mi_sz (d := d) hI (v := v131) (by omega) rfl rfl rfl rfl rfl rfl rfl rfl | exact mi_sz (d := d) hI (v := 0) (by decide) rfl rfl rfl rfl rfl rfl rfl rfl⟩⟩, by unfold mB; rw [ht]; exact hP⟩, hS.F ht⟩) hS.2.2 dX10_keep_273
                            · skip
                              have d185 := c185
                              rw [fa_le] at d185
                              refine lv_aload_n hx hb dX10_keep_188 rfl (lv_at hl 2 rfl) ?_
                              refine m_get (v := .ref (a 33)) hx hb hts hin hown hK hP 33 (by decide) rfl (hts (.fieldLink RX10 73 "ShadowBenchModel" "shelfRow" "[J") (by decide +kernel)) rfl dX10_keep_189 ?_
                              refine lv_bipush (v := 60) hx hb dX10_keep_192 (by decide) ?_
                              refine lv_iload_n hx hb dX10_keep_194 rfl (lv_at hl 3 rfl) ?_
                              refine lv_imul hx hb dX10_keep_195 ?_
                              refine lv_topi (fun v195 e195 => ?_)
                              have i195 : v195.toInt = 60 * d.toInt := by rw [e195]; exact mulcL rfl (by omega) (by omega)
                              refine lv_iload hx hb dX10_keep_196 (lv_at hl 0 rfl) ?_
                              refine lv_iadd hx hb dX10_keep_198 ?_
                              refine lv_topi (fun v198 e198 => ?_)
                              have i198 : v198.toInt = v195.toInt + (nI i).toInt := by rw [e198]; exact fb_addI (by omega) (by omega)
                              refine lv_iload_n hx hb dX10_keep_199 rfl (lv_at hl 4 rfl) ?_
                              refine lv_iconst (v := 3) hx hb dX10_keep_200 (by decide) ?_
                              refine lv_icmp_ne (tgt := 215) hx hb dX10_keep_201 (by decide) (fun c201 => ?_) (fun c201 => ?_)
                              · first | exact absurd c201 c95 | exact absurd c95 c201
                              · skip
                                have d201 := c201
                                rw [fa_eq] at d201
                                refine lv_lload hx hb dX10_keep_204 (lv_at hl 6 rfl) ?_
                                refine lv_iload hx hb dX10_keep_206 (lv_at hl 0 rfl) ?_
                                refine m_pu (As := [.long p0, .int (nI i)]) (rest := [.int v198, .ref (a 33)]) ⟨hx, hb, hml, hown, hts⟩ (c_X10_one l p0 (nI i) ) (va_cwS 2 hts gX10_keep_X10_one rfl rfl rfl (by decide +kernel) ⟨Nat.le_of_ble_eq_true rfl, Nat.le_of_ble_eq_true rfl⟩) hP rfl hl.1 rfl (Nat.le_of_ble_eq_true rfl) dX10_keep_208 ⟨Nat.le_of_ble_eq_true rfl, Nat.le_of_ble_eq_true rfl⟩ hS (fun r208 H locs q208 hP hS => ?_)
                                have i208 : r208.toInt = (r_one p0 (nI i)).toInt := congrArg Int32.toInt q208
                                refine lv_i2l (v := r208.toInt64) hx hb dX10_keep_211 rfl ?_
                                refine lv_goto (tgt := 265) hx hb dX10_keep_212 (by decide) ?_
                                refine m_last (w := s3) hx hb hK hP hD hS 21 rfl (vp_in_iff.mpr ⟨by omega, by omega⟩) (va_up (va_up q 33 s3) 33 (vp_updL s3 v198.toNatClampNeg r208.toInt64)) (ms_33 cy mo a _ _ _ _ _) dX10_keep_265 (fun H locs hP hS => ?_)
                                have hP := wm_eq rfl rfl rfl (es_q_33__33 q s3 (vp_updL s3 v198.toNatClampNeg r208.toInt64)) hP
                                refine lv_iinc (v := (nI (i + 1))) (lv' := [(7, .int (nI (i + 1))), (6, .int (1 : Int32)), (0, .ref mo), (1, .int d), (2, .int what), (3, .int k0), (4, .long p0)]) hx hb dX10_keep_266 hl (k := 0) rfl (nI_1 _) (by decide) rfl (fun ls hl => ?_)
                                refine lv_goto (tgt := 177) hx hb dX10_keep_269 (by decide) ?_
                                have hP := wm_eq rfl rfl (ec_r_29_30_31_32__29_30_31_32 r ((upd (r 29) d.toNatClampNeg what)) ((upd (r 30) d.toNatClampNeg v110)) ((upd (r 31) d.toNatClampNeg r149)) ((upd (r 32) d.toNatClampNeg (((-15) : Int32))))) rfl hP
                                exact ih_177 (i + 1) (vp_updL s3 v198.toNatClampNeg r208.toInt64) (by omega) (by omega) _ _ hP hS ls (lv_sub hl [0, 1, 2, 3, 4, 5, 6] rfl)
                        have hP := wm_eq rfl rfl (ec_r_29_30_31_32__29_30_31_32 r ((upd (r 29) d.toNatClampNeg what)) ((upd (r 30) d.toNatClampNeg v110)) ((upd (r 31) d.toNatClampNeg r149)) ((upd (r 32) d.toNatClampNeg (((-15) : Int32))))) (ec_q___33 q ) hP
                        exact loop_177 (60 + 1) 0 (q 33) (by omega) (by omega) _ _ hP hS ls (lv_sub hl [0, 1, 2, 3, 4, 5, 6] rfl)
                · first | exact absurd c76 (by decide) | exact absurd (by decide) c76
      · skip
        have d18 := c18
        rw [fa_eq] at d18
        refine lv_iload_n hx hb dX10_keep_21 rfl (lv_at hl 2 rfl) ?_
        refine lv_iconst (v := 4) hx hb dX10_keep_22 (by decide) ?_
        refine lv_icmp_ne (tgt := 34) hx hb dX10_keep_23 (by decide) (fun c23 => ?_) (fun c23 => ?_)
        · skip
          have d23 := c23
          rw [fa_eq] at d23
          refine lv_iload_n hx hb dX10_keep_34 rfl (lv_at hl 2 rfl) ?_
          refine lv_iconst (v := 3) hx hb dX10_keep_35 (by decide) ?_
          refine lv_icmp_ne (tgt := 71) hx hb dX10_keep_36 (by decide) (fun c36 => ?_) (fun c36 => ?_)
          · skip
            have d36 := c36
            rw [fa_eq] at d36
            refine lv_iconst (v := 0) hx hb dX10_keep_71 (by decide) ?_
            refine lv_istore (lv' := [(6, .int (0 : Int32)), (0, .ref mo), (1, .int d), (2, .int what), (3, .int k0), (4, .long p0)]) hx hb dX10_keep_72 hl (by decide) rfl (fun ls hl => ?_)
            refine lv_iload hx hb dX10_keep_74 (lv_at hl 0 rfl) ?_
            refine lv_if_ne (tgt := 81) hx hb dX10_keep_76 (by decide) (fun c76 => ?_) (fun c76 => ?_)
            · first | exact absurd c76 (by decide) | exact absurd (by decide) c76
            · skip
              have d76 := c76
              rw [fa_eq] at d76
              refine lv_iconst (v := (-1)) hx hb dX10_keep_79 (by decide) ?_
              have hP := wm_eq rfl rfl (ec_r___29_30_31_32 r ) (ec_q___33 q ) hP
              exact W.iret (v := ((-1) : Int32)) hx hb hr (fun t ht hW => ⟨⟨_, ((upd f 0 (0 : Int32)), g, (va_up (va_up (va_up (va_up r 29 (r 29)) 30 (r 30)) 31 (r 31)) 32 (r 32)), (va_up q 33 (q 33))), rfl, ⟨(r 29), (r 30), (r 31), (r 32), (q 33), rfl, ⟨(Or.inr ⟨(fun z9 => by unfold okKeep okJob at z9; rcases z9.2 with z8 | ⟨z8, z7⟩ | ⟨z8, z7, z6⟩; (first | exact b9 z9.1 | omega); (first | exact b9 z9.1 | exact b31 z7 | omega); (first | exact b9 z9.1 | exact b44 z7 | (have szw := mi_w hI (x := k0) (by omega) (by omega) rfl; have szh := mi_h hI (x := k0) (by omega) (by omega) rfl; subst e52; subst e58; exact goodP_no b64 ⟨⟨szw, szh⟩, z6⟩) | omega)), rfl⟩), by first | exact hI | exact mi_sz (d := d) hI (v := v110) (by omega) rfl rfl rfl rfl rfl rfl rfl rfl | exact mi_sz (d := d) hI (v := v131) (by omega) rfl rfl rfl rfl rfl rfl rfl rfl | exact mi_sz (d := d) hI (v := 0) (by decide) rfl rfl rfl rfl rfl rfl rfl rfl⟩⟩, by unfold mB; rw [ht]; exact hP⟩, hS.F ht⟩) hS.2.2 dX10_keep_80
          · skip
            have d36 := c36
            rw [fa_eq] at d36
            refine lv_aload_n hx hb dX10_keep_39 rfl (lv_at hl 0 rfl) ?_
            refine lv_iload_n hx hb dX10_keep_40 rfl (lv_at hl 3 rfl) ?_
            refine m_calli (As := [.int k0]) (rest := []) ⟨hx, hb, hml, hown, hts⟩ (c_X10_isJob l D cy mo a (upd f 0 (0 : Int32)) g r q k0 hD) (cwV 1 hts gX10_keep_X10_isJob rfl rfl rfl (by decide +kernel) ⟨Nat.le_of_ble_eq_true rfl, Nat.le_of_ble_eq_true rfl⟩) hK hP rfl hl.1 rfl (Nat.le_of_ble_eq_true rfl) dX10_keep_41 ⟨Nat.le_of_ble_eq_true rfl, Nat.le_of_ble_eq_true rfl⟩ hS (fun r41 u H locs q41 hP hS => ?_)
            obtain ⟨rfl, q41⟩ := q41
            have hP : va_P D vwCl (WM cy mo a (upd f 0 (0 : Int32)) g r q) H := hP
            have q41 : Bo r41 (0 ≤ k0.toInt ∧ k0.toInt < ((f 1)).toInt) := q41
            refine lv_if_eq (tgt := 71) hx hb dX10_keep_44 (by decide) (fun c44 => ?_) (fun c44 => ?_)
            · skip
              have b44 := bo_f q41 c44
              refine lv_iconst (v := 0) hx hb dX10_keep_71 (by decide) ?_
              refine lv_istore (lv' := [(6, .int (0 : Int32)), (0, .ref mo), (1, .int d), (2, .int what), (3, .int k0), (4, .long p0)]) hx hb dX10_keep_72 hl (by decide) rfl (fun ls hl => ?_)
              refine lv_iload hx hb dX10_keep_74 (lv_at hl 0 rfl) ?_
              refine lv_if_ne (tgt := 81) hx hb dX10_keep_76 (by decide) (fun c76 => ?_) (fun c76 => ?_)
              · first | exact absurd c76 (by decide) | exact absurd (by decide) c76
              · skip
                have d76 := c76
                rw [fa_eq] at d76
                refine lv_iconst (v := (-1)) hx hb dX10_keep_79 (by decide) ?_
                have hP := wm_eq rfl rfl (ec_r___29_30_31_32 r ) (ec_q___33 q ) hP
                exact W.iret (v := ((-1) : Int32)) hx hb hr (fun t ht hW => ⟨⟨_, ((upd f 0 (0 : Int32)), g, (va_up (va_up (va_up (va_up r 29 (r 29)) 30 (r 30)) 31 (r 31)) 32 (r 32)), (va_up q 33 (q 33))), rfl, ⟨(r 29), (r 30), (r 31), (r 32), (q 33), rfl, ⟨(Or.inr ⟨(fun z9 => by unfold okKeep okJob at z9; rcases z9.2 with z8 | ⟨z8, z7⟩ | ⟨z8, z7, z6⟩; (first | exact b9 z9.1 | omega); (first | exact b9 z9.1 | exact b31 z7 | omega); (first | exact b9 z9.1 | exact b44 z7 | (have szw := mi_w hI (x := k0) (by omega) (by omega) rfl; have szh := mi_h hI (x := k0) (by omega) (by omega) rfl; subst e52; subst e58; exact goodP_no b64 ⟨⟨szw, szh⟩, z6⟩) | omega)), rfl⟩), by first | exact hI | exact mi_sz (d := d) hI (v := v110) (by omega) rfl rfl rfl rfl rfl rfl rfl rfl | exact mi_sz (d := d) hI (v := v131) (by omega) rfl rfl rfl rfl rfl rfl rfl rfl | exact mi_sz (d := d) hI (v := 0) (by decide) rfl rfl rfl rfl rfl rfl rfl rfl⟩⟩, by unfold mB; rw [ht]; exact hP⟩, hS.F ht⟩) hS.2.2 dX10_keep_80
            · skip
              have b44 := bo_t q41 c44
              refine lv_aload_n hx hb dX10_keep_47 rfl (lv_at hl 0 rfl) ?_
              refine m_get (v := .ref (a 3)) hx hb hts hin hown hK hP 3 (by decide) rfl (hts (.fieldLink RX10 13 "ShadowBenchModel" "wide" "[I") (by decide +kernel)) rfl dX10_keep_48 ?_
              refine lv_iload_n hx hb dX10_keep_51 rfl (lv_at hl 3 rfl) ?_
              refine m_iald (w := (r 3)) hx hb hK hP 2 rfl (vp_in_iff.mpr ⟨by omega, by omega⟩) dX10_keep_52 ?_
              refine lv_topi (fun v52 e52 => ?_)
              have i52 : v52.toInt = ((r 3) k0.toNatClampNeg).toInt := congrArg Int32.toInt e52
              have w52 := mi_w hI (x := k0) (by omega) (by omega) e52
              refine lv_aload_n hx hb dX10_keep_53 rfl (lv_at hl 0 rfl) ?_
              refine m_get (v := .ref (a 4)) hx hb hts hin hown hK hP 4 (by decide) rfl (hts (.fieldLink RX10 16 "ShadowBenchModel" "high" "[I") (by decide +kernel)) rfl dX10_keep_54 ?_
              refine lv_iload_n hx hb dX10_keep_57 rfl (lv_at hl 3 rfl) ?_
              refine m_iald (w := (r 4)) hx hb hK hP 3 rfl (vp_in_iff.mpr ⟨by omega, by omega⟩) dX10_keep_58 ?_
              refine lv_topi (fun v58 e58 => ?_)
              have i58 : v58.toInt = ((r 4) k0.toNatClampNeg).toInt := congrArg Int32.toInt e58
              have w58 := mi_h hI (x := k0) (by omega) (by omega) e58
              refine lv_lload hx hb dX10_keep_59 (lv_at hl 4 rfl) ?_
              refine m_pu (As := [.int v52, .int v58, .long p0]) (rest := []) ⟨hx, hb, hml, hown, hts⟩ (c_X10_isPicture l v52 v58 p0 ) (va_cwS 3 hts gX10_keep_X10_isPicture rfl rfl rfl (by decide +kernel) ⟨Nat.le_of_ble_eq_true rfl, Nat.le_of_ble_eq_true rfl⟩) hP rfl hl.1 rfl (Nat.le_of_ble_eq_true rfl) dX10_keep_61 ⟨Nat.le_of_ble_eq_true rfl, Nat.le_of_ble_eq_true rfl⟩ hS (fun r61 H locs q61 hP hS => ?_)
              refine lv_if_eq (tgt := 71) hx hb dX10_keep_64 (by decide) (fun c64 => ?_) (fun c64 => ?_)
              · skip
                have b64 := bo_f q61 c64
                refine lv_iconst (v := 0) hx hb dX10_keep_71 (by decide) ?_
                refine lv_istore (lv' := [(6, .int (0 : Int32)), (0, .ref mo), (1, .int d), (2, .int what), (3, .int k0), (4, .long p0)]) hx hb dX10_keep_72 hl (by decide) rfl (fun ls hl => ?_)
                refine lv_iload hx hb dX10_keep_74 (lv_at hl 0 rfl) ?_
                refine lv_if_ne (tgt := 81) hx hb dX10_keep_76 (by decide) (fun c76 => ?_) (fun c76 => ?_)
                · first | exact absurd c76 (by decide) | exact absurd (by decide) c76
                · skip
                  have d76 := c76
                  rw [fa_eq] at d76
                  refine lv_iconst (v := (-1)) hx hb dX10_keep_79 (by decide) ?_
                  have hP := wm_eq rfl rfl (ec_r___29_30_31_32 r ) (ec_q___33 q ) hP
                  exact W.iret (v := ((-1) : Int32)) hx hb hr (fun t ht hW => ⟨⟨_, ((upd f 0 (0 : Int32)), g, (va_up (va_up (va_up (va_up r 29 (r 29)) 30 (r 30)) 31 (r 31)) 32 (r 32)), (va_up q 33 (q 33))), rfl, ⟨(r 29), (r 30), (r 31), (r 32), (q 33), rfl, ⟨(Or.inr ⟨(fun z9 => by unfold okKeep okJob at z9; rcases z9.2 with z8 | ⟨z8, z7⟩ | ⟨z8, z7, z6⟩; (first | exact b9 z9.1 | omega); (first | exact b9 z9.1 | exact b31 z7 | omega); (first | exact b9 z9.1 | exact b44 z7 | (have szw := mi_w hI (x := k0) (by omega) (by omega) rfl; have szh := mi_h hI (x := k0) (by omega) (by omega) rfl; subst e52; subst e58; exact goodP_no b64 ⟨⟨szw, szh⟩, z6⟩) | omega)), rfl⟩), by first | exact hI | exact mi_sz (d := d) hI (v := v110) (by omega) rfl rfl rfl rfl rfl rfl rfl rfl | exact mi_sz (d := d) hI (v := v131) (by omega) rfl rfl rfl rfl rfl rfl rfl rfl | exact mi_sz (d := d) hI (v := 0) (by decide) rfl rfl rfl rfl rfl rfl rfl rfl⟩⟩, by unfold mB; rw [ht]; exact hP⟩, hS.F ht⟩) hS.2.2 dX10_keep_80
              · skip
                have b64 := bo_t q61 c64
                refine lv_iconst (v := 1) hx hb dX10_keep_67 (by decide) ?_
                refine lv_goto (tgt := 72) hx hb dX10_keep_68 (by decide) ?_
                refine lv_istore (lv' := [(6, .int (1 : Int32)), (0, .ref mo), (1, .int d), (2, .int what), (3, .int k0), (4, .long p0)]) hx hb dX10_keep_72 hl (by decide) rfl (fun ls hl => ?_)
                refine lv_iload hx hb dX10_keep_74 (lv_at hl 0 rfl) ?_
                refine lv_if_ne (tgt := 81) hx hb dX10_keep_76 (by decide) (fun c76 => ?_) (fun c76 => ?_)
                · skip
                  have d76 := c76
                  rw [fa_eq] at d76
                  refine lv_aload_n hx hb dX10_keep_81 rfl (lv_at hl 1 rfl) ?_
                  refine m_get (v := .ref (a 29)) hx hb hts hin hown hK hP 29 (by decide) rfl (hts (.fieldLink RX10 61 "ShadowBenchModel" "shelf" "[I") (by decide +kernel)) rfl dX10_keep_82 ?_
                  refine lv_iload_n hx hb dX10_keep_85 rfl (lv_at hl 2 rfl) ?_
                  refine lv_iload_n hx hb dX10_keep_86 rfl (lv_at hl 3 rfl) ?_
                  refine m_iast (w := (r 29)) hx hb hK hP hD hS 17 rfl (vp_in_iff.mpr ⟨by omega, by omega⟩) (va_up r 29 (upd (r 29) d.toNatClampNeg what)) (ms_29 cy mo a _ _ _ _ _) dX10_keep_87 (fun H locs hP hS => ?_)
                  refine lv_aload_n hx hb dX10_keep_88 rfl (lv_at hl 1 rfl) ?_
                  refine m_get (v := .ref (a 30)) hx hb hts hin hown hK hP 30 (by decide) rfl (hts (.fieldLink RX10 64 "ShadowBenchModel" "shelfSize" "[I") (by decide +kernel)) rfl dX10_keep_89 ?_
                  refine lv_iload_n hx hb dX10_keep_92 rfl (lv_at hl 2 rfl) ?_
                  refine lv_iload_n hx hb dX10_keep_93 rfl (lv_at hl 3 rfl) ?_
                  refine lv_iconst (v := 3) hx hb dX10_keep_94 (by decide) ?_
                  refine lv_icmp_ne (tgt := 114) hx hb dX10_keep_95 (by decide) (fun c95 => ?_) (fun c95 => ?_)
                  · first | exact absurd c95 c36 | exact absurd c36 c95
                  · skip
                    have d95 := c95
                    rw [fa_eq] at d95
                    refine lv_aload_n hx hb dX10_keep_98 rfl (lv_at hl 1 rfl) ?_
                    refine m_get (v := .ref (a 3)) hx hb hts hin hown hK hP 3 (by decide) rfl (hts (.fieldLink RX10 13 "ShadowBenchModel" "wide" "[I") (by decide +kernel)) rfl dX10_keep_99 ?_
                    refine lv_iload_n hx hb dX10_keep_102 rfl (lv_at hl 4 rfl) ?_
                    refine m_iald (w := (r 3)) hx hb hK hP 2 rfl (vp_in_iff.mpr ⟨by omega, by omega⟩) dX10_keep_103 ?_
                    refine lv_topi (fun v103 e103 => ?_)
                    have i103 : v103.toInt = ((r 3) k0.toNatClampNeg).toInt := congrArg Int32.toInt e103
                    have w103 := mi_w hI (x := k0) (by omega) (by omega) e103
                    refine lv_aload_n hx hb dX10_keep_104 rfl (lv_at hl 1 rfl) ?_
                    refine m_get (v := .ref (a 4)) hx hb hts hin hown hK hP 4 (by decide) rfl (hts (.fieldLink RX10 16 "ShadowBenchModel" "high" "[I") (by decide +kernel)) rfl dX10_keep_105 ?_
                    refine lv_iload_n hx hb dX10_keep_108 rfl (lv_at hl 4 rfl) ?_
                    refine m_iald (w := (r 4)) hx hb hK hP 3 rfl (vp_in_iff.mpr ⟨by omega, by omega⟩) dX10_keep_109 ?_
                    refine lv_topi (fun v109 e109 => ?_)
                    have i109 : v109.toInt = ((r 4) k0.toNatClampNeg).toInt := congrArg Int32.toInt e109
                    have w109 := mi_h hI (x := k0) (by omega) (by omega) e109
                    have m110 := mul66 w103 w109
                    refine lv_imul hx hb dX10_keep_110 ?_
                    refine lv_topi (fun v110 e110 => ?_)
                    have i110 : v110.toInt = v103.toInt * v109.toInt := by rw [e110]; exact fb_mulI (by omega) (by omega)
                    refine lv_goto (tgt := 136) hx hb dX10_keep_111 (by decide) ?_
                    refine m_iast (w := (r 30)) hx hb hK hP hD hS 18 rfl (vp_in_iff.mpr ⟨by omega, by omega⟩) (va_up (va_up r 29 ((upd (r 29) d.toNatClampNeg what))) 30 (upd (r 30) d.toNatClampNeg v110)) (ms_30 cy mo a _ _ _ _ _) dX10_keep_136 (fun H locs hP hS => ?_)
                    refine lv_iload_n hx hb dX10_keep_137 rfl (lv_at hl 3 rfl) ?_
                    refine lv_iconst (v := 1) hx hb dX10_keep_138 (by decide) ?_
                    refine lv_icmp_ne (tgt := 174) hx hb dX10_keep_139 (by decide) (fun c139 => ?_) (fun c139 => ?_)
                    · skip
                      have d139 := c139
                      rw [fa_eq] at d139
                      refine lv_iconst (v := 0) hx hb dX10_keep_174 (by decide) ?_
                      refine lv_istore (lv' := [(7, .int (0 : Int32)), (6, .int (1 : Int32)), (0, .ref mo), (1, .int d), (2, .int what), (3, .int k0), (4, .long p0)]) hx hb dX10_keep_175 hl (by decide) rfl (fun ls hl => ?_)
                      have loop_177 : ∀ (n : Nat) (i : Nat) (s3 : Nat → Int64), (i ≤ 60) → 60 - i < n → ∀ (H : Heap) (locs : List Loc), va_P D vwCl (WM cy mo a (upd f 0 (0 : Int32)) g (va_up (va_up r 29 ((upd (r 29) d.toNatClampNeg what))) 30 ((upd (r 30) d.toNatClampNeg v110))) (va_up q 33 s3)) H → va_S (AM mo a) s.heap H locs → ∀ (ls : Array Slot), lv_has ls 8 [(7, .int (nI i)), (6, .int (1 : Int32)), (0, .ref mo), (1, .int d), (2, .int what), (3, .int k0), (4, .long p0)] → W p l e (headSpec wsX10_keep ({ frames := 3, cells := 0, slots := 0, locals := 69 })).room s m #[Value.ref mo, Value.int d, Value.int what, Value.int k0, Value.long p0] below meth c H locs 0 0 (MQ below (va_Qi (fun r0 u => ∃ (sh : Nat → Int32), ∃ (sz : Nat → Int32), ∃ (sw : Nat → Int32), ∃ (sf : Nat → Int32), ∃ (sr : Nat → Int64), u = ((upd f 0 (0 : Int32)), g, (va_up (va_up (va_up (va_up r 29 sh) 30 sz) 31 sw) 32 sf), (va_up q 33 sr)) ∧ (yesNo (okKeep (f 1) (fun j9 => (r 3 j9).toNatClampNeg) (fun j9 => (r 4 j9).toNatClampNeg) d what k0 p0) 0 (-1) r0 ∧ MI (upd f 0 (0 : Int32)) (va_up (va_up (va_up (va_up r 29 sh) 30 sz) 31 sw) 32 sf))) (mB D cy mo a) (AM mo a)) #[Value.ref mo, Value.int d, Value.int what, Value.int k0, Value.long p0] s 0 0 (AM mo a)) (F0 m 177 ls []) := by
                        intro n
                        induction n with
                        | zero => intro i s3 j177_0 hn; exact absurd hn (Nat.not_lt_zero _)
                        | succ n ih_177 =>
                          intro i s3 j177_0 hn_177 H locs hP hS ls hl
                          have ii : (nI i).toInt = (i : Int) := nI_toInt (by omega)
                          refine lv_iload hx hb dX10_keep_177 (lv_at hl 0 rfl) ?_
                          refine lv_aload_n hx hb dX10_keep_179 rfl (lv_at hl 2 rfl) ?_
                          refine m_get (v := .ref (a 30)) hx hb hts hin hown hK hP 30 (by decide) rfl (hts (.fieldLink RX10 64 "ShadowBenchModel" "shelfSize" "[I") (by decide +kernel)) rfl dX10_keep_180 ?_
                          refine lv_iload_n hx hb dX10_keep_183 rfl (lv_at hl 3 rfl) ?_
                          refine m_iald (w := ((upd (r 30) d.toNatClampNeg v110))) hx hb hK hP 18 rfl (vp_in_iff.mpr ⟨by omega, by omega⟩) dX10_keep_184 ?_
                          refine lv_topi (fun v184 e184 => ?_)
                          have i184 : v184.toInt = (((upd (r 30) d.toNatClampNeg v110)) d.toNatClampNeg).toInt := congrArg Int32.toInt e184
                          have z184 := e184
                          simp only [upd, if_true] at z184
                          have y184 := congrArg Int32.toInt z184
                          refine lv_icmp_ge (tgt := 272) hx hb dX10_keep_185 (by decide) (fun c185 => ?_) (fun c185 => ?_)
                          · skip
                            have d185 := c185
                            rw [fa_le] at d185
                            refine lv_iconst (v := 0) hx hb dX10_keep_272 (by decide) ?_
                            have hP := wm_eq rfl rfl (ec_r_29_30__29_30_31_32 r ((upd (r 29) d.toNatClampNeg what)) ((upd (r 30) d.toNatClampNeg v110))) rfl hP
                            exact W.iret (v := (0 : Int32)) hx hb hr (fun t ht hW => ⟨⟨_, ((upd f 0 (0 : Int32)), g, (va_up (va_up (va_up (va_up r 29 (((upd (r 29) d.toNatClampNeg what)))) 30 (((upd (r 30) d.toNatClampNeg v110)))) 31 (r 31)) 32 (r 32)), (va_up q 33 s3)), rfl, ⟨((upd (r 29) d.toNatClampNeg what)), ((upd (r 30) d.toNatClampNeg v110)), (r 31), (r 32), s3, rfl, ⟨(Or.inl ⟨⟨b9, (by unfold okJob; first | exact Or.inl (by omega) | exact Or.inr (Or.inl ⟨by omega, b31⟩) | (have z9 := goodP_of b64; subst e52; subst e58; exact Or.inr (Or.inr ⟨by omega, b44, z9.2⟩)))⟩, rfl⟩), by first | exact hI | exact mi_sz (d := d) hI (v := v110) (by omega) rfl rfl rfl rfl rfl rfl rfl rfl | exact mi_sz (d := d) hI (v := v131) (by omega) rfl rfl rfl rfl rfl rfl rfl rfl | exact mi_sz (d := d) hI (v := 0) (by decide) rfl rfl rfl rfl rfl rfl rfl rfl⟩⟩, by unfold mB; rw [ht]; exact hP⟩, hS.F ht⟩) hS.2.2 dX10_keep_273
                          · skip
                            have d185 := c185
                            rw [fa_le] at d185
                            refine lv_aload_n hx hb dX10_keep_188 rfl (lv_at hl 2 rfl) ?_
                            refine m_get (v := .ref (a 33)) hx hb hts hin hown hK hP 33 (by decide) rfl (hts (.fieldLink RX10 73 "ShadowBenchModel" "shelfRow" "[J") (by decide +kernel)) rfl dX10_keep_189 ?_
                            refine lv_bipush (v := 60) hx hb dX10_keep_192 (by decide) ?_
                            refine lv_iload_n hx hb dX10_keep_194 rfl (lv_at hl 3 rfl) ?_
                            refine lv_imul hx hb dX10_keep_195 ?_
                            refine lv_topi (fun v195 e195 => ?_)
                            have i195 : v195.toInt = 60 * d.toInt := by rw [e195]; exact mulcL rfl (by omega) (by omega)
                            refine lv_iload hx hb dX10_keep_196 (lv_at hl 0 rfl) ?_
                            refine lv_iadd hx hb dX10_keep_198 ?_
                            refine lv_topi (fun v198 e198 => ?_)
                            have i198 : v198.toInt = v195.toInt + (nI i).toInt := by rw [e198]; exact fb_addI (by omega) (by omega)
                            refine lv_iload_n hx hb dX10_keep_199 rfl (lv_at hl 4 rfl) ?_
                            refine lv_iconst (v := 3) hx hb dX10_keep_200 (by decide) ?_
                            refine lv_icmp_ne (tgt := 215) hx hb dX10_keep_201 (by decide) (fun c201 => ?_) (fun c201 => ?_)
                            · first | exact absurd c201 c95 | exact absurd c95 c201
                            · skip
                              have d201 := c201
                              rw [fa_eq] at d201
                              refine lv_lload hx hb dX10_keep_204 (lv_at hl 6 rfl) ?_
                              refine lv_iload hx hb dX10_keep_206 (lv_at hl 0 rfl) ?_
                              refine m_pu (As := [.long p0, .int (nI i)]) (rest := [.int v198, .ref (a 33)]) ⟨hx, hb, hml, hown, hts⟩ (c_X10_one l p0 (nI i) ) (va_cwS 2 hts gX10_keep_X10_one rfl rfl rfl (by decide +kernel) ⟨Nat.le_of_ble_eq_true rfl, Nat.le_of_ble_eq_true rfl⟩) hP rfl hl.1 rfl (Nat.le_of_ble_eq_true rfl) dX10_keep_208 ⟨Nat.le_of_ble_eq_true rfl, Nat.le_of_ble_eq_true rfl⟩ hS (fun r208 H locs q208 hP hS => ?_)
                              have i208 : r208.toInt = (r_one p0 (nI i)).toInt := congrArg Int32.toInt q208
                              refine lv_i2l (v := r208.toInt64) hx hb dX10_keep_211 rfl ?_
                              refine lv_goto (tgt := 265) hx hb dX10_keep_212 (by decide) ?_
                              refine m_last (w := s3) hx hb hK hP hD hS 21 rfl (vp_in_iff.mpr ⟨by omega, by omega⟩) (va_up (va_up q 33 s3) 33 (vp_updL s3 v198.toNatClampNeg r208.toInt64)) (ms_33 cy mo a _ _ _ _ _) dX10_keep_265 (fun H locs hP hS => ?_)
                              have hP := wm_eq rfl rfl rfl (es_q_33__33 q s3 (vp_updL s3 v198.toNatClampNeg r208.toInt64)) hP
                              refine lv_iinc (v := (nI (i + 1))) (lv' := [(7, .int (nI (i + 1))), (6, .int (1 : Int32)), (0, .ref mo), (1, .int d), (2, .int what), (3, .int k0), (4, .long p0)]) hx hb dX10_keep_266 hl (k := 0) rfl (nI_1 _) (by decide) rfl (fun ls hl => ?_)
                              refine lv_goto (tgt := 177) hx hb dX10_keep_269 (by decide) ?_
                              have hP := wm_eq rfl rfl (ec_r_29_30__29_30 r ((upd (r 29) d.toNatClampNeg what)) ((upd (r 30) d.toNatClampNeg v110))) rfl hP
                              exact ih_177 (i + 1) (vp_updL s3 v198.toNatClampNeg r208.toInt64) (by omega) (by omega) _ _ hP hS ls (lv_sub hl [0, 1, 2, 3, 4, 5, 6] rfl)
                      have hP := wm_eq rfl rfl (ec_r_29_30__29_30 r ((upd (r 29) d.toNatClampNeg what)) ((upd (r 30) d.toNatClampNeg v110))) (ec_q___33 q ) hP
                      exact loop_177 (60 + 1) 0 (q 33) (by omega) (by omega) _ _ hP hS ls (lv_sub hl [0, 1, 2, 3, 4, 5, 6] rfl)
                    · skip
                      have d139 := c139
                      rw [fa_eq] at d139
                      refine lv_aload_n hx hb dX10_keep_142 rfl (lv_at hl 1 rfl) ?_
                      refine m_get (v := .ref (a 31)) hx hb hts hin hown hK hP 31 (by decide) rfl (hts (.fieldLink RX10 67 "ShadowBenchModel" "shelfWeight" "[I") (by decide +kernel)) rfl dX10_keep_143 ?_
                      refine lv_iload_n hx hb dX10_keep_146 rfl (lv_at hl 2 rfl) ?_
                      refine lv_aload_n hx hb dX10_keep_147 rfl (lv_at hl 1 rfl) ?_
                      refine lv_iload_n hx hb dX10_keep_148 rfl (lv_at hl 4 rfl) ?_
                      refine m_calli (As := [.int k0]) (rest := [.int d, .ref (a 31)]) ⟨hx, hb, hml, hown, hts⟩ (c_X10_weightOf l D cy mo a (upd f 0 (0 : Int32)) g (va_up (va_up r 29 ((upd (r 29) d.toNatClampNeg what))) 30 ((upd (r 30) d.toNatClampNeg v110))) q k0 hD (by first | exact hI | exact mi_sz (d := d) hI (v := 0) (by first | omega | decide) rfl rfl rfl rfl rfl rfl rfl rfl | exact mi_sz (d := d) hI (v := v131) (by first | omega | decide) rfl rfl rfl rfl rfl rfl rfl rfl | exact mi_sz (d := d) hI (v := v110) (by first | omega | decide) rfl rfl rfl rfl rfl rfl rfl rfl) (show 0 ≤ k0.toInt ∧ k0.toInt < (f 1).toInt by omega)) (cwV 1 hts gX10_keep_X10_weightOf rfl rfl rfl (by decide +kernel) ⟨Nat.le_of_ble_eq_true rfl, Nat.le_of_ble_eq_true rfl⟩) hK hP rfl hl.1 rfl (Nat.le_of_ble_eq_true rfl) dX10_keep_149 ⟨Nat.le_of_ble_eq_true rfl, Nat.le_of_ble_eq_true rfl⟩ hS (fun r149 u H locs q149 hP hS => ?_)
                      obtain ⟨rfl, q149⟩ := q149
                      have hP : va_P D vwCl (WM cy mo a (upd f 0 (0 : Int32)) g (va_up (va_up r 29 ((upd (r 29) d.toNatClampNeg what))) 30 ((upd (r 30) d.toNatClampNeg v110))) q) H := hP
                      have q149 : True := q149
                      refine m_iast (w := (r 31)) hx hb hK hP hD hS 19 rfl (vp_in_iff.mpr ⟨by omega, by omega⟩) (va_up (va_up (va_up r 29 ((upd (r 29) d.toNatClampNeg what))) 30 ((upd (r 30) d.toNatClampNeg v110))) 31 (upd (r 31) d.toNatClampNeg r149)) (ms_31 cy mo a _ _ _ _ _) dX10_keep_152 (fun H locs hP hS => ?_)
                      refine lv_aload_n hx hb dX10_keep_153 rfl (lv_at hl 1 rfl) ?_
                      refine m_get (v := .ref (a 32)) hx hb hts hin hown hK hP 32 (by decide) rfl (hts (.fieldLink RX10 70 "ShadowBenchModel" "shelfFailure" "[I") (by decide +kernel)) rfl dX10_keep_154 ?_
                      refine lv_iload_n hx hb dX10_keep_157 rfl (lv_at hl 2 rfl) ?_
                      refine lv_aload_n hx hb dX10_keep_158 rfl (lv_at hl 1 rfl) ?_
                      refine m_get (v := .ref (a 2)) hx hb hts hin hown hK hP 2 (by decide) rfl (hts (.fieldLink RX10 7 "ShadowBenchModel" "kind" "[I") (by decide +kernel)) rfl dX10_keep_159 ?_
                      refine lv_iload_n hx hb dX10_keep_162 rfl (lv_at hl 4 rfl) ?_
                      refine m_iald (w := (r 2)) hx hb hK hP 1 rfl (vp_in_iff.mpr ⟨by omega, by omega⟩) dX10_keep_163 ?_
                      refine lv_topi (fun v163 e163 => ?_)
                      have i163 : v163.toInt = ((r 2) k0.toNatClampNeg).toInt := congrArg Int32.toInt e163
                      refine lv_if_ne (tgt := 172) hx hb dX10_keep_164 (by decide) (fun c164 => ?_) (fun c164 => ?_)
                      · skip
                        have d164 := c164
                        rw [fa_eq] at d164
                        refine lv_iload_n hx hb dX10_keep_172 rfl (lv_at hl 4 rfl) ?_
                        refine m_iast (w := (r 32)) hx hb hK hP hD hS 20 rfl (vp_in_iff.mpr ⟨by omega, by omega⟩) (va_up (va_up (va_up (va_up r 29 ((upd (r 29) d.toNatClampNeg what))) 30 ((upd (r 30) d.toNatClampNeg v110))) 31 ((upd (r 31) d.toNatClampNeg r149))) 32 (upd (r 32) d.toNatClampNeg k0)) (ms_32 cy mo a _ _ _ _ _) dX10_keep_173 (fun H locs hP hS => ?_)
                        refine lv_iconst (v := 0) hx hb dX10_keep_174 (by decide) ?_
                        refine lv_istore (lv' := [(7, .int (0 : Int32)), (6, .int (1 : Int32)), (0, .ref mo), (1, .int d), (2, .int what), (3, .int k0), (4, .long p0)]) hx hb dX10_keep_175 hl (by decide) rfl (fun ls hl => ?_)
                        have loop_177 : ∀ (n : Nat) (i : Nat) (s3 : Nat → Int64), (i ≤ 60) → 60 - i < n → ∀ (H : Heap) (locs : List Loc), va_P D vwCl (WM cy mo a (upd f 0 (0 : Int32)) g (va_up (va_up (va_up (va_up r 29 ((upd (r 29) d.toNatClampNeg what))) 30 ((upd (r 30) d.toNatClampNeg v110))) 31 ((upd (r 31) d.toNatClampNeg r149))) 32 ((upd (r 32) d.toNatClampNeg k0))) (va_up q 33 s3)) H → va_S (AM mo a) s.heap H locs → ∀ (ls : Array Slot), lv_has ls 8 [(7, .int (nI i)), (6, .int (1 : Int32)), (0, .ref mo), (1, .int d), (2, .int what), (3, .int k0), (4, .long p0)] → W p l e (headSpec wsX10_keep ({ frames := 3, cells := 0, slots := 0, locals := 69 })).room s m #[Value.ref mo, Value.int d, Value.int what, Value.int k0, Value.long p0] below meth c H locs 0 0 (MQ below (va_Qi (fun r0 u => ∃ (sh : Nat → Int32), ∃ (sz : Nat → Int32), ∃ (sw : Nat → Int32), ∃ (sf : Nat → Int32), ∃ (sr : Nat → Int64), u = ((upd f 0 (0 : Int32)), g, (va_up (va_up (va_up (va_up r 29 sh) 30 sz) 31 sw) 32 sf), (va_up q 33 sr)) ∧ (yesNo (okKeep (f 1) (fun j9 => (r 3 j9).toNatClampNeg) (fun j9 => (r 4 j9).toNatClampNeg) d what k0 p0) 0 (-1) r0 ∧ MI (upd f 0 (0 : Int32)) (va_up (va_up (va_up (va_up r 29 sh) 30 sz) 31 sw) 32 sf))) (mB D cy mo a) (AM mo a)) #[Value.ref mo, Value.int d, Value.int what, Value.int k0, Value.long p0] s 0 0 (AM mo a)) (F0 m 177 ls []) := by
                          intro n
                          induction n with
                          | zero => intro i s3 j177_0 hn; exact absurd hn (Nat.not_lt_zero _)
                          | succ n ih_177 =>
                            intro i s3 j177_0 hn_177 H locs hP hS ls hl
                            have ii : (nI i).toInt = (i : Int) := nI_toInt (by omega)
                            refine lv_iload hx hb dX10_keep_177 (lv_at hl 0 rfl) ?_
                            refine lv_aload_n hx hb dX10_keep_179 rfl (lv_at hl 2 rfl) ?_
                            refine m_get (v := .ref (a 30)) hx hb hts hin hown hK hP 30 (by decide) rfl (hts (.fieldLink RX10 64 "ShadowBenchModel" "shelfSize" "[I") (by decide +kernel)) rfl dX10_keep_180 ?_
                            refine lv_iload_n hx hb dX10_keep_183 rfl (lv_at hl 3 rfl) ?_
                            refine m_iald (w := ((upd (r 30) d.toNatClampNeg v110))) hx hb hK hP 18 rfl (vp_in_iff.mpr ⟨by omega, by omega⟩) dX10_keep_184 ?_
                            refine lv_topi (fun v184 e184 => ?_)
                            have i184 : v184.toInt = (((upd (r 30) d.toNatClampNeg v110)) d.toNatClampNeg).toInt := congrArg Int32.toInt e184
                            have z184 := e184
                            simp only [upd, if_true] at z184
                            have y184 := congrArg Int32.toInt z184
                            refine lv_icmp_ge (tgt := 272) hx hb dX10_keep_185 (by decide) (fun c185 => ?_) (fun c185 => ?_)
                            · skip
                              have d185 := c185
                              rw [fa_le] at d185
                              refine lv_iconst (v := 0) hx hb dX10_keep_272 (by decide) ?_
                              have hP := wm_eq rfl rfl (ec_r_29_30_31_32__29_30_31_32 r ((upd (r 29) d.toNatClampNeg what)) ((upd (r 30) d.toNatClampNeg v110)) ((upd (r 31) d.toNatClampNeg r149)) ((upd (r 32) d.toNatClampNeg k0))) rfl hP
                              exact W.iret (v := (0 : Int32)) hx hb hr (fun t ht hW => ⟨⟨_, ((upd f 0 (0 : Int32)), g, (va_up (va_up (va_up (va_up r 29 (((upd (r 29) d.toNatClampNeg what)))) 30 (((upd (r 30) d.toNatClampNeg v110)))) 31 (((upd (r 31) d.toNatClampNeg r149)))) 32 (((upd (r 32) d.toNatClampNeg k0)))), (va_up q 33 s3)), rfl, ⟨((upd (r 29) d.toNatClampNeg what)), ((upd (r 30) d.toNatClampNeg v110)), ((upd (r 31) d.toNatClampNeg r149)), ((upd (r 32) d.toNatClampNeg k0)), s3, rfl, ⟨(Or.inl ⟨⟨b9, (by unfold okJob; first | exact Or.inl (by omega) | exact Or.inr (Or.inl ⟨by omega, b31⟩) | (have z9 := goodP_of b64; subst e52; subst e58; exact Or.inr (Or.inr ⟨by omega, b44, z9.2⟩)))⟩, rfl⟩), by first | exact hI | exact mi_sz (d := d) hI (v := v110) (by omega) rfl rfl rfl rfl rfl rfl rfl rfl | exact mi_sz (d := d) hI (v := v131) (by omega) rfl rfl rfl rfl rfl rfl rfl rfl | exact mi_sz (d := d) hI (v := 0) (by decide) rfl rfl rfl rfl rfl rfl rfl rfl⟩⟩, by unfold mB; rw [ht]; exact hP⟩, hS.F ht⟩) hS.2.2 dX10_keep_273
                            · skip
                              have d185 := c185
                              rw [fa_le] at d185
                              refine lv_aload_n hx hb dX10_keep_188 rfl (lv_at hl 2 rfl) ?_
                              refine m_get (v := .ref (a 33)) hx hb hts hin hown hK hP 33 (by decide) rfl (hts (.fieldLink RX10 73 "ShadowBenchModel" "shelfRow" "[J") (by decide +kernel)) rfl dX10_keep_189 ?_
                              refine lv_bipush (v := 60) hx hb dX10_keep_192 (by decide) ?_
                              refine lv_iload_n hx hb dX10_keep_194 rfl (lv_at hl 3 rfl) ?_
                              refine lv_imul hx hb dX10_keep_195 ?_
                              refine lv_topi (fun v195 e195 => ?_)
                              have i195 : v195.toInt = 60 * d.toInt := by rw [e195]; exact mulcL rfl (by omega) (by omega)
                              refine lv_iload hx hb dX10_keep_196 (lv_at hl 0 rfl) ?_
                              refine lv_iadd hx hb dX10_keep_198 ?_
                              refine lv_topi (fun v198 e198 => ?_)
                              have i198 : v198.toInt = v195.toInt + (nI i).toInt := by rw [e198]; exact fb_addI (by omega) (by omega)
                              refine lv_iload_n hx hb dX10_keep_199 rfl (lv_at hl 4 rfl) ?_
                              refine lv_iconst (v := 3) hx hb dX10_keep_200 (by decide) ?_
                              refine lv_icmp_ne (tgt := 215) hx hb dX10_keep_201 (by decide) (fun c201 => ?_) (fun c201 => ?_)
                              · first | exact absurd c201 c95 | exact absurd c95 c201
                              · skip
                                have d201 := c201
                                rw [fa_eq] at d201
                                refine lv_lload hx hb dX10_keep_204 (lv_at hl 6 rfl) ?_
                                refine lv_iload hx hb dX10_keep_206 (lv_at hl 0 rfl) ?_
                                refine m_pu (As := [.long p0, .int (nI i)]) (rest := [.int v198, .ref (a 33)]) ⟨hx, hb, hml, hown, hts⟩ (c_X10_one l p0 (nI i) ) (va_cwS 2 hts gX10_keep_X10_one rfl rfl rfl (by decide +kernel) ⟨Nat.le_of_ble_eq_true rfl, Nat.le_of_ble_eq_true rfl⟩) hP rfl hl.1 rfl (Nat.le_of_ble_eq_true rfl) dX10_keep_208 ⟨Nat.le_of_ble_eq_true rfl, Nat.le_of_ble_eq_true rfl⟩ hS (fun r208 H locs q208 hP hS => ?_)
                                have i208 : r208.toInt = (r_one p0 (nI i)).toInt := congrArg Int32.toInt q208
                                refine lv_i2l (v := r208.toInt64) hx hb dX10_keep_211 rfl ?_
                                refine lv_goto (tgt := 265) hx hb dX10_keep_212 (by decide) ?_
                                refine m_last (w := s3) hx hb hK hP hD hS 21 rfl (vp_in_iff.mpr ⟨by omega, by omega⟩) (va_up (va_up q 33 s3) 33 (vp_updL s3 v198.toNatClampNeg r208.toInt64)) (ms_33 cy mo a _ _ _ _ _) dX10_keep_265 (fun H locs hP hS => ?_)
                                have hP := wm_eq rfl rfl rfl (es_q_33__33 q s3 (vp_updL s3 v198.toNatClampNeg r208.toInt64)) hP
                                refine lv_iinc (v := (nI (i + 1))) (lv' := [(7, .int (nI (i + 1))), (6, .int (1 : Int32)), (0, .ref mo), (1, .int d), (2, .int what), (3, .int k0), (4, .long p0)]) hx hb dX10_keep_266 hl (k := 0) rfl (nI_1 _) (by decide) rfl (fun ls hl => ?_)
                                refine lv_goto (tgt := 177) hx hb dX10_keep_269 (by decide) ?_
                                have hP := wm_eq rfl rfl (ec_r_29_30_31_32__29_30_31_32 r ((upd (r 29) d.toNatClampNeg what)) ((upd (r 30) d.toNatClampNeg v110)) ((upd (r 31) d.toNatClampNeg r149)) ((upd (r 32) d.toNatClampNeg k0))) rfl hP
                                exact ih_177 (i + 1) (vp_updL s3 v198.toNatClampNeg r208.toInt64) (by omega) (by omega) _ _ hP hS ls (lv_sub hl [0, 1, 2, 3, 4, 5, 6] rfl)
                        have hP := wm_eq rfl rfl (ec_r_29_30_31_32__29_30_31_32 r ((upd (r 29) d.toNatClampNeg what)) ((upd (r 30) d.toNatClampNeg v110)) ((upd (r 31) d.toNatClampNeg r149)) ((upd (r 32) d.toNatClampNeg k0))) (ec_q___33 q ) hP
                        exact loop_177 (60 + 1) 0 (q 33) (by omega) (by omega) _ _ hP hS ls (lv_sub hl [0, 1, 2, 3, 4, 5, 6] rfl)
                      · skip
                        have d164 := c164
                        rw [fa_eq] at d164
                        refine lv_bipush (v := (-15)) hx hb dX10_keep_167 (by decide) ?_
                        refine lv_goto (tgt := 173) hx hb dX10_keep_169 (by decide) ?_
                        refine m_iast (w := (r 32)) hx hb hK hP hD hS 20 rfl (vp_in_iff.mpr ⟨by omega, by omega⟩) (va_up (va_up (va_up (va_up r 29 ((upd (r 29) d.toNatClampNeg what))) 30 ((upd (r 30) d.toNatClampNeg v110))) 31 ((upd (r 31) d.toNatClampNeg r149))) 32 (upd (r 32) d.toNatClampNeg (((-15) : Int32)))) (ms_32 cy mo a _ _ _ _ _) dX10_keep_173 (fun H locs hP hS => ?_)
                        refine lv_iconst (v := 0) hx hb dX10_keep_174 (by decide) ?_
                        refine lv_istore (lv' := [(7, .int (0 : Int32)), (6, .int (1 : Int32)), (0, .ref mo), (1, .int d), (2, .int what), (3, .int k0), (4, .long p0)]) hx hb dX10_keep_175 hl (by decide) rfl (fun ls hl => ?_)
                        have loop_177 : ∀ (n : Nat) (i : Nat) (s3 : Nat → Int64), (i ≤ 60) → 60 - i < n → ∀ (H : Heap) (locs : List Loc), va_P D vwCl (WM cy mo a (upd f 0 (0 : Int32)) g (va_up (va_up (va_up (va_up r 29 ((upd (r 29) d.toNatClampNeg what))) 30 ((upd (r 30) d.toNatClampNeg v110))) 31 ((upd (r 31) d.toNatClampNeg r149))) 32 ((upd (r 32) d.toNatClampNeg (((-15) : Int32))))) (va_up q 33 s3)) H → va_S (AM mo a) s.heap H locs → ∀ (ls : Array Slot), lv_has ls 8 [(7, .int (nI i)), (6, .int (1 : Int32)), (0, .ref mo), (1, .int d), (2, .int what), (3, .int k0), (4, .long p0)] → W p l e (headSpec wsX10_keep ({ frames := 3, cells := 0, slots := 0, locals := 69 })).room s m #[Value.ref mo, Value.int d, Value.int what, Value.int k0, Value.long p0] below meth c H locs 0 0 (MQ below (va_Qi (fun r0 u => ∃ (sh : Nat → Int32), ∃ (sz : Nat → Int32), ∃ (sw : Nat → Int32), ∃ (sf : Nat → Int32), ∃ (sr : Nat → Int64), u = ((upd f 0 (0 : Int32)), g, (va_up (va_up (va_up (va_up r 29 sh) 30 sz) 31 sw) 32 sf), (va_up q 33 sr)) ∧ (yesNo (okKeep (f 1) (fun j9 => (r 3 j9).toNatClampNeg) (fun j9 => (r 4 j9).toNatClampNeg) d what k0 p0) 0 (-1) r0 ∧ MI (upd f 0 (0 : Int32)) (va_up (va_up (va_up (va_up r 29 sh) 30 sz) 31 sw) 32 sf))) (mB D cy mo a) (AM mo a)) #[Value.ref mo, Value.int d, Value.int what, Value.int k0, Value.long p0] s 0 0 (AM mo a)) (F0 m 177 ls []) := by
                          intro n
                          induction n with
                          | zero => intro i s3 j177_0 hn; exact absurd hn (Nat.not_lt_zero _)
                          | succ n ih_177 =>
                            intro i s3 j177_0 hn_177 H locs hP hS ls hl
                            have ii : (nI i).toInt = (i : Int) := nI_toInt (by omega)
                            refine lv_iload hx hb dX10_keep_177 (lv_at hl 0 rfl) ?_
                            refine lv_aload_n hx hb dX10_keep_179 rfl (lv_at hl 2 rfl) ?_
                            refine m_get (v := .ref (a 30)) hx hb hts hin hown hK hP 30 (by decide) rfl (hts (.fieldLink RX10 64 "ShadowBenchModel" "shelfSize" "[I") (by decide +kernel)) rfl dX10_keep_180 ?_
                            refine lv_iload_n hx hb dX10_keep_183 rfl (lv_at hl 3 rfl) ?_
                            refine m_iald (w := ((upd (r 30) d.toNatClampNeg v110))) hx hb hK hP 18 rfl (vp_in_iff.mpr ⟨by omega, by omega⟩) dX10_keep_184 ?_
                            refine lv_topi (fun v184 e184 => ?_)
                            have i184 : v184.toInt = (((upd (r 30) d.toNatClampNeg v110)) d.toNatClampNeg).toInt := congrArg Int32.toInt e184
                            have z184 := e184
                            simp only [upd, if_true] at z184
                            have y184 := congrArg Int32.toInt z184
                            refine lv_icmp_ge (tgt := 272) hx hb dX10_keep_185 (by decide) (fun c185 => ?_) (fun c185 => ?_)
                            · skip
                              have d185 := c185
                              rw [fa_le] at d185
                              refine lv_iconst (v := 0) hx hb dX10_keep_272 (by decide) ?_
                              have hP := wm_eq rfl rfl (ec_r_29_30_31_32__29_30_31_32 r ((upd (r 29) d.toNatClampNeg what)) ((upd (r 30) d.toNatClampNeg v110)) ((upd (r 31) d.toNatClampNeg r149)) ((upd (r 32) d.toNatClampNeg (((-15) : Int32))))) rfl hP
                              exact W.iret (v := (0 : Int32)) hx hb hr (fun t ht hW => ⟨⟨_, ((upd f 0 (0 : Int32)), g, (va_up (va_up (va_up (va_up r 29 (((upd (r 29) d.toNatClampNeg what)))) 30 (((upd (r 30) d.toNatClampNeg v110)))) 31 (((upd (r 31) d.toNatClampNeg r149)))) 32 (((upd (r 32) d.toNatClampNeg (((-15) : Int32)))))), (va_up q 33 s3)), rfl, ⟨((upd (r 29) d.toNatClampNeg what)), ((upd (r 30) d.toNatClampNeg v110)), ((upd (r 31) d.toNatClampNeg r149)), ((upd (r 32) d.toNatClampNeg (((-15) : Int32)))), s3, rfl, ⟨(Or.inl ⟨⟨b9, (by unfold okJob; first | exact Or.inl (by omega) | exact Or.inr (Or.inl ⟨by omega, b31⟩) | (have z9 := goodP_of b64; subst e52; subst e58; exact Or.inr (Or.inr ⟨by omega, b44, z9.2⟩)))⟩, rfl⟩), by first | exact hI | exact mi_sz (d := d) hI (v := v110) (by omega) rfl rfl rfl rfl rfl rfl rfl rfl | exact mi_sz (d := d) hI (v := v131) (by omega) rfl rfl rfl rfl rfl rfl rfl rfl | exact mi_sz (d := d) hI (v := 0) (by decide) rfl rfl rfl rfl rfl rfl rfl rfl⟩⟩, by unfold mB; rw [ht]; exact hP⟩, hS.F ht⟩) hS.2.2 dX10_keep_273
                            · skip
                              have d185 := c185
                              rw [fa_le] at d185
                              refine lv_aload_n hx hb dX10_keep_188 rfl (lv_at hl 2 rfl) ?_
                              refine m_get (v := .ref (a 33)) hx hb hts hin hown hK hP 33 (by decide) rfl (hts (.fieldLink RX10 73 "ShadowBenchModel" "shelfRow" "[J") (by decide +kernel)) rfl dX10_keep_189 ?_
                              refine lv_bipush (v := 60) hx hb dX10_keep_192 (by decide) ?_
                              refine lv_iload_n hx hb dX10_keep_194 rfl (lv_at hl 3 rfl) ?_
                              refine lv_imul hx hb dX10_keep_195 ?_
                              refine lv_topi (fun v195 e195 => ?_)
                              have i195 : v195.toInt = 60 * d.toInt := by rw [e195]; exact mulcL rfl (by omega) (by omega)
                              refine lv_iload hx hb dX10_keep_196 (lv_at hl 0 rfl) ?_
                              refine lv_iadd hx hb dX10_keep_198 ?_
                              refine lv_topi (fun v198 e198 => ?_)
                              have i198 : v198.toInt = v195.toInt + (nI i).toInt := by rw [e198]; exact fb_addI (by omega) (by omega)
                              refine lv_iload_n hx hb dX10_keep_199 rfl (lv_at hl 4 rfl) ?_
                              refine lv_iconst (v := 3) hx hb dX10_keep_200 (by decide) ?_
                              refine lv_icmp_ne (tgt := 215) hx hb dX10_keep_201 (by decide) (fun c201 => ?_) (fun c201 => ?_)
                              · first | exact absurd c201 c95 | exact absurd c95 c201
                              · skip
                                have d201 := c201
                                rw [fa_eq] at d201
                                refine lv_lload hx hb dX10_keep_204 (lv_at hl 6 rfl) ?_
                                refine lv_iload hx hb dX10_keep_206 (lv_at hl 0 rfl) ?_
                                refine m_pu (As := [.long p0, .int (nI i)]) (rest := [.int v198, .ref (a 33)]) ⟨hx, hb, hml, hown, hts⟩ (c_X10_one l p0 (nI i) ) (va_cwS 2 hts gX10_keep_X10_one rfl rfl rfl (by decide +kernel) ⟨Nat.le_of_ble_eq_true rfl, Nat.le_of_ble_eq_true rfl⟩) hP rfl hl.1 rfl (Nat.le_of_ble_eq_true rfl) dX10_keep_208 ⟨Nat.le_of_ble_eq_true rfl, Nat.le_of_ble_eq_true rfl⟩ hS (fun r208 H locs q208 hP hS => ?_)
                                have i208 : r208.toInt = (r_one p0 (nI i)).toInt := congrArg Int32.toInt q208
                                refine lv_i2l (v := r208.toInt64) hx hb dX10_keep_211 rfl ?_
                                refine lv_goto (tgt := 265) hx hb dX10_keep_212 (by decide) ?_
                                refine m_last (w := s3) hx hb hK hP hD hS 21 rfl (vp_in_iff.mpr ⟨by omega, by omega⟩) (va_up (va_up q 33 s3) 33 (vp_updL s3 v198.toNatClampNeg r208.toInt64)) (ms_33 cy mo a _ _ _ _ _) dX10_keep_265 (fun H locs hP hS => ?_)
                                have hP := wm_eq rfl rfl rfl (es_q_33__33 q s3 (vp_updL s3 v198.toNatClampNeg r208.toInt64)) hP
                                refine lv_iinc (v := (nI (i + 1))) (lv' := [(7, .int (nI (i + 1))), (6, .int (1 : Int32)), (0, .ref mo), (1, .int d), (2, .int what), (3, .int k0), (4, .long p0)]) hx hb dX10_keep_266 hl (k := 0) rfl (nI_1 _) (by decide) rfl (fun ls hl => ?_)
                                refine lv_goto (tgt := 177) hx hb dX10_keep_269 (by decide) ?_
                                have hP := wm_eq rfl rfl (ec_r_29_30_31_32__29_30_31_32 r ((upd (r 29) d.toNatClampNeg what)) ((upd (r 30) d.toNatClampNeg v110)) ((upd (r 31) d.toNatClampNeg r149)) ((upd (r 32) d.toNatClampNeg (((-15) : Int32))))) rfl hP
                                exact ih_177 (i + 1) (vp_updL s3 v198.toNatClampNeg r208.toInt64) (by omega) (by omega) _ _ hP hS ls (lv_sub hl [0, 1, 2, 3, 4, 5, 6] rfl)
                        have hP := wm_eq rfl rfl (ec_r_29_30_31_32__29_30_31_32 r ((upd (r 29) d.toNatClampNeg what)) ((upd (r 30) d.toNatClampNeg v110)) ((upd (r 31) d.toNatClampNeg r149)) ((upd (r 32) d.toNatClampNeg (((-15) : Int32))))) (ec_q___33 q ) hP
                        exact loop_177 (60 + 1) 0 (q 33) (by omega) (by omega) _ _ hP hS ls (lv_sub hl [0, 1, 2, 3, 4, 5, 6] rfl)
                · first | exact absurd c76 (by decide) | exact absurd (by decide) c76
        · skip
          have d23 := c23
          rw [fa_eq] at d23
          refine lv_aload_n hx hb dX10_keep_26 rfl (lv_at hl 0 rfl) ?_
          refine lv_iload_n hx hb dX10_keep_27 rfl (lv_at hl 3 rfl) ?_
          refine m_calli (As := [.int k0]) (rest := []) ⟨hx, hb, hml, hown, hts⟩ (c_X10_isJob l D cy mo a (upd f 0 (0 : Int32)) g r q k0 hD) (cwV 1 hts gX10_keep_X10_isJob rfl rfl rfl (by decide +kernel) ⟨Nat.le_of_ble_eq_true rfl, Nat.le_of_ble_eq_true rfl⟩) hK hP rfl hl.1 rfl (Nat.le_of_ble_eq_true rfl) dX10_keep_28 ⟨Nat.le_of_ble_eq_true rfl, Nat.le_of_ble_eq_true rfl⟩ hS (fun r28 u H locs q28 hP hS => ?_)
          obtain ⟨rfl, q28⟩ := q28
          have hP : va_P D vwCl (WM cy mo a (upd f 0 (0 : Int32)) g r q) H := hP
          have q28 : Bo r28 (0 ≤ k0.toInt ∧ k0.toInt < ((f 1)).toInt) := q28
          refine lv_if_ne (tgt := 67) hx hb dX10_keep_31 (by decide) (fun c31 => ?_) (fun c31 => ?_)
          · skip
            have b31 := bo_t q28 c31
            refine lv_iconst (v := 1) hx hb dX10_keep_67 (by decide) ?_
            refine lv_goto (tgt := 72) hx hb dX10_keep_68 (by decide) ?_
            refine lv_istore (lv' := [(6, .int (1 : Int32)), (0, .ref mo), (1, .int d), (2, .int what), (3, .int k0), (4, .long p0)]) hx hb dX10_keep_72 hl (by decide) rfl (fun ls hl => ?_)
            refine lv_iload hx hb dX10_keep_74 (lv_at hl 0 rfl) ?_
            refine lv_if_ne (tgt := 81) hx hb dX10_keep_76 (by decide) (fun c76 => ?_) (fun c76 => ?_)
            · skip
              have d76 := c76
              rw [fa_eq] at d76
              refine lv_aload_n hx hb dX10_keep_81 rfl (lv_at hl 1 rfl) ?_
              refine m_get (v := .ref (a 29)) hx hb hts hin hown hK hP 29 (by decide) rfl (hts (.fieldLink RX10 61 "ShadowBenchModel" "shelf" "[I") (by decide +kernel)) rfl dX10_keep_82 ?_
              refine lv_iload_n hx hb dX10_keep_85 rfl (lv_at hl 2 rfl) ?_
              refine lv_iload_n hx hb dX10_keep_86 rfl (lv_at hl 3 rfl) ?_
              refine m_iast (w := (r 29)) hx hb hK hP hD hS 17 rfl (vp_in_iff.mpr ⟨by omega, by omega⟩) (va_up r 29 (upd (r 29) d.toNatClampNeg what)) (ms_29 cy mo a _ _ _ _ _) dX10_keep_87 (fun H locs hP hS => ?_)
              refine lv_aload_n hx hb dX10_keep_88 rfl (lv_at hl 1 rfl) ?_
              refine m_get (v := .ref (a 30)) hx hb hts hin hown hK hP 30 (by decide) rfl (hts (.fieldLink RX10 64 "ShadowBenchModel" "shelfSize" "[I") (by decide +kernel)) rfl dX10_keep_89 ?_
              refine lv_iload_n hx hb dX10_keep_92 rfl (lv_at hl 2 rfl) ?_
              refine lv_iload_n hx hb dX10_keep_93 rfl (lv_at hl 3 rfl) ?_
              refine lv_iconst (v := 3) hx hb dX10_keep_94 (by decide) ?_
              refine lv_icmp_ne (tgt := 114) hx hb dX10_keep_95 (by decide) (fun c95 => ?_) (fun c95 => ?_)
              · skip
                have d95 := c95
                rw [fa_eq] at d95
                refine lv_iload_n hx hb dX10_keep_114 rfl (lv_at hl 3 rfl) ?_
                refine lv_iconst (v := 4) hx hb dX10_keep_115 (by decide) ?_
                refine lv_icmp_ne (tgt := 135) hx hb dX10_keep_116 (by decide) (fun c116 => ?_) (fun c116 => ?_)
                · first | exact absurd c116 c23 | exact absurd c23 c116
                · skip
                  have d116 := c116
                  rw [fa_eq] at d116
                  refine lv_aload_n hx hb dX10_keep_119 rfl (lv_at hl 1 rfl) ?_
                  refine m_get (v := .ref (a 4)) hx hb hts hin hown hK hP 4 (by decide) rfl (hts (.fieldLink RX10 16 "ShadowBenchModel" "high" "[I") (by decide +kernel)) rfl dX10_keep_120 ?_
                  refine lv_iload_n hx hb dX10_keep_123 rfl (lv_at hl 4 rfl) ?_
                  refine m_iald (w := (r 4)) hx hb hK hP 3 rfl (vp_in_iff.mpr ⟨by omega, by omega⟩) dX10_keep_124 ?_
                  refine lv_topi (fun v124 e124 => ?_)
                  have i124 : v124.toInt = ((r 4) k0.toNatClampNeg).toInt := congrArg Int32.toInt e124
                  have w124 := mi_h hI (x := k0) (by omega) (by omega) e124
                  refine lv_aload_n hx hb dX10_keep_125 rfl (lv_at hl 1 rfl) ?_
                  refine m_get (v := .ref (a 3)) hx hb hts hin hown hK hP 3 (by decide) rfl (hts (.fieldLink RX10 13 "ShadowBenchModel" "wide" "[I") (by decide +kernel)) rfl dX10_keep_126 ?_
                  refine lv_iload_n hx hb dX10_keep_129 rfl (lv_at hl 4 rfl) ?_
                  refine m_iald (w := (r 3)) hx hb hK hP 2 rfl (vp_in_iff.mpr ⟨by omega, by omega⟩) dX10_keep_130 ?_
                  refine lv_topi (fun v130 e130 => ?_)
                  have i130 : v130.toInt = ((r 3) k0.toNatClampNeg).toInt := congrArg Int32.toInt e130
                  have w130 := mi_w hI (x := k0) (by omega) (by omega) e130
                  refine lv_iadd hx hb dX10_keep_131 ?_
                  refine lv_topi (fun v131 e131 => ?_)
                  have i131 : v131.toInt = v124.toInt + v130.toInt := by rw [e131]; exact fb_addI (by omega) (by omega)
                  refine lv_goto (tgt := 136) hx hb dX10_keep_132 (by decide) ?_
                  refine m_iast (w := (r 30)) hx hb hK hP hD hS 18 rfl (vp_in_iff.mpr ⟨by omega, by omega⟩) (va_up (va_up r 29 ((upd (r 29) d.toNatClampNeg what))) 30 (upd (r 30) d.toNatClampNeg v131)) (ms_30 cy mo a _ _ _ _ _) dX10_keep_136 (fun H locs hP hS => ?_)
                  refine lv_iload_n hx hb dX10_keep_137 rfl (lv_at hl 3 rfl) ?_
                  refine lv_iconst (v := 1) hx hb dX10_keep_138 (by decide) ?_
                  refine lv_icmp_ne (tgt := 174) hx hb dX10_keep_139 (by decide) (fun c139 => ?_) (fun c139 => ?_)
                  · skip
                    have d139 := c139
                    rw [fa_eq] at d139
                    refine lv_iconst (v := 0) hx hb dX10_keep_174 (by decide) ?_
                    refine lv_istore (lv' := [(7, .int (0 : Int32)), (6, .int (1 : Int32)), (0, .ref mo), (1, .int d), (2, .int what), (3, .int k0), (4, .long p0)]) hx hb dX10_keep_175 hl (by decide) rfl (fun ls hl => ?_)
                    have loop_177 : ∀ (n : Nat) (i : Nat) (s3 : Nat → Int64), (i ≤ 60) → 60 - i < n → ∀ (H : Heap) (locs : List Loc), va_P D vwCl (WM cy mo a (upd f 0 (0 : Int32)) g (va_up (va_up r 29 ((upd (r 29) d.toNatClampNeg what))) 30 ((upd (r 30) d.toNatClampNeg v131))) (va_up q 33 s3)) H → va_S (AM mo a) s.heap H locs → ∀ (ls : Array Slot), lv_has ls 8 [(7, .int (nI i)), (6, .int (1 : Int32)), (0, .ref mo), (1, .int d), (2, .int what), (3, .int k0), (4, .long p0)] → W p l e (headSpec wsX10_keep ({ frames := 3, cells := 0, slots := 0, locals := 69 })).room s m #[Value.ref mo, Value.int d, Value.int what, Value.int k0, Value.long p0] below meth c H locs 0 0 (MQ below (va_Qi (fun r0 u => ∃ (sh : Nat → Int32), ∃ (sz : Nat → Int32), ∃ (sw : Nat → Int32), ∃ (sf : Nat → Int32), ∃ (sr : Nat → Int64), u = ((upd f 0 (0 : Int32)), g, (va_up (va_up (va_up (va_up r 29 sh) 30 sz) 31 sw) 32 sf), (va_up q 33 sr)) ∧ (yesNo (okKeep (f 1) (fun j9 => (r 3 j9).toNatClampNeg) (fun j9 => (r 4 j9).toNatClampNeg) d what k0 p0) 0 (-1) r0 ∧ MI (upd f 0 (0 : Int32)) (va_up (va_up (va_up (va_up r 29 sh) 30 sz) 31 sw) 32 sf))) (mB D cy mo a) (AM mo a)) #[Value.ref mo, Value.int d, Value.int what, Value.int k0, Value.long p0] s 0 0 (AM mo a)) (F0 m 177 ls []) := by
                      intro n
                      induction n with
                      | zero => intro i s3 j177_0 hn; exact absurd hn (Nat.not_lt_zero _)
                      | succ n ih_177 =>
                        intro i s3 j177_0 hn_177 H locs hP hS ls hl
                        have ii : (nI i).toInt = (i : Int) := nI_toInt (by omega)
                        refine lv_iload hx hb dX10_keep_177 (lv_at hl 0 rfl) ?_
                        refine lv_aload_n hx hb dX10_keep_179 rfl (lv_at hl 2 rfl) ?_
                        refine m_get (v := .ref (a 30)) hx hb hts hin hown hK hP 30 (by decide) rfl (hts (.fieldLink RX10 64 "ShadowBenchModel" "shelfSize" "[I") (by decide +kernel)) rfl dX10_keep_180 ?_
                        refine lv_iload_n hx hb dX10_keep_183 rfl (lv_at hl 3 rfl) ?_
                        refine m_iald (w := ((upd (r 30) d.toNatClampNeg v131))) hx hb hK hP 18 rfl (vp_in_iff.mpr ⟨by omega, by omega⟩) dX10_keep_184 ?_
                        refine lv_topi (fun v184 e184 => ?_)
                        have i184 : v184.toInt = (((upd (r 30) d.toNatClampNeg v131)) d.toNatClampNeg).toInt := congrArg Int32.toInt e184
                        have z184 := e184
                        simp only [upd, if_true] at z184
                        have y184 := congrArg Int32.toInt z184
                        refine lv_icmp_ge (tgt := 272) hx hb dX10_keep_185 (by decide) (fun c185 => ?_) (fun c185 => ?_)
                        · skip
                          have d185 := c185
                          rw [fa_le] at d185
                          refine lv_iconst (v := 0) hx hb dX10_keep_272 (by decide) ?_
                          have hP := wm_eq rfl rfl (ec_r_29_30__29_30_31_32 r ((upd (r 29) d.toNatClampNeg what)) ((upd (r 30) d.toNatClampNeg v131))) rfl hP
                          exact W.iret (v := (0 : Int32)) hx hb hr (fun t ht hW => ⟨⟨_, ((upd f 0 (0 : Int32)), g, (va_up (va_up (va_up (va_up r 29 (((upd (r 29) d.toNatClampNeg what)))) 30 (((upd (r 30) d.toNatClampNeg v131)))) 31 (r 31)) 32 (r 32)), (va_up q 33 s3)), rfl, ⟨((upd (r 29) d.toNatClampNeg what)), ((upd (r 30) d.toNatClampNeg v131)), (r 31), (r 32), s3, rfl, ⟨(Or.inl ⟨⟨b9, (by unfold okJob; first | exact Or.inl (by omega) | exact Or.inr (Or.inl ⟨by omega, b31⟩) | (have z9 := goodP_of b64; subst e52; subst e58; exact Or.inr (Or.inr ⟨by omega, b44, z9.2⟩)))⟩, rfl⟩), by first | exact hI | exact mi_sz (d := d) hI (v := v110) (by omega) rfl rfl rfl rfl rfl rfl rfl rfl | exact mi_sz (d := d) hI (v := v131) (by omega) rfl rfl rfl rfl rfl rfl rfl rfl | exact mi_sz (d := d) hI (v := 0) (by decide) rfl rfl rfl rfl rfl rfl rfl rfl⟩⟩, by unfold mB; rw [ht]; exact hP⟩, hS.F ht⟩) hS.2.2 dX10_keep_273
                        · skip
                          have d185 := c185
                          rw [fa_le] at d185
                          refine lv_aload_n hx hb dX10_keep_188 rfl (lv_at hl 2 rfl) ?_
                          refine m_get (v := .ref (a 33)) hx hb hts hin hown hK hP 33 (by decide) rfl (hts (.fieldLink RX10 73 "ShadowBenchModel" "shelfRow" "[J") (by decide +kernel)) rfl dX10_keep_189 ?_
                          refine lv_bipush (v := 60) hx hb dX10_keep_192 (by decide) ?_
                          refine lv_iload_n hx hb dX10_keep_194 rfl (lv_at hl 3 rfl) ?_
                          refine lv_imul hx hb dX10_keep_195 ?_
                          refine lv_topi (fun v195 e195 => ?_)
                          have i195 : v195.toInt = 60 * d.toInt := by rw [e195]; exact mulcL rfl (by omega) (by omega)
                          refine lv_iload hx hb dX10_keep_196 (lv_at hl 0 rfl) ?_
                          refine lv_iadd hx hb dX10_keep_198 ?_
                          refine lv_topi (fun v198 e198 => ?_)
                          have i198 : v198.toInt = v195.toInt + (nI i).toInt := by rw [e198]; exact fb_addI (by omega) (by omega)
                          refine lv_iload_n hx hb dX10_keep_199 rfl (lv_at hl 4 rfl) ?_
                          refine lv_iconst (v := 3) hx hb dX10_keep_200 (by decide) ?_
                          refine lv_icmp_ne (tgt := 215) hx hb dX10_keep_201 (by decide) (fun c201 => ?_) (fun c201 => ?_)
                          · skip
                            have d201 := c201
                            rw [fa_eq] at d201
                            refine lv_iload hx hb dX10_keep_215 (lv_at hl 0 rfl) ?_
                            refine lv_aload_n hx hb dX10_keep_217 rfl (lv_at hl 2 rfl) ?_
                            refine m_get (v := .ref (a 4)) hx hb hts hin hown hK hP 4 (by decide) rfl (hts (.fieldLink RX10 16 "ShadowBenchModel" "high" "[I") (by decide +kernel)) rfl dX10_keep_218 ?_
                            refine lv_iload_n hx hb dX10_keep_221 rfl (lv_at hl 5 rfl) ?_
                            refine m_iald (w := (r 4)) hx hb hK hP 3 rfl (vp_in_iff.mpr ⟨by omega, by omega⟩) dX10_keep_222 ?_
                            refine lv_topi (fun v222 e222 => ?_)
                            have i222 : v222.toInt = ((r 4) k0.toNatClampNeg).toInt := congrArg Int32.toInt e222
                            have w222 := mi_h hI (x := k0) (by omega) (by omega) e222
                            refine lv_icmp_ge (tgt := 242) hx hb dX10_keep_223 (by decide) (fun c223 => ?_) (fun c223 => ?_)
                            · skip
                              have d223 := c223
                              rw [fa_le] at d223
                              refine lv_aload_n hx hb dX10_keep_242 rfl (lv_at hl 2 rfl) ?_
                              refine m_get (v := .ref (a 5)) hx hb hts hin hown hK hP 5 (by decide) rfl (hts (.fieldLink RX10 19 "ShadowBenchModel" "sums" "[I") (by decide +kernel)) rfl dX10_keep_243 ?_
                              refine lv_bipush (v := 44) hx hb dX10_keep_246 (by decide) ?_
                              refine lv_iload_n hx hb dX10_keep_248 rfl (lv_at hl 5 rfl) ?_
                              refine lv_imul hx hb dX10_keep_249 ?_
                              refine lv_topi (fun v249 e249 => ?_)
                              have i249 : v249.toInt = 44 * k0.toInt := by rw [e249]; exact mulcL rfl (by omega) (by omega)
                              refine lv_bipush (v := 11) hx hb dX10_keep_250 (by decide) ?_
                              refine lv_iadd hx hb dX10_keep_252 ?_
                              refine lv_topi (fun v252 e252 => ?_)
                              have i252 : v252.toInt = v249.toInt + (11 : Int32).toInt := by rw [e252]; exact fb_addI (by omega) (by omega)
                              refine lv_iload hx hb dX10_keep_253 (lv_at hl 0 rfl) ?_
                              refine lv_iadd hx hb dX10_keep_255 ?_
                              refine lv_topi (fun v255 e255 => ?_)
                              have i255 : v255.toInt = v252.toInt + (nI i).toInt := by rw [e255]; exact fb_addI (by omega) (by omega)
                              refine lv_aload_n hx hb dX10_keep_256 rfl (lv_at hl 2 rfl) ?_
                              refine m_get (v := .ref (a 4)) hx hb hts hin hown hK hP 4 (by decide) rfl (hts (.fieldLink RX10 16 "ShadowBenchModel" "high" "[I") (by decide +kernel)) rfl dX10_keep_257 ?_
                              refine lv_iload_n hx hb dX10_keep_260 rfl (lv_at hl 5 rfl) ?_
                              refine m_iald (w := (r 4)) hx hb hK hP 3 rfl (vp_in_iff.mpr ⟨by omega, by omega⟩) dX10_keep_261 ?_
                              refine lv_topi (fun v261 e261 => ?_)
                              have i261 : v261.toInt = ((r 4) k0.toNatClampNeg).toInt := congrArg Int32.toInt e261
                              have w261 := mi_h hI (x := k0) (by omega) (by omega) e261
                              refine lv_isub hx hb dX10_keep_262 ?_
                              refine lv_topi (fun v262 e262 => ?_)
                              have i262 : v262.toInt = v255.toInt - v261.toInt := by rw [e262]; exact fb_subI (by omega) (by omega)
                              refine m_iald (w := (r 5)) hx hb hK hP 4 rfl (vp_in_iff.mpr ⟨by omega, by omega⟩) dX10_keep_263 ?_
                              refine lv_topi (fun v263 e263 => ?_)
                              have i263 : v263.toInt = ((r 5) v262.toNatClampNeg).toInt := congrArg Int32.toInt e263
                              refine lv_i2l (v := v263.toInt64) hx hb dX10_keep_264 rfl ?_
                              refine m_last (w := s3) hx hb hK hP hD hS 21 rfl (vp_in_iff.mpr ⟨by omega, by omega⟩) (va_up (va_up q 33 s3) 33 (vp_updL s3 v198.toNatClampNeg v263.toInt64)) (ms_33 cy mo a _ _ _ _ _) dX10_keep_265 (fun H locs hP hS => ?_)
                              have hP := wm_eq rfl rfl rfl (es_q_33__33 q s3 (vp_updL s3 v198.toNatClampNeg v263.toInt64)) hP
                              refine lv_iinc (v := (nI (i + 1))) (lv' := [(7, .int (nI (i + 1))), (6, .int (1 : Int32)), (0, .ref mo), (1, .int d), (2, .int what), (3, .int k0), (4, .long p0)]) hx hb dX10_keep_266 hl (k := 0) rfl (nI_1 _) (by decide) rfl (fun ls hl => ?_)
                              refine lv_goto (tgt := 177) hx hb dX10_keep_269 (by decide) ?_
                              have hP := wm_eq rfl rfl (ec_r_29_30__29_30 r ((upd (r 29) d.toNatClampNeg what)) ((upd (r 30) d.toNatClampNeg v131))) rfl hP
                              exact ih_177 (i + 1) (vp_updL s3 v198.toNatClampNeg v263.toInt64) (by omega) (by omega) _ _ hP hS ls (lv_sub hl [0, 1, 2, 3, 4, 5, 6] rfl)
                            · skip
                              have d223 := c223
                              rw [fa_le] at d223
                              refine lv_aload_n hx hb dX10_keep_226 rfl (lv_at hl 2 rfl) ?_
                              refine m_get (v := .ref (a 5)) hx hb hts hin hown hK hP 5 (by decide) rfl (hts (.fieldLink RX10 19 "ShadowBenchModel" "sums" "[I") (by decide +kernel)) rfl dX10_keep_227 ?_
                              refine lv_bipush (v := 44) hx hb dX10_keep_230 (by decide) ?_
                              refine lv_iload_n hx hb dX10_keep_232 rfl (lv_at hl 5 rfl) ?_
                              refine lv_imul hx hb dX10_keep_233 ?_
                              refine lv_topi (fun v233 e233 => ?_)
                              have i233 : v233.toInt = 44 * k0.toInt := by rw [e233]; exact mulcL rfl (by omega) (by omega)
                              refine lv_iload hx hb dX10_keep_234 (lv_at hl 0 rfl) ?_
                              refine lv_iadd hx hb dX10_keep_236 ?_
                              refine lv_topi (fun v236 e236 => ?_)
                              have i236 : v236.toInt = v233.toInt + (nI i).toInt := by rw [e236]; exact fb_addI (by omega) (by omega)
                              refine m_iald (w := (r 5)) hx hb hK hP 4 rfl (vp_in_iff.mpr ⟨by omega, by omega⟩) dX10_keep_237 ?_
                              refine lv_topi (fun v237 e237 => ?_)
                              have i237 : v237.toInt = ((r 5) v236.toNatClampNeg).toInt := congrArg Int32.toInt e237
                              refine lv_i2l (v := v237.toInt64) hx hb dX10_keep_238 rfl ?_
                              refine lv_goto (tgt := 265) hx hb dX10_keep_239 (by decide) ?_
                              refine m_last (w := s3) hx hb hK hP hD hS 21 rfl (vp_in_iff.mpr ⟨by omega, by omega⟩) (va_up (va_up q 33 s3) 33 (vp_updL s3 v198.toNatClampNeg v237.toInt64)) (ms_33 cy mo a _ _ _ _ _) dX10_keep_265 (fun H locs hP hS => ?_)
                              have hP := wm_eq rfl rfl rfl (es_q_33__33 q s3 (vp_updL s3 v198.toNatClampNeg v237.toInt64)) hP
                              refine lv_iinc (v := (nI (i + 1))) (lv' := [(7, .int (nI (i + 1))), (6, .int (1 : Int32)), (0, .ref mo), (1, .int d), (2, .int what), (3, .int k0), (4, .long p0)]) hx hb dX10_keep_266 hl (k := 0) rfl (nI_1 _) (by decide) rfl (fun ls hl => ?_)
                              refine lv_goto (tgt := 177) hx hb dX10_keep_269 (by decide) ?_
                              have hP := wm_eq rfl rfl (ec_r_29_30__29_30 r ((upd (r 29) d.toNatClampNeg what)) ((upd (r 30) d.toNatClampNeg v131))) rfl hP
                              exact ih_177 (i + 1) (vp_updL s3 v198.toNatClampNeg v237.toInt64) (by omega) (by omega) _ _ hP hS ls (lv_sub hl [0, 1, 2, 3, 4, 5, 6] rfl)
                          · first | exact absurd c201 c95 | exact absurd c95 c201
                    have hP := wm_eq rfl rfl (ec_r_29_30__29_30 r ((upd (r 29) d.toNatClampNeg what)) ((upd (r 30) d.toNatClampNeg v131))) (ec_q___33 q ) hP
                    exact loop_177 (60 + 1) 0 (q 33) (by omega) (by omega) _ _ hP hS ls (lv_sub hl [0, 1, 2, 3, 4, 5, 6] rfl)
                  · skip
                    have d139 := c139
                    rw [fa_eq] at d139
                    refine lv_aload_n hx hb dX10_keep_142 rfl (lv_at hl 1 rfl) ?_
                    refine m_get (v := .ref (a 31)) hx hb hts hin hown hK hP 31 (by decide) rfl (hts (.fieldLink RX10 67 "ShadowBenchModel" "shelfWeight" "[I") (by decide +kernel)) rfl dX10_keep_143 ?_
                    refine lv_iload_n hx hb dX10_keep_146 rfl (lv_at hl 2 rfl) ?_
                    refine lv_aload_n hx hb dX10_keep_147 rfl (lv_at hl 1 rfl) ?_
                    refine lv_iload_n hx hb dX10_keep_148 rfl (lv_at hl 4 rfl) ?_
                    refine m_calli (As := [.int k0]) (rest := [.int d, .ref (a 31)]) ⟨hx, hb, hml, hown, hts⟩ (c_X10_weightOf l D cy mo a (upd f 0 (0 : Int32)) g (va_up (va_up r 29 ((upd (r 29) d.toNatClampNeg what))) 30 ((upd (r 30) d.toNatClampNeg v131))) q k0 hD (by first | exact hI | exact mi_sz (d := d) hI (v := 0) (by first | omega | decide) rfl rfl rfl rfl rfl rfl rfl rfl | exact mi_sz (d := d) hI (v := v131) (by first | omega | decide) rfl rfl rfl rfl rfl rfl rfl rfl | exact mi_sz (d := d) hI (v := v110) (by first | omega | decide) rfl rfl rfl rfl rfl rfl rfl rfl) (show 0 ≤ k0.toInt ∧ k0.toInt < (f 1).toInt by omega)) (cwV 1 hts gX10_keep_X10_weightOf rfl rfl rfl (by decide +kernel) ⟨Nat.le_of_ble_eq_true rfl, Nat.le_of_ble_eq_true rfl⟩) hK hP rfl hl.1 rfl (Nat.le_of_ble_eq_true rfl) dX10_keep_149 ⟨Nat.le_of_ble_eq_true rfl, Nat.le_of_ble_eq_true rfl⟩ hS (fun r149 u H locs q149 hP hS => ?_)
                    obtain ⟨rfl, q149⟩ := q149
                    have hP : va_P D vwCl (WM cy mo a (upd f 0 (0 : Int32)) g (va_up (va_up r 29 ((upd (r 29) d.toNatClampNeg what))) 30 ((upd (r 30) d.toNatClampNeg v131))) q) H := hP
                    have q149 : True := q149
                    refine m_iast (w := (r 31)) hx hb hK hP hD hS 19 rfl (vp_in_iff.mpr ⟨by omega, by omega⟩) (va_up (va_up (va_up r 29 ((upd (r 29) d.toNatClampNeg what))) 30 ((upd (r 30) d.toNatClampNeg v131))) 31 (upd (r 31) d.toNatClampNeg r149)) (ms_31 cy mo a _ _ _ _ _) dX10_keep_152 (fun H locs hP hS => ?_)
                    refine lv_aload_n hx hb dX10_keep_153 rfl (lv_at hl 1 rfl) ?_
                    refine m_get (v := .ref (a 32)) hx hb hts hin hown hK hP 32 (by decide) rfl (hts (.fieldLink RX10 70 "ShadowBenchModel" "shelfFailure" "[I") (by decide +kernel)) rfl dX10_keep_154 ?_
                    refine lv_iload_n hx hb dX10_keep_157 rfl (lv_at hl 2 rfl) ?_
                    refine lv_aload_n hx hb dX10_keep_158 rfl (lv_at hl 1 rfl) ?_
                    refine m_get (v := .ref (a 2)) hx hb hts hin hown hK hP 2 (by decide) rfl (hts (.fieldLink RX10 7 "ShadowBenchModel" "kind" "[I") (by decide +kernel)) rfl dX10_keep_159 ?_
                    refine lv_iload_n hx hb dX10_keep_162 rfl (lv_at hl 4 rfl) ?_
                    refine m_iald (w := (r 2)) hx hb hK hP 1 rfl (vp_in_iff.mpr ⟨by omega, by omega⟩) dX10_keep_163 ?_
                    refine lv_topi (fun v163 e163 => ?_)
                    have i163 : v163.toInt = ((r 2) k0.toNatClampNeg).toInt := congrArg Int32.toInt e163
                    refine lv_if_ne (tgt := 172) hx hb dX10_keep_164 (by decide) (fun c164 => ?_) (fun c164 => ?_)
                    · skip
                      have d164 := c164
                      rw [fa_eq] at d164
                      refine lv_iload_n hx hb dX10_keep_172 rfl (lv_at hl 4 rfl) ?_
                      refine m_iast (w := (r 32)) hx hb hK hP hD hS 20 rfl (vp_in_iff.mpr ⟨by omega, by omega⟩) (va_up (va_up (va_up (va_up r 29 ((upd (r 29) d.toNatClampNeg what))) 30 ((upd (r 30) d.toNatClampNeg v131))) 31 ((upd (r 31) d.toNatClampNeg r149))) 32 (upd (r 32) d.toNatClampNeg k0)) (ms_32 cy mo a _ _ _ _ _) dX10_keep_173 (fun H locs hP hS => ?_)
                      refine lv_iconst (v := 0) hx hb dX10_keep_174 (by decide) ?_
                      refine lv_istore (lv' := [(7, .int (0 : Int32)), (6, .int (1 : Int32)), (0, .ref mo), (1, .int d), (2, .int what), (3, .int k0), (4, .long p0)]) hx hb dX10_keep_175 hl (by decide) rfl (fun ls hl => ?_)
                      have loop_177 : ∀ (n : Nat) (i : Nat) (s3 : Nat → Int64), (i ≤ 60) → 60 - i < n → ∀ (H : Heap) (locs : List Loc), va_P D vwCl (WM cy mo a (upd f 0 (0 : Int32)) g (va_up (va_up (va_up (va_up r 29 ((upd (r 29) d.toNatClampNeg what))) 30 ((upd (r 30) d.toNatClampNeg v131))) 31 ((upd (r 31) d.toNatClampNeg r149))) 32 ((upd (r 32) d.toNatClampNeg k0))) (va_up q 33 s3)) H → va_S (AM mo a) s.heap H locs → ∀ (ls : Array Slot), lv_has ls 8 [(7, .int (nI i)), (6, .int (1 : Int32)), (0, .ref mo), (1, .int d), (2, .int what), (3, .int k0), (4, .long p0)] → W p l e (headSpec wsX10_keep ({ frames := 3, cells := 0, slots := 0, locals := 69 })).room s m #[Value.ref mo, Value.int d, Value.int what, Value.int k0, Value.long p0] below meth c H locs 0 0 (MQ below (va_Qi (fun r0 u => ∃ (sh : Nat → Int32), ∃ (sz : Nat → Int32), ∃ (sw : Nat → Int32), ∃ (sf : Nat → Int32), ∃ (sr : Nat → Int64), u = ((upd f 0 (0 : Int32)), g, (va_up (va_up (va_up (va_up r 29 sh) 30 sz) 31 sw) 32 sf), (va_up q 33 sr)) ∧ (yesNo (okKeep (f 1) (fun j9 => (r 3 j9).toNatClampNeg) (fun j9 => (r 4 j9).toNatClampNeg) d what k0 p0) 0 (-1) r0 ∧ MI (upd f 0 (0 : Int32)) (va_up (va_up (va_up (va_up r 29 sh) 30 sz) 31 sw) 32 sf))) (mB D cy mo a) (AM mo a)) #[Value.ref mo, Value.int d, Value.int what, Value.int k0, Value.long p0] s 0 0 (AM mo a)) (F0 m 177 ls []) := by
                        intro n
                        induction n with
                        | zero => intro i s3 j177_0 hn; exact absurd hn (Nat.not_lt_zero _)
                        | succ n ih_177 =>
                          intro i s3 j177_0 hn_177 H locs hP hS ls hl
                          have ii : (nI i).toInt = (i : Int) := nI_toInt (by omega)
                          refine lv_iload hx hb dX10_keep_177 (lv_at hl 0 rfl) ?_
                          refine lv_aload_n hx hb dX10_keep_179 rfl (lv_at hl 2 rfl) ?_
                          refine m_get (v := .ref (a 30)) hx hb hts hin hown hK hP 30 (by decide) rfl (hts (.fieldLink RX10 64 "ShadowBenchModel" "shelfSize" "[I") (by decide +kernel)) rfl dX10_keep_180 ?_
                          refine lv_iload_n hx hb dX10_keep_183 rfl (lv_at hl 3 rfl) ?_
                          refine m_iald (w := ((upd (r 30) d.toNatClampNeg v131))) hx hb hK hP 18 rfl (vp_in_iff.mpr ⟨by omega, by omega⟩) dX10_keep_184 ?_
                          refine lv_topi (fun v184 e184 => ?_)
                          have i184 : v184.toInt = (((upd (r 30) d.toNatClampNeg v131)) d.toNatClampNeg).toInt := congrArg Int32.toInt e184
                          have z184 := e184
                          simp only [upd, if_true] at z184
                          have y184 := congrArg Int32.toInt z184
                          refine lv_icmp_ge (tgt := 272) hx hb dX10_keep_185 (by decide) (fun c185 => ?_) (fun c185 => ?_)
                          · skip
                            have d185 := c185
                            rw [fa_le] at d185
                            refine lv_iconst (v := 0) hx hb dX10_keep_272 (by decide) ?_
                            have hP := wm_eq rfl rfl (ec_r_29_30_31_32__29_30_31_32 r ((upd (r 29) d.toNatClampNeg what)) ((upd (r 30) d.toNatClampNeg v131)) ((upd (r 31) d.toNatClampNeg r149)) ((upd (r 32) d.toNatClampNeg k0))) rfl hP
                            exact W.iret (v := (0 : Int32)) hx hb hr (fun t ht hW => ⟨⟨_, ((upd f 0 (0 : Int32)), g, (va_up (va_up (va_up (va_up r 29 (((upd (r 29) d.toNatClampNeg what)))) 30 (((upd (r 30) d.toNatClampNeg v131)))) 31 (((upd (r 31) d.toNatClampNeg r149)))) 32 (((upd (r 32) d.toNatClampNeg k0)))), (va_up q 33 s3)), rfl, ⟨((upd (r 29) d.toNatClampNeg what)), ((upd (r 30) d.toNatClampNeg v131)), ((upd (r 31) d.toNatClampNeg r149)), ((upd (r 32) d.toNatClampNeg k0)), s3, rfl, ⟨(Or.inl ⟨⟨b9, (by unfold okJob; first | exact Or.inl (by omega) | exact Or.inr (Or.inl ⟨by omega, b31⟩) | (have z9 := goodP_of b64; subst e52; subst e58; exact Or.inr (Or.inr ⟨by omega, b44, z9.2⟩)))⟩, rfl⟩), by first | exact hI | exact mi_sz (d := d) hI (v := v110) (by omega) rfl rfl rfl rfl rfl rfl rfl rfl | exact mi_sz (d := d) hI (v := v131) (by omega) rfl rfl rfl rfl rfl rfl rfl rfl | exact mi_sz (d := d) hI (v := 0) (by decide) rfl rfl rfl rfl rfl rfl rfl rfl⟩⟩, by unfold mB; rw [ht]; exact hP⟩, hS.F ht⟩) hS.2.2 dX10_keep_273
                          · skip
                            have d185 := c185
                            rw [fa_le] at d185
                            refine lv_aload_n hx hb dX10_keep_188 rfl (lv_at hl 2 rfl) ?_
                            refine m_get (v := .ref (a 33)) hx hb hts hin hown hK hP 33 (by decide) rfl (hts (.fieldLink RX10 73 "ShadowBenchModel" "shelfRow" "[J") (by decide +kernel)) rfl dX10_keep_189 ?_
                            refine lv_bipush (v := 60) hx hb dX10_keep_192 (by decide) ?_
                            refine lv_iload_n hx hb dX10_keep_194 rfl (lv_at hl 3 rfl) ?_
                            refine lv_imul hx hb dX10_keep_195 ?_
                            refine lv_topi (fun v195 e195 => ?_)
                            have i195 : v195.toInt = 60 * d.toInt := by rw [e195]; exact mulcL rfl (by omega) (by omega)
                            refine lv_iload hx hb dX10_keep_196 (lv_at hl 0 rfl) ?_
                            refine lv_iadd hx hb dX10_keep_198 ?_
                            refine lv_topi (fun v198 e198 => ?_)
                            have i198 : v198.toInt = v195.toInt + (nI i).toInt := by rw [e198]; exact fb_addI (by omega) (by omega)
                            refine lv_iload_n hx hb dX10_keep_199 rfl (lv_at hl 4 rfl) ?_
                            refine lv_iconst (v := 3) hx hb dX10_keep_200 (by decide) ?_
                            refine lv_icmp_ne (tgt := 215) hx hb dX10_keep_201 (by decide) (fun c201 => ?_) (fun c201 => ?_)
                            · skip
                              have d201 := c201
                              rw [fa_eq] at d201
                              refine lv_iload hx hb dX10_keep_215 (lv_at hl 0 rfl) ?_
                              refine lv_aload_n hx hb dX10_keep_217 rfl (lv_at hl 2 rfl) ?_
                              refine m_get (v := .ref (a 4)) hx hb hts hin hown hK hP 4 (by decide) rfl (hts (.fieldLink RX10 16 "ShadowBenchModel" "high" "[I") (by decide +kernel)) rfl dX10_keep_218 ?_
                              refine lv_iload_n hx hb dX10_keep_221 rfl (lv_at hl 5 rfl) ?_
                              refine m_iald (w := (r 4)) hx hb hK hP 3 rfl (vp_in_iff.mpr ⟨by omega, by omega⟩) dX10_keep_222 ?_
                              refine lv_topi (fun v222 e222 => ?_)
                              have i222 : v222.toInt = ((r 4) k0.toNatClampNeg).toInt := congrArg Int32.toInt e222
                              have w222 := mi_h hI (x := k0) (by omega) (by omega) e222
                              refine lv_icmp_ge (tgt := 242) hx hb dX10_keep_223 (by decide) (fun c223 => ?_) (fun c223 => ?_)
                              · skip
                                have d223 := c223
                                rw [fa_le] at d223
                                refine lv_aload_n hx hb dX10_keep_242 rfl (lv_at hl 2 rfl) ?_
                                refine m_get (v := .ref (a 5)) hx hb hts hin hown hK hP 5 (by decide) rfl (hts (.fieldLink RX10 19 "ShadowBenchModel" "sums" "[I") (by decide +kernel)) rfl dX10_keep_243 ?_
                                refine lv_bipush (v := 44) hx hb dX10_keep_246 (by decide) ?_
                                refine lv_iload_n hx hb dX10_keep_248 rfl (lv_at hl 5 rfl) ?_
                                refine lv_imul hx hb dX10_keep_249 ?_
                                refine lv_topi (fun v249 e249 => ?_)
                                have i249 : v249.toInt = 44 * k0.toInt := by rw [e249]; exact mulcL rfl (by omega) (by omega)
                                refine lv_bipush (v := 11) hx hb dX10_keep_250 (by decide) ?_
                                refine lv_iadd hx hb dX10_keep_252 ?_
                                refine lv_topi (fun v252 e252 => ?_)
                                have i252 : v252.toInt = v249.toInt + (11 : Int32).toInt := by rw [e252]; exact fb_addI (by omega) (by omega)
                                refine lv_iload hx hb dX10_keep_253 (lv_at hl 0 rfl) ?_
                                refine lv_iadd hx hb dX10_keep_255 ?_
                                refine lv_topi (fun v255 e255 => ?_)
                                have i255 : v255.toInt = v252.toInt + (nI i).toInt := by rw [e255]; exact fb_addI (by omega) (by omega)
                                refine lv_aload_n hx hb dX10_keep_256 rfl (lv_at hl 2 rfl) ?_
                                refine m_get (v := .ref (a 4)) hx hb hts hin hown hK hP 4 (by decide) rfl (hts (.fieldLink RX10 16 "ShadowBenchModel" "high" "[I") (by decide +kernel)) rfl dX10_keep_257 ?_
                                refine lv_iload_n hx hb dX10_keep_260 rfl (lv_at hl 5 rfl) ?_
                                refine m_iald (w := (r 4)) hx hb hK hP 3 rfl (vp_in_iff.mpr ⟨by omega, by omega⟩) dX10_keep_261 ?_
                                refine lv_topi (fun v261 e261 => ?_)
                                have i261 : v261.toInt = ((r 4) k0.toNatClampNeg).toInt := congrArg Int32.toInt e261
                                have w261 := mi_h hI (x := k0) (by omega) (by omega) e261
                                refine lv_isub hx hb dX10_keep_262 ?_
                                refine lv_topi (fun v262 e262 => ?_)
                                have i262 : v262.toInt = v255.toInt - v261.toInt := by rw [e262]; exact fb_subI (by omega) (by omega)
                                refine m_iald (w := (r 5)) hx hb hK hP 4 rfl (vp_in_iff.mpr ⟨by omega, by omega⟩) dX10_keep_263 ?_
                                refine lv_topi (fun v263 e263 => ?_)
                                have i263 : v263.toInt = ((r 5) v262.toNatClampNeg).toInt := congrArg Int32.toInt e263
                                refine lv_i2l (v := v263.toInt64) hx hb dX10_keep_264 rfl ?_
                                refine m_last (w := s3) hx hb hK hP hD hS 21 rfl (vp_in_iff.mpr ⟨by omega, by omega⟩) (va_up (va_up q 33 s3) 33 (vp_updL s3 v198.toNatClampNeg v263.toInt64)) (ms_33 cy mo a _ _ _ _ _) dX10_keep_265 (fun H locs hP hS => ?_)
                                have hP := wm_eq rfl rfl rfl (es_q_33__33 q s3 (vp_updL s3 v198.toNatClampNeg v263.toInt64)) hP
                                refine lv_iinc (v := (nI (i + 1))) (lv' := [(7, .int (nI (i + 1))), (6, .int (1 : Int32)), (0, .ref mo), (1, .int d), (2, .int what), (3, .int k0), (4, .long p0)]) hx hb dX10_keep_266 hl (k := 0) rfl (nI_1 _) (by decide) rfl (fun ls hl => ?_)
                                refine lv_goto (tgt := 177) hx hb dX10_keep_269 (by decide) ?_
                                have hP := wm_eq rfl rfl (ec_r_29_30_31_32__29_30_31_32 r ((upd (r 29) d.toNatClampNeg what)) ((upd (r 30) d.toNatClampNeg v131)) ((upd (r 31) d.toNatClampNeg r149)) ((upd (r 32) d.toNatClampNeg k0))) rfl hP
                                exact ih_177 (i + 1) (vp_updL s3 v198.toNatClampNeg v263.toInt64) (by omega) (by omega) _ _ hP hS ls (lv_sub hl [0, 1, 2, 3, 4, 5, 6] rfl)
                              · skip
                                have d223 := c223
                                rw [fa_le] at d223
                                refine lv_aload_n hx hb dX10_keep_226 rfl (lv_at hl 2 rfl) ?_
                                refine m_get (v := .ref (a 5)) hx hb hts hin hown hK hP 5 (by decide) rfl (hts (.fieldLink RX10 19 "ShadowBenchModel" "sums" "[I") (by decide +kernel)) rfl dX10_keep_227 ?_
                                refine lv_bipush (v := 44) hx hb dX10_keep_230 (by decide) ?_
                                refine lv_iload_n hx hb dX10_keep_232 rfl (lv_at hl 5 rfl) ?_
                                refine lv_imul hx hb dX10_keep_233 ?_
                                refine lv_topi (fun v233 e233 => ?_)
                                have i233 : v233.toInt = 44 * k0.toInt := by rw [e233]; exact mulcL rfl (by omega) (by omega)
                                refine lv_iload hx hb dX10_keep_234 (lv_at hl 0 rfl) ?_
                                refine lv_iadd hx hb dX10_keep_236 ?_
                                refine lv_topi (fun v236 e236 => ?_)
                                have i236 : v236.toInt = v233.toInt + (nI i).toInt := by rw [e236]; exact fb_addI (by omega) (by omega)
                                refine m_iald (w := (r 5)) hx hb hK hP 4 rfl (vp_in_iff.mpr ⟨by omega, by omega⟩) dX10_keep_237 ?_
                                refine lv_topi (fun v237 e237 => ?_)
                                have i237 : v237.toInt = ((r 5) v236.toNatClampNeg).toInt := congrArg Int32.toInt e237
                                refine lv_i2l (v := v237.toInt64) hx hb dX10_keep_238 rfl ?_
                                refine lv_goto (tgt := 265) hx hb dX10_keep_239 (by decide) ?_
                                refine m_last (w := s3) hx hb hK hP hD hS 21 rfl (vp_in_iff.mpr ⟨by omega, by omega⟩) (va_up (va_up q 33 s3) 33 (vp_updL s3 v198.toNatClampNeg v237.toInt64)) (ms_33 cy mo a _ _ _ _ _) dX10_keep_265 (fun H locs hP hS => ?_)
                                have hP := wm_eq rfl rfl rfl (es_q_33__33 q s3 (vp_updL s3 v198.toNatClampNeg v237.toInt64)) hP
                                refine lv_iinc (v := (nI (i + 1))) (lv' := [(7, .int (nI (i + 1))), (6, .int (1 : Int32)), (0, .ref mo), (1, .int d), (2, .int what), (3, .int k0), (4, .long p0)]) hx hb dX10_keep_266 hl (k := 0) rfl (nI_1 _) (by decide) rfl (fun ls hl => ?_)
                                refine lv_goto (tgt := 177) hx hb dX10_keep_269 (by decide) ?_
                                have hP := wm_eq rfl rfl (ec_r_29_30_31_32__29_30_31_32 r ((upd (r 29) d.toNatClampNeg what)) ((upd (r 30) d.toNatClampNeg v131)) ((upd (r 31) d.toNatClampNeg r149)) ((upd (r 32) d.toNatClampNeg k0))) rfl hP
                                exact ih_177 (i + 1) (vp_updL s3 v198.toNatClampNeg v237.toInt64) (by omega) (by omega) _ _ hP hS ls (lv_sub hl [0, 1, 2, 3, 4, 5, 6] rfl)
                            · first | exact absurd c201 c95 | exact absurd c95 c201
                      have hP := wm_eq rfl rfl (ec_r_29_30_31_32__29_30_31_32 r ((upd (r 29) d.toNatClampNeg what)) ((upd (r 30) d.toNatClampNeg v131)) ((upd (r 31) d.toNatClampNeg r149)) ((upd (r 32) d.toNatClampNeg k0))) (ec_q___33 q ) hP
                      exact loop_177 (60 + 1) 0 (q 33) (by omega) (by omega) _ _ hP hS ls (lv_sub hl [0, 1, 2, 3, 4, 5, 6] rfl)
                    · skip
                      have d164 := c164
                      rw [fa_eq] at d164
                      refine lv_bipush (v := (-15)) hx hb dX10_keep_167 (by decide) ?_
                      refine lv_goto (tgt := 173) hx hb dX10_keep_169 (by decide) ?_
                      refine m_iast (w := (r 32)) hx hb hK hP hD hS 20 rfl (vp_in_iff.mpr ⟨by omega, by omega⟩) (va_up (va_up (va_up (va_up r 29 ((upd (r 29) d.toNatClampNeg what))) 30 ((upd (r 30) d.toNatClampNeg v131))) 31 ((upd (r 31) d.toNatClampNeg r149))) 32 (upd (r 32) d.toNatClampNeg (((-15) : Int32)))) (ms_32 cy mo a _ _ _ _ _) dX10_keep_173 (fun H locs hP hS => ?_)
                      refine lv_iconst (v := 0) hx hb dX10_keep_174 (by decide) ?_
                      refine lv_istore (lv' := [(7, .int (0 : Int32)), (6, .int (1 : Int32)), (0, .ref mo), (1, .int d), (2, .int what), (3, .int k0), (4, .long p0)]) hx hb dX10_keep_175 hl (by decide) rfl (fun ls hl => ?_)
                      have loop_177 : ∀ (n : Nat) (i : Nat) (s3 : Nat → Int64), (i ≤ 60) → 60 - i < n → ∀ (H : Heap) (locs : List Loc), va_P D vwCl (WM cy mo a (upd f 0 (0 : Int32)) g (va_up (va_up (va_up (va_up r 29 ((upd (r 29) d.toNatClampNeg what))) 30 ((upd (r 30) d.toNatClampNeg v131))) 31 ((upd (r 31) d.toNatClampNeg r149))) 32 ((upd (r 32) d.toNatClampNeg (((-15) : Int32))))) (va_up q 33 s3)) H → va_S (AM mo a) s.heap H locs → ∀ (ls : Array Slot), lv_has ls 8 [(7, .int (nI i)), (6, .int (1 : Int32)), (0, .ref mo), (1, .int d), (2, .int what), (3, .int k0), (4, .long p0)] → W p l e (headSpec wsX10_keep ({ frames := 3, cells := 0, slots := 0, locals := 69 })).room s m #[Value.ref mo, Value.int d, Value.int what, Value.int k0, Value.long p0] below meth c H locs 0 0 (MQ below (va_Qi (fun r0 u => ∃ (sh : Nat → Int32), ∃ (sz : Nat → Int32), ∃ (sw : Nat → Int32), ∃ (sf : Nat → Int32), ∃ (sr : Nat → Int64), u = ((upd f 0 (0 : Int32)), g, (va_up (va_up (va_up (va_up r 29 sh) 30 sz) 31 sw) 32 sf), (va_up q 33 sr)) ∧ (yesNo (okKeep (f 1) (fun j9 => (r 3 j9).toNatClampNeg) (fun j9 => (r 4 j9).toNatClampNeg) d what k0 p0) 0 (-1) r0 ∧ MI (upd f 0 (0 : Int32)) (va_up (va_up (va_up (va_up r 29 sh) 30 sz) 31 sw) 32 sf))) (mB D cy mo a) (AM mo a)) #[Value.ref mo, Value.int d, Value.int what, Value.int k0, Value.long p0] s 0 0 (AM mo a)) (F0 m 177 ls []) := by
                        intro n
                        induction n with
                        | zero => intro i s3 j177_0 hn; exact absurd hn (Nat.not_lt_zero _)
                        | succ n ih_177 =>
                          intro i s3 j177_0 hn_177 H locs hP hS ls hl
                          have ii : (nI i).toInt = (i : Int) := nI_toInt (by omega)
                          refine lv_iload hx hb dX10_keep_177 (lv_at hl 0 rfl) ?_
                          refine lv_aload_n hx hb dX10_keep_179 rfl (lv_at hl 2 rfl) ?_
                          refine m_get (v := .ref (a 30)) hx hb hts hin hown hK hP 30 (by decide) rfl (hts (.fieldLink RX10 64 "ShadowBenchModel" "shelfSize" "[I") (by decide +kernel)) rfl dX10_keep_180 ?_
                          refine lv_iload_n hx hb dX10_keep_183 rfl (lv_at hl 3 rfl) ?_
                          refine m_iald (w := ((upd (r 30) d.toNatClampNeg v131))) hx hb hK hP 18 rfl (vp_in_iff.mpr ⟨by omega, by omega⟩) dX10_keep_184 ?_
                          refine lv_topi (fun v184 e184 => ?_)
                          have i184 : v184.toInt = (((upd (r 30) d.toNatClampNeg v131)) d.toNatClampNeg).toInt := congrArg Int32.toInt e184
                          have z184 := e184
                          simp only [upd, if_true] at z184
                          have y184 := congrArg Int32.toInt z184
                          refine lv_icmp_ge (tgt := 272) hx hb dX10_keep_185 (by decide) (fun c185 => ?_) (fun c185 => ?_)
                          · skip
                            have d185 := c185
                            rw [fa_le] at d185
                            refine lv_iconst (v := 0) hx hb dX10_keep_272 (by decide) ?_
                            have hP := wm_eq rfl rfl (ec_r_29_30_31_32__29_30_31_32 r ((upd (r 29) d.toNatClampNeg what)) ((upd (r 30) d.toNatClampNeg v131)) ((upd (r 31) d.toNatClampNeg r149)) ((upd (r 32) d.toNatClampNeg (((-15) : Int32))))) rfl hP
                            exact W.iret (v := (0 : Int32)) hx hb hr (fun t ht hW => ⟨⟨_, ((upd f 0 (0 : Int32)), g, (va_up (va_up (va_up (va_up r 29 (((upd (r 29) d.toNatClampNeg what)))) 30 (((upd (r 30) d.toNatClampNeg v131)))) 31 (((upd (r 31) d.toNatClampNeg r149)))) 32 (((upd (r 32) d.toNatClampNeg (((-15) : Int32)))))), (va_up q 33 s3)), rfl, ⟨((upd (r 29) d.toNatClampNeg what)), ((upd (r 30) d.toNatClampNeg v131)), ((upd (r 31) d.toNatClampNeg r149)), ((upd (r 32) d.toNatClampNeg (((-15) : Int32)))), s3, rfl, ⟨(Or.inl ⟨⟨b9, (by unfold okJob; first | exact Or.inl (by omega) | exact Or.inr (Or.inl ⟨by omega, b31⟩) | (have z9 := goodP_of b64; subst e52; subst e58; exact Or.inr (Or.inr ⟨by omega, b44, z9.2⟩)))⟩, rfl⟩), by first | exact hI | exact mi_sz (d := d) hI (v := v110) (by omega) rfl rfl rfl rfl rfl rfl rfl rfl | exact mi_sz (d := d) hI (v := v131) (by omega) rfl rfl rfl rfl rfl rfl rfl rfl | exact mi_sz (d := d) hI (v := 0) (by decide) rfl rfl rfl rfl rfl rfl rfl rfl⟩⟩, by unfold mB; rw [ht]; exact hP⟩, hS.F ht⟩) hS.2.2 dX10_keep_273
                          · skip
                            have d185 := c185
                            rw [fa_le] at d185
                            refine lv_aload_n hx hb dX10_keep_188 rfl (lv_at hl 2 rfl) ?_
                            refine m_get (v := .ref (a 33)) hx hb hts hin hown hK hP 33 (by decide) rfl (hts (.fieldLink RX10 73 "ShadowBenchModel" "shelfRow" "[J") (by decide +kernel)) rfl dX10_keep_189 ?_
                            refine lv_bipush (v := 60) hx hb dX10_keep_192 (by decide) ?_
                            refine lv_iload_n hx hb dX10_keep_194 rfl (lv_at hl 3 rfl) ?_
                            refine lv_imul hx hb dX10_keep_195 ?_
                            refine lv_topi (fun v195 e195 => ?_)
                            have i195 : v195.toInt = 60 * d.toInt := by rw [e195]; exact mulcL rfl (by omega) (by omega)
                            refine lv_iload hx hb dX10_keep_196 (lv_at hl 0 rfl) ?_
                            refine lv_iadd hx hb dX10_keep_198 ?_
                            refine lv_topi (fun v198 e198 => ?_)
                            have i198 : v198.toInt = v195.toInt + (nI i).toInt := by rw [e198]; exact fb_addI (by omega) (by omega)
                            refine lv_iload_n hx hb dX10_keep_199 rfl (lv_at hl 4 rfl) ?_
                            refine lv_iconst (v := 3) hx hb dX10_keep_200 (by decide) ?_
                            refine lv_icmp_ne (tgt := 215) hx hb dX10_keep_201 (by decide) (fun c201 => ?_) (fun c201 => ?_)
                            · skip
                              have d201 := c201
                              rw [fa_eq] at d201
                              refine lv_iload hx hb dX10_keep_215 (lv_at hl 0 rfl) ?_
                              refine lv_aload_n hx hb dX10_keep_217 rfl (lv_at hl 2 rfl) ?_
                              refine m_get (v := .ref (a 4)) hx hb hts hin hown hK hP 4 (by decide) rfl (hts (.fieldLink RX10 16 "ShadowBenchModel" "high" "[I") (by decide +kernel)) rfl dX10_keep_218 ?_
                              refine lv_iload_n hx hb dX10_keep_221 rfl (lv_at hl 5 rfl) ?_
                              refine m_iald (w := (r 4)) hx hb hK hP 3 rfl (vp_in_iff.mpr ⟨by omega, by omega⟩) dX10_keep_222 ?_
                              refine lv_topi (fun v222 e222 => ?_)
                              have i222 : v222.toInt = ((r 4) k0.toNatClampNeg).toInt := congrArg Int32.toInt e222
                              have w222 := mi_h hI (x := k0) (by omega) (by omega) e222
                              refine lv_icmp_ge (tgt := 242) hx hb dX10_keep_223 (by decide) (fun c223 => ?_) (fun c223 => ?_)
                              · skip
                                have d223 := c223
                                rw [fa_le] at d223
                                refine lv_aload_n hx hb dX10_keep_242 rfl (lv_at hl 2 rfl) ?_
                                refine m_get (v := .ref (a 5)) hx hb hts hin hown hK hP 5 (by decide) rfl (hts (.fieldLink RX10 19 "ShadowBenchModel" "sums" "[I") (by decide +kernel)) rfl dX10_keep_243 ?_
                                refine lv_bipush (v := 44) hx hb dX10_keep_246 (by decide) ?_
                                refine lv_iload_n hx hb dX10_keep_248 rfl (lv_at hl 5 rfl) ?_
                                refine lv_imul hx hb dX10_keep_249 ?_
                                refine lv_topi (fun v249 e249 => ?_)
                                have i249 : v249.toInt = 44 * k0.toInt := by rw [e249]; exact mulcL rfl (by omega) (by omega)
                                refine lv_bipush (v := 11) hx hb dX10_keep_250 (by decide) ?_
                                refine lv_iadd hx hb dX10_keep_252 ?_
                                refine lv_topi (fun v252 e252 => ?_)
                                have i252 : v252.toInt = v249.toInt + (11 : Int32).toInt := by rw [e252]; exact fb_addI (by omega) (by omega)
                                refine lv_iload hx hb dX10_keep_253 (lv_at hl 0 rfl) ?_
                                refine lv_iadd hx hb dX10_keep_255 ?_
                                refine lv_topi (fun v255 e255 => ?_)
                                have i255 : v255.toInt = v252.toInt + (nI i).toInt := by rw [e255]; exact fb_addI (by omega) (by omega)
                                refine lv_aload_n hx hb dX10_keep_256 rfl (lv_at hl 2 rfl) ?_
                                refine m_get (v := .ref (a 4)) hx hb hts hin hown hK hP 4 (by decide) rfl (hts (.fieldLink RX10 16 "ShadowBenchModel" "high" "[I") (by decide +kernel)) rfl dX10_keep_257 ?_
                                refine lv_iload_n hx hb dX10_keep_260 rfl (lv_at hl 5 rfl) ?_
                                refine m_iald (w := (r 4)) hx hb hK hP 3 rfl (vp_in_iff.mpr ⟨by omega, by omega⟩) dX10_keep_261 ?_
                                refine lv_topi (fun v261 e261 => ?_)
                                have i261 : v261.toInt = ((r 4) k0.toNatClampNeg).toInt := congrArg Int32.toInt e261
                                have w261 := mi_h hI (x := k0) (by omega) (by omega) e261
                                refine lv_isub hx hb dX10_keep_262 ?_
                                refine lv_topi (fun v262 e262 => ?_)
                                have i262 : v262.toInt = v255.toInt - v261.toInt := by rw [e262]; exact fb_subI (by omega) (by omega)
                                refine m_iald (w := (r 5)) hx hb hK hP 4 rfl (vp_in_iff.mpr ⟨by omega, by omega⟩) dX10_keep_263 ?_
                                refine lv_topi (fun v263 e263 => ?_)
                                have i263 : v263.toInt = ((r 5) v262.toNatClampNeg).toInt := congrArg Int32.toInt e263
                                refine lv_i2l (v := v263.toInt64) hx hb dX10_keep_264 rfl ?_
                                refine m_last (w := s3) hx hb hK hP hD hS 21 rfl (vp_in_iff.mpr ⟨by omega, by omega⟩) (va_up (va_up q 33 s3) 33 (vp_updL s3 v198.toNatClampNeg v263.toInt64)) (ms_33 cy mo a _ _ _ _ _) dX10_keep_265 (fun H locs hP hS => ?_)
                                have hP := wm_eq rfl rfl rfl (es_q_33__33 q s3 (vp_updL s3 v198.toNatClampNeg v263.toInt64)) hP
                                refine lv_iinc (v := (nI (i + 1))) (lv' := [(7, .int (nI (i + 1))), (6, .int (1 : Int32)), (0, .ref mo), (1, .int d), (2, .int what), (3, .int k0), (4, .long p0)]) hx hb dX10_keep_266 hl (k := 0) rfl (nI_1 _) (by decide) rfl (fun ls hl => ?_)
                                refine lv_goto (tgt := 177) hx hb dX10_keep_269 (by decide) ?_
                                have hP := wm_eq rfl rfl (ec_r_29_30_31_32__29_30_31_32 r ((upd (r 29) d.toNatClampNeg what)) ((upd (r 30) d.toNatClampNeg v131)) ((upd (r 31) d.toNatClampNeg r149)) ((upd (r 32) d.toNatClampNeg (((-15) : Int32))))) rfl hP
                                exact ih_177 (i + 1) (vp_updL s3 v198.toNatClampNeg v263.toInt64) (by omega) (by omega) _ _ hP hS ls (lv_sub hl [0, 1, 2, 3, 4, 5, 6] rfl)
                              · skip
                                have d223 := c223
                                rw [fa_le] at d223
                                refine lv_aload_n hx hb dX10_keep_226 rfl (lv_at hl 2 rfl) ?_
                                refine m_get (v := .ref (a 5)) hx hb hts hin hown hK hP 5 (by decide) rfl (hts (.fieldLink RX10 19 "ShadowBenchModel" "sums" "[I") (by decide +kernel)) rfl dX10_keep_227 ?_
                                refine lv_bipush (v := 44) hx hb dX10_keep_230 (by decide) ?_
                                refine lv_iload_n hx hb dX10_keep_232 rfl (lv_at hl 5 rfl) ?_
                                refine lv_imul hx hb dX10_keep_233 ?_
                                refine lv_topi (fun v233 e233 => ?_)
                                have i233 : v233.toInt = 44 * k0.toInt := by rw [e233]; exact mulcL rfl (by omega) (by omega)
                                refine lv_iload hx hb dX10_keep_234 (lv_at hl 0 rfl) ?_
                                refine lv_iadd hx hb dX10_keep_236 ?_
                                refine lv_topi (fun v236 e236 => ?_)
                                have i236 : v236.toInt = v233.toInt + (nI i).toInt := by rw [e236]; exact fb_addI (by omega) (by omega)
                                refine m_iald (w := (r 5)) hx hb hK hP 4 rfl (vp_in_iff.mpr ⟨by omega, by omega⟩) dX10_keep_237 ?_
                                refine lv_topi (fun v237 e237 => ?_)
                                have i237 : v237.toInt = ((r 5) v236.toNatClampNeg).toInt := congrArg Int32.toInt e237
                                refine lv_i2l (v := v237.toInt64) hx hb dX10_keep_238 rfl ?_
                                refine lv_goto (tgt := 265) hx hb dX10_keep_239 (by decide) ?_
                                refine m_last (w := s3) hx hb hK hP hD hS 21 rfl (vp_in_iff.mpr ⟨by omega, by omega⟩) (va_up (va_up q 33 s3) 33 (vp_updL s3 v198.toNatClampNeg v237.toInt64)) (ms_33 cy mo a _ _ _ _ _) dX10_keep_265 (fun H locs hP hS => ?_)
                                have hP := wm_eq rfl rfl rfl (es_q_33__33 q s3 (vp_updL s3 v198.toNatClampNeg v237.toInt64)) hP
                                refine lv_iinc (v := (nI (i + 1))) (lv' := [(7, .int (nI (i + 1))), (6, .int (1 : Int32)), (0, .ref mo), (1, .int d), (2, .int what), (3, .int k0), (4, .long p0)]) hx hb dX10_keep_266 hl (k := 0) rfl (nI_1 _) (by decide) rfl (fun ls hl => ?_)
                                refine lv_goto (tgt := 177) hx hb dX10_keep_269 (by decide) ?_
                                have hP := wm_eq rfl rfl (ec_r_29_30_31_32__29_30_31_32 r ((upd (r 29) d.toNatClampNeg what)) ((upd (r 30) d.toNatClampNeg v131)) ((upd (r 31) d.toNatClampNeg r149)) ((upd (r 32) d.toNatClampNeg (((-15) : Int32))))) rfl hP
                                exact ih_177 (i + 1) (vp_updL s3 v198.toNatClampNeg v237.toInt64) (by omega) (by omega) _ _ hP hS ls (lv_sub hl [0, 1, 2, 3, 4, 5, 6] rfl)
                            · first | exact absurd c201 c95 | exact absurd c95 c201
                      have hP := wm_eq rfl rfl (ec_r_29_30_31_32__29_30_31_32 r ((upd (r 29) d.toNatClampNeg what)) ((upd (r 30) d.toNatClampNeg v131)) ((upd (r 31) d.toNatClampNeg r149)) ((upd (r 32) d.toNatClampNeg (((-15) : Int32))))) (ec_q___33 q ) hP
                      exact loop_177 (60 + 1) 0 (q 33) (by omega) (by omega) _ _ hP hS ls (lv_sub hl [0, 1, 2, 3, 4, 5, 6] rfl)
              · skip
                have d95 := c95
                rw [fa_eq] at d95
                refine lv_aload_n hx hb dX10_keep_98 rfl (lv_at hl 1 rfl) ?_
                refine m_get (v := .ref (a 3)) hx hb hts hin hown hK hP 3 (by decide) rfl (hts (.fieldLink RX10 13 "ShadowBenchModel" "wide" "[I") (by decide +kernel)) rfl dX10_keep_99 ?_
                refine lv_iload_n hx hb dX10_keep_102 rfl (lv_at hl 4 rfl) ?_
                refine m_iald (w := (r 3)) hx hb hK hP 2 rfl (vp_in_iff.mpr ⟨by omega, by omega⟩) dX10_keep_103 ?_
                refine lv_topi (fun v103 e103 => ?_)
                have i103 : v103.toInt = ((r 3) k0.toNatClampNeg).toInt := congrArg Int32.toInt e103
                have w103 := mi_w hI (x := k0) (by omega) (by omega) e103
                refine lv_aload_n hx hb dX10_keep_104 rfl (lv_at hl 1 rfl) ?_
                refine m_get (v := .ref (a 4)) hx hb hts hin hown hK hP 4 (by decide) rfl (hts (.fieldLink RX10 16 "ShadowBenchModel" "high" "[I") (by decide +kernel)) rfl dX10_keep_105 ?_
                refine lv_iload_n hx hb dX10_keep_108 rfl (lv_at hl 4 rfl) ?_
                refine m_iald (w := (r 4)) hx hb hK hP 3 rfl (vp_in_iff.mpr ⟨by omega, by omega⟩) dX10_keep_109 ?_
                refine lv_topi (fun v109 e109 => ?_)
                have i109 : v109.toInt = ((r 4) k0.toNatClampNeg).toInt := congrArg Int32.toInt e109
                have w109 := mi_h hI (x := k0) (by omega) (by omega) e109
                have m110 := mul66 w103 w109
                refine lv_imul hx hb dX10_keep_110 ?_
                refine lv_topi (fun v110 e110 => ?_)
                have i110 : v110.toInt = v103.toInt * v109.toInt := by rw [e110]; exact fb_mulI (by omega) (by omega)
                refine lv_goto (tgt := 136) hx hb dX10_keep_111 (by decide) ?_
                refine m_iast (w := (r 30)) hx hb hK hP hD hS 18 rfl (vp_in_iff.mpr ⟨by omega, by omega⟩) (va_up (va_up r 29 ((upd (r 29) d.toNatClampNeg what))) 30 (upd (r 30) d.toNatClampNeg v110)) (ms_30 cy mo a _ _ _ _ _) dX10_keep_136 (fun H locs hP hS => ?_)
                refine lv_iload_n hx hb dX10_keep_137 rfl (lv_at hl 3 rfl) ?_
                refine lv_iconst (v := 1) hx hb dX10_keep_138 (by decide) ?_
                refine lv_icmp_ne (tgt := 174) hx hb dX10_keep_139 (by decide) (fun c139 => ?_) (fun c139 => ?_)
                · skip
                  have d139 := c139
                  rw [fa_eq] at d139
                  refine lv_iconst (v := 0) hx hb dX10_keep_174 (by decide) ?_
                  refine lv_istore (lv' := [(7, .int (0 : Int32)), (6, .int (1 : Int32)), (0, .ref mo), (1, .int d), (2, .int what), (3, .int k0), (4, .long p0)]) hx hb dX10_keep_175 hl (by decide) rfl (fun ls hl => ?_)
                  have loop_177 : ∀ (n : Nat) (i : Nat) (s3 : Nat → Int64), (i ≤ 60) → 60 - i < n → ∀ (H : Heap) (locs : List Loc), va_P D vwCl (WM cy mo a (upd f 0 (0 : Int32)) g (va_up (va_up r 29 ((upd (r 29) d.toNatClampNeg what))) 30 ((upd (r 30) d.toNatClampNeg v110))) (va_up q 33 s3)) H → va_S (AM mo a) s.heap H locs → ∀ (ls : Array Slot), lv_has ls 8 [(7, .int (nI i)), (6, .int (1 : Int32)), (0, .ref mo), (1, .int d), (2, .int what), (3, .int k0), (4, .long p0)] → W p l e (headSpec wsX10_keep ({ frames := 3, cells := 0, slots := 0, locals := 69 })).room s m #[Value.ref mo, Value.int d, Value.int what, Value.int k0, Value.long p0] below meth c H locs 0 0 (MQ below (va_Qi (fun r0 u => ∃ (sh : Nat → Int32), ∃ (sz : Nat → Int32), ∃ (sw : Nat → Int32), ∃ (sf : Nat → Int32), ∃ (sr : Nat → Int64), u = ((upd f 0 (0 : Int32)), g, (va_up (va_up (va_up (va_up r 29 sh) 30 sz) 31 sw) 32 sf), (va_up q 33 sr)) ∧ (yesNo (okKeep (f 1) (fun j9 => (r 3 j9).toNatClampNeg) (fun j9 => (r 4 j9).toNatClampNeg) d what k0 p0) 0 (-1) r0 ∧ MI (upd f 0 (0 : Int32)) (va_up (va_up (va_up (va_up r 29 sh) 30 sz) 31 sw) 32 sf))) (mB D cy mo a) (AM mo a)) #[Value.ref mo, Value.int d, Value.int what, Value.int k0, Value.long p0] s 0 0 (AM mo a)) (F0 m 177 ls []) := by
                    intro n
                    induction n with
                    | zero => intro i s3 j177_0 hn; exact absurd hn (Nat.not_lt_zero _)
                    | succ n ih_177 =>
                      intro i s3 j177_0 hn_177 H locs hP hS ls hl
                      have ii : (nI i).toInt = (i : Int) := nI_toInt (by omega)
                      refine lv_iload hx hb dX10_keep_177 (lv_at hl 0 rfl) ?_
                      refine lv_aload_n hx hb dX10_keep_179 rfl (lv_at hl 2 rfl) ?_
                      refine m_get (v := .ref (a 30)) hx hb hts hin hown hK hP 30 (by decide) rfl (hts (.fieldLink RX10 64 "ShadowBenchModel" "shelfSize" "[I") (by decide +kernel)) rfl dX10_keep_180 ?_
                      refine lv_iload_n hx hb dX10_keep_183 rfl (lv_at hl 3 rfl) ?_
                      refine m_iald (w := ((upd (r 30) d.toNatClampNeg v110))) hx hb hK hP 18 rfl (vp_in_iff.mpr ⟨by omega, by omega⟩) dX10_keep_184 ?_
                      refine lv_topi (fun v184 e184 => ?_)
                      have i184 : v184.toInt = (((upd (r 30) d.toNatClampNeg v110)) d.toNatClampNeg).toInt := congrArg Int32.toInt e184
                      have z184 := e184
                      simp only [upd, if_true] at z184
                      have y184 := congrArg Int32.toInt z184
                      refine lv_icmp_ge (tgt := 272) hx hb dX10_keep_185 (by decide) (fun c185 => ?_) (fun c185 => ?_)
                      · skip
                        have d185 := c185
                        rw [fa_le] at d185
                        refine lv_iconst (v := 0) hx hb dX10_keep_272 (by decide) ?_
                        have hP := wm_eq rfl rfl (ec_r_29_30__29_30_31_32 r ((upd (r 29) d.toNatClampNeg what)) ((upd (r 30) d.toNatClampNeg v110))) rfl hP
                        exact W.iret (v := (0 : Int32)) hx hb hr (fun t ht hW => ⟨⟨_, ((upd f 0 (0 : Int32)), g, (va_up (va_up (va_up (va_up r 29 (((upd (r 29) d.toNatClampNeg what)))) 30 (((upd (r 30) d.toNatClampNeg v110)))) 31 (r 31)) 32 (r 32)), (va_up q 33 s3)), rfl, ⟨((upd (r 29) d.toNatClampNeg what)), ((upd (r 30) d.toNatClampNeg v110)), (r 31), (r 32), s3, rfl, ⟨(Or.inl ⟨⟨b9, (by unfold okJob; first | exact Or.inl (by omega) | exact Or.inr (Or.inl ⟨by omega, b31⟩) | (have z9 := goodP_of b64; subst e52; subst e58; exact Or.inr (Or.inr ⟨by omega, b44, z9.2⟩)))⟩, rfl⟩), by first | exact hI | exact mi_sz (d := d) hI (v := v110) (by omega) rfl rfl rfl rfl rfl rfl rfl rfl | exact mi_sz (d := d) hI (v := v131) (by omega) rfl rfl rfl rfl rfl rfl rfl rfl | exact mi_sz (d := d) hI (v := 0) (by decide) rfl rfl rfl rfl rfl rfl rfl rfl⟩⟩, by unfold mB; rw [ht]; exact hP⟩, hS.F ht⟩) hS.2.2 dX10_keep_273
                      · skip
                        have d185 := c185
                        rw [fa_le] at d185
                        refine lv_aload_n hx hb dX10_keep_188 rfl (lv_at hl 2 rfl) ?_
                        refine m_get (v := .ref (a 33)) hx hb hts hin hown hK hP 33 (by decide) rfl (hts (.fieldLink RX10 73 "ShadowBenchModel" "shelfRow" "[J") (by decide +kernel)) rfl dX10_keep_189 ?_
                        refine lv_bipush (v := 60) hx hb dX10_keep_192 (by decide) ?_
                        refine lv_iload_n hx hb dX10_keep_194 rfl (lv_at hl 3 rfl) ?_
                        refine lv_imul hx hb dX10_keep_195 ?_
                        refine lv_topi (fun v195 e195 => ?_)
                        have i195 : v195.toInt = 60 * d.toInt := by rw [e195]; exact mulcL rfl (by omega) (by omega)
                        refine lv_iload hx hb dX10_keep_196 (lv_at hl 0 rfl) ?_
                        refine lv_iadd hx hb dX10_keep_198 ?_
                        refine lv_topi (fun v198 e198 => ?_)
                        have i198 : v198.toInt = v195.toInt + (nI i).toInt := by rw [e198]; exact fb_addI (by omega) (by omega)
                        refine lv_iload_n hx hb dX10_keep_199 rfl (lv_at hl 4 rfl) ?_
                        refine lv_iconst (v := 3) hx hb dX10_keep_200 (by decide) ?_
                        refine lv_icmp_ne (tgt := 215) hx hb dX10_keep_201 (by decide) (fun c201 => ?_) (fun c201 => ?_)
                        · first | exact absurd c201 c95 | exact absurd c95 c201
                        · skip
                          have d201 := c201
                          rw [fa_eq] at d201
                          refine lv_lload hx hb dX10_keep_204 (lv_at hl 6 rfl) ?_
                          refine lv_iload hx hb dX10_keep_206 (lv_at hl 0 rfl) ?_
                          refine m_pu (As := [.long p0, .int (nI i)]) (rest := [.int v198, .ref (a 33)]) ⟨hx, hb, hml, hown, hts⟩ (c_X10_one l p0 (nI i) ) (va_cwS 2 hts gX10_keep_X10_one rfl rfl rfl (by decide +kernel) ⟨Nat.le_of_ble_eq_true rfl, Nat.le_of_ble_eq_true rfl⟩) hP rfl hl.1 rfl (Nat.le_of_ble_eq_true rfl) dX10_keep_208 ⟨Nat.le_of_ble_eq_true rfl, Nat.le_of_ble_eq_true rfl⟩ hS (fun r208 H locs q208 hP hS => ?_)
                          have i208 : r208.toInt = (r_one p0 (nI i)).toInt := congrArg Int32.toInt q208
                          refine lv_i2l (v := r208.toInt64) hx hb dX10_keep_211 rfl ?_
                          refine lv_goto (tgt := 265) hx hb dX10_keep_212 (by decide) ?_
                          refine m_last (w := s3) hx hb hK hP hD hS 21 rfl (vp_in_iff.mpr ⟨by omega, by omega⟩) (va_up (va_up q 33 s3) 33 (vp_updL s3 v198.toNatClampNeg r208.toInt64)) (ms_33 cy mo a _ _ _ _ _) dX10_keep_265 (fun H locs hP hS => ?_)
                          have hP := wm_eq rfl rfl rfl (es_q_33__33 q s3 (vp_updL s3 v198.toNatClampNeg r208.toInt64)) hP
                          refine lv_iinc (v := (nI (i + 1))) (lv' := [(7, .int (nI (i + 1))), (6, .int (1 : Int32)), (0, .ref mo), (1, .int d), (2, .int what), (3, .int k0), (4, .long p0)]) hx hb dX10_keep_266 hl (k := 0) rfl (nI_1 _) (by decide) rfl (fun ls hl => ?_)
                          refine lv_goto (tgt := 177) hx hb dX10_keep_269 (by decide) ?_
                          have hP := wm_eq rfl rfl (ec_r_29_30__29_30 r ((upd (r 29) d.toNatClampNeg what)) ((upd (r 30) d.toNatClampNeg v110))) rfl hP
                          exact ih_177 (i + 1) (vp_updL s3 v198.toNatClampNeg r208.toInt64) (by omega) (by omega) _ _ hP hS ls (lv_sub hl [0, 1, 2, 3, 4, 5, 6] rfl)
                  have hP := wm_eq rfl rfl (ec_r_29_30__29_30 r ((upd (r 29) d.toNatClampNeg what)) ((upd (r 30) d.toNatClampNeg v110))) (ec_q___33 q ) hP
                  exact loop_177 (60 + 1) 0 (q 33) (by omega) (by omega) _ _ hP hS ls (lv_sub hl [0, 1, 2, 3, 4, 5, 6] rfl)
                · skip
                  have d139 := c139
                  rw [fa_eq] at d139
                  refine lv_aload_n hx hb dX10_keep_142 rfl (lv_at hl 1 rfl) ?_
                  refine m_get (v := .ref (a 31)) hx hb hts hin hown hK hP 31 (by decide) rfl (hts (.fieldLink RX10 67 "ShadowBenchModel" "shelfWeight" "[I") (by decide +kernel)) rfl dX10_keep_143 ?_
                  refine lv_iload_n hx hb dX10_keep_146 rfl (lv_at hl 2 rfl) ?_
                  refine lv_aload_n hx hb dX10_keep_147 rfl (lv_at hl 1 rfl) ?_
                  refine lv_iload_n hx hb dX10_keep_148 rfl (lv_at hl 4 rfl) ?_
                  refine m_calli (As := [.int k0]) (rest := [.int d, .ref (a 31)]) ⟨hx, hb, hml, hown, hts⟩ (c_X10_weightOf l D cy mo a (upd f 0 (0 : Int32)) g (va_up (va_up r 29 ((upd (r 29) d.toNatClampNeg what))) 30 ((upd (r 30) d.toNatClampNeg v110))) q k0 hD (by first | exact hI | exact mi_sz (d := d) hI (v := 0) (by first | omega | decide) rfl rfl rfl rfl rfl rfl rfl rfl | exact mi_sz (d := d) hI (v := v131) (by first | omega | decide) rfl rfl rfl rfl rfl rfl rfl rfl | exact mi_sz (d := d) hI (v := v110) (by first | omega | decide) rfl rfl rfl rfl rfl rfl rfl rfl) (show 0 ≤ k0.toInt ∧ k0.toInt < (f 1).toInt by omega)) (cwV 1 hts gX10_keep_X10_weightOf rfl rfl rfl (by decide +kernel) ⟨Nat.le_of_ble_eq_true rfl, Nat.le_of_ble_eq_true rfl⟩) hK hP rfl hl.1 rfl (Nat.le_of_ble_eq_true rfl) dX10_keep_149 ⟨Nat.le_of_ble_eq_true rfl, Nat.le_of_ble_eq_true rfl⟩ hS (fun r149 u H locs q149 hP hS => ?_)
                  obtain ⟨rfl, q149⟩ := q149
                  have hP : va_P D vwCl (WM cy mo a (upd f 0 (0 : Int32)) g (va_up (va_up r 29 ((upd (r 29) d.toNatClampNeg what))) 30 ((upd (r 30) d.toNatClampNeg v110))) q) H := hP
                  have q149 : True := q149
                  refine m_iast (w := (r 31)) hx hb hK hP hD hS 19 rfl (vp_in_iff.mpr ⟨by omega, by omega⟩) (va_up (va_up (va_up r 29 ((upd (r 29) d.toNatClampNeg what))) 30 ((upd (r 30) d.toNatClampNeg v110))) 31 (upd (r 31) d.toNatClampNeg r149)) (ms_31 cy mo a _ _ _ _ _) dX10_keep_152 (fun H locs hP hS => ?_)
                  refine lv_aload_n hx hb dX10_keep_153 rfl (lv_at hl 1 rfl) ?_
                  refine m_get (v := .ref (a 32)) hx hb hts hin hown hK hP 32 (by decide) rfl (hts (.fieldLink RX10 70 "ShadowBenchModel" "shelfFailure" "[I") (by decide +kernel)) rfl dX10_keep_154 ?_
                  refine lv_iload_n hx hb dX10_keep_157 rfl (lv_at hl 2 rfl) ?_
                  refine lv_aload_n hx hb dX10_keep_158 rfl (lv_at hl 1 rfl) ?_
                  refine m_get (v := .ref (a 2)) hx hb hts hin hown hK hP 2 (by decide) rfl (hts (.fieldLink RX10 7 "ShadowBenchModel" "kind" "[I") (by decide +kernel)) rfl dX10_keep_159 ?_
                  refine lv_iload_n hx hb dX10_keep_162 rfl (lv_at hl 4 rfl) ?_
                  refine m_iald (w := (r 2)) hx hb hK hP 1 rfl (vp_in_iff.mpr ⟨by omega, by omega⟩) dX10_keep_163 ?_
                  refine lv_topi (fun v163 e163 => ?_)
                  have i163 : v163.toInt = ((r 2) k0.toNatClampNeg).toInt := congrArg Int32.toInt e163
                  refine lv_if_ne (tgt := 172) hx hb dX10_keep_164 (by decide) (fun c164 => ?_) (fun c164 => ?_)
                  · skip
                    have d164 := c164
                    rw [fa_eq] at d164
                    refine lv_iload_n hx hb dX10_keep_172 rfl (lv_at hl 4 rfl) ?_
                    refine m_iast (w := (r 32)) hx hb hK hP hD hS 20 rfl (vp_in_iff.mpr ⟨by omega, by omega⟩) (va_up (va_up (va_up (va_up r 29 ((upd (r 29) d.toNatClampNeg what))) 30 ((upd (r 30) d.toNatClampNeg v110))) 31 ((upd (r 31) d.toNatClampNeg r149))) 32 (upd (r 32) d.toNatClampNeg k0)) (ms_32 cy mo a _ _ _ _ _) dX10_keep_173 (fun H locs hP hS => ?_)
                    refine lv_iconst (v := 0) hx hb dX10_keep_174 (by decide) ?_
                    refine lv_istore (lv' := [(7, .int (0 : Int32)), (6, .int (1 : Int32)), (0, .ref mo), (1, .int d), (2, .int what), (3, .int k0), (4, .long p0)]) hx hb dX10_keep_175 hl (by decide) rfl (fun ls hl => ?_)
                    have loop_177 : ∀ (n : Nat) (i : Nat) (s3 : Nat → Int64), (i ≤ 60) → 60 - i < n → ∀ (H : Heap) (locs : List Loc), va_P D vwCl (WM cy mo a (upd f 0 (0 : Int32)) g (va_up (va_up (va_up (va_up r 29 ((upd (r 29) d.toNatClampNeg what))) 30 ((upd (r 30) d.toNatClampNeg v110))) 31 ((upd (r 31) d.toNatClampNeg r149))) 32 ((upd (r 32) d.toNatClampNeg k0))) (va_up q 33 s3)) H → va_S (AM mo a) s.heap H locs → ∀ (ls : Array Slot), lv_has ls 8 [(7, .int (nI i)), (6, .int (1 : Int32)), (0, .ref mo), (1, .int d), (2, .int what), (3, .int k0), (4, .long p0)] → W p l e (headSpec wsX10_keep ({ frames := 3, cells := 0, slots := 0, locals := 69 })).room s m #[Value.ref mo, Value.int d, Value.int what, Value.int k0, Value.long p0] below meth c H locs 0 0 (MQ below (va_Qi (fun r0 u => ∃ (sh : Nat → Int32), ∃ (sz : Nat → Int32), ∃ (sw : Nat → Int32), ∃ (sf : Nat → Int32), ∃ (sr : Nat → Int64), u = ((upd f 0 (0 : Int32)), g, (va_up (va_up (va_up (va_up r 29 sh) 30 sz) 31 sw) 32 sf), (va_up q 33 sr)) ∧ (yesNo (okKeep (f 1) (fun j9 => (r 3 j9).toNatClampNeg) (fun j9 => (r 4 j9).toNatClampNeg) d what k0 p0) 0 (-1) r0 ∧ MI (upd f 0 (0 : Int32)) (va_up (va_up (va_up (va_up r 29 sh) 30 sz) 31 sw) 32 sf))) (mB D cy mo a) (AM mo a)) #[Value.ref mo, Value.int d, Value.int what, Value.int k0, Value.long p0] s 0 0 (AM mo a)) (F0 m 177 ls []) := by
                      intro n
                      induction n with
                      | zero => intro i s3 j177_0 hn; exact absurd hn (Nat.not_lt_zero _)
                      | succ n ih_177 =>
                        intro i s3 j177_0 hn_177 H locs hP hS ls hl
                        have ii : (nI i).toInt = (i : Int) := nI_toInt (by omega)
                        refine lv_iload hx hb dX10_keep_177 (lv_at hl 0 rfl) ?_
                        refine lv_aload_n hx hb dX10_keep_179 rfl (lv_at hl 2 rfl) ?_
                        refine m_get (v := .ref (a 30)) hx hb hts hin hown hK hP 30 (by decide) rfl (hts (.fieldLink RX10 64 "ShadowBenchModel" "shelfSize" "[I") (by decide +kernel)) rfl dX10_keep_180 ?_
                        refine lv_iload_n hx hb dX10_keep_183 rfl (lv_at hl 3 rfl) ?_
                        refine m_iald (w := ((upd (r 30) d.toNatClampNeg v110))) hx hb hK hP 18 rfl (vp_in_iff.mpr ⟨by omega, by omega⟩) dX10_keep_184 ?_
                        refine lv_topi (fun v184 e184 => ?_)
                        have i184 : v184.toInt = (((upd (r 30) d.toNatClampNeg v110)) d.toNatClampNeg).toInt := congrArg Int32.toInt e184
                        have z184 := e184
                        simp only [upd, if_true] at z184
                        have y184 := congrArg Int32.toInt z184
                        refine lv_icmp_ge (tgt := 272) hx hb dX10_keep_185 (by decide) (fun c185 => ?_) (fun c185 => ?_)
                        · skip
                          have d185 := c185
                          rw [fa_le] at d185
                          refine lv_iconst (v := 0) hx hb dX10_keep_272 (by decide) ?_
                          have hP := wm_eq rfl rfl (ec_r_29_30_31_32__29_30_31_32 r ((upd (r 29) d.toNatClampNeg what)) ((upd (r 30) d.toNatClampNeg v110)) ((upd (r 31) d.toNatClampNeg r149)) ((upd (r 32) d.toNatClampNeg k0))) rfl hP
                          exact W.iret (v := (0 : Int32)) hx hb hr (fun t ht hW => ⟨⟨_, ((upd f 0 (0 : Int32)), g, (va_up (va_up (va_up (va_up r 29 (((upd (r 29) d.toNatClampNeg what)))) 30 (((upd (r 30) d.toNatClampNeg v110)))) 31 (((upd (r 31) d.toNatClampNeg r149)))) 32 (((upd (r 32) d.toNatClampNeg k0)))), (va_up q 33 s3)), rfl, ⟨((upd (r 29) d.toNatClampNeg what)), ((upd (r 30) d.toNatClampNeg v110)), ((upd (r 31) d.toNatClampNeg r149)), ((upd (r 32) d.toNatClampNeg k0)), s3, rfl, ⟨(Or.inl ⟨⟨b9, (by unfold okJob; first | exact Or.inl (by omega) | exact Or.inr (Or.inl ⟨by omega, b31⟩) | (have z9 := goodP_of b64; subst e52; subst e58; exact Or.inr (Or.inr ⟨by omega, b44, z9.2⟩)))⟩, rfl⟩), by first | exact hI | exact mi_sz (d := d) hI (v := v110) (by omega) rfl rfl rfl rfl rfl rfl rfl rfl | exact mi_sz (d := d) hI (v := v131) (by omega) rfl rfl rfl rfl rfl rfl rfl rfl | exact mi_sz (d := d) hI (v := 0) (by decide) rfl rfl rfl rfl rfl rfl rfl rfl⟩⟩, by unfold mB; rw [ht]; exact hP⟩, hS.F ht⟩) hS.2.2 dX10_keep_273
                        · skip
                          have d185 := c185
                          rw [fa_le] at d185
                          refine lv_aload_n hx hb dX10_keep_188 rfl (lv_at hl 2 rfl) ?_
                          refine m_get (v := .ref (a 33)) hx hb hts hin hown hK hP 33 (by decide) rfl (hts (.fieldLink RX10 73 "ShadowBenchModel" "shelfRow" "[J") (by decide +kernel)) rfl dX10_keep_189 ?_
                          refine lv_bipush (v := 60) hx hb dX10_keep_192 (by decide) ?_
                          refine lv_iload_n hx hb dX10_keep_194 rfl (lv_at hl 3 rfl) ?_
                          refine lv_imul hx hb dX10_keep_195 ?_
                          refine lv_topi (fun v195 e195 => ?_)
                          have i195 : v195.toInt = 60 * d.toInt := by rw [e195]; exact mulcL rfl (by omega) (by omega)
                          refine lv_iload hx hb dX10_keep_196 (lv_at hl 0 rfl) ?_
                          refine lv_iadd hx hb dX10_keep_198 ?_
                          refine lv_topi (fun v198 e198 => ?_)
                          have i198 : v198.toInt = v195.toInt + (nI i).toInt := by rw [e198]; exact fb_addI (by omega) (by omega)
                          refine lv_iload_n hx hb dX10_keep_199 rfl (lv_at hl 4 rfl) ?_
                          refine lv_iconst (v := 3) hx hb dX10_keep_200 (by decide) ?_
                          refine lv_icmp_ne (tgt := 215) hx hb dX10_keep_201 (by decide) (fun c201 => ?_) (fun c201 => ?_)
                          · first | exact absurd c201 c95 | exact absurd c95 c201
                          · skip
                            have d201 := c201
                            rw [fa_eq] at d201
                            refine lv_lload hx hb dX10_keep_204 (lv_at hl 6 rfl) ?_
                            refine lv_iload hx hb dX10_keep_206 (lv_at hl 0 rfl) ?_
                            refine m_pu (As := [.long p0, .int (nI i)]) (rest := [.int v198, .ref (a 33)]) ⟨hx, hb, hml, hown, hts⟩ (c_X10_one l p0 (nI i) ) (va_cwS 2 hts gX10_keep_X10_one rfl rfl rfl (by decide +kernel) ⟨Nat.le_of_ble_eq_true rfl, Nat.le_of_ble_eq_true rfl⟩) hP rfl hl.1 rfl (Nat.le_of_ble_eq_true rfl) dX10_keep_208 ⟨Nat.le_of_ble_eq_true rfl, Nat.le_of_ble_eq_true rfl⟩ hS (fun r208 H locs q208 hP hS => ?_)
                            have i208 : r208.toInt = (r_one p0 (nI i)).toInt := congrArg Int32.toInt q208
                            refine lv_i2l (v := r208.toInt64) hx hb dX10_keep_211 rfl ?_
                            refine lv_goto (tgt := 265) hx hb dX10_keep_212 (by decide) ?_
                            refine m_last (w := s3) hx hb hK hP hD hS 21 rfl (vp_in_iff.mpr ⟨by omega, by omega⟩) (va_up (va_up q 33 s3) 33 (vp_updL s3 v198.toNatClampNeg r208.toInt64)) (ms_33 cy mo a _ _ _ _ _) dX10_keep_265 (fun H locs hP hS => ?_)
                            have hP := wm_eq rfl rfl rfl (es_q_33__33 q s3 (vp_updL s3 v198.toNatClampNeg r208.toInt64)) hP
                            refine lv_iinc (v := (nI (i + 1))) (lv' := [(7, .int (nI (i + 1))), (6, .int (1 : Int32)), (0, .ref mo), (1, .int d), (2, .int what), (3, .int k0), (4, .long p0)]) hx hb dX10_keep_266 hl (k := 0) rfl (nI_1 _) (by decide) rfl (fun ls hl => ?_)
                            refine lv_goto (tgt := 177) hx hb dX10_keep_269 (by decide) ?_
                            have hP := wm_eq rfl rfl (ec_r_29_30_31_32__29_30_31_32 r ((upd (r 29) d.toNatClampNeg what)) ((upd (r 30) d.toNatClampNeg v110)) ((upd (r 31) d.toNatClampNeg r149)) ((upd (r 32) d.toNatClampNeg k0))) rfl hP
                            exact ih_177 (i + 1) (vp_updL s3 v198.toNatClampNeg r208.toInt64) (by omega) (by omega) _ _ hP hS ls (lv_sub hl [0, 1, 2, 3, 4, 5, 6] rfl)
                    have hP := wm_eq rfl rfl (ec_r_29_30_31_32__29_30_31_32 r ((upd (r 29) d.toNatClampNeg what)) ((upd (r 30) d.toNatClampNeg v110)) ((upd (r 31) d.toNatClampNeg r149)) ((upd (r 32) d.toNatClampNeg k0))) (ec_q___33 q ) hP
                    exact loop_177 (60 + 1) 0 (q 33) (by omega) (by omega) _ _ hP hS ls (lv_sub hl [0, 1, 2, 3, 4, 5, 6] rfl)
                  · skip
                    have d164 := c164
                    rw [fa_eq] at d164
                    refine lv_bipush (v := (-15)) hx hb dX10_keep_167 (by decide) ?_
                    refine lv_goto (tgt := 173) hx hb dX10_keep_169 (by decide) ?_
                    refine m_iast (w := (r 32)) hx hb hK hP hD hS 20 rfl (vp_in_iff.mpr ⟨by omega, by omega⟩) (va_up (va_up (va_up (va_up r 29 ((upd (r 29) d.toNatClampNeg what))) 30 ((upd (r 30) d.toNatClampNeg v110))) 31 ((upd (r 31) d.toNatClampNeg r149))) 32 (upd (r 32) d.toNatClampNeg (((-15) : Int32)))) (ms_32 cy mo a _ _ _ _ _) dX10_keep_173 (fun H locs hP hS => ?_)
                    refine lv_iconst (v := 0) hx hb dX10_keep_174 (by decide) ?_
                    refine lv_istore (lv' := [(7, .int (0 : Int32)), (6, .int (1 : Int32)), (0, .ref mo), (1, .int d), (2, .int what), (3, .int k0), (4, .long p0)]) hx hb dX10_keep_175 hl (by decide) rfl (fun ls hl => ?_)
                    have loop_177 : ∀ (n : Nat) (i : Nat) (s3 : Nat → Int64), (i ≤ 60) → 60 - i < n → ∀ (H : Heap) (locs : List Loc), va_P D vwCl (WM cy mo a (upd f 0 (0 : Int32)) g (va_up (va_up (va_up (va_up r 29 ((upd (r 29) d.toNatClampNeg what))) 30 ((upd (r 30) d.toNatClampNeg v110))) 31 ((upd (r 31) d.toNatClampNeg r149))) 32 ((upd (r 32) d.toNatClampNeg (((-15) : Int32))))) (va_up q 33 s3)) H → va_S (AM mo a) s.heap H locs → ∀ (ls : Array Slot), lv_has ls 8 [(7, .int (nI i)), (6, .int (1 : Int32)), (0, .ref mo), (1, .int d), (2, .int what), (3, .int k0), (4, .long p0)] → W p l e (headSpec wsX10_keep ({ frames := 3, cells := 0, slots := 0, locals := 69 })).room s m #[Value.ref mo, Value.int d, Value.int what, Value.int k0, Value.long p0] below meth c H locs 0 0 (MQ below (va_Qi (fun r0 u => ∃ (sh : Nat → Int32), ∃ (sz : Nat → Int32), ∃ (sw : Nat → Int32), ∃ (sf : Nat → Int32), ∃ (sr : Nat → Int64), u = ((upd f 0 (0 : Int32)), g, (va_up (va_up (va_up (va_up r 29 sh) 30 sz) 31 sw) 32 sf), (va_up q 33 sr)) ∧ (yesNo (okKeep (f 1) (fun j9 => (r 3 j9).toNatClampNeg) (fun j9 => (r 4 j9).toNatClampNeg) d what k0 p0) 0 (-1) r0 ∧ MI (upd f 0 (0 : Int32)) (va_up (va_up (va_up (va_up r 29 sh) 30 sz) 31 sw) 32 sf))) (mB D cy mo a) (AM mo a)) #[Value.ref mo, Value.int d, Value.int what, Value.int k0, Value.long p0] s 0 0 (AM mo a)) (F0 m 177 ls []) := by
                      intro n
                      induction n with
                      | zero => intro i s3 j177_0 hn; exact absurd hn (Nat.not_lt_zero _)
                      | succ n ih_177 =>
                        intro i s3 j177_0 hn_177 H locs hP hS ls hl
                        have ii : (nI i).toInt = (i : Int) := nI_toInt (by omega)
                        refine lv_iload hx hb dX10_keep_177 (lv_at hl 0 rfl) ?_
                        refine lv_aload_n hx hb dX10_keep_179 rfl (lv_at hl 2 rfl) ?_
                        refine m_get (v := .ref (a 30)) hx hb hts hin hown hK hP 30 (by decide) rfl (hts (.fieldLink RX10 64 "ShadowBenchModel" "shelfSize" "[I") (by decide +kernel)) rfl dX10_keep_180 ?_
                        refine lv_iload_n hx hb dX10_keep_183 rfl (lv_at hl 3 rfl) ?_
                        refine m_iald (w := ((upd (r 30) d.toNatClampNeg v110))) hx hb hK hP 18 rfl (vp_in_iff.mpr ⟨by omega, by omega⟩) dX10_keep_184 ?_
                        refine lv_topi (fun v184 e184 => ?_)
                        have i184 : v184.toInt = (((upd (r 30) d.toNatClampNeg v110)) d.toNatClampNeg).toInt := congrArg Int32.toInt e184
                        have z184 := e184
                        simp only [upd, if_true] at z184
                        have y184 := congrArg Int32.toInt z184
                        refine lv_icmp_ge (tgt := 272) hx hb dX10_keep_185 (by decide) (fun c185 => ?_) (fun c185 => ?_)
                        · skip
                          have d185 := c185
                          rw [fa_le] at d185
                          refine lv_iconst (v := 0) hx hb dX10_keep_272 (by decide) ?_
                          have hP := wm_eq rfl rfl (ec_r_29_30_31_32__29_30_31_32 r ((upd (r 29) d.toNatClampNeg what)) ((upd (r 30) d.toNatClampNeg v110)) ((upd (r 31) d.toNatClampNeg r149)) ((upd (r 32) d.toNatClampNeg (((-15) : Int32))))) rfl hP
                          exact W.iret (v := (0 : Int32)) hx hb hr (fun t ht hW => ⟨⟨_, ((upd f 0 (0 : Int32)), g, (va_up (va_up (va_up (va_up r 29 (((upd (r 29) d.toNatClampNeg what)))) 30 (((upd (r 30) d.toNatClampNeg v110)))) 31 (((upd (r 31) d.toNatClampNeg r149)))) 32 (((upd (r 32) d.toNatClampNeg (((-15) : Int32)))))), (va_up q 33 s3)), rfl, ⟨((upd (r 29) d.toNatClampNeg what)), ((upd (r 30) d.toNatClampNeg v110)), ((upd (r 31) d.toNatClampNeg r149)), ((upd (r 32) d.toNatClampNeg (((-15) : Int32)))), s3, rfl, ⟨(Or.inl ⟨⟨b9, (by unfold okJob; first | exact Or.inl (by omega) | exact Or.inr (Or.inl ⟨by omega, b31⟩) | (have z9 := goodP_of b64; subst e52; subst e58; exact Or.inr (Or.inr ⟨by omega, b44, z9.2⟩)))⟩, rfl⟩), by first | exact hI | exact mi_sz (d := d) hI (v := v110) (by omega) rfl rfl rfl rfl rfl rfl rfl rfl | exact mi_sz (d := d) hI (v := v131) (by omega) rfl rfl rfl rfl rfl rfl rfl rfl | exact mi_sz (d := d) hI (v := 0) (by decide) rfl rfl rfl rfl rfl rfl rfl rfl⟩⟩, by unfold mB; rw [ht]; exact hP⟩, hS.F ht⟩) hS.2.2 dX10_keep_273
                        · skip
                          have d185 := c185
                          rw [fa_le] at d185
                          refine lv_aload_n hx hb dX10_keep_188 rfl (lv_at hl 2 rfl) ?_
                          refine m_get (v := .ref (a 33)) hx hb hts hin hown hK hP 33 (by decide) rfl (hts (.fieldLink RX10 73 "ShadowBenchModel" "shelfRow" "[J") (by decide +kernel)) rfl dX10_keep_189 ?_
                          refine lv_bipush (v := 60) hx hb dX10_keep_192 (by decide) ?_
                          refine lv_iload_n hx hb dX10_keep_194 rfl (lv_at hl 3 rfl) ?_
                          refine lv_imul hx hb dX10_keep_195 ?_
                          refine lv_topi (fun v195 e195 => ?_)
                          have i195 : v195.toInt = 60 * d.toInt := by rw [e195]; exact mulcL rfl (by omega) (by omega)
                          refine lv_iload hx hb dX10_keep_196 (lv_at hl 0 rfl) ?_
                          refine lv_iadd hx hb dX10_keep_198 ?_
                          refine lv_topi (fun v198 e198 => ?_)
                          have i198 : v198.toInt = v195.toInt + (nI i).toInt := by rw [e198]; exact fb_addI (by omega) (by omega)
                          refine lv_iload_n hx hb dX10_keep_199 rfl (lv_at hl 4 rfl) ?_
                          refine lv_iconst (v := 3) hx hb dX10_keep_200 (by decide) ?_
                          refine lv_icmp_ne (tgt := 215) hx hb dX10_keep_201 (by decide) (fun c201 => ?_) (fun c201 => ?_)
                          · first | exact absurd c201 c95 | exact absurd c95 c201
                          · skip
                            have d201 := c201
                            rw [fa_eq] at d201
                            refine lv_lload hx hb dX10_keep_204 (lv_at hl 6 rfl) ?_
                            refine lv_iload hx hb dX10_keep_206 (lv_at hl 0 rfl) ?_
                            refine m_pu (As := [.long p0, .int (nI i)]) (rest := [.int v198, .ref (a 33)]) ⟨hx, hb, hml, hown, hts⟩ (c_X10_one l p0 (nI i) ) (va_cwS 2 hts gX10_keep_X10_one rfl rfl rfl (by decide +kernel) ⟨Nat.le_of_ble_eq_true rfl, Nat.le_of_ble_eq_true rfl⟩) hP rfl hl.1 rfl (Nat.le_of_ble_eq_true rfl) dX10_keep_208 ⟨Nat.le_of_ble_eq_true rfl, Nat.le_of_ble_eq_true rfl⟩ hS (fun r208 H locs q208 hP hS => ?_)
                            have i208 : r208.toInt = (r_one p0 (nI i)).toInt := congrArg Int32.toInt q208
                            refine lv_i2l (v := r208.toInt64) hx hb dX10_keep_211 rfl ?_
                            refine lv_goto (tgt := 265) hx hb dX10_keep_212 (by decide) ?_
                            refine m_last (w := s3) hx hb hK hP hD hS 21 rfl (vp_in_iff.mpr ⟨by omega, by omega⟩) (va_up (va_up q 33 s3) 33 (vp_updL s3 v198.toNatClampNeg r208.toInt64)) (ms_33 cy mo a _ _ _ _ _) dX10_keep_265 (fun H locs hP hS => ?_)
                            have hP := wm_eq rfl rfl rfl (es_q_33__33 q s3 (vp_updL s3 v198.toNatClampNeg r208.toInt64)) hP
                            refine lv_iinc (v := (nI (i + 1))) (lv' := [(7, .int (nI (i + 1))), (6, .int (1 : Int32)), (0, .ref mo), (1, .int d), (2, .int what), (3, .int k0), (4, .long p0)]) hx hb dX10_keep_266 hl (k := 0) rfl (nI_1 _) (by decide) rfl (fun ls hl => ?_)
                            refine lv_goto (tgt := 177) hx hb dX10_keep_269 (by decide) ?_
                            have hP := wm_eq rfl rfl (ec_r_29_30_31_32__29_30_31_32 r ((upd (r 29) d.toNatClampNeg what)) ((upd (r 30) d.toNatClampNeg v110)) ((upd (r 31) d.toNatClampNeg r149)) ((upd (r 32) d.toNatClampNeg (((-15) : Int32))))) rfl hP
                            exact ih_177 (i + 1) (vp_updL s3 v198.toNatClampNeg r208.toInt64) (by omega) (by omega) _ _ hP hS ls (lv_sub hl [0, 1, 2, 3, 4, 5, 6] rfl)
                    have hP := wm_eq rfl rfl (ec_r_29_30_31_32__29_30_31_32 r ((upd (r 29) d.toNatClampNeg what)) ((upd (r 30) d.toNatClampNeg v110)) ((upd (r 31) d.toNatClampNeg r149)) ((upd (r 32) d.toNatClampNeg (((-15) : Int32))))) (ec_q___33 q ) hP
                    exact loop_177 (60 + 1) 0 (q 33) (by omega) (by omega) _ _ hP hS ls (lv_sub hl [0, 1, 2, 3, 4, 5, 6] rfl)
            · first | exact absurd c76 (by decide) | exact absurd (by decide) c76
          · skip
            have b31 := bo_f q28 c31
            refine lv_iload_n hx hb dX10_keep_34 rfl (lv_at hl 2 rfl) ?_
            refine lv_iconst (v := 3) hx hb dX10_keep_35 (by decide) ?_
            refine lv_icmp_ne (tgt := 71) hx hb dX10_keep_36 (by decide) (fun c36 => ?_) (fun c36 => ?_)
            · skip
              have d36 := c36
              rw [fa_eq] at d36
              refine lv_iconst (v := 0) hx hb dX10_keep_71 (by decide) ?_
              refine lv_istore (lv' := [(6, .int (0 : Int32)), (0, .ref mo), (1, .int d), (2, .int what), (3, .int k0), (4, .long p0)]) hx hb dX10_keep_72 hl (by decide) rfl (fun ls hl => ?_)
              refine lv_iload hx hb dX10_keep_74 (lv_at hl 0 rfl) ?_
              refine lv_if_ne (tgt := 81) hx hb dX10_keep_76 (by decide) (fun c76 => ?_) (fun c76 => ?_)
              · first | exact absurd c76 (by decide) | exact absurd (by decide) c76
              · skip
                have d76 := c76
                rw [fa_eq] at d76
                refine lv_iconst (v := (-1)) hx hb dX10_keep_79 (by decide) ?_
                have hP := wm_eq rfl rfl (ec_r___29_30_31_32 r ) (ec_q___33 q ) hP
                exact W.iret (v := ((-1) : Int32)) hx hb hr (fun t ht hW => ⟨⟨_, ((upd f 0 (0 : Int32)), g, (va_up (va_up (va_up (va_up r 29 (r 29)) 30 (r 30)) 31 (r 31)) 32 (r 32)), (va_up q 33 (q 33))), rfl, ⟨(r 29), (r 30), (r 31), (r 32), (q 33), rfl, ⟨(Or.inr ⟨(fun z9 => by unfold okKeep okJob at z9; rcases z9.2 with z8 | ⟨z8, z7⟩ | ⟨z8, z7, z6⟩; (first | exact b9 z9.1 | omega); (first | exact b9 z9.1 | exact b31 z7 | omega); (first | exact b9 z9.1 | exact b44 z7 | (have szw := mi_w hI (x := k0) (by omega) (by omega) rfl; have szh := mi_h hI (x := k0) (by omega) (by omega) rfl; subst e52; subst e58; exact goodP_no b64 ⟨⟨szw, szh⟩, z6⟩) | omega)), rfl⟩), by first | exact hI | exact mi_sz (d := d) hI (v := v110) (by omega) rfl rfl rfl rfl rfl rfl rfl rfl | exact mi_sz (d := d) hI (v := v131) (by omega) rfl rfl rfl rfl rfl rfl rfl rfl | exact mi_sz (d := d) hI (v := 0) (by decide) rfl rfl rfl rfl rfl rfl rfl rfl⟩⟩, by unfold mB; rw [ht]; exact hP⟩, hS.F ht⟩) hS.2.2 dX10_keep_80
            · skip
              have d36 := c36
              rw [fa_eq] at d36
              refine lv_aload_n hx hb dX10_keep_39 rfl (lv_at hl 0 rfl) ?_
              refine lv_iload_n hx hb dX10_keep_40 rfl (lv_at hl 3 rfl) ?_
              refine m_calli (As := [.int k0]) (rest := []) ⟨hx, hb, hml, hown, hts⟩ (c_X10_isJob l D cy mo a (upd f 0 (0 : Int32)) g r q k0 hD) (cwV 1 hts gX10_keep_X10_isJob rfl rfl rfl (by decide +kernel) ⟨Nat.le_of_ble_eq_true rfl, Nat.le_of_ble_eq_true rfl⟩) hK hP rfl hl.1 rfl (Nat.le_of_ble_eq_true rfl) dX10_keep_41 ⟨Nat.le_of_ble_eq_true rfl, Nat.le_of_ble_eq_true rfl⟩ hS (fun r41 u H locs q41 hP hS => ?_)
              obtain ⟨rfl, q41⟩ := q41
              have hP : va_P D vwCl (WM cy mo a (upd f 0 (0 : Int32)) g r q) H := hP
              have q41 : Bo r41 (0 ≤ k0.toInt ∧ k0.toInt < ((f 1)).toInt) := q41
              refine lv_if_eq (tgt := 71) hx hb dX10_keep_44 (by decide) (fun c44 => ?_) (fun c44 => ?_)
              · skip
                have b44 := bo_f q41 c44
                refine lv_iconst (v := 0) hx hb dX10_keep_71 (by decide) ?_
                refine lv_istore (lv' := [(6, .int (0 : Int32)), (0, .ref mo), (1, .int d), (2, .int what), (3, .int k0), (4, .long p0)]) hx hb dX10_keep_72 hl (by decide) rfl (fun ls hl => ?_)
                refine lv_iload hx hb dX10_keep_74 (lv_at hl 0 rfl) ?_
                refine lv_if_ne (tgt := 81) hx hb dX10_keep_76 (by decide) (fun c76 => ?_) (fun c76 => ?_)
                · first | exact absurd c76 (by decide) | exact absurd (by decide) c76
                · skip
                  have d76 := c76
                  rw [fa_eq] at d76
                  refine lv_iconst (v := (-1)) hx hb dX10_keep_79 (by decide) ?_
                  have hP := wm_eq rfl rfl (ec_r___29_30_31_32 r ) (ec_q___33 q ) hP
                  exact W.iret (v := ((-1) : Int32)) hx hb hr (fun t ht hW => ⟨⟨_, ((upd f 0 (0 : Int32)), g, (va_up (va_up (va_up (va_up r 29 (r 29)) 30 (r 30)) 31 (r 31)) 32 (r 32)), (va_up q 33 (q 33))), rfl, ⟨(r 29), (r 30), (r 31), (r 32), (q 33), rfl, ⟨(Or.inr ⟨(fun z9 => by unfold okKeep okJob at z9; rcases z9.2 with z8 | ⟨z8, z7⟩ | ⟨z8, z7, z6⟩; (first | exact b9 z9.1 | omega); (first | exact b9 z9.1 | exact b31 z7 | omega); (first | exact b9 z9.1 | exact b44 z7 | (have szw := mi_w hI (x := k0) (by omega) (by omega) rfl; have szh := mi_h hI (x := k0) (by omega) (by omega) rfl; subst e52; subst e58; exact goodP_no b64 ⟨⟨szw, szh⟩, z6⟩) | omega)), rfl⟩), by first | exact hI | exact mi_sz (d := d) hI (v := v110) (by omega) rfl rfl rfl rfl rfl rfl rfl rfl | exact mi_sz (d := d) hI (v := v131) (by omega) rfl rfl rfl rfl rfl rfl rfl rfl | exact mi_sz (d := d) hI (v := 0) (by decide) rfl rfl rfl rfl rfl rfl rfl rfl⟩⟩, by unfold mB; rw [ht]; exact hP⟩, hS.F ht⟩) hS.2.2 dX10_keep_80
              · skip
                have b44 := bo_t q41 c44
                refine lv_aload_n hx hb dX10_keep_47 rfl (lv_at hl 0 rfl) ?_
                refine m_get (v := .ref (a 3)) hx hb hts hin hown hK hP 3 (by decide) rfl (hts (.fieldLink RX10 13 "ShadowBenchModel" "wide" "[I") (by decide +kernel)) rfl dX10_keep_48 ?_
                refine lv_iload_n hx hb dX10_keep_51 rfl (lv_at hl 3 rfl) ?_
                refine m_iald (w := (r 3)) hx hb hK hP 2 rfl (vp_in_iff.mpr ⟨by omega, by omega⟩) dX10_keep_52 ?_
                refine lv_topi (fun v52 e52 => ?_)
                have i52 : v52.toInt = ((r 3) k0.toNatClampNeg).toInt := congrArg Int32.toInt e52
                have w52 := mi_w hI (x := k0) (by omega) (by omega) e52
                refine lv_aload_n hx hb dX10_keep_53 rfl (lv_at hl 0 rfl) ?_
                refine m_get (v := .ref (a 4)) hx hb hts hin hown hK hP 4 (by decide) rfl (hts (.fieldLink RX10 16 "ShadowBenchModel" "high" "[I") (by decide +kernel)) rfl dX10_keep_54 ?_
                refine lv_iload_n hx hb dX10_keep_57 rfl (lv_at hl 3 rfl) ?_
                refine m_iald (w := (r 4)) hx hb hK hP 3 rfl (vp_in_iff.mpr ⟨by omega, by omega⟩) dX10_keep_58 ?_
                refine lv_topi (fun v58 e58 => ?_)
                have i58 : v58.toInt = ((r 4) k0.toNatClampNeg).toInt := congrArg Int32.toInt e58
                have w58 := mi_h hI (x := k0) (by omega) (by omega) e58
                refine lv_lload hx hb dX10_keep_59 (lv_at hl 4 rfl) ?_
                refine m_pu (As := [.int v52, .int v58, .long p0]) (rest := []) ⟨hx, hb, hml, hown, hts⟩ (c_X10_isPicture l v52 v58 p0 ) (va_cwS 3 hts gX10_keep_X10_isPicture rfl rfl rfl (by decide +kernel) ⟨Nat.le_of_ble_eq_true rfl, Nat.le_of_ble_eq_true rfl⟩) hP rfl hl.1 rfl (Nat.le_of_ble_eq_true rfl) dX10_keep_61 ⟨Nat.le_of_ble_eq_true rfl, Nat.le_of_ble_eq_true rfl⟩ hS (fun r61 H locs q61 hP hS => ?_)
                refine lv_if_eq (tgt := 71) hx hb dX10_keep_64 (by decide) (fun c64 => ?_) (fun c64 => ?_)
                · skip
                  have b64 := bo_f q61 c64
                  refine lv_iconst (v := 0) hx hb dX10_keep_71 (by decide) ?_
                  refine lv_istore (lv' := [(6, .int (0 : Int32)), (0, .ref mo), (1, .int d), (2, .int what), (3, .int k0), (4, .long p0)]) hx hb dX10_keep_72 hl (by decide) rfl (fun ls hl => ?_)
                  refine lv_iload hx hb dX10_keep_74 (lv_at hl 0 rfl) ?_
                  refine lv_if_ne (tgt := 81) hx hb dX10_keep_76 (by decide) (fun c76 => ?_) (fun c76 => ?_)
                  · first | exact absurd c76 (by decide) | exact absurd (by decide) c76
                  · skip
                    have d76 := c76
                    rw [fa_eq] at d76
                    refine lv_iconst (v := (-1)) hx hb dX10_keep_79 (by decide) ?_
                    have hP := wm_eq rfl rfl (ec_r___29_30_31_32 r ) (ec_q___33 q ) hP
                    exact W.iret (v := ((-1) : Int32)) hx hb hr (fun t ht hW => ⟨⟨_, ((upd f 0 (0 : Int32)), g, (va_up (va_up (va_up (va_up r 29 (r 29)) 30 (r 30)) 31 (r 31)) 32 (r 32)), (va_up q 33 (q 33))), rfl, ⟨(r 29), (r 30), (r 31), (r 32), (q 33), rfl, ⟨(Or.inr ⟨(fun z9 => by unfold okKeep okJob at z9; rcases z9.2 with z8 | ⟨z8, z7⟩ | ⟨z8, z7, z6⟩; (first | exact b9 z9.1 | omega); (first | exact b9 z9.1 | exact b31 z7 | omega); (first | exact b9 z9.1 | exact b44 z7 | (have szw := mi_w hI (x := k0) (by omega) (by omega) rfl; have szh := mi_h hI (x := k0) (by omega) (by omega) rfl; subst e52; subst e58; exact goodP_no b64 ⟨⟨szw, szh⟩, z6⟩) | omega)), rfl⟩), by first | exact hI | exact mi_sz (d := d) hI (v := v110) (by omega) rfl rfl rfl rfl rfl rfl rfl rfl | exact mi_sz (d := d) hI (v := v131) (by omega) rfl rfl rfl rfl rfl rfl rfl rfl | exact mi_sz (d := d) hI (v := 0) (by decide) rfl rfl rfl rfl rfl rfl rfl rfl⟩⟩, by unfold mB; rw [ht]; exact hP⟩, hS.F ht⟩) hS.2.2 dX10_keep_80
                · skip
                  have b64 := bo_t q61 c64
                  refine lv_iconst (v := 1) hx hb dX10_keep_67 (by decide) ?_
                  refine lv_goto (tgt := 72) hx hb dX10_keep_68 (by decide) ?_
                  refine lv_istore (lv' := [(6, .int (1 : Int32)), (0, .ref mo), (1, .int d), (2, .int what), (3, .int k0), (4, .long p0)]) hx hb dX10_keep_72 hl (by decide) rfl (fun ls hl => ?_)
                  refine lv_iload hx hb dX10_keep_74 (lv_at hl 0 rfl) ?_
                  refine lv_if_ne (tgt := 81) hx hb dX10_keep_76 (by decide) (fun c76 => ?_) (fun c76 => ?_)
                  · skip
                    have d76 := c76
                    rw [fa_eq] at d76
                    refine lv_aload_n hx hb dX10_keep_81 rfl (lv_at hl 1 rfl) ?_
                    refine m_get (v := .ref (a 29)) hx hb hts hin hown hK hP 29 (by decide) rfl (hts (.fieldLink RX10 61 "ShadowBenchModel" "shelf" "[I") (by decide +kernel)) rfl dX10_keep_82 ?_
                    refine lv_iload_n hx hb dX10_keep_85 rfl (lv_at hl 2 rfl) ?_
                    refine lv_iload_n hx hb dX10_keep_86 rfl (lv_at hl 3 rfl) ?_
                    refine m_iast (w := (r 29)) hx hb hK hP hD hS 17 rfl (vp_in_iff.mpr ⟨by omega, by omega⟩) (va_up r 29 (upd (r 29) d.toNatClampNeg what)) (ms_29 cy mo a _ _ _ _ _) dX10_keep_87 (fun H locs hP hS => ?_)
                    refine lv_aload_n hx hb dX10_keep_88 rfl (lv_at hl 1 rfl) ?_
                    refine m_get (v := .ref (a 30)) hx hb hts hin hown hK hP 30 (by decide) rfl (hts (.fieldLink RX10 64 "ShadowBenchModel" "shelfSize" "[I") (by decide +kernel)) rfl dX10_keep_89 ?_
                    refine lv_iload_n hx hb dX10_keep_92 rfl (lv_at hl 2 rfl) ?_
                    refine lv_iload_n hx hb dX10_keep_93 rfl (lv_at hl 3 rfl) ?_
                    refine lv_iconst (v := 3) hx hb dX10_keep_94 (by decide) ?_
                    refine lv_icmp_ne (tgt := 114) hx hb dX10_keep_95 (by decide) (fun c95 => ?_) (fun c95 => ?_)
                    · first | exact absurd c95 c36 | exact absurd c36 c95
                    · skip
                      have d95 := c95
                      rw [fa_eq] at d95
                      refine lv_aload_n hx hb dX10_keep_98 rfl (lv_at hl 1 rfl) ?_
                      refine m_get (v := .ref (a 3)) hx hb hts hin hown hK hP 3 (by decide) rfl (hts (.fieldLink RX10 13 "ShadowBenchModel" "wide" "[I") (by decide +kernel)) rfl dX10_keep_99 ?_
                      refine lv_iload_n hx hb dX10_keep_102 rfl (lv_at hl 4 rfl) ?_
                      refine m_iald (w := (r 3)) hx hb hK hP 2 rfl (vp_in_iff.mpr ⟨by omega, by omega⟩) dX10_keep_103 ?_
                      refine lv_topi (fun v103 e103 => ?_)
                      have i103 : v103.toInt = ((r 3) k0.toNatClampNeg).toInt := congrArg Int32.toInt e103
                      have w103 := mi_w hI (x := k0) (by omega) (by omega) e103
                      refine lv_aload_n hx hb dX10_keep_104 rfl (lv_at hl 1 rfl) ?_
                      refine m_get (v := .ref (a 4)) hx hb hts hin hown hK hP 4 (by decide) rfl (hts (.fieldLink RX10 16 "ShadowBenchModel" "high" "[I") (by decide +kernel)) rfl dX10_keep_105 ?_
                      refine lv_iload_n hx hb dX10_keep_108 rfl (lv_at hl 4 rfl) ?_
                      refine m_iald (w := (r 4)) hx hb hK hP 3 rfl (vp_in_iff.mpr ⟨by omega, by omega⟩) dX10_keep_109 ?_
                      refine lv_topi (fun v109 e109 => ?_)
                      have i109 : v109.toInt = ((r 4) k0.toNatClampNeg).toInt := congrArg Int32.toInt e109
                      have w109 := mi_h hI (x := k0) (by omega) (by omega) e109
                      have m110 := mul66 w103 w109
                      refine lv_imul hx hb dX10_keep_110 ?_
                      refine lv_topi (fun v110 e110 => ?_)
                      have i110 : v110.toInt = v103.toInt * v109.toInt := by rw [e110]; exact fb_mulI (by omega) (by omega)
                      refine lv_goto (tgt := 136) hx hb dX10_keep_111 (by decide) ?_
                      refine m_iast (w := (r 30)) hx hb hK hP hD hS 18 rfl (vp_in_iff.mpr ⟨by omega, by omega⟩) (va_up (va_up r 29 ((upd (r 29) d.toNatClampNeg what))) 30 (upd (r 30) d.toNatClampNeg v110)) (ms_30 cy mo a _ _ _ _ _) dX10_keep_136 (fun H locs hP hS => ?_)
                      refine lv_iload_n hx hb dX10_keep_137 rfl (lv_at hl 3 rfl) ?_
                      refine lv_iconst (v := 1) hx hb dX10_keep_138 (by decide) ?_
                      refine lv_icmp_ne (tgt := 174) hx hb dX10_keep_139 (by decide) (fun c139 => ?_) (fun c139 => ?_)
                      · skip
                        have d139 := c139
                        rw [fa_eq] at d139
                        refine lv_iconst (v := 0) hx hb dX10_keep_174 (by decide) ?_
                        refine lv_istore (lv' := [(7, .int (0 : Int32)), (6, .int (1 : Int32)), (0, .ref mo), (1, .int d), (2, .int what), (3, .int k0), (4, .long p0)]) hx hb dX10_keep_175 hl (by decide) rfl (fun ls hl => ?_)
                        have loop_177 : ∀ (n : Nat) (i : Nat) (s3 : Nat → Int64), (i ≤ 60) → 60 - i < n → ∀ (H : Heap) (locs : List Loc), va_P D vwCl (WM cy mo a (upd f 0 (0 : Int32)) g (va_up (va_up r 29 ((upd (r 29) d.toNatClampNeg what))) 30 ((upd (r 30) d.toNatClampNeg v110))) (va_up q 33 s3)) H → va_S (AM mo a) s.heap H locs → ∀ (ls : Array Slot), lv_has ls 8 [(7, .int (nI i)), (6, .int (1 : Int32)), (0, .ref mo), (1, .int d), (2, .int what), (3, .int k0), (4, .long p0)] → W p l e (headSpec wsX10_keep ({ frames := 3, cells := 0, slots := 0, locals := 69 })).room s m #[Value.ref mo, Value.int d, Value.int what, Value.int k0, Value.long p0] below meth c H locs 0 0 (MQ below (va_Qi (fun r0 u => ∃ (sh : Nat → Int32), ∃ (sz : Nat → Int32), ∃ (sw : Nat → Int32), ∃ (sf : Nat → Int32), ∃ (sr : Nat → Int64), u = ((upd f 0 (0 : Int32)), g, (va_up (va_up (va_up (va_up r 29 sh) 30 sz) 31 sw) 32 sf), (va_up q 33 sr)) ∧ (yesNo (okKeep (f 1) (fun j9 => (r 3 j9).toNatClampNeg) (fun j9 => (r 4 j9).toNatClampNeg) d what k0 p0) 0 (-1) r0 ∧ MI (upd f 0 (0 : Int32)) (va_up (va_up (va_up (va_up r 29 sh) 30 sz) 31 sw) 32 sf))) (mB D cy mo a) (AM mo a)) #[Value.ref mo, Value.int d, Value.int what, Value.int k0, Value.long p0] s 0 0 (AM mo a)) (F0 m 177 ls []) := by
                          intro n
                          induction n with
                          | zero => intro i s3 j177_0 hn; exact absurd hn (Nat.not_lt_zero _)
                          | succ n ih_177 =>
                            intro i s3 j177_0 hn_177 H locs hP hS ls hl
                            have ii : (nI i).toInt = (i : Int) := nI_toInt (by omega)
                            refine lv_iload hx hb dX10_keep_177 (lv_at hl 0 rfl) ?_
                            refine lv_aload_n hx hb dX10_keep_179 rfl (lv_at hl 2 rfl) ?_
                            refine m_get (v := .ref (a 30)) hx hb hts hin hown hK hP 30 (by decide) rfl (hts (.fieldLink RX10 64 "ShadowBenchModel" "shelfSize" "[I") (by decide +kernel)) rfl dX10_keep_180 ?_
                            refine lv_iload_n hx hb dX10_keep_183 rfl (lv_at hl 3 rfl) ?_
                            refine m_iald (w := ((upd (r 30) d.toNatClampNeg v110))) hx hb hK hP 18 rfl (vp_in_iff.mpr ⟨by omega, by omega⟩) dX10_keep_184 ?_
                            refine lv_topi (fun v184 e184 => ?_)
                            have i184 : v184.toInt = (((upd (r 30) d.toNatClampNeg v110)) d.toNatClampNeg).toInt := congrArg Int32.toInt e184
                            have z184 := e184
                            simp only [upd, if_true] at z184
                            have y184 := congrArg Int32.toInt z184
                            refine lv_icmp_ge (tgt := 272) hx hb dX10_keep_185 (by decide) (fun c185 => ?_) (fun c185 => ?_)
                            · skip
                              have d185 := c185
                              rw [fa_le] at d185
                              refine lv_iconst (v := 0) hx hb dX10_keep_272 (by decide) ?_
                              have hP := wm_eq rfl rfl (ec_r_29_30__29_30_31_32 r ((upd (r 29) d.toNatClampNeg what)) ((upd (r 30) d.toNatClampNeg v110))) rfl hP
                              exact W.iret (v := (0 : Int32)) hx hb hr (fun t ht hW => ⟨⟨_, ((upd f 0 (0 : Int32)), g, (va_up (va_up (va_up (va_up r 29 (((upd (r 29) d.toNatClampNeg what)))) 30 (((upd (r 30) d.toNatClampNeg v110)))) 31 (r 31)) 32 (r 32)), (va_up q 33 s3)), rfl, ⟨((upd (r 29) d.toNatClampNeg what)), ((upd (r 30) d.toNatClampNeg v110)), (r 31), (r 32), s3, rfl, ⟨(Or.inl ⟨⟨b9, (by unfold okJob; first | exact Or.inl (by omega) | exact Or.inr (Or.inl ⟨by omega, b31⟩) | (have z9 := goodP_of b64; subst e52; subst e58; exact Or.inr (Or.inr ⟨by omega, b44, z9.2⟩)))⟩, rfl⟩), by first | exact hI | exact mi_sz (d := d) hI (v := v110) (by omega) rfl rfl rfl rfl rfl rfl rfl rfl | exact mi_sz (d := d) hI (v := v131) (by omega) rfl rfl rfl rfl rfl rfl rfl rfl | exact mi_sz (d := d) hI (v := 0) (by decide) rfl rfl rfl rfl rfl rfl rfl rfl⟩⟩, by unfold mB; rw [ht]; exact hP⟩, hS.F ht⟩) hS.2.2 dX10_keep_273
                            · skip
                              have d185 := c185
                              rw [fa_le] at d185
                              refine lv_aload_n hx hb dX10_keep_188 rfl (lv_at hl 2 rfl) ?_
                              refine m_get (v := .ref (a 33)) hx hb hts hin hown hK hP 33 (by decide) rfl (hts (.fieldLink RX10 73 "ShadowBenchModel" "shelfRow" "[J") (by decide +kernel)) rfl dX10_keep_189 ?_
                              refine lv_bipush (v := 60) hx hb dX10_keep_192 (by decide) ?_
                              refine lv_iload_n hx hb dX10_keep_194 rfl (lv_at hl 3 rfl) ?_
                              refine lv_imul hx hb dX10_keep_195 ?_
                              refine lv_topi (fun v195 e195 => ?_)
                              have i195 : v195.toInt = 60 * d.toInt := by rw [e195]; exact mulcL rfl (by omega) (by omega)
                              refine lv_iload hx hb dX10_keep_196 (lv_at hl 0 rfl) ?_
                              refine lv_iadd hx hb dX10_keep_198 ?_
                              refine lv_topi (fun v198 e198 => ?_)
                              have i198 : v198.toInt = v195.toInt + (nI i).toInt := by rw [e198]; exact fb_addI (by omega) (by omega)
                              refine lv_iload_n hx hb dX10_keep_199 rfl (lv_at hl 4 rfl) ?_
                              refine lv_iconst (v := 3) hx hb dX10_keep_200 (by decide) ?_
                              refine lv_icmp_ne (tgt := 215) hx hb dX10_keep_201 (by decide) (fun c201 => ?_) (fun c201 => ?_)
                              · first | exact absurd c201 c95 | exact absurd c95 c201
                              · skip
                                have d201 := c201
                                rw [fa_eq] at d201
                                refine lv_lload hx hb dX10_keep_204 (lv_at hl 6 rfl) ?_
                                refine lv_iload hx hb dX10_keep_206 (lv_at hl 0 rfl) ?_
                                refine m_pu (As := [.long p0, .int (nI i)]) (rest := [.int v198, .ref (a 33)]) ⟨hx, hb, hml, hown, hts⟩ (c_X10_one l p0 (nI i) ) (va_cwS 2 hts gX10_keep_X10_one rfl rfl rfl (by decide +kernel) ⟨Nat.le_of_ble_eq_true rfl, Nat.le_of_ble_eq_true rfl⟩) hP rfl hl.1 rfl (Nat.le_of_ble_eq_true rfl) dX10_keep_208 ⟨Nat.le_of_ble_eq_true rfl, Nat.le_of_ble_eq_true rfl⟩ hS (fun r208 H locs q208 hP hS => ?_)
                                have i208 : r208.toInt = (r_one p0 (nI i)).toInt := congrArg Int32.toInt q208
                                refine lv_i2l (v := r208.toInt64) hx hb dX10_keep_211 rfl ?_
                                refine lv_goto (tgt := 265) hx hb dX10_keep_212 (by decide) ?_
                                refine m_last (w := s3) hx hb hK hP hD hS 21 rfl (vp_in_iff.mpr ⟨by omega, by omega⟩) (va_up (va_up q 33 s3) 33 (vp_updL s3 v198.toNatClampNeg r208.toInt64)) (ms_33 cy mo a _ _ _ _ _) dX10_keep_265 (fun H locs hP hS => ?_)
                                have hP := wm_eq rfl rfl rfl (es_q_33__33 q s3 (vp_updL s3 v198.toNatClampNeg r208.toInt64)) hP
                                refine lv_iinc (v := (nI (i + 1))) (lv' := [(7, .int (nI (i + 1))), (6, .int (1 : Int32)), (0, .ref mo), (1, .int d), (2, .int what), (3, .int k0), (4, .long p0)]) hx hb dX10_keep_266 hl (k := 0) rfl (nI_1 _) (by decide) rfl (fun ls hl => ?_)
                                refine lv_goto (tgt := 177) hx hb dX10_keep_269 (by decide) ?_
                                have hP := wm_eq rfl rfl (ec_r_29_30__29_30 r ((upd (r 29) d.toNatClampNeg what)) ((upd (r 30) d.toNatClampNeg v110))) rfl hP
                                exact ih_177 (i + 1) (vp_updL s3 v198.toNatClampNeg r208.toInt64) (by omega) (by omega) _ _ hP hS ls (lv_sub hl [0, 1, 2, 3, 4, 5, 6] rfl)
                        have hP := wm_eq rfl rfl (ec_r_29_30__29_30 r ((upd (r 29) d.toNatClampNeg what)) ((upd (r 30) d.toNatClampNeg v110))) (ec_q___33 q ) hP
                        exact loop_177 (60 + 1) 0 (q 33) (by omega) (by omega) _ _ hP hS ls (lv_sub hl [0, 1, 2, 3, 4, 5, 6] rfl)
                      · skip
                        have d139 := c139
                        rw [fa_eq] at d139
                        refine lv_aload_n hx hb dX10_keep_142 rfl (lv_at hl 1 rfl) ?_
                        refine m_get (v := .ref (a 31)) hx hb hts hin hown hK hP 31 (by decide) rfl (hts (.fieldLink RX10 67 "ShadowBenchModel" "shelfWeight" "[I") (by decide +kernel)) rfl dX10_keep_143 ?_
                        refine lv_iload_n hx hb dX10_keep_146 rfl (lv_at hl 2 rfl) ?_
                        refine lv_aload_n hx hb dX10_keep_147 rfl (lv_at hl 1 rfl) ?_
                        refine lv_iload_n hx hb dX10_keep_148 rfl (lv_at hl 4 rfl) ?_
                        refine m_calli (As := [.int k0]) (rest := [.int d, .ref (a 31)]) ⟨hx, hb, hml, hown, hts⟩ (c_X10_weightOf l D cy mo a (upd f 0 (0 : Int32)) g (va_up (va_up r 29 ((upd (r 29) d.toNatClampNeg what))) 30 ((upd (r 30) d.toNatClampNeg v110))) q k0 hD (by first | exact hI | exact mi_sz (d := d) hI (v := 0) (by first | omega | decide) rfl rfl rfl rfl rfl rfl rfl rfl | exact mi_sz (d := d) hI (v := v131) (by first | omega | decide) rfl rfl rfl rfl rfl rfl rfl rfl | exact mi_sz (d := d) hI (v := v110) (by first | omega | decide) rfl rfl rfl rfl rfl rfl rfl rfl) (show 0 ≤ k0.toInt ∧ k0.toInt < (f 1).toInt by omega)) (cwV 1 hts gX10_keep_X10_weightOf rfl rfl rfl (by decide +kernel) ⟨Nat.le_of_ble_eq_true rfl, Nat.le_of_ble_eq_true rfl⟩) hK hP rfl hl.1 rfl (Nat.le_of_ble_eq_true rfl) dX10_keep_149 ⟨Nat.le_of_ble_eq_true rfl, Nat.le_of_ble_eq_true rfl⟩ hS (fun r149 u H locs q149 hP hS => ?_)
                        obtain ⟨rfl, q149⟩ := q149
                        have hP : va_P D vwCl (WM cy mo a (upd f 0 (0 : Int32)) g (va_up (va_up r 29 ((upd (r 29) d.toNatClampNeg what))) 30 ((upd (r 30) d.toNatClampNeg v110))) q) H := hP
                        have q149 : True := q149
                        refine m_iast (w := (r 31)) hx hb hK hP hD hS 19 rfl (vp_in_iff.mpr ⟨by omega, by omega⟩) (va_up (va_up (va_up r 29 ((upd (r 29) d.toNatClampNeg what))) 30 ((upd (r 30) d.toNatClampNeg v110))) 31 (upd (r 31) d.toNatClampNeg r149)) (ms_31 cy mo a _ _ _ _ _) dX10_keep_152 (fun H locs hP hS => ?_)
                        refine lv_aload_n hx hb dX10_keep_153 rfl (lv_at hl 1 rfl) ?_
                        refine m_get (v := .ref (a 32)) hx hb hts hin hown hK hP 32 (by decide) rfl (hts (.fieldLink RX10 70 "ShadowBenchModel" "shelfFailure" "[I") (by decide +kernel)) rfl dX10_keep_154 ?_
                        refine lv_iload_n hx hb dX10_keep_157 rfl (lv_at hl 2 rfl) ?_
                        refine lv_aload_n hx hb dX10_keep_158 rfl (lv_at hl 1 rfl) ?_
                        refine m_get (v := .ref (a 2)) hx hb hts hin hown hK hP 2 (by decide) rfl (hts (.fieldLink RX10 7 "ShadowBenchModel" "kind" "[I") (by decide +kernel)) rfl dX10_keep_159 ?_
                        refine lv_iload_n hx hb dX10_keep_162 rfl (lv_at hl 4 rfl) ?_
                        refine m_iald (w := (r 2)) hx hb hK hP 1 rfl (vp_in_iff.mpr ⟨by omega, by omega⟩) dX10_keep_163 ?_
                        refine lv_topi (fun v163 e163 => ?_)
                        have i163 : v163.toInt = ((r 2) k0.toNatClampNeg).toInt := congrArg Int32.toInt e163
                        refine lv_if_ne (tgt := 172) hx hb dX10_keep_164 (by decide) (fun c164 => ?_) (fun c164 => ?_)
                        · skip
                          have d164 := c164
                          rw [fa_eq] at d164
                          refine lv_iload_n hx hb dX10_keep_172 rfl (lv_at hl 4 rfl) ?_
                          refine m_iast (w := (r 32)) hx hb hK hP hD hS 20 rfl (vp_in_iff.mpr ⟨by omega, by omega⟩) (va_up (va_up (va_up (va_up r 29 ((upd (r 29) d.toNatClampNeg what))) 30 ((upd (r 30) d.toNatClampNeg v110))) 31 ((upd (r 31) d.toNatClampNeg r149))) 32 (upd (r 32) d.toNatClampNeg k0)) (ms_32 cy mo a _ _ _ _ _) dX10_keep_173 (fun H locs hP hS => ?_)
                          refine lv_iconst (v := 0) hx hb dX10_keep_174 (by decide) ?_
                          refine lv_istore (lv' := [(7, .int (0 : Int32)), (6, .int (1 : Int32)), (0, .ref mo), (1, .int d), (2, .int what), (3, .int k0), (4, .long p0)]) hx hb dX10_keep_175 hl (by decide) rfl (fun ls hl => ?_)
                          have loop_177 : ∀ (n : Nat) (i : Nat) (s3 : Nat → Int64), (i ≤ 60) → 60 - i < n → ∀ (H : Heap) (locs : List Loc), va_P D vwCl (WM cy mo a (upd f 0 (0 : Int32)) g (va_up (va_up (va_up (va_up r 29 ((upd (r 29) d.toNatClampNeg what))) 30 ((upd (r 30) d.toNatClampNeg v110))) 31 ((upd (r 31) d.toNatClampNeg r149))) 32 ((upd (r 32) d.toNatClampNeg k0))) (va_up q 33 s3)) H → va_S (AM mo a) s.heap H locs → ∀ (ls : Array Slot), lv_has ls 8 [(7, .int (nI i)), (6, .int (1 : Int32)), (0, .ref mo), (1, .int d), (2, .int what), (3, .int k0), (4, .long p0)] → W p l e (headSpec wsX10_keep ({ frames := 3, cells := 0, slots := 0, locals := 69 })).room s m #[Value.ref mo, Value.int d, Value.int what, Value.int k0, Value.long p0] below meth c H locs 0 0 (MQ below (va_Qi (fun r0 u => ∃ (sh : Nat → Int32), ∃ (sz : Nat → Int32), ∃ (sw : Nat → Int32), ∃ (sf : Nat → Int32), ∃ (sr : Nat → Int64), u = ((upd f 0 (0 : Int32)), g, (va_up (va_up (va_up (va_up r 29 sh) 30 sz) 31 sw) 32 sf), (va_up q 33 sr)) ∧ (yesNo (okKeep (f 1) (fun j9 => (r 3 j9).toNatClampNeg) (fun j9 => (r 4 j9).toNatClampNeg) d what k0 p0) 0 (-1) r0 ∧ MI (upd f 0 (0 : Int32)) (va_up (va_up (va_up (va_up r 29 sh) 30 sz) 31 sw) 32 sf))) (mB D cy mo a) (AM mo a)) #[Value.ref mo, Value.int d, Value.int what, Value.int k0, Value.long p0] s 0 0 (AM mo a)) (F0 m 177 ls []) := by
                            intro n
                            induction n with
                            | zero => intro i s3 j177_0 hn; exact absurd hn (Nat.not_lt_zero _)
                            | succ n ih_177 =>
                              intro i s3 j177_0 hn_177 H locs hP hS ls hl
                              have ii : (nI i).toInt = (i : Int) := nI_toInt (by omega)
                              refine lv_iload hx hb dX10_keep_177 (lv_at hl 0 rfl) ?_
                              refine lv_aload_n hx hb dX10_keep_179 rfl (lv_at hl 2 rfl) ?_
                              refine m_get (v := .ref (a 30)) hx hb hts hin hown hK hP 30 (by decide) rfl (hts (.fieldLink RX10 64 "ShadowBenchModel" "shelfSize" "[I") (by decide +kernel)) rfl dX10_keep_180 ?_
                              refine lv_iload_n hx hb dX10_keep_183 rfl (lv_at hl 3 rfl) ?_
                              refine m_iald (w := ((upd (r 30) d.toNatClampNeg v110))) hx hb hK hP 18 rfl (vp_in_iff.mpr ⟨by omega, by omega⟩) dX10_keep_184 ?_
                              refine lv_topi (fun v184 e184 => ?_)
                              have i184 : v184.toInt = (((upd (r 30) d.toNatClampNeg v110)) d.toNatClampNeg).toInt := congrArg Int32.toInt e184
                              have z184 := e184
                              simp only [upd, if_true] at z184
                              have y184 := congrArg Int32.toInt z184
                              refine lv_icmp_ge (tgt := 272) hx hb dX10_keep_185 (by decide) (fun c185 => ?_) (fun c185 => ?_)
                              · skip
                                have d185 := c185
                                rw [fa_le] at d185
                                refine lv_iconst (v := 0) hx hb dX10_keep_272 (by decide) ?_
                                have hP := wm_eq rfl rfl (ec_r_29_30_31_32__29_30_31_32 r ((upd (r 29) d.toNatClampNeg what)) ((upd (r 30) d.toNatClampNeg v110)) ((upd (r 31) d.toNatClampNeg r149)) ((upd (r 32) d.toNatClampNeg k0))) rfl hP
                                exact W.iret (v := (0 : Int32)) hx hb hr (fun t ht hW => ⟨⟨_, ((upd f 0 (0 : Int32)), g, (va_up (va_up (va_up (va_up r 29 (((upd (r 29) d.toNatClampNeg what)))) 30 (((upd (r 30) d.toNatClampNeg v110)))) 31 (((upd (r 31) d.toNatClampNeg r149)))) 32 (((upd (r 32) d.toNatClampNeg k0)))), (va_up q 33 s3)), rfl, ⟨((upd (r 29) d.toNatClampNeg what)), ((upd (r 30) d.toNatClampNeg v110)), ((upd (r 31) d.toNatClampNeg r149)), ((upd (r 32) d.toNatClampNeg k0)), s3, rfl, ⟨(Or.inl ⟨⟨b9, (by unfold okJob; first | exact Or.inl (by omega) | exact Or.inr (Or.inl ⟨by omega, b31⟩) | (have z9 := goodP_of b64; subst e52; subst e58; exact Or.inr (Or.inr ⟨by omega, b44, z9.2⟩)))⟩, rfl⟩), by first | exact hI | exact mi_sz (d := d) hI (v := v110) (by omega) rfl rfl rfl rfl rfl rfl rfl rfl | exact mi_sz (d := d) hI (v := v131) (by omega) rfl rfl rfl rfl rfl rfl rfl rfl | exact mi_sz (d := d) hI (v := 0) (by decide) rfl rfl rfl rfl rfl rfl rfl rfl⟩⟩, by unfold mB; rw [ht]; exact hP⟩, hS.F ht⟩) hS.2.2 dX10_keep_273
                              · skip
                                have d185 := c185
                                rw [fa_le] at d185
                                refine lv_aload_n hx hb dX10_keep_188 rfl (lv_at hl 2 rfl) ?_
                                refine m_get (v := .ref (a 33)) hx hb hts hin hown hK hP 33 (by decide) rfl (hts (.fieldLink RX10 73 "ShadowBenchModel" "shelfRow" "[J") (by decide +kernel)) rfl dX10_keep_189 ?_
                                refine lv_bipush (v := 60) hx hb dX10_keep_192 (by decide) ?_
                                refine lv_iload_n hx hb dX10_keep_194 rfl (lv_at hl 3 rfl) ?_
                                refine lv_imul hx hb dX10_keep_195 ?_
                                refine lv_topi (fun v195 e195 => ?_)
                                have i195 : v195.toInt = 60 * d.toInt := by rw [e195]; exact mulcL rfl (by omega) (by omega)
                                refine lv_iload hx hb dX10_keep_196 (lv_at hl 0 rfl) ?_
                                refine lv_iadd hx hb dX10_keep_198 ?_
                                refine lv_topi (fun v198 e198 => ?_)
                                have i198 : v198.toInt = v195.toInt + (nI i).toInt := by rw [e198]; exact fb_addI (by omega) (by omega)
                                refine lv_iload_n hx hb dX10_keep_199 rfl (lv_at hl 4 rfl) ?_
                                refine lv_iconst (v := 3) hx hb dX10_keep_200 (by decide) ?_
                                refine lv_icmp_ne (tgt := 215) hx hb dX10_keep_201 (by decide) (fun c201 => ?_) (fun c201 => ?_)
                                · first | exact absurd c201 c95 | exact absurd c95 c201
                                · skip
                                  have d201 := c201
                                  rw [fa_eq] at d201
                                  refine lv_lload hx hb dX10_keep_204 (lv_at hl 6 rfl) ?_
                                  refine lv_iload hx hb dX10_keep_206 (lv_at hl 0 rfl) ?_
                                  refine m_pu (As := [.long p0, .int (nI i)]) (rest := [.int v198, .ref (a 33)]) ⟨hx, hb, hml, hown, hts⟩ (c_X10_one l p0 (nI i) ) (va_cwS 2 hts gX10_keep_X10_one rfl rfl rfl (by decide +kernel) ⟨Nat.le_of_ble_eq_true rfl, Nat.le_of_ble_eq_true rfl⟩) hP rfl hl.1 rfl (Nat.le_of_ble_eq_true rfl) dX10_keep_208 ⟨Nat.le_of_ble_eq_true rfl, Nat.le_of_ble_eq_true rfl⟩ hS (fun r208 H locs q208 hP hS => ?_)
                                  have i208 : r208.toInt = (r_one p0 (nI i)).toInt := congrArg Int32.toInt q208
                                  refine lv_i2l (v := r208.toInt64) hx hb dX10_keep_211 rfl ?_
                                  refine lv_goto (tgt := 265) hx hb dX10_keep_212 (by decide) ?_
                                  refine m_last (w := s3) hx hb hK hP hD hS 21 rfl (vp_in_iff.mpr ⟨by omega, by omega⟩) (va_up (va_up q 33 s3) 33 (vp_updL s3 v198.toNatClampNeg r208.toInt64)) (ms_33 cy mo a _ _ _ _ _) dX10_keep_265 (fun H locs hP hS => ?_)
                                  have hP := wm_eq rfl rfl rfl (es_q_33__33 q s3 (vp_updL s3 v198.toNatClampNeg r208.toInt64)) hP
                                  refine lv_iinc (v := (nI (i + 1))) (lv' := [(7, .int (nI (i + 1))), (6, .int (1 : Int32)), (0, .ref mo), (1, .int d), (2, .int what), (3, .int k0), (4, .long p0)]) hx hb dX10_keep_266 hl (k := 0) rfl (nI_1 _) (by decide) rfl (fun ls hl => ?_)
                                  refine lv_goto (tgt := 177) hx hb dX10_keep_269 (by decide) ?_
                                  have hP := wm_eq rfl rfl (ec_r_29_30_31_32__29_30_31_32 r ((upd (r 29) d.toNatClampNeg what)) ((upd (r 30) d.toNatClampNeg v110)) ((upd (r 31) d.toNatClampNeg r149)) ((upd (r 32) d.toNatClampNeg k0))) rfl hP
                                  exact ih_177 (i + 1) (vp_updL s3 v198.toNatClampNeg r208.toInt64) (by omega) (by omega) _ _ hP hS ls (lv_sub hl [0, 1, 2, 3, 4, 5, 6] rfl)
                          have hP := wm_eq rfl rfl (ec_r_29_30_31_32__29_30_31_32 r ((upd (r 29) d.toNatClampNeg what)) ((upd (r 30) d.toNatClampNeg v110)) ((upd (r 31) d.toNatClampNeg r149)) ((upd (r 32) d.toNatClampNeg k0))) (ec_q___33 q ) hP
                          exact loop_177 (60 + 1) 0 (q 33) (by omega) (by omega) _ _ hP hS ls (lv_sub hl [0, 1, 2, 3, 4, 5, 6] rfl)
                        · skip
                          have d164 := c164
                          rw [fa_eq] at d164
                          refine lv_bipush (v := (-15)) hx hb dX10_keep_167 (by decide) ?_
                          refine lv_goto (tgt := 173) hx hb dX10_keep_169 (by decide) ?_
                          refine m_iast (w := (r 32)) hx hb hK hP hD hS 20 rfl (vp_in_iff.mpr ⟨by omega, by omega⟩) (va_up (va_up (va_up (va_up r 29 ((upd (r 29) d.toNatClampNeg what))) 30 ((upd (r 30) d.toNatClampNeg v110))) 31 ((upd (r 31) d.toNatClampNeg r149))) 32 (upd (r 32) d.toNatClampNeg (((-15) : Int32)))) (ms_32 cy mo a _ _ _ _ _) dX10_keep_173 (fun H locs hP hS => ?_)
                          refine lv_iconst (v := 0) hx hb dX10_keep_174 (by decide) ?_
                          refine lv_istore (lv' := [(7, .int (0 : Int32)), (6, .int (1 : Int32)), (0, .ref mo), (1, .int d), (2, .int what), (3, .int k0), (4, .long p0)]) hx hb dX10_keep_175 hl (by decide) rfl (fun ls hl => ?_)
                          have loop_177 : ∀ (n : Nat) (i : Nat) (s3 : Nat → Int64), (i ≤ 60) → 60 - i < n → ∀ (H : Heap) (locs : List Loc), va_P D vwCl (WM cy mo a (upd f 0 (0 : Int32)) g (va_up (va_up (va_up (va_up r 29 ((upd (r 29) d.toNatClampNeg what))) 30 ((upd (r 30) d.toNatClampNeg v110))) 31 ((upd (r 31) d.toNatClampNeg r149))) 32 ((upd (r 32) d.toNatClampNeg (((-15) : Int32))))) (va_up q 33 s3)) H → va_S (AM mo a) s.heap H locs → ∀ (ls : Array Slot), lv_has ls 8 [(7, .int (nI i)), (6, .int (1 : Int32)), (0, .ref mo), (1, .int d), (2, .int what), (3, .int k0), (4, .long p0)] → W p l e (headSpec wsX10_keep ({ frames := 3, cells := 0, slots := 0, locals := 69 })).room s m #[Value.ref mo, Value.int d, Value.int what, Value.int k0, Value.long p0] below meth c H locs 0 0 (MQ below (va_Qi (fun r0 u => ∃ (sh : Nat → Int32), ∃ (sz : Nat → Int32), ∃ (sw : Nat → Int32), ∃ (sf : Nat → Int32), ∃ (sr : Nat → Int64), u = ((upd f 0 (0 : Int32)), g, (va_up (va_up (va_up (va_up r 29 sh) 30 sz) 31 sw) 32 sf), (va_up q 33 sr)) ∧ (yesNo (okKeep (f 1) (fun j9 => (r 3 j9).toNatClampNeg) (fun j9 => (r 4 j9).toNatClampNeg) d what k0 p0) 0 (-1) r0 ∧ MI (upd f 0 (0 : Int32)) (va_up (va_up (va_up (va_up r 29 sh) 30 sz) 31 sw) 32 sf))) (mB D cy mo a) (AM mo a)) #[Value.ref mo, Value.int d, Value.int what, Value.int k0, Value.long p0] s 0 0 (AM mo a)) (F0 m 177 ls []) := by
                            intro n
                            induction n with
                            | zero => intro i s3 j177_0 hn; exact absurd hn (Nat.not_lt_zero _)
                            | succ n ih_177 =>
                              intro i s3 j177_0 hn_177 H locs hP hS ls hl
                              have ii : (nI i).toInt = (i : Int) := nI_toInt (by omega)
                              refine lv_iload hx hb dX10_keep_177 (lv_at hl 0 rfl) ?_
                              refine lv_aload_n hx hb dX10_keep_179 rfl (lv_at hl 2 rfl) ?_
                              refine m_get (v := .ref (a 30)) hx hb hts hin hown hK hP 30 (by decide) rfl (hts (.fieldLink RX10 64 "ShadowBenchModel" "shelfSize" "[I") (by decide +kernel)) rfl dX10_keep_180 ?_
                              refine lv_iload_n hx hb dX10_keep_183 rfl (lv_at hl 3 rfl) ?_
                              refine m_iald (w := ((upd (r 30) d.toNatClampNeg v110))) hx hb hK hP 18 rfl (vp_in_iff.mpr ⟨by omega, by omega⟩) dX10_keep_184 ?_
                              refine lv_topi (fun v184 e184 => ?_)
                              have i184 : v184.toInt = (((upd (r 30) d.toNatClampNeg v110)) d.toNatClampNeg).toInt := congrArg Int32.toInt e184
                              have z184 := e184
                              simp only [upd, if_true] at z184
                              have y184 := congrArg Int32.toInt z184
                              refine lv_icmp_ge (tgt := 272) hx hb dX10_keep_185 (by decide) (fun c185 => ?_) (fun c185 => ?_)
                              · skip
                                have d185 := c185
                                rw [fa_le] at d185
                                refine lv_iconst (v := 0) hx hb dX10_keep_272 (by decide) ?_
                                have hP := wm_eq rfl rfl (ec_r_29_30_31_32__29_30_31_32 r ((upd (r 29) d.toNatClampNeg what)) ((upd (r 30) d.toNatClampNeg v110)) ((upd (r 31) d.toNatClampNeg r149)) ((upd (r 32) d.toNatClampNeg (((-15) : Int32))))) rfl hP
                                exact W.iret (v := (0 : Int32)) hx hb hr (fun t ht hW => ⟨⟨_, ((upd f 0 (0 : Int32)), g, (va_up (va_up (va_up (va_up r 29 (((upd (r 29) d.toNatClampNeg what)))) 30 (((upd (r 30) d.toNatClampNeg v110)))) 31 (((upd (r 31) d.toNatClampNeg r149)))) 32 (((upd (r 32) d.toNatClampNeg (((-15) : Int32)))))), (va_up q 33 s3)), rfl, ⟨((upd (r 29) d.toNatClampNeg what)), ((upd (r 30) d.toNatClampNeg v110)), ((upd (r 31) d.toNatClampNeg r149)), ((upd (r 32) d.toNatClampNeg (((-15) : Int32)))), s3, rfl, ⟨(Or.inl ⟨⟨b9, (by unfold okJob; first | exact Or.inl (by omega) | exact Or.inr (Or.inl ⟨by omega, b31⟩) | (have z9 := goodP_of b64; subst e52; subst e58; exact Or.inr (Or.inr ⟨by omega, b44, z9.2⟩)))⟩, rfl⟩), by first | exact hI | exact mi_sz (d := d) hI (v := v110) (by omega) rfl rfl rfl rfl rfl rfl rfl rfl | exact mi_sz (d := d) hI (v := v131) (by omega) rfl rfl rfl rfl rfl rfl rfl rfl | exact mi_sz (d := d) hI (v := 0) (by decide) rfl rfl rfl rfl rfl rfl rfl rfl⟩⟩, by unfold mB; rw [ht]; exact hP⟩, hS.F ht⟩) hS.2.2 dX10_keep_273
                              · skip
                                have d185 := c185
                                rw [fa_le] at d185
                                refine lv_aload_n hx hb dX10_keep_188 rfl (lv_at hl 2 rfl) ?_
                                refine m_get (v := .ref (a 33)) hx hb hts hin hown hK hP 33 (by decide) rfl (hts (.fieldLink RX10 73 "ShadowBenchModel" "shelfRow" "[J") (by decide +kernel)) rfl dX10_keep_189 ?_
                                refine lv_bipush (v := 60) hx hb dX10_keep_192 (by decide) ?_
                                refine lv_iload_n hx hb dX10_keep_194 rfl (lv_at hl 3 rfl) ?_
                                refine lv_imul hx hb dX10_keep_195 ?_
                                refine lv_topi (fun v195 e195 => ?_)
                                have i195 : v195.toInt = 60 * d.toInt := by rw [e195]; exact mulcL rfl (by omega) (by omega)
                                refine lv_iload hx hb dX10_keep_196 (lv_at hl 0 rfl) ?_
                                refine lv_iadd hx hb dX10_keep_198 ?_
                                refine lv_topi (fun v198 e198 => ?_)
                                have i198 : v198.toInt = v195.toInt + (nI i).toInt := by rw [e198]; exact fb_addI (by omega) (by omega)
                                refine lv_iload_n hx hb dX10_keep_199 rfl (lv_at hl 4 rfl) ?_
                                refine lv_iconst (v := 3) hx hb dX10_keep_200 (by decide) ?_
                                refine lv_icmp_ne (tgt := 215) hx hb dX10_keep_201 (by decide) (fun c201 => ?_) (fun c201 => ?_)
                                · first | exact absurd c201 c95 | exact absurd c95 c201
                                · skip
                                  have d201 := c201
                                  rw [fa_eq] at d201
                                  refine lv_lload hx hb dX10_keep_204 (lv_at hl 6 rfl) ?_
                                  refine lv_iload hx hb dX10_keep_206 (lv_at hl 0 rfl) ?_
                                  refine m_pu (As := [.long p0, .int (nI i)]) (rest := [.int v198, .ref (a 33)]) ⟨hx, hb, hml, hown, hts⟩ (c_X10_one l p0 (nI i) ) (va_cwS 2 hts gX10_keep_X10_one rfl rfl rfl (by decide +kernel) ⟨Nat.le_of_ble_eq_true rfl, Nat.le_of_ble_eq_true rfl⟩) hP rfl hl.1 rfl (Nat.le_of_ble_eq_true rfl) dX10_keep_208 ⟨Nat.le_of_ble_eq_true rfl, Nat.le_of_ble_eq_true rfl⟩ hS (fun r208 H locs q208 hP hS => ?_)
                                  have i208 : r208.toInt = (r_one p0 (nI i)).toInt := congrArg Int32.toInt q208
                                  refine lv_i2l (v := r208.toInt64) hx hb dX10_keep_211 rfl ?_
                                  refine lv_goto (tgt := 265) hx hb dX10_keep_212 (by decide) ?_
                                  refine m_last (w := s3) hx hb hK hP hD hS 21 rfl (vp_in_iff.mpr ⟨by omega, by omega⟩) (va_up (va_up q 33 s3) 33 (vp_updL s3 v198.toNatClampNeg r208.toInt64)) (ms_33 cy mo a _ _ _ _ _) dX10_keep_265 (fun H locs hP hS => ?_)
                                  have hP := wm_eq rfl rfl rfl (es_q_33__33 q s3 (vp_updL s3 v198.toNatClampNeg r208.toInt64)) hP
                                  refine lv_iinc (v := (nI (i + 1))) (lv' := [(7, .int (nI (i + 1))), (6, .int (1 : Int32)), (0, .ref mo), (1, .int d), (2, .int what), (3, .int k0), (4, .long p0)]) hx hb dX10_keep_266 hl (k := 0) rfl (nI_1 _) (by decide) rfl (fun ls hl => ?_)
                                  refine lv_goto (tgt := 177) hx hb dX10_keep_269 (by decide) ?_
                                  have hP := wm_eq rfl rfl (ec_r_29_30_31_32__29_30_31_32 r ((upd (r 29) d.toNatClampNeg what)) ((upd (r 30) d.toNatClampNeg v110)) ((upd (r 31) d.toNatClampNeg r149)) ((upd (r 32) d.toNatClampNeg (((-15) : Int32))))) rfl hP
                                  exact ih_177 (i + 1) (vp_updL s3 v198.toNatClampNeg r208.toInt64) (by omega) (by omega) _ _ hP hS ls (lv_sub hl [0, 1, 2, 3, 4, 5, 6] rfl)
                          have hP := wm_eq rfl rfl (ec_r_29_30_31_32__29_30_31_32 r ((upd (r 29) d.toNatClampNeg what)) ((upd (r 30) d.toNatClampNeg v110)) ((upd (r 31) d.toNatClampNeg r149)) ((upd (r 32) d.toNatClampNeg (((-15) : Int32))))) (ec_q___33 q ) hP
                          exact loop_177 (60 + 1) 0 (q 33) (by omega) (by omega) _ _ hP hS ls (lv_sub hl [0, 1, 2, 3, 4, 5, 6] rfl)
                  · first | exact absurd c76 (by decide) | exact absurd (by decide) c76
/-- the class's jobs are the reference's jobs -/
def Rl (cy : Nat → ClassId) (xo : Nat) (G : cG) (W : va_W) (f : Nat → Int32) (r : Nat → Nat → Int32) : Prop := ∃ (bs js sh wk ll : Nat) (lc : Int32) (mo lb : Option Nat) (fa : Nat → Option Nat), cIn W xo (.inr (8, [.ref bs, .ref js, .int (f 1), .ref sh, .ref wk, va_rf mo, .ref ll, .int lc, va_rf lb])) ∧ cIn W js (.inl (cy 4, cqa 8 fa)) ∧ jobsAre G fa (f 1) (fun j9 => (r 3 j9).toNatClampNeg) (fun j9 => (r 4 j9).toNatClampNeg)
theorem jobsAre.up {G G1 : cG} {fa : Nat → Option Nat} {jc : Int32} {Wd Ht : Nat → Nat} (h : jobsAre G fa jc Wd Ht) (hE : cE G G1) : jobsAre G1 fa jc Wd Ht := fun j hj => by
  obtain ⟨h1, x, k, h2, h3⟩ := h j hj
  exact ⟨h1, x, k, h2, hE _ _ h3⟩
theorem Rl.at {cy : Nat → ClassId} {A : Nat → Prop} {xo : Nat} {G : cG} {W : va_W} {f : Nat → Int32} {r : Nat → Nat → Int32} (h : Rl cy xo G W f r) (hD : va_D A W) {bs js sh wk ll : Nat} {jc lc : Int32} {mo lb : Option Nat} (hM : cIn W xo (.inr (8, [.ref bs, .ref js, .int jc, .ref sh, .ref wk, va_rf mo, .ref ll, .int lc, va_rf lb]))) : jc = f 1 ∧ ∃ fa, cIn W js (.inl (cy 4, cqa 8 fa)) ∧ jobsAre G fa jc (fun j9 => (r 3 j9).toNatClampNeg) (fun j9 => (r 4 j9).toNatClampNeg) := by
  obtain ⟨bs', js', sh', wk', ll', lc', mo', lb', fa, h1, h2, h3⟩ := h
  have z := cIn.eq hD hM h1
  simp only [Sum.inr.injEq, Prod.mk.injEq, List.cons.injEq, Value.int.injEq, Value.ref.injEq, and_true, true_and] at z
  obtain ⟨-, e2, e3, -⟩ := z
  subst e2
  subst e3
  exact ⟨rfl, fa, h2, h3⟩
theorem Rl.shp {cy : Nat → ClassId} {A : Nat → Prop} {xo z1 z2 : Nat} {G G1 : cG} {W W1 : va_W} {f f1 : Nat → Int32} {r r1 : Nat → Nat → Int32} (h : Rl cy xo G W f r) (hD : va_D A W) (hT : cT cy G W) (hG : G xo = some (7, z1, z2)) {ch : List Nat} (hX : cX none (chs ch) G W G1 W1) (h9 : chs ch 9 = false) {bs js sh wk ll bs1 sh1 wk1 ll1 : Nat} {jc lc lc1 : Int32} {mo lb mo1 lb1 : Option Nat} (hM : cIn W xo (.inr (8, [.ref bs, .ref js, .int jc, .ref sh, .ref wk, va_rf mo, .ref ll, .int lc, va_rf lb]))) (hM1 : cIn W1 xo (.inr (8, [.ref bs1, .ref js, .int jc, .ref sh1, .ref wk1, va_rf mo1, .ref ll1, .int lc1, va_rf lb1]))) (hf : f1 1 = f 1) (h3 : r1 3 = r 3) (h4 : r1 4 = r 4) : Rl cy xo G1 W1 f1 r1 := by
  obtain ⟨e, fa, a1, a2⟩ := h.at hD hM
  obtain ⟨-, -, -, hGj, -⟩ := w7sh hD hT hG hM
  refine ⟨_, _, _, _, _, _, _, _, fa, (by rw [hf, ← e]; exact hM1), hX.2.1 _ _ (cP.no hGj h9) a1, ?_⟩
  rw [hf, ← e, h3, h4]
  exact a2.up hX.1
theorem Rl.keep {cy : Nat → ClassId} {A : Nat → Prop} {xo z1 z2 : Nat} {G G1 : cG} {W W1 : va_W} {f f1 : Nat → Int32} {r r1 : Nat → Nat → Int32} (h : Rl cy xo G W f r) (hD : va_D A W) (hT : cT cy G W) (hG : G xo = some (7, z1, z2)) {ch : List Nat} (hX : cX none (chs ch) G W G1 W1) (h7 : chs ch 7 = false) (h9 : chs ch 9 = false) (hf : f1 1 = f 1) (h3 : r1 3 = r 3) (h4 : r1 4 = r 4) : Rl cy xo G1 W1 f1 r1 := by
  obtain ⟨bs, js, sh, wk, ll, lc, mo, lb, fa, a1, a2, a3⟩ := id h
  exact h.shp hD hT hG hX h9 a1 (hX.2.1 _ _ (cP.no hG h7) a1) hf h3 h4
theorem jobsAre.add {G : cG} {fa : Nat → Option Nat} {jc jc1 : Int32} {r3 r4 : Nat → Int32} {w h : Int32} {x k : Nat} (h0 : 0 ≤ jc.toInt) (a : jobsAre G fa jc (fun j9 => (r3 j9).toNatClampNeg) (fun j9 => (r4 j9).toNatClampNeg)) (e : jc1.toInt = jc.toInt + 1) (hw : 1 ≤ w.toInt ∧ w.toInt ≤ 6) (hh : 1 ≤ h.toInt ∧ h.toInt ≤ 6) (hx : G x = some (3, k, 8 * w.toNatClampNeg + h.toNatClampNeg)) : jobsAre G (va_up fa jc.toNatClampNeg (some x)) jc1 (fun j9 => (upd r3 jc.toNatClampNeg w j9).toNatClampNeg) (fun j9 => (upd r4 jc.toNatClampNeg h j9).toNatClampNeg) := by
  intro j hj
  have c := m_cl (x := jc) h0
  have cw := m_cl (x := w) (by omega)
  have ch := m_cl (x := h) (by omega)
  by_cases z : j = jc.toNatClampNeg
  · subst z
    simp only [upd, va_up, if_true]
    exact ⟨by omega, x, k, rfl, hx⟩
  · simp only [upd, va_up, z, if_false]
    exact a j (by omega)
section LWR
variable {p : Program} {l : Launch} {e : Env} {R : Room} {s : State} {m : MethodId} {args : Array Value} {below : List Frame} {meth : Method} {c : Code} {H : Heap} {locs : List Loc} {cells slots : Nat} {Q : State → Prop}
variable {y : MethodName} {bytes cc : ByteArray} {maxL nL n index mc ms : Nat} {ret : Option FieldType} {wc Ts : List Cond} {rm : Room} {own C : String} {As rest st0 av : List Value} {pc : Nat} {ls : Array Slot} {D : va_G} {cy : Nat → ClassId} {xo mo ou : Nat} {a : Nat → Nat} {M : Option Nat} {G : cG} {W' : va_W} {f : Nat → Int32} {g : Nat → Int64} {r : Nat → Nat → Int32} {q : Nat → Nat → Int64} {a9 : Array Value}
theorem lk3_i {ch : List Nat} {post : Int32 → cS → Prop} (I : LI D cy s xo mo ou a M G W' f g r q H locs) (hr : va_Run p l e R s m args below meth c H locs cells slots mc ms (F0 m pc ls st0) rest (va_Qi (fun r0 u => cX none (chs ch) G W' u.1 u.2 ∧ post r0 u) (cB D cy (AC s mo a)) (AC s mo a) a9) (AC s mo a)) (h7 : chs ch 7 = false)
    (kk : ∀ (r0 : Int32) (u : cS) (H1 : Heap) (locs1 : List Loc), post r0 u → cX none (chs ch) G W' u.1 u.2 → LI D cy s xo mo ou a M u.1 u.2 f g r q H1 locs1 → W p l e R s m args below meth c H1 locs1 (cells + mc) (slots + ms) Q (F0 m (pc + 3) ls (.int r0 :: rest))) : W p l e R s m args below meth c H locs cells slots Q (F0 m pc ls st0) :=
  va_calli hr I.2.2.2.2.2.2.2.2.1 (fun _ _ h => h.1) (fun _ h => h.1) (fun r0 u t H1 locs1 ht hvm hp hB hz hk hS => by
    obtain ⟨h1, h2, h3⟩ := hB
    rw [ht] at h1
    obtain ⟨bs, js, sh, wk, ll, jc, lc, lb, hM⟩ := I.2.2.2.2.2.2.2.1
    exact kk r0 u H1 locs1 hp.2 hp.1 (I.cla h1 h2 h3 hp.1.1 ⟨bs, js, sh, wk, ll, jc, lc, lb, hp.1.2.1 _ _ (cP.no I.2.2.2.2.1 h7) hM⟩ hz hk hS))
theorem lk3_l {ch : List Nat} {post : Int64 → cS → Prop} (I : LI D cy s xo mo ou a M G W' f g r q H locs) (hr : va_Run p l e R s m args below meth c H locs cells slots mc ms (F0 m pc ls st0) rest (va_Ql (fun r0 u => cX none (chs ch) G W' u.1 u.2 ∧ post r0 u) (cB D cy (AC s mo a)) (AC s mo a) a9) (AC s mo a)) (h7 : chs ch 7 = false)
    (kk : ∀ (r0 : Int64) (u : cS) (H1 : Heap) (locs1 : List Loc), post r0 u → cX none (chs ch) G W' u.1 u.2 → LI D cy s xo mo ou a M u.1 u.2 f g r q H1 locs1 → W p l e R s m args below meth c H1 locs1 (cells + mc) (slots + ms) Q (F0 m (pc + 3) ls (.long r0 :: rest))) : W p l e R s m args below meth c H locs cells slots Q (F0 m pc ls st0) :=
  va_calll hr I.2.2.2.2.2.2.2.2.1 (fun _ _ h => h.1) (fun _ h => h.1) (fun r0 u t H1 locs1 ht hvm hp hB hz hk hS => by
    obtain ⟨h1, h2, h3⟩ := hB
    rw [ht] at h1
    obtain ⟨bs, js, sh, wk, ll, jc, lc, lb, hM⟩ := I.2.2.2.2.2.2.2.1
    exact kk r0 u H1 locs1 hp.2 hp.1 (I.cla h1 h2 h3 hp.1.1 ⟨bs, js, sh, wk, ll, jc, lc, lb, hp.1.2.1 _ _ (cP.no I.2.2.2.2.1 h7) hM⟩ hz hk hS))
theorem lk3_ri {post : Int32 → cS → Prop} (I : LI D cy s xo mo ou a M G W' f g r q H locs) (hr : va_Run p l e R s m args below meth c H locs cells slots mc ms (F0 m pc ls st0) rest (va_Qi (fun r0 u => u = (G, W') ∧ post r0 u) (cB D cy (AC s mo a)) (AC s mo a) a9) (AC s mo a))
    (kk : ∀ (r0 : Int32) (u : cS) (H1 : Heap) (locs1 : List Loc), post r0 u → cX none (chs []) G W' u.1 u.2 → LI D cy s xo mo ou a M u.1 u.2 f g r q H1 locs1 → W p l e R s m args below meth c H1 locs1 (cells + mc) (slots + ms) Q (F0 m (pc + 3) ls (.int r0 :: rest))) : W p l e R s m args below meth c H locs cells slots Q (F0 m pc ls st0) :=
  va_calli hr I.2.2.2.2.2.2.2.2.1 (fun _ _ h => h.1) (fun _ h => h.1) (fun r0 u t H1 locs1 ht hvm hp hB hz hk hS => by
    obtain ⟨h1, h2, h3⟩ := hB
    obtain ⟨rfl, hp⟩ := hp
    rw [ht] at h1
    exact kk r0 _ H1 locs1 hp cX.rf (I.cla h1 h2 h3 cE.rf I.2.2.2.2.2.2.2.1 hz hk hS))
theorem lk3_rl {post : Int64 → cS → Prop} (I : LI D cy s xo mo ou a M G W' f g r q H locs) (hr : va_Run p l e R s m args below meth c H locs cells slots mc ms (F0 m pc ls st0) rest (va_Ql (fun r0 u => u = (G, W') ∧ post r0 u) (cB D cy (AC s mo a)) (AC s mo a) a9) (AC s mo a))
    (kk : ∀ (r0 : Int64) (u : cS) (H1 : Heap) (locs1 : List Loc), post r0 u → cX none (chs []) G W' u.1 u.2 → LI D cy s xo mo ou a M u.1 u.2 f g r q H1 locs1 → W p l e R s m args below meth c H1 locs1 (cells + mc) (slots + ms) Q (F0 m (pc + 3) ls (.long r0 :: rest))) : W p l e R s m args below meth c H locs cells slots Q (F0 m pc ls st0) :=
  va_calll hr I.2.2.2.2.2.2.2.2.1 (fun _ _ h => h.1) (fun _ h => h.1) (fun r0 u t H1 locs1 ht hvm hp hB hz hk hS => by
    obtain ⟨h1, h2, h3⟩ := hB
    obtain ⟨rfl, hp⟩ := hp
    rw [ht] at h1
    exact kk r0 _ H1 locs1 hp cX.rf (I.cla h1 h2 h3 cE.rf I.2.2.2.2.2.2.2.1 hz hk hS))
theorem lk3_s {ch : List Nat} {post : Int32 → cS → Prop} (I : LI D cy s xo mo ou a M G W' f g r q H locs) (hr : va_Run p l e R s m args below meth c H locs cells slots mc ms (F0 m pc ls st0) rest (va_Qi (fun r0 u => cX none (chs ch) G W' u.1 u.2 ∧ post r0 u) (cB D cy (AC s mo a)) (AC s mo a) a9) (AC s mo a))
    (hsh : ∀ r0 u, post r0 u → ∃ (bs js sh wk ll : Nat) (jc lc : Int32) (lb : Option Nat), cIn u.2 xo (.inr (8, [.ref bs, .ref js, .int jc, .ref sh, .ref wk, va_rf M, .ref ll, .int lc, va_rf lb])))
    (kk : ∀ (r0 : Int32) (u : cS) (H1 : Heap) (locs1 : List Loc), post r0 u → cX none (chs ch) G W' u.1 u.2 → LI D cy s xo mo ou a M u.1 u.2 f g r q H1 locs1 → W p l e R s m args below meth c H1 locs1 (cells + mc) (slots + ms) Q (F0 m (pc + 3) ls (.int r0 :: rest))) : W p l e R s m args below meth c H locs cells slots Q (F0 m pc ls st0) :=
  va_calli hr I.2.2.2.2.2.2.2.2.1 (fun _ _ h => h.1) (fun _ h => h.1) (fun r0 u t H1 locs1 ht hvm hp hB hz hk hS => by
    obtain ⟨h1, h2, h3⟩ := hB
    obtain ⟨hX, hp⟩ := hp
    rw [ht] at h1
    exact kk r0 _ H1 locs1 hp hX (I.cla h1 h2 h3 hX.1 (hsh r0 u hp) hz hk hS))
end LWR

