/-! arrays of references whose content is told -/
section CAR
variable {p : Program} {l : Launch} {e : Env} {R : Room} {s : State} {m : MethodId} {args : Array Value} {below : List Frame} {meth : Method} {c : Code} {H : Heap} {locs : List Loc} {cells slots : Nat} {Q : State → Prop}
variable {cc : ByteArray} {pc : Nat} {ls : Array Slot} {rest : List Value} {D : va_G} {cy : Nat → ClassId} {A : Nat → Prop} {ws : va_W} {G : cG} {H0 : Heap}
theorem t_aald8f (hx : p.tables.exec = Jvm.exec) (hb : c.code = cc) (hK : va_K D vwCl (cTy cy) s) (hP : va_P D vwCl ws H) {a n : Nat} {f : Nat → Option Nat} (hM : cIn ws a (.inl (cy 3, cqa n f))) (hf : ∀ i x, i < n → f i = some x → G x = some (2, i % 6 + 1, i / 6 + 1)) {i : Int32} (hin : vp_in i n) (hdg : decode cc pc = .ok (.aaload, 1))
    (kn : f i.toNatClampNeg = none → W p l e R s m args below meth c H locs cells slots Q (F0 m (pc + 1) ls (.null :: rest)))
    (ks : ∀ x, G x = some (2, i.toNatClampNeg % 6 + 1, i.toNatClampNeg / 6 + 1) → f i.toNatClampNeg = some x → W p l e R s m args below meth c H locs cells slots Q (F0 m (pc + 1) ls (.ref x :: rest))) : W p l e R s m args below meth c H locs cells slots Q (F0 m pc ls (.int i :: .ref a :: rest)) := by
  obtain ⟨q0, hq⟩ := hM
  have hlt : i.toNatClampNeg < n := Nat.not_le.mp fun q => hin (Or.inr q)
  refine va_aldq hx hb hK hP q0 3 hq rfl hin hdg ?_
  cases hv : f i.toNatClampNeg with
  | none => exact kn hv
  | some x => exact ks x (hf _ x hlt hv) hv
theorem t_aast8f (hx : p.tables.exec = Jvm.exec) (hb : c.code = cc) (hK : va_K D vwCl (cTy cy) s) (hP : va_P D vwCl ws H) (hD : va_D A ws) (hS : va_S A H0 H locs) (hT : cT cy G ws) {a n z v : Nat} (hg : G a = some (8, n, z)) {f : Nat → Option Nat} (hM : cIn ws a (.inl (cy 3, cqa n f))) (hf : ∀ i x, i < n → f i = some x → G x = some (2, i % 6 + 1, i / 6 + 1)) {i : Int32} (hv : G v = some (2, i.toNatClampNeg % 6 + 1, i.toNatClampNeg / 6 + 1)) (hin : vp_in i n) (hdg : decode cc pc = .ok (.aastore, 1))
    (kk : ∀ (H1 : Heap) (locs1 : List Loc) (ws1 : va_W), cF (fun b => b = a) ws ws1 → cIn ws1 a (.inl (cy 3, cqa n (va_up f i.toNatClampNeg (some v)))) → (∀ j x, j < n → va_up f i.toNatClampNeg (some v) j = some x → G x = some (2, j % 6 + 1, j / 6 + 1)) → va_P D vwCl ws1 H1 → va_D A ws1 → cT cy G ws1 → va_S A H0 H1 locs1 → W p l e R s m args below meth c H1 locs1 cells slots Q (F0 m (pc + 1) ls rest)) : W p l e R s m args below meth c H locs cells slots Q (F0 m pc ls (.ref v :: .int i :: .ref a :: rest)) := by
  obtain ⟨q0, hq⟩ := hM
  obtain ⟨_, ⟨qk, hqk⟩, hb0, b1, b2, b3, rfl, -⟩ := hT _ _ hv
  have hf1 : ∀ j x, j < n → va_up f i.toNatClampNeg (some v) j = some x → G x = some (2, j % 6 + 1, j / 6 + 1) := fun j x hj hx => c_upf (P := fun i x => G x = some (2, i % 6 + 1, i / 6 + 1)) hf hv hj hx
  exact va_astq (r := (RX0, TX0, 8)) hx hb hK hP hD hS q0 3 qk 0 hq rfl hqk rfl hin hdg (fun H1 locs1 k1 k2 k3 => kk H1 locs1 _ (cF.up (cUp.set hq) rfl) (cUp.set hq).1 hf1 k1 k2 (hT.up (cUp.set hq) hg ⟨_, rfl, hf1⟩) k3)
end CAR

def gB (set : Int32) (k : Nat) : Int32 := (set >>> (nI k &&& 31)) &&& 1
def gdx (k : Nat) : Int := if k = 1 then 0 else 1
def gdy (k : Nat) : Int := if k = 0 then 0 else 1
def gX (set : Int32) : Nat → Int
  | 0 => 0
  | k + 1 => if gB set k = 1 then gX set k + gdx k else gX set k
def gY (set : Int32) : Nat → Int
  | 0 => 0
  | k + 1 => if gB set k = 1 then gY set k + gdy k else gY set k
theorem gdx_b (k : Nat) : 0 ≤ gdx k ∧ gdx k ≤ 1 := by unfold gdx; split <;> omega
theorem gdy_b (k : Nat) : 0 ≤ gdy k ∧ gdy k ≤ 1 := by unfold gdy; split <;> omega
theorem gX_b (set : Int32) (k : Nat) : 0 ≤ gX set k ∧ gX set k ≤ k := by
  induction k with
  | zero => simp [gX]
  | succ k ih => have := gdx_b k; simp only [gX]; split <;> omega
theorem gY_b (set : Int32) (k : Nat) : 0 ≤ gY set k ∧ gY set k ≤ k := by
  induction k with
  | zero => simp [gY]
  | succ k ih => have := gdy_b k; simp only [gY]; split <;> omega
theorem gX_1 {set : Int32} {k : Nat} (h : gB set k = 1) : gX set (k + 1) = gX set k + gdx k := by simp only [gX]; rw [if_pos h]
theorem gX_0 {set : Int32} {k : Nat} (h : ¬ gB set k = 1) : gX set (k + 1) = gX set k := by simp only [gX]; rw [if_neg h]
theorem gY_1 {set : Int32} {k : Nat} (h : gB set k = 1) : gY set (k + 1) = gY set k + gdy k := by simp only [gY]; rw [if_pos h]
theorem gY_0 {set : Int32} {k : Nat} (h : ¬ gB set k = 1) : gY set (k + 1) = gY set k := by simp only [gY]; rw [if_neg h]
theorem g_ax {x : Nat → Int32} {i : Nat} {v w : Int32} (hi : i < 4) (hx : x 0 = 1 ∧ x 1 = 0 ∧ x 2 = 1 ∧ x 3 = 1) (e1 : v = x (nI i).toNatClampNeg) (e2 : w = if 0 ≤ v then v else 0 - v) : w.toInt = gdx i := by
  rw [nI_clamp (by omega)] at e1
  obtain ⟨h0, h1, h2, h3⟩ := hx
  have h : i = 0 ∨ i = 1 ∨ i = 2 ∨ i = 3 := by omega
  rcases h with rfl | rfl | rfl | rfl
  · rw [h0] at e1; subst e1; subst e2; decide
  · rw [h1] at e1; subst e1; subst e2; decide
  · rw [h2] at e1; subst e1; subst e2; decide
  · rw [h3] at e1; subst e1; subst e2; decide
theorem g_ay {x : Nat → Int32} {i : Nat} {v w : Int32} (hi : i < 4) (hx : x 0 = 0 ∧ x 1 = 1 ∧ x 2 = 1 ∧ x 3 = -1) (e1 : v = x (nI i).toNatClampNeg) (e2 : w = if 0 ≤ v then v else 0 - v) : w.toInt = gdy i := by
  rw [nI_clamp (by omega)] at e1
  obtain ⟨h0, h1, h2, h3⟩ := hx
  have h : i = 0 ∨ i = 1 ∨ i = 2 ∨ i = 3 := by omega
  rcases h with rfl | rfl | rfl | rfl
  · rw [h0] at e1; subst e1; subst e2; decide
  · rw [h1] at e1; subst e1; subst e2; decide
  · rw [h2] at e1; subst e1; subst e2; decide
  · rw [h3] at e1; subst e1; subst e2; decide
def gP (set w h : Int32) : Int := if gX set 4 < w.toInt ∧ gY set 4 < h.toInt then (w.toInt - gX set 4) * (h.toInt - gY set 4) else 0
def gA (set w h : Int32) : Int := if (1 ≤ set.toInt ∧ set.toInt ≤ 15) ∧ (1 ≤ w.toInt ∧ w.toInt ≤ 6) ∧ (1 ≤ h.toInt ∧ h.toInt ≤ 6) then gP set w h else -1
def gH (set w h : Int32) : Int := if 0 < gA set w h then 1 else gA set w h
theorem gA_no {set w h : Int32} (hn : ¬ ((1 ≤ set.toInt ∧ set.toInt ≤ 15) ∧ (1 ≤ w.toInt ∧ w.toInt ≤ 6) ∧ (1 ≤ h.toInt ∧ h.toInt ≤ 6))) : gA set w h = -1 := by unfold gA; rw [if_neg hn]
theorem gA_yes {set w h : Int32} (hn : (1 ≤ set.toInt ∧ set.toInt ≤ 15) ∧ (1 ≤ w.toInt ∧ w.toInt ≤ 6) ∧ (1 ≤ h.toInt ∧ h.toInt ≤ 6)) : gA set w h = gP set w h := by unfold gA; rw [if_pos hn]
theorem gP_pos {set w h : Int32} {x y : Int} (ex : x = w.toInt - gX set 4) (ey : y = h.toInt - gY set 4) (px : 0 < x) (py : 0 < y) : gP set w h = x * y := by unfold gP; rw [if_pos (by omega), ex, ey]
theorem gP_zero {set w h : Int32} (hn : ¬ (gX set 4 < w.toInt ∧ gY set 4 < h.toInt)) : gP set w h = 0 := by unfold gP; rw [if_neg hn]
theorem gP_b {set w h : Int32} (hw : 1 ≤ w.toInt ∧ w.toInt ≤ 6) (hh : 1 ≤ h.toInt ∧ h.toInt ≤ 6) : 0 ≤ gP set w h := by
  unfold gP
  split
  · exact Int.mul_nonneg (by omega) (by omega)
  · omega
set_option maxHeartbeats 4000000 in
set_option maxRecDepth 100000 in
theorem c_X9_boardOf_x (l : Launch) (D : va_G) (cy : Nat → ClassId) (A : Nat → Prop) (G : cG) (ws : va_W) (o : Nat) (wide : Int32) (high : Int32)  (hD : va_D A ws) (hT : cT cy G ws) (hG_o : G o = some (7, 0, 0))  : Ca l D cy A yX9_boardOf wsX9_boardOf ({ frames := 4, cells := 4, slots := 502, locals := 93 }) 4 502 ws [.ref o, .int wide, .int high] (fun r0 u => cX none (chs [1, 8]) G ws u.1 u.2 ∧ ((∀ x, r0 = some x → u.1 x = some (2, wide.toNatClampNeg, high.toNatClampNeg)) ∧ (r0 = none → ¬ ((1 ≤ wide.toInt ∧ wide.toInt ≤ 6) ∧ (1 ≤ high.toInt ∧ high.toInt ≤ 6))) ∧ ∀ x, r0 = some x → ((1 ≤ wide.toInt ∧ wide.toInt ≤ 6) ∧ (1 ≤ high.toInt ∧ high.toInt ≤ 6)))) := by
  refine Met.ofW (cc := cX9_boardOf) (maxL := 4) (ret := (some (.object "ShadowBench$Board"))) (by decide) rfl ?_
  intro p e s m args below meth c s₁ B hml hv
  obtain ⟨rfl, hP, hK, hA, hV⟩ := hv
  have hx := B.exec
  have hb := B.bytes
  have hr := B.returns
  have hts := atoms_spec (ws := wsX9_boardOf) B.pre
  have hown : s.vm.findClass RX9 = some m.cls := findClass_of_methodNamed B.named
  have hlocks := B.notSynchronized
  have hS : va_S A s.heap s.heap [] := va_S.rf
  have hX : cX none (chs [1, 8]) G ws G ws := cX.rf
  have hl := lv_entry ([.ref o, .int wide, .int high]) (n := 4) (Nat.le_of_ble_eq_true rfl)
  rw [lg_entry_eq]
  generalize (lg_sl ([.ref o, .int wide, .int high]) ++ List.replicate (4 - (lg_sl ([.ref o, .int wide, .int high])).length) Slot.unset).toArray = ls at hl ⊢
  have hl : lv_has ls 4 [(0, .ref o), (1, .int wide), (2, .int high)] := hl
  have k_0 : (0 : Int32).toInt = 0 := by decide
  have k_1 : (1 : Int32).toInt = 1 := by decide
  have k_6 : (6 : Int32).toInt = 6 := by decide
  refine lv_iload_n hx hb dX9_boardOf_0 rfl (lv_at hl 1 rfl) ?_
  refine lv_iconst (v := 1) hx hb dX9_boardOf_1 (by decide) ?_
  refine lv_icmp_lt (tgt := 22) hx hb dX9_boardOf_2 (by decide) (fun c2 => ?_) (fun c2 => ?_)
  · skip
    have d2 := c2
    rw [fa_lt] at d2
    refine lv_null hx hb dX9_boardOf_22 ?_
    refine W.widen (k := 4) (n := 502) (Nat.le_of_ble_eq_true rfl) (Nat.le_of_ble_eq_true rfl) ?_
    exact W.aret (v := .null) hx hb hr (Or.inl ⟨_, rfl⟩) (Or.inl rfl) (fun t ht hW => ⟨⟨none, (G, ws), rfl, ⟨hX, ⟨(fun _ z => nomatch z), (fun _ => by omega), (fun _ z => nomatch z)⟩⟩, by show va_P D vwCl ws t.heap; rw [ht]; exact hP, hD, hT⟩, hS.F ht⟩) hS.2.2 dX9_boardOf_23
  · skip
    have d2 := c2
    rw [fa_lt] at d2
    refine lv_iload_n hx hb dX9_boardOf_5 rfl (lv_at hl 1 rfl) ?_
    refine lv_bipush (v := 6) hx hb dX9_boardOf_6 (by decide) ?_
    refine lv_icmp_gt (tgt := 22) hx hb dX9_boardOf_8 (by decide) (fun c8 => ?_) (fun c8 => ?_)
    · skip
      have d8 := c8
      rw [fa_lt] at d8
      refine lv_null hx hb dX9_boardOf_22 ?_
      refine W.widen (k := 4) (n := 502) (Nat.le_of_ble_eq_true rfl) (Nat.le_of_ble_eq_true rfl) ?_
      exact W.aret (v := .null) hx hb hr (Or.inl ⟨_, rfl⟩) (Or.inl rfl) (fun t ht hW => ⟨⟨none, (G, ws), rfl, ⟨hX, ⟨(fun _ z => nomatch z), (fun _ => by omega), (fun _ z => nomatch z)⟩⟩, by show va_P D vwCl ws t.heap; rw [ht]; exact hP, hD, hT⟩, hS.F ht⟩) hS.2.2 dX9_boardOf_23
    · skip
      have d8 := c8
      rw [fa_lt] at d8
      refine lv_iload_n hx hb dX9_boardOf_11 rfl (lv_at hl 2 rfl) ?_
      refine lv_iconst (v := 1) hx hb dX9_boardOf_12 (by decide) ?_
      refine lv_icmp_lt (tgt := 22) hx hb dX9_boardOf_13 (by decide) (fun c13 => ?_) (fun c13 => ?_)
      · skip
        have d13 := c13
        rw [fa_lt] at d13
        refine lv_null hx hb dX9_boardOf_22 ?_
        refine W.widen (k := 4) (n := 502) (Nat.le_of_ble_eq_true rfl) (Nat.le_of_ble_eq_true rfl) ?_
        exact W.aret (v := .null) hx hb hr (Or.inl ⟨_, rfl⟩) (Or.inl rfl) (fun t ht hW => ⟨⟨none, (G, ws), rfl, ⟨hX, ⟨(fun _ z => nomatch z), (fun _ => by omega), (fun _ z => nomatch z)⟩⟩, by show va_P D vwCl ws t.heap; rw [ht]; exact hP, hD, hT⟩, hS.F ht⟩) hS.2.2 dX9_boardOf_23
      · skip
        have d13 := c13
        rw [fa_lt] at d13
        refine lv_iload_n hx hb dX9_boardOf_16 rfl (lv_at hl 2 rfl) ?_
        refine lv_bipush (v := 6) hx hb dX9_boardOf_17 (by decide) ?_
        refine lv_icmp_le (tgt := 24) hx hb dX9_boardOf_19 (by decide) (fun c19 => ?_) (fun c19 => ?_)
        · skip
          have d19 := c19
          rw [fa_le] at d19
          refine lv_iload_n hx hb dX9_boardOf_24 rfl (lv_at hl 2 rfl) ?_
          refine lv_iconst (v := 1) hx hb dX9_boardOf_25 (by decide) ?_
          refine lv_isub hx hb dX9_boardOf_26 ?_
          refine lv_topi (fun v26 e26 => ?_)
          have i26 : v26.toInt = high.toInt - (1 : Int32).toInt := by rw [e26]; exact fb_subI (by omega) (by omega)
          refine lv_bipush (v := 6) hx hb dX9_boardOf_27 (by decide) ?_
          refine lv_imul hx hb dX9_boardOf_29 ?_
          refine lv_topi (fun v29 e29 => ?_)
          have i29 : v29.toInt = v26.toInt * 6 := by rw [e29]; exact mulcR rfl (by omega) (by omega)
          refine lv_iload_n hx hb dX9_boardOf_30 rfl (lv_at hl 1 rfl) ?_
          refine lv_iadd hx hb dX9_boardOf_31 ?_
          refine lv_topi (fun v31 e31 => ?_)
          have i31 : v31.toInt = v29.toInt + wide.toInt := by rw [e31]; exact fb_addI (by omega) (by omega)
          refine lv_iconst (v := 1) hx hb dX9_boardOf_32 (by decide) ?_
          refine lv_isub hx hb dX9_boardOf_33 ?_
          refine lv_topi (fun v33 e33 => ?_)
          have i33 : v33.toInt = v31.toInt - (1 : Int32).toInt := by rw [e33]; exact fb_subI (by omega) (by omega)
          refine lv_istore_n (lv' := [(3, .int v33), (0, .ref o), (1, .int wide), (2, .int high)]) hx hb dX9_boardOf_34 rfl hl (by decide) rfl (fun ls hl => ?_)
          have e9 := m_cl (x := v33) (by omega)
          have f9 := m_cl (x := wide) (by omega)
          have g9 := m_cl (x := high) (by omega)
          have e1 : v33.toNatClampNeg % 6 + 1 = wide.toNatClampNeg := by omega
          have e2 : v33.toNatClampNeg / 6 + 1 = high.toNatClampNeg := by omega
          refine lv_aload_n hx hb dX9_boardOf_35 rfl (lv_at hl 1 rfl) ?_
          obtain ⟨_, hM_o, bs_o, js_o, sh_o, wk_o, ll_o, jc_o, lc_o, mo_o, lb_o, rfl, hjc_o, hlc_o, hG_bs_o, hG_js_o, hG_sh_o, hG_wk_o, hmo_o, hG_ll_o, hlb_o⟩ := hT _ _ hG_o
          refine t_get (v := .ref bs_o) (C := RX9) (T := TX9) (N := 9) hx hb hts (by decide +kernel) hown hK hP hM_o rfl 0 (by decide) (hts (.fieldLink RX9 9 "ShadowBench" "boards" "[LShadowBench$Board;") (by decide +kernel)) (fun _ h9 => h9) rfl dX9_boardOf_36 ?_
          refine lv_iload_n hx hb dX9_boardOf_39 rfl (lv_at hl 0 rfl) ?_
          obtain ⟨_, hM_bs_o, fa_bs_o, rfl, hf_bs_o⟩ := hT _ _ hG_bs_o
          refine t_aald8f hx hb hK hP hM_bs_o hf_bs_o (vp_in_iff.mpr ⟨by omega, by omega⟩) dX9_boardOf_40 (fun nf40 => ?_) (fun x40 hG_x40 nf40 => ?_)
          · skip
            refine lv_ifnonnullN hx hb dX9_boardOf_41 ?_
            refine lv_aload_n hx hb dX9_boardOf_44 rfl (lv_at hl 1 rfl) ?_
            refine t_get (v := .ref bs_o) (C := RX9) (T := TX9) (N := 9) hx hb hts (by decide +kernel) hown hK hP hM_o rfl 0 (by decide) (hts (.fieldLink RX9 9 "ShadowBench" "boards" "[LShadowBench$Board;") (by decide +kernel)) (fun _ h9 => h9) rfl dX9_boardOf_45 ?_
            refine lv_iload_n hx hb dX9_boardOf_48 rfl (lv_at hl 0 rfl) ?_
            refine t_new (C := RX0) (T := TX0) (N := 8) (ci := 0) (ty0 := tyX0) (fs := [.int 0, .int 0, .int 0, .int 0, .int 0, .null, .null, .null]) hx hb hts (by decide +kernel) tyX0_ok hown (hts (.classLink RX9 7 RX0) (by decide +kernel)) (hts (.instantiable RX0 8) (by decide +kernel)) (hts (.initialized RX0) (by decide +kernel)) hK hP hD hS hA hT rfl (by decide +kernel) (Nat.le_of_ble_eq_true rfl) (Nat.le_of_ble_eq_true rfl) dX9_boardOf_49 (fun q49 H w49 hM_q49 hO_q49 hF49 hX49 hk49 hP hD hT hS => ?_)
            have hN_q49 := hX.new0 hO_q49 hF49
            have hM_o := hk49 _ _ hM_o
            have hM_bs_o := hk49 _ _ hM_bs_o
            have hX := hX.tr (hX49 _ _)
            refine lv_dup hx hb dX9_boardOf_52 rfl ?_
            refine lv_iload_n hx hb dX9_boardOf_53 rfl (lv_at hl 2 rfl) ?_
            refine lv_iload_n hx hb dX9_boardOf_54 rfl (lv_at hl 3 rfl) ?_
            refine t_callv (va_runI (g := F0 m 55 ls ([.int high, .int wide, .ref q49, .ref q49, .int v33, .ref bs_o])) (As := [.int wide, .int high]) (rest := [.ref q49, .int v33, .ref bs_o]) (b := q49) ⟨hx, hb, hml, hown, hts⟩ (c_X0_init_i l D cy A G w49 q49 wide high hD hT hO_q49 hM_q49 (by omega)) (cwI 2 hts gX9_boardOf_X0_init rfl rfl rfl (hts (.initialized RX0) (by decide +kernel)) (hts (.methodLink RX9 290 yX0_init) (by decide +kernel)) (hts (.instanceMethod yX0_init) (by decide +kernel)) rfl (by decide +kernel) ⟨Nat.le_of_ble_eq_true rfl, Nat.le_of_ble_eq_true rfl⟩) (c_preS hP hK hA hS hV) rfl rfl hl.1 rfl (lv_room (Nat.le_of_ble_eq_true rfl)) dX9_boardOf_55 ⟨Nat.le_of_ble_eq_true rfl, Nat.le_of_ble_eq_true rfl⟩) hS (fun u H locs q55 hP9 hD9 hT9 hS => ?_)
            obtain ⟨G55, w55⟩ := u
            obtain ⟨hX9, q55⟩ := q55
            have hX9 : cX (some q49) (chs [1]) G w49 G55 w55 := hX9
            have hP : va_P D vwCl w55 H := hP9
            have hD : va_D A w55 := hD9
            have hT : cT cy G55 w55 := hT9
            have hM_o := hX9.2.1 _ _ (cP.no1 (Ne.symm (cne0 hO_q49 hG_o)) hG_o rfl) hM_o
            have hM_bs_o := hX9.2.1 _ _ (cP.no1 (Ne.symm (cne0 hO_q49 hG_bs_o)) hG_bs_o rfl) hM_bs_o
            have hG_o := hX9.1 _ _ hG_o
            have hG_bs_o := hX9.1 _ _ hG_bs_o
            have hG_js_o := hX9.1 _ _ hG_js_o
            have hG_sh_o := hX9.1 _ _ hG_sh_o
            have hG_wk_o := hX9.1 _ _ hG_wk_o
            have hG_ll_o := hX9.1 _ _ hG_ll_o
            have hf_bs_o := fun i9 x9 h9 z9 => hX9.1 _ _ (hf_bs_o i9 x9 h9 z9)
            have hG_q49 : G55 q49 = some (2, wide.toNatClampNeg, high.toNatClampNeg) := q55.1
            have q55 := q55.2
            have hX := hX.trN hN_q49 (hX9.wk (chs_sub (by decide)))
            refine t_aast8f hx hb hK hP hD hS hT hG_bs_o hM_bs_o hf_bs_o (by rw [e1, e2]; exact hG_q49) (vp_in_iff.mpr ⟨by omega, by omega⟩) dX9_boardOf_58 (fun H locs w58 hU58 hM9_bs_o hf9_bs_o hP hD hT hS => ?_)
            have hM_o := hU58 _ _ (cne hG_o hG_bs_o (show (7 : Nat) ≠ 8 by decide)) hM_o
            have hM_bs_o := hM9_bs_o
            have hf_bs_o := hf9_bs_o
            have hX := hX.tr (cX.uF hU58 (Or.inr ⟨_, hG_bs_o, rfl⟩))
            refine lv_aload_n hx hb dX9_boardOf_59 rfl (lv_at hl 1 rfl) ?_
            refine t_get (v := .ref bs_o) (C := RX9) (T := TX9) (N := 9) hx hb hts (by decide +kernel) hown hK hP hM_o rfl 0 (by decide) (hts (.fieldLink RX9 9 "ShadowBench" "boards" "[LShadowBench$Board;") (by decide +kernel)) (fun _ h9 => h9) rfl dX9_boardOf_60 ?_
            refine lv_iload_n hx hb dX9_boardOf_63 rfl (lv_at hl 0 rfl) ?_
            refine t_aald8f hx hb hK hP hM_bs_o hf_bs_o (vp_in_iff.mpr ⟨by omega, by omega⟩) dX9_boardOf_64 (fun nf64 => ?_) (fun x64 hG_x64 nf64 => ?_)
            · first | exact absurd (nf64.symm.trans nf40) (by simp) | (simp [va_up] at nf64)
            · skip
              refine W.widen (k := 4) (n := 502) (Nat.le_of_ble_eq_true rfl) (Nat.le_of_ble_eq_true rfl) ?_
              exact W.aret (v := .ref x64) hx hb hr (Or.inl ⟨_, rfl⟩) (Or.inr ⟨_, rfl⟩) (fun t ht hW => ⟨⟨(some x64), (G55, w58), rfl, ⟨hX, ⟨(fun _ z => Option.some.inj z ▸ (by rw [← e1, ← e2]; exact hG_x64)), (fun z => nomatch z), (fun _ _ => by omega)⟩⟩, by show va_P D vwCl w58 t.heap; rw [ht]; exact hP, hD, hT⟩, hS.F ht⟩) hS.2.2 dX9_boardOf_65
          · skip
            refine lv_ifnonnull (tgt := 59) hx hb dX9_boardOf_41 (by decide) ?_
            refine lv_aload_n hx hb dX9_boardOf_59 rfl (lv_at hl 1 rfl) ?_
            refine t_get (v := .ref bs_o) (C := RX9) (T := TX9) (N := 9) hx hb hts (by decide +kernel) hown hK hP hM_o rfl 0 (by decide) (hts (.fieldLink RX9 9 "ShadowBench" "boards" "[LShadowBench$Board;") (by decide +kernel)) (fun _ h9 => h9) rfl dX9_boardOf_60 ?_
            refine lv_iload_n hx hb dX9_boardOf_63 rfl (lv_at hl 0 rfl) ?_
            refine t_aald8f hx hb hK hP hM_bs_o hf_bs_o (vp_in_iff.mpr ⟨by omega, by omega⟩) dX9_boardOf_64 (fun nf64 => ?_) (fun x64 hG_x64 nf64 => ?_)
            · first | exact absurd (nf64.symm.trans nf40) (by simp) | (simp [va_up] at nf64)
            · skip
              refine W.widen (k := 4) (n := 502) (Nat.le_of_ble_eq_true rfl) (Nat.le_of_ble_eq_true rfl) ?_
              exact W.aret (v := .ref x64) hx hb hr (Or.inl ⟨_, rfl⟩) (Or.inr ⟨_, rfl⟩) (fun t ht hW => ⟨⟨(some x64), (G, ws), rfl, ⟨hX, ⟨(fun _ z => Option.some.inj z ▸ (by rw [← e1, ← e2]; exact hG_x64)), (fun z => nomatch z), (fun _ _ => by omega)⟩⟩, by show va_P D vwCl ws t.heap; rw [ht]; exact hP, hD, hT⟩, hS.F ht⟩) hS.2.2 dX9_boardOf_65
        · skip
          have d19 := c19
          rw [fa_le] at d19
          refine lv_null hx hb dX9_boardOf_22 ?_
          refine W.widen (k := 4) (n := 502) (Nat.le_of_ble_eq_true rfl) (Nat.le_of_ble_eq_true rfl) ?_
          exact W.aret (v := .null) hx hb hr (Or.inl ⟨_, rfl⟩) (Or.inl rfl) (fun t ht hW => ⟨⟨none, (G, ws), rfl, ⟨hX, ⟨(fun _ z => nomatch z), (fun _ => by omega), (fun _ z => nomatch z)⟩⟩, by show va_P D vwCl ws t.heap; rw [ht]; exact hP, hD, hT⟩, hS.F ht⟩) hS.2.2 dX9_boardOf_23
set_option maxHeartbeats 4000000 in
set_option maxRecDepth 100000 in
theorem c_X9_ghostPlaces_x (l : Launch) (D : va_G) (cy : Nat → ClassId) (A : Nat → Prop) (G : cG) (ws : va_W) (o : Nat) (set : Int32) (wide : Int32) (high : Int32)  (hD : va_D A ws) (hT : cT cy G ws) (hG_o : G o = some (7, 0, 0))  : Ei l D cy A yX9_ghostPlaces wsX9_ghostPlaces ({ frames := 5, cells := 4, slots := 502, locals := 116 }) 4 502 ws [.ref o, .int set, .int wide, .int high] (fun r0 u => cX none (chs [1, 8]) G ws u.1 u.2 ∧ (r0.toInt = gA set wide high)) := by
  refine Met.ofW (cc := cX9_ghostPlaces) (maxL := 7) (ret := (some .int)) (by decide) rfl ?_
  intro p e s m args below meth c s₁ B hml hv
  obtain ⟨rfl, ⟨hP, hK, hA, hV⟩, hZ⟩ := hv
  obtain ⟨tX, tY, xX, xY, ⟨zX1, zX2, zX5⟩, ⟨zY1, zY2, zY5⟩⟩ := id hZ
  have hx := B.exec
  have hb := B.bytes
  have hr := B.returns
  have hts := atoms_spec (ws := wsX9_ghostPlaces) B.pre
  have hown : s.vm.findClass RX9 = some m.cls := findClass_of_methodNamed B.named
  have hlocks := B.notSynchronized
  have hS : va_S A s.heap s.heap [] := va_S.rf
  have hX : cX none (chs [1, 8]) G ws G ws := cX.rf
  have hl := lv_entry ([.ref o, .int set, .int wide, .int high]) (n := 7) (Nat.le_of_ble_eq_true rfl)
  rw [lg_entry_eq]
  generalize (lg_sl ([.ref o, .int set, .int wide, .int high]) ++ List.replicate (7 - (lg_sl ([.ref o, .int set, .int wide, .int high])).length) Slot.unset).toArray = ls at hl ⊢
  have hl : lv_has ls 7 [(0, .ref o), (1, .int set), (2, .int wide), (3, .int high)] := hl
  have k_m1 : (-1 : Int32).toInt = -1 := by decide
  have k_0 : (0 : Int32).toInt = 0 := by decide
  have k_1 : (1 : Int32).toInt = 1 := by decide
  have k_4 : (4 : Int32).toInt = 4 := by decide
  refine lv_iload_n hx hb dX9_ghostPlaces_0 rfl (lv_at hl 1 rfl) ?_
  refine t_pu (As := [.int set]) (rest := []) ⟨hx, hb, hml, hown, hts⟩ (c_X9_isGhostSet l set ) (va_cwS 1 hts gX9_ghostPlaces_X9_isGhostSet rfl rfl rfl (by decide +kernel) ⟨Nat.le_of_ble_eq_true rfl, Nat.le_of_ble_eq_true rfl⟩) hP rfl hl.1 rfl (Nat.le_of_ble_eq_true rfl) dX9_ghostPlaces_1 ⟨Nat.le_of_ble_eq_true rfl, Nat.le_of_ble_eq_true rfl⟩ hS (fun r1 H locs q1 hP hS => ?_)
  refine lv_if_eq (tgt := 16) hx hb dX9_ghostPlaces_4 (by decide) (fun c4 => ?_) (fun c4 => ?_)
  · skip
    have b4 := bo_f q1 c4
    refine lv_iconst (v := (-1)) hx hb dX9_ghostPlaces_16 (by decide) ?_
    refine W.widen (k := 4) (n := 502) (Nat.le_of_ble_eq_true rfl) (Nat.le_of_ble_eq_true rfl) ?_
    exact W.iret (v := ((-1) : Int32)) hx hb hr (fun t ht hW => ⟨⟨_, (G, ws), rfl, ⟨hX, (by rw [gA_no (by omega)]; rfl)⟩, by show va_P D vwCl ws t.heap; rw [ht]; exact hP, hD, hT⟩, hS.F ht⟩) hS.2.2 dX9_ghostPlaces_17
  · skip
    have b4 := bo_t q1 c4
    refine lv_aload_n hx hb dX9_ghostPlaces_7 rfl (lv_at hl 0 rfl) ?_
    refine lv_iload_n hx hb dX9_ghostPlaces_8 rfl (lv_at hl 2 rfl) ?_
    refine lv_iload_n hx hb dX9_ghostPlaces_9 rfl (lv_at hl 3 rfl) ?_
    obtain ⟨_, hM_o, bs_o, js_o, sh_o, wk_o, ll_o, jc_o, lc_o, mo_o, lb_o, rfl, hjc_o, hlc_o, hG_bs_o, hG_js_o, hG_sh_o, hG_wk_o, hmo_o, hG_ll_o, hlb_o⟩ := hT _ _ hG_o
    refine t_calla (va_runV (g := F0 m 10 ls ([.int high, .int wide, .ref o])) (As := [.int wide, .int high]) (rest := []) ⟨hx, hb, hml, hown, hts⟩ (c_X9_boardOf_x l D cy A G ws o wide high hD hT hG_o ) (cwV 2 hts gX9_ghostPlaces_X9_boardOf rfl rfl rfl (by decide +kernel) ⟨Nat.le_of_ble_eq_true rfl, Nat.le_of_ble_eq_true rfl⟩) (c_preV hM_o rfl hP hK hA hS hV) rfl rfl hl.1 rfl (lv_room (Nat.le_of_ble_eq_true rfl)) dX9_ghostPlaces_10 ⟨Nat.le_of_ble_eq_true rfl, Nat.le_of_ble_eq_true rfl⟩) hS (fun r10 u H locs q10 hP9 hD9 hT9 hS => ?_)
    obtain ⟨G10, w10⟩ := u
    obtain ⟨hX9, q10⟩ := q10
    have hX9 : cX none (chs [1, 8]) G ws G10 w10 := hX9
    have hP : va_P D vwCl w10 H := hP9
    have hD : va_D A w10 := hD9
    have hT : cT cy G10 w10 := hT9
    have hM_o := hX9.2.1 _ _ (cP.no hG_o rfl) hM_o
    have hG_o := hX9.1 _ _ hG_o
    have hG_bs_o := hX9.1 _ _ hG_bs_o
    have hG_js_o := hX9.1 _ _ hG_js_o
    have hG_sh_o := hX9.1 _ _ hG_sh_o
    have hG_wk_o := hX9.1 _ _ hG_wk_o
    have hG_ll_o := hX9.1 _ _ hG_ll_o
    have hX := hX.tr hX9
    rcases r10 with _ | x10
    · skip
      have vn10 := q10.2.1 rfl
      refine lv_ifnonnullN hx hb dX9_ghostPlaces_13 ?_
      refine lv_iconst (v := (-1)) hx hb dX9_ghostPlaces_16 (by decide) ?_
      refine W.widen (k := 4) (n := 502) (Nat.le_of_ble_eq_true rfl) (Nat.le_of_ble_eq_true rfl) ?_
      exact W.iret (v := ((-1) : Int32)) hx hb hr (fun t ht hW => ⟨⟨_, (G10, w10), rfl, ⟨hX, (by rw [gA_no (by omega)]; rfl)⟩, by show va_P D vwCl w10 t.heap; rw [ht]; exact hP, hD, hT⟩, hS.F ht⟩) hS.2.2 dX9_ghostPlaces_17
    · skip
      have hG_x10 := q10.1 x10 rfl
      have vb10 := q10.2.2 x10 rfl
      refine lv_ifnonnull (tgt := 18) hx hb dX9_ghostPlaces_13 (by decide) ?_
      refine lv_iload_n hx hb dX9_ghostPlaces_18 rfl (lv_at hl 2 rfl) ?_
      refine lv_istore (lv' := [(4, .int wide), (0, .ref o), (1, .int set), (2, .int wide), (3, .int high)]) hx hb dX9_ghostPlaces_19 hl (by decide) rfl (fun ls hl => ?_)
      refine lv_iload_n hx hb dX9_ghostPlaces_21 rfl (lv_at hl 4 rfl) ?_
      refine lv_istore (lv' := [(5, .int high), (4, .int wide), (0, .ref o), (1, .int set), (2, .int wide), (3, .int high)]) hx hb dX9_ghostPlaces_22 hl (by decide) rfl (fun ls hl => ?_)
      refine lv_iconst (v := 0) hx hb dX9_ghostPlaces_24 (by decide) ?_
      refine lv_istore (lv' := [(6, .int (0 : Int32)), (5, .int high), (4, .int wide), (0, .ref o), (1, .int set), (2, .int wide), (3, .int high)]) hx hb dX9_ghostPlaces_25 hl (by decide) rfl (fun ls hl => ?_)
      have loop_27 : ∀ (n : Nat) (i : Nat) (x5 : Int32) (x4 : Int32), (i ≤ 4) → (x4.toInt = wide.toInt - gX set i) → (x5.toInt = high.toInt - gY set i) → 4 - i < n → ∀ (H : Heap) (locs : List Loc), va_P D vwCl w10 H → va_S A s.heap H locs → ∀ (ls : Array Slot), lv_has ls 7 [(6, .int (nI i)), (5, .int x5), (4, .int x4), (0, .ref o), (1, .int set), (2, .int wide), (3, .int high)] → W p l e (headSpec wsX9_ghostPlaces ({ frames := 5, cells := 4, slots := 502, locals := 116 })).room s m #[Value.ref o, Value.int set, Value.int wide, Value.int high] below meth c H locs 4 502 (MQ below (va_Qi (fun r0 u => cX none (chs [1, 8]) G ws u.1 u.2 ∧ (r0.toInt = gA set wide high)) (cB D cy A) A) #[Value.ref o, Value.int set, Value.int wide, Value.int high] s 4 502 A) (F0 m 27 ls []) := by
        intro n
        induction n with
        | zero => intro i x5 x4 j27_0 j27_1 j27_2 hn; exact absurd hn (Nat.not_lt_zero _)
        | succ n ih_27 =>
          intro i x5 x4 j27_0 j27_1 j27_2 hn_27 H locs hP hS  ls hl
          have ii : (nI i).toInt = (i : Int) := nI_toInt (by omega)
          have bx := gX_b set i
          have by9 := gY_b set i
          refine lv_iload hx hb dX9_ghostPlaces_27 (lv_at hl 0 rfl) ?_
          refine lv_iconst (v := 4) hx hb dX9_ghostPlaces_29 (by decide) ?_
          refine lv_icmp_ge (tgt := 77) hx hb dX9_ghostPlaces_30 (by decide) (fun c30 => ?_) (fun c30 => ?_)
          · skip
            have d30 := c30
            rw [fa_le] at d30
            obtain rfl : i = 4 := by omega
            refine lv_iload hx hb dX9_ghostPlaces_77 (lv_at hl 2 rfl) ?_
            refine lv_if_le (tgt := 95) hx hb dX9_ghostPlaces_79 (by decide) (fun c79 => ?_) (fun c79 => ?_)
            · skip
              have d79 := c79
              rw [fa_le] at d79
              refine lv_iconst (v := 0) hx hb dX9_ghostPlaces_95 (by decide) ?_
              refine W.widen (k := 4) (n := 502) (Nat.le_of_ble_eq_true rfl) (Nat.le_of_ble_eq_true rfl) ?_
              exact W.iret (v := (0 : Int32)) hx hb hr (fun t ht hW => ⟨⟨_, (G10, w10), rfl, ⟨hX, (by rw [gA_yes (by omega), gP_zero (by omega)]; rfl)⟩, by show va_P D vwCl w10 t.heap; rw [ht]; exact hP, hD, hT⟩, hS.F ht⟩) hS.2.2 dX9_ghostPlaces_96
            · skip
              have d79 := c79
              rw [fa_le] at d79
              refine lv_iload hx hb dX9_ghostPlaces_82 (lv_at hl 1 rfl) ?_
              refine lv_if_le (tgt := 95) hx hb dX9_ghostPlaces_84 (by decide) (fun c84 => ?_) (fun c84 => ?_)
              · skip
                have d84 := c84
                rw [fa_le] at d84
                refine lv_iconst (v := 0) hx hb dX9_ghostPlaces_95 (by decide) ?_
                refine W.widen (k := 4) (n := 502) (Nat.le_of_ble_eq_true rfl) (Nat.le_of_ble_eq_true rfl) ?_
                exact W.iret (v := (0 : Int32)) hx hb hr (fun t ht hW => ⟨⟨_, (G10, w10), rfl, ⟨hX, (by rw [gA_yes (by omega), gP_zero (by omega)]; rfl)⟩, by show va_P D vwCl w10 t.heap; rw [ht]; exact hP, hD, hT⟩, hS.F ht⟩) hS.2.2 dX9_ghostPlaces_96
              · skip
                have d84 := c84
                rw [fa_le] at d84
                refine lv_iload hx hb dX9_ghostPlaces_87 (lv_at hl 2 rfl) ?_
                refine lv_iload hx hb dX9_ghostPlaces_89 (lv_at hl 1 rfl) ?_
                have m91 := mul66 (w := x4) (h := x5) (by omega) (by omega)
                refine lv_imul hx hb dX9_ghostPlaces_91 ?_
                refine lv_topi (fun v91 e91 => ?_)
                have i91 : v91.toInt = x4.toInt * x5.toInt := by rw [e91]; exact fb_mulI (by omega) (by omega)
                refine lv_goto (tgt := 96) hx hb dX9_ghostPlaces_92 (by decide) ?_
                refine W.widen (k := 4) (n := 502) (Nat.le_of_ble_eq_true rfl) (Nat.le_of_ble_eq_true rfl) ?_
                exact W.iret (v := v91) hx hb hr (fun t ht hW => ⟨⟨_, (G10, w10), rfl, ⟨hX, (by rw [gA_yes (by omega), gP_pos j27_1 j27_2 (by omega) (by omega)]; exact i91)⟩, by show va_P D vwCl w10 t.heap; rw [ht]; exact hP, hD, hT⟩, hS.F ht⟩) hS.2.2 dX9_ghostPlaces_96
          · skip
            have d30 := c30
            rw [fa_le] at d30
            refine lv_iload_n hx hb dX9_ghostPlaces_33 rfl (lv_at hl 4 rfl) ?_
            refine lv_iload hx hb dX9_ghostPlaces_34 (lv_at hl 0 rfl) ?_
            refine lv_ishr hx hb dX9_ghostPlaces_36 ?_
            refine lv_topi (fun v36 e36 => ?_)
            refine lv_iconst (v := 1) hx hb dX9_ghostPlaces_37 (by decide) ?_
            refine lv_iand hx hb dX9_ghostPlaces_38 ?_
            refine lv_topi (fun v38 e38 => ?_)
            refine lv_iconst (v := 1) hx hb dX9_ghostPlaces_39 (by decide) ?_
            have hB : gB set i = v38 := by rw [e38, e36]; rfl
            refine lv_icmp_ne (tgt := 71) hx hb dX9_ghostPlaces_40 (by decide) (fun c40 => ?_) (fun c40 => ?_)
            · skip
              have d40 := c40
              rw [fa_eq] at d40
              first | have hx1 := gX_0 (set := set) (k := i) (fun z => c40 (hB.symm.trans z)) | skip
              first | have hy1 := gY_0 (set := set) (k := i) (fun z => c40 (hB.symm.trans z)) | skip
              refine lv_iinc (v := (nI (i + 1))) (lv' := [(6, .int (nI (i + 1))), (5, .int x5), (4, .int x4), (0, .ref o), (1, .int set), (2, .int wide), (3, .int high)]) hx hb dX9_ghostPlaces_71 hl (k := 0) rfl (nI_1 _) (by decide) rfl (fun ls hl => ?_)
              refine lv_goto (tgt := 27) hx hb dX9_ghostPlaces_74 (by decide) ?_
              exact ih_27 (i + 1) x5 x4 (by omega) (by omega) (by omega) (by omega) _ _ hP hS  ls (lv_sub hl [0, 1, 2, 3, 4, 5, 6] rfl)
            · skip
              have d40 := c40
              rw [fa_eq] at d40
              have hx1 := gX_1 (hB.trans c40)
              have hy1 := gY_1 (hB.trans c40)
              have dxb := gdx_b i
              have dyb := gdy_b i
              refine lv_iload hx hb dX9_ghostPlaces_43 (lv_at hl 2 rfl) ?_
              refine va_gets hx hb zX1 hS hown (hts (.fieldLink RX9 309 "ShadowBench$Board" "STEP_X" "[I") (by decide +kernel)) (fun _ h9 => h9) dX9_ghostPlaces_45 ?_
              refine lv_iload hx hb dX9_ghostPlaces_48 (lv_at hl 0 rfl) ?_
              refine va_ti hx hb zX2 hS (i := (nI i)) (vp_in_iff.mpr ⟨by omega, by omega⟩) (v := .int (xX (nI i).toNatClampNeg)) rfl dX9_ghostPlaces_50 ?_
              refine lv_topi (fun v50 e50 => ?_)
              refine va_mabs hx hb (by rw [hml]; exact hl.1.symm) hown (hts (.methodLink RX9 316 Lib.Math.abs.name) (by decide +kernel)) (hts (.static Lib.Math.abs.name) (by decide +kernel)) (hts (.initialized "java/lang/Math") (by decide +kernel)) (hts (.code Lib.Math.abs.name Lib.Math.abs.code 1 (some .int)) (by decide +kernel)) (Nat.le_of_ble_eq_true rfl) (Nat.le_of_ble_eq_true rfl) (Nat.le_of_ble_eq_true rfl) (Nat.le_of_ble_eq_true rfl) dX9_ghostPlaces_51 ?_
              refine lv_topi (fun v51 e51 => ?_)
              have a51 := g_ax (by omega) zX5 e50 e51
              refine lv_isub hx hb dX9_ghostPlaces_54 ?_
              refine lv_topi (fun v54 e54 => ?_)
              have i54 : v54.toInt = x4.toInt - v51.toInt := by rw [e54]; exact fb_subI (by omega) (by omega)
              refine lv_istore (lv' := [(4, .int v54), (6, .int (nI i)), (5, .int x5), (0, .ref o), (1, .int set), (2, .int wide), (3, .int high)]) hx hb dX9_ghostPlaces_55 hl (by decide) rfl (fun ls hl => ?_)
              refine lv_iload hx hb dX9_ghostPlaces_57 (lv_at hl 2 rfl) ?_
              refine va_gets hx hb zY1 hS hown (hts (.fieldLink RX9 313 "ShadowBench$Board" "STEP_Y" "[I") (by decide +kernel)) (fun _ h9 => h9) dX9_ghostPlaces_59 ?_
              refine lv_iload hx hb dX9_ghostPlaces_62 (lv_at hl 1 rfl) ?_
              refine va_ti hx hb zY2 hS (i := (nI i)) (vp_in_iff.mpr ⟨by omega, by omega⟩) (v := .int (xY (nI i).toNatClampNeg)) rfl dX9_ghostPlaces_64 ?_
              refine lv_topi (fun v64 e64 => ?_)
              refine va_mabs hx hb (by rw [hml]; exact hl.1.symm) hown (hts (.methodLink RX9 316 Lib.Math.abs.name) (by decide +kernel)) (hts (.static Lib.Math.abs.name) (by decide +kernel)) (hts (.initialized "java/lang/Math") (by decide +kernel)) (hts (.code Lib.Math.abs.name Lib.Math.abs.code 1 (some .int)) (by decide +kernel)) (Nat.le_of_ble_eq_true rfl) (Nat.le_of_ble_eq_true rfl) (Nat.le_of_ble_eq_true rfl) (Nat.le_of_ble_eq_true rfl) dX9_ghostPlaces_65 ?_
              refine lv_topi (fun v65 e65 => ?_)
              have a65 := g_ay (by omega) zY5 e64 e65
              refine lv_isub hx hb dX9_ghostPlaces_68 ?_
              refine lv_topi (fun v68 e68 => ?_)
              have i68 : v68.toInt = x5.toInt - v65.toInt := by rw [e68]; exact fb_subI (by omega) (by omega)
              refine lv_istore (lv' := [(5, .int v68), (4, .int v54), (6, .int (nI i)), (0, .ref o), (1, .int set), (2, .int wide), (3, .int high)]) hx hb dX9_ghostPlaces_69 hl (by decide) rfl (fun ls hl => ?_)
              first | have hx1 := gX_0 (set := set) (k := i) (fun z => c40 (hB.symm.trans z)) | skip
              first | have hy1 := gY_0 (set := set) (k := i) (fun z => c40 (hB.symm.trans z)) | skip
              refine lv_iinc (v := (nI (i + 1))) (lv' := [(6, .int (nI (i + 1))), (5, .int v68), (4, .int v54), (0, .ref o), (1, .int set), (2, .int wide), (3, .int high)]) hx hb dX9_ghostPlaces_71 hl (k := 2) rfl (nI_1 _) (by decide) rfl (fun ls hl => ?_)
              refine lv_goto (tgt := 27) hx hb dX9_ghostPlaces_74 (by decide) ?_
              exact ih_27 (i + 1) v68 v54 (by omega) (by omega) (by omega) (by omega) _ _ hP hS  ls (lv_sub hl [0, 1, 2, 3, 4, 5, 6] rfl)
      exact loop_27 (4 + 1) 0 high wide (by omega) (by simp [gX]) (by simp [gY]) (by omega) _ _ hP hS  ls (lv_sub hl [0, 1, 2, 3, 4, 5, 6] rfl)
set_option maxHeartbeats 4000000 in
set_option maxRecDepth 100000 in
theorem c_X9_haunts_x (l : Launch) (D : va_G) (cy : Nat → ClassId) (A : Nat → Prop) (G : cG) (ws : va_W) (o : Nat) (set : Int32) (wide : Int32) (high : Int32)  (hD : va_D A ws) (hT : cT cy G ws) (hG_o : G o = some (7, 0, 0))  : Ei l D cy A yX9_haunts wsX9_haunts ({ frames := 6, cells := 4, slots := 502, locals := 142 }) 4 502 ws [.ref o, .int set, .int wide, .int high] (fun r0 u => cX none (chs [1, 8]) G ws u.1 u.2 ∧ (r0.toInt = gH set wide high)) := by
  refine Met.ofW (cc := cX9_haunts) (maxL := 5) (ret := (some .int)) (by decide) rfl ?_
  intro p e s m args below meth c s₁ B hml hv
  obtain ⟨rfl, ⟨hP, hK, hA, hV⟩, hZ⟩ := hv
  obtain ⟨tX, tY, xX, xY, ⟨zX1, zX2, zX5⟩, ⟨zY1, zY2, zY5⟩⟩ := id hZ
  have hx := B.exec
  have hb := B.bytes
  have hr := B.returns
  have hts := atoms_spec (ws := wsX9_haunts) B.pre
  have hown : s.vm.findClass RX9 = some m.cls := findClass_of_methodNamed B.named
  have hlocks := B.notSynchronized
  have hS : va_S A s.heap s.heap [] := va_S.rf
  have hX : cX none (chs [1, 8]) G ws G ws := cX.rf
  have hl := lv_entry ([.ref o, .int set, .int wide, .int high]) (n := 5) (Nat.le_of_ble_eq_true rfl)
  rw [lg_entry_eq]
  generalize (lg_sl ([.ref o, .int set, .int wide, .int high]) ++ List.replicate (5 - (lg_sl ([.ref o, .int set, .int wide, .int high])).length) Slot.unset).toArray = ls at hl ⊢
  have hl : lv_has ls 5 [(0, .ref o), (1, .int set), (2, .int wide), (3, .int high)] := hl
  have k_0 : (0 : Int32).toInt = 0 := by decide
  have k_1 : (1 : Int32).toInt = 1 := by decide
  refine lv_aload_n hx hb dX9_haunts_0 rfl (lv_at hl 0 rfl) ?_
  refine lv_iload_n hx hb dX9_haunts_1 rfl (lv_at hl 1 rfl) ?_
  refine lv_iload_n hx hb dX9_haunts_2 rfl (lv_at hl 2 rfl) ?_
  refine lv_iload_n hx hb dX9_haunts_3 rfl (lv_at hl 3 rfl) ?_
  obtain ⟨_, hM_o, bs_o, js_o, sh_o, wk_o, ll_o, jc_o, lc_o, mo_o, lb_o, rfl, hjc_o, hlc_o, hG_bs_o, hG_js_o, hG_sh_o, hG_wk_o, hmo_o, hG_ll_o, hlb_o⟩ := hT _ _ hG_o
  refine t_calli (va_runV (g := F0 m 4 ls ([.int high, .int wide, .int set, .ref o])) (As := [.int set, .int wide, .int high]) (rest := []) ⟨hx, hb, hml, hown, hts⟩ (c_X9_ghostPlaces_x l D cy A G ws o set wide high hD hT hG_o ) (cwV 3 hts gX9_haunts_X9_ghostPlaces rfl rfl rfl (by decide +kernel) ⟨Nat.le_of_ble_eq_true rfl, Nat.le_of_ble_eq_true rfl⟩) (e_preV hM_o rfl hP hK hA hS hV hZ) rfl rfl hl.1 rfl (lv_room (Nat.le_of_ble_eq_true rfl)) dX9_haunts_4 ⟨Nat.le_of_ble_eq_true rfl, Nat.le_of_ble_eq_true rfl⟩) hS (fun r4 u H locs q4 hP9 hD9 hT9 hS => ?_)
  obtain ⟨G4, w4⟩ := u
  obtain ⟨hX9, q4⟩ := q4
  have hX9 : cX none (chs [1, 8]) G ws G4 w4 := hX9
  have hP : va_P D vwCl w4 H := hP9
  have hD : va_D A w4 := hD9
  have hT : cT cy G4 w4 := hT9
  have hM_o := hX9.2.1 _ _ (cP.no hG_o rfl) hM_o
  have hG_o := hX9.1 _ _ hG_o
  have hG_bs_o := hX9.1 _ _ hG_bs_o
  have hG_js_o := hX9.1 _ _ hG_js_o
  have hG_sh_o := hX9.1 _ _ hG_sh_o
  have hG_wk_o := hX9.1 _ _ hG_wk_o
  have hG_ll_o := hX9.1 _ _ hG_ll_o
  have hX := hX.tr hX9
  refine lv_istore (lv' := [(4, .int r4), (0, .ref o), (1, .int set), (2, .int wide), (3, .int high)]) hx hb dX9_haunts_7 hl (by decide) rfl (fun ls hl => ?_)
  refine lv_iload hx hb dX9_haunts_9 (lv_at hl 0 rfl) ?_
  refine lv_if_le (tgt := 18) hx hb dX9_haunts_11 (by decide) (fun c11 => ?_) (fun c11 => ?_)
  · skip
    have d11 := c11
    rw [fa_le] at d11
    refine lv_iload hx hb dX9_haunts_18 (lv_at hl 0 rfl) ?_
    refine W.widen (k := 4) (n := 502) (Nat.le_of_ble_eq_true rfl) (Nat.le_of_ble_eq_true rfl) ?_
    exact W.iret (v := r4) hx hb hr (fun t ht hW => ⟨⟨_, (G4, w4), rfl, ⟨hX, (by unfold gH; rw [if_neg (by omega)]; exact q4)⟩, by show va_P D vwCl w4 t.heap; rw [ht]; exact hP, hD, hT⟩, hS.F ht⟩) hS.2.2 dX9_haunts_20
  · skip
    have d11 := c11
    rw [fa_le] at d11
    refine lv_iconst (v := 1) hx hb dX9_haunts_14 (by decide) ?_
    refine lv_goto (tgt := 20) hx hb dX9_haunts_15 (by decide) ?_
    refine W.widen (k := 4) (n := 502) (Nat.le_of_ble_eq_true rfl) (Nat.le_of_ble_eq_true rfl) ?_
    exact W.iret (v := (1 : Int32)) hx hb hr (fun t ht hW => ⟨⟨_, (G4, w4), rfl, ⟨hX, (by unfold gH; rw [if_pos (by omega)]; rfl)⟩, by show va_P D vwCl w4 t.heap; rw [ht]; exact hP, hD, hT⟩, hS.F ht⟩) hS.2.2 dX9_haunts_20
set_option maxHeartbeats 4000000 in
set_option maxRecDepth 100000 in
theorem c_X9_ghosts_x (l : Launch) (D : va_G) (cy : Nat → ClassId) (A : Nat → Prop) (G : cG) (ws : va_W) (o : Nat) (set : Int32) (wide : Int32) (high : Int32)  (hD : va_D A ws) (hT : cT cy G ws) (hG_o : G o = some (7, 0, 0))  : Ei l D cy A yX9_ghosts wsX9_ghosts ({ frames := 6, cells := 4, slots := 502, locals := 142 }) 4 502 ws [.ref o, .int set, .int wide, .int high] (fun r0 u => cX none (chs [1, 8]) G ws u.1 u.2 ∧ (r0.toInt = gA set wide high)) := by
  refine Met.ofW (cc := cX9_ghosts) (maxL := 4) (ret := (some .int)) (by decide) rfl ?_
  intro p e s m args below meth c s₁ B hml hv
  obtain ⟨rfl, ⟨hP, hK, hA, hV⟩, hZ⟩ := hv
  obtain ⟨tX, tY, xX, xY, ⟨zX1, zX2, zX5⟩, ⟨zY1, zY2, zY5⟩⟩ := id hZ
  have hx := B.exec
  have hb := B.bytes
  have hr := B.returns
  have hts := atoms_spec (ws := wsX9_ghosts) B.pre
  have hown : s.vm.findClass RX9 = some m.cls := findClass_of_methodNamed B.named
  have hlocks := B.notSynchronized
  have hS : va_S A s.heap s.heap [] := va_S.rf
  have hX : cX none (chs [1, 8]) G ws G ws := cX.rf
  have hl := lv_entry ([.ref o, .int set, .int wide, .int high]) (n := 4) (Nat.le_of_ble_eq_true rfl)
  rw [lg_entry_eq]
  generalize (lg_sl ([.ref o, .int set, .int wide, .int high]) ++ List.replicate (4 - (lg_sl ([.ref o, .int set, .int wide, .int high])).length) Slot.unset).toArray = ls at hl ⊢
  have hl : lv_has ls 4 [(0, .ref o), (1, .int set), (2, .int wide), (3, .int high)] := hl
  have k_0 : (0 : Int32).toInt = 0 := by decide
  refine lv_aload_n hx hb dX9_ghosts_0 rfl (lv_at hl 0 rfl) ?_
  refine lv_iload_n hx hb dX9_ghosts_1 rfl (lv_at hl 1 rfl) ?_
  refine lv_iload_n hx hb dX9_ghosts_2 rfl (lv_at hl 2 rfl) ?_
  refine lv_iload_n hx hb dX9_ghosts_3 rfl (lv_at hl 3 rfl) ?_
  obtain ⟨_, hM_o, bs_o, js_o, sh_o, wk_o, ll_o, jc_o, lc_o, mo_o, lb_o, rfl, hjc_o, hlc_o, hG_bs_o, hG_js_o, hG_sh_o, hG_wk_o, hmo_o, hG_ll_o, hlb_o⟩ := hT _ _ hG_o
  refine t_calli (va_runV (g := F0 m 4 ls ([.int high, .int wide, .int set, .ref o])) (As := [.int set, .int wide, .int high]) (rest := []) ⟨hx, hb, hml, hown, hts⟩ (c_X9_ghostPlaces_x l D cy A G ws o set wide high hD hT hG_o ) (cwV 3 hts gX9_ghosts_X9_ghostPlaces rfl rfl rfl (by decide +kernel) ⟨Nat.le_of_ble_eq_true rfl, Nat.le_of_ble_eq_true rfl⟩) (e_preV hM_o rfl hP hK hA hS hV hZ) rfl rfl hl.1 rfl (lv_room (Nat.le_of_ble_eq_true rfl)) dX9_ghosts_4 ⟨Nat.le_of_ble_eq_true rfl, Nat.le_of_ble_eq_true rfl⟩) hS (fun r4 u H locs q4 hP9 hD9 hT9 hS => ?_)
  obtain ⟨G4, w4⟩ := u
  obtain ⟨hX9, q4⟩ := q4
  have hX9 : cX none (chs [1, 8]) G ws G4 w4 := hX9
  have hP : va_P D vwCl w4 H := hP9
  have hD : va_D A w4 := hD9
  have hT : cT cy G4 w4 := hT9
  have hM_o := hX9.2.1 _ _ (cP.no hG_o rfl) hM_o
  have hG_o := hX9.1 _ _ hG_o
  have hG_bs_o := hX9.1 _ _ hG_bs_o
  have hG_js_o := hX9.1 _ _ hG_js_o
  have hG_sh_o := hX9.1 _ _ hG_sh_o
  have hG_wk_o := hX9.1 _ _ hG_wk_o
  have hG_ll_o := hX9.1 _ _ hG_ll_o
  have hX := hX.tr hX9
  refine W.widen (k := 4) (n := 502) (Nat.le_of_ble_eq_true rfl) (Nat.le_of_ble_eq_true rfl) ?_
  exact W.iret (v := r4) hx hb hr (fun t ht hW => ⟨⟨_, (G4, w4), rfl, ⟨hX, q4⟩, by show va_P D vwCl w4 t.heap; rw [ht]; exact hP, hD, hT⟩, hS.F ht⟩) hS.2.2 dX9_ghosts_7
set_option maxHeartbeats 4000000 in
set_option maxRecDepth 100000 in
theorem c_X10_across_x (l : Launch) (way : Int32)  : Pu l yX10_across wsX10_across ({ frames := 0, cells := 0, slots := 0, locals := 0 }) [.int way] (fun r => r.toInt = (if way.toInt = 1 then 0 else 1)) := by
  refine Met.ofW (cc := cX10_across) (maxL := 1) (ret := (some .int)) (by decide) rfl ?_
  intro p e s m args below meth c s₁ B hml hv
  obtain ⟨rfl, -⟩ := hv
  have hx := B.exec
  have hb := B.bytes
  have hr := B.returns
  have hts := atoms_spec (ws := wsX10_across) B.pre
  have hown : s.vm.findClass RX10 = some m.cls := findClass_of_methodNamed B.named
  have hlocks := B.notSynchronized
  have hS : va_S (fun _ => False) s.heap s.heap [] := va_S.rf
  have hl := lv_entry ([.int way]) (n := 1) (Nat.le_of_ble_eq_true rfl)
  rw [lg_entry_eq]
  generalize (lg_sl ([.int way]) ++ List.replicate (1 - (lg_sl ([.int way])).length) Slot.unset).toArray = ls at hl ⊢
  have hl : lv_has ls 1 [(0, .int way)] := hl
  have hS0 := hS
  have k_0 : (0 : Int32).toInt = 0 := by decide
  have k_1 : (1 : Int32).toInt = 1 := by decide
  refine lv_iload_n hx hb dX10_across_0 rfl (lv_at hl 0 rfl) ?_
  refine lv_iconst (v := 1) hx hb dX10_across_1 (by decide) ?_
  refine lv_icmp_ne (tgt := 9) hx hb dX10_across_2 (by decide) (fun c2 => ?_) (fun c2 => ?_)
  · skip
    have d2 := c2
    rw [fa_eq] at d2
    refine lv_iconst (v := 1) hx hb dX10_across_9 (by decide) ?_
    exact W.iret (v := (1 : Int32)) hx hb hr (fun t ht hW => ⟨⟨_, (), rfl, (by first | (rw [if_pos (by omega)]; rfl) | (rw [if_neg (by omega)]; rfl)), trivial⟩, hS.F ht⟩) hS.2.2 dX10_across_10
  · skip
    have d2 := c2
    rw [fa_eq] at d2
    refine lv_iconst (v := 0) hx hb dX10_across_5 (by decide) ?_
    refine lv_goto (tgt := 10) hx hb dX10_across_6 (by decide) ?_
    exact W.iret (v := (0 : Int32)) hx hb hr (fun t ht hW => ⟨⟨_, (), rfl, (by first | (rw [if_pos (by omega)]; rfl) | (rw [if_neg (by omega)]; rfl)), trivial⟩, hS.F ht⟩) hS.2.2 dX10_across_10

set_option maxHeartbeats 4000000 in
set_option maxRecDepth 100000 in
theorem c_X10_placesOf_x (l : Launch) (D : va_G) (cy : Nat → ClassId) (mo : Nat) (a : Nat → Nat) (f : Nat → Int32) (g : Nat → Int64) (r : Nat → Nat → Int32) (q : Nat → Nat → Int64) (ways : Int32) (w : Int32) (h : Int32) (hD : DM cy mo a) (hw : 1 ≤ w.toInt ∧ w.toInt ≤ 6) (hh : 1 ≤ h.toInt ∧ h.toInt ≤ 6) : Mi l D cy mo a yX10_placesOf wsX10_placesOf ({ frames := 1, cells := 0, slots := 0, locals := 20 }) f g r q [.int ways, .int w, .int h] (fun r0 u => u = (f, g, r, q) ∧ (r0.toInt = gP ways w h)) := by
  refine Met.ofW (cc := cX10_placesOf) (maxL := 8) (ret := (some .int)) (by decide) rfl ?_
  intro p e s m args below meth c s₁ B hml hv
  obtain ⟨rfl, hP, hK⟩ := hv
  have hx := B.exec
  have hb := B.bytes
  have hr := B.returns
  have hts := atoms_spec (ws := wsX10_placesOf) B.pre
  skip
  have hown : s.vm.findClass RX10 = some m.cls := findClass_of_methodNamed B.named
  have hlocks := B.notSynchronized
  have hS : va_S (AM mo a) s.heap s.heap [] := va_S.rf
  have hl := lv_entry ([.ref mo, .int ways, .int w, .int h]) (n := 8) (Nat.le_of_ble_eq_true rfl)
  rw [lg_entry_eq]
  generalize (lg_sl ([.ref mo, .int ways, .int w, .int h]) ++ List.replicate (8 - (lg_sl ([.ref mo, .int ways, .int w, .int h])).length) Slot.unset).toArray = ls at hl ⊢
  have hl : lv_has ls 8 [(0, .ref mo), (1, .int ways), (2, .int w), (3, .int h)] := hl
  have k_0 : (0 : Int32).toInt = 0 := by decide
  have k_1 : (1 : Int32).toInt = 1 := by decide
  have k_4 : (4 : Int32).toInt = 4 := by decide
  refine lv_iconst (v := 1) hx hb dX10_placesOf_0 (by decide) ?_
  refine lv_istore (lv' := [(4, .int (1 : Int32)), (0, .ref mo), (1, .int ways), (2, .int w), (3, .int h)]) hx hb dX10_placesOf_1 hl (by decide) rfl (fun ls hl => ?_)
  refine lv_iconst (v := 1) hx hb dX10_placesOf_3 (by decide) ?_
  refine lv_istore (lv' := [(5, .int (1 : Int32)), (4, .int (1 : Int32)), (0, .ref mo), (1, .int ways), (2, .int w), (3, .int h)]) hx hb dX10_placesOf_4 hl (by decide) rfl (fun ls hl => ?_)
  refine lv_iconst (v := 0) hx hb dX10_placesOf_6 (by decide) ?_
  refine lv_istore (lv' := [(6, .int (0 : Int32)), (5, .int (1 : Int32)), (4, .int (1 : Int32)), (0, .ref mo), (1, .int ways), (2, .int w), (3, .int h)]) hx hb dX10_placesOf_7 hl (by decide) rfl (fun ls hl => ?_)
  have loop_9 : ∀ (n : Nat) (k : Nat) (x5 : Int32) (x4 : Int32), (k ≤ 4) → (x4.toInt = 1 + gX ways k) → (x5.toInt = 1 + gY ways k) → 4 - k < n → ∀ (H : Heap) (locs : List Loc), va_P D vwCl (WM cy mo a f g r q) H → va_S (AM mo a) s.heap H locs → ∀ (ls : Array Slot), lv_has ls 8 [(6, .int (nI k)), (5, .int x5), (4, .int x4), (0, .ref mo), (1, .int ways), (2, .int w), (3, .int h)] → W p l e (headSpec wsX10_placesOf ({ frames := 1, cells := 0, slots := 0, locals := 20 })).room s m #[Value.ref mo, Value.int ways, Value.int w, Value.int h] below meth c H locs 0 0 (MQ below (va_Qi (fun r0 u => u = (f, g, r, q) ∧ (r0.toInt = gP ways w h)) (mB D cy mo a) (AM mo a)) #[Value.ref mo, Value.int ways, Value.int w, Value.int h] s 0 0 (AM mo a)) (F0 m 9 ls []) := by
    intro n
    induction n with
    | zero => intro k x5 x4  j9_0 j9_1 j9_2 hn; exact absurd hn (Nat.not_lt_zero _)
    | succ n ih_9 =>
      intro k x5 x4  j9_0 j9_1 j9_2 hn_9 H locs hP hS ls hl
      have ik : (nI k).toInt = (k : Int) := nI_toInt (by omega)
      have bx := gX_b ways k
      have by9 := gY_b ways k
      refine lv_iload hx hb dX10_placesOf_9 (lv_at hl 0 rfl) ?_
      refine lv_iconst (v := 4) hx hb dX10_placesOf_11 (by decide) ?_
      refine lv_icmp_ge (tgt := 77) hx hb dX10_placesOf_12 (by decide) (fun c12 => ?_) (fun c12 => ?_)
      · skip
        have d12 := c12
        rw [fa_le] at d12
        obtain rfl : k = 4 := by omega
        refine lv_iload_n hx hb dX10_placesOf_77 rfl (lv_at hl 5 rfl) ?_
        refine lv_iload hx hb dX10_placesOf_78 (lv_at hl 2 rfl) ?_
        refine lv_icmp_lt (tgt := 89) hx hb dX10_placesOf_80 (by decide) (fun c80 => ?_) (fun c80 => ?_)
        · skip
          have d80 := c80
          rw [fa_lt] at d80
          refine lv_iconst (v := 0) hx hb dX10_placesOf_89 (by decide) ?_
          refine lv_goto (tgt := 106) hx hb dX10_placesOf_90 (by decide) ?_
          exact W.iret (v := (0 : Int32)) hx hb hr (fun t ht hW => ⟨⟨_, (f, g, r, q), rfl, ⟨rfl, (by rw [gP_zero (by omega)]; rfl)⟩, by unfold mB; rw [ht]; exact hP⟩, hS.F ht⟩) hS.2.2 dX10_placesOf_106
        · skip
          have d80 := c80
          rw [fa_lt] at d80
          refine lv_iload_n hx hb dX10_placesOf_83 rfl (lv_at hl 6 rfl) ?_
          refine lv_iload hx hb dX10_placesOf_84 (lv_at hl 1 rfl) ?_
          refine lv_icmp_ge (tgt := 93) hx hb dX10_placesOf_86 (by decide) (fun c86 => ?_) (fun c86 => ?_)
          · skip
            have d86 := c86
            rw [fa_le] at d86
            refine lv_iload_n hx hb dX10_placesOf_93 rfl (lv_at hl 5 rfl) ?_
            refine lv_iload hx hb dX10_placesOf_94 (lv_at hl 2 rfl) ?_
            refine lv_isub hx hb dX10_placesOf_96 ?_
            refine lv_topi (fun v96 e96 => ?_)
            have i96 : v96.toInt = w.toInt - x4.toInt := by rw [e96]; exact fb_subI (by omega) (by omega)
            refine lv_iconst (v := 1) hx hb dX10_placesOf_97 (by decide) ?_
            refine lv_iadd hx hb dX10_placesOf_98 ?_
            refine lv_topi (fun v98 e98 => ?_)
            have i98 : v98.toInt = v96.toInt + (1 : Int32).toInt := by rw [e98]; exact fb_addI (by omega) (by omega)
            refine lv_iload_n hx hb dX10_placesOf_99 rfl (lv_at hl 6 rfl) ?_
            refine lv_iload hx hb dX10_placesOf_100 (lv_at hl 1 rfl) ?_
            refine lv_isub hx hb dX10_placesOf_102 ?_
            refine lv_topi (fun v102 e102 => ?_)
            have i102 : v102.toInt = h.toInt - x5.toInt := by rw [e102]; exact fb_subI (by omega) (by omega)
            refine lv_iconst (v := 1) hx hb dX10_placesOf_103 (by decide) ?_
            refine lv_iadd hx hb dX10_placesOf_104 ?_
            refine lv_topi (fun v104 e104 => ?_)
            have i104 : v104.toInt = v102.toInt + (1 : Int32).toInt := by rw [e104]; exact fb_addI (by omega) (by omega)
            have m105 := mul66 (w := v98) (h := v104) (by omega) (by omega)
            refine lv_imul hx hb dX10_placesOf_105 ?_
            refine lv_topi (fun v105 e105 => ?_)
            have i105 : v105.toInt = v98.toInt * v104.toInt := by rw [e105]; exact fb_mulI (by omega) (by omega)
            exact W.iret (v := v105) hx hb hr (fun t ht hW => ⟨⟨_, (f, g, r, q), rfl, ⟨rfl, (by rw [gP_pos (x := v98.toInt) (y := v104.toInt) (by omega) (by omega) (by omega) (by omega)]; exact i105)⟩, by unfold mB; rw [ht]; exact hP⟩, hS.F ht⟩) hS.2.2 dX10_placesOf_106
          · skip
            have d86 := c86
            rw [fa_le] at d86
            refine lv_iconst (v := 0) hx hb dX10_placesOf_89 (by decide) ?_
            refine lv_goto (tgt := 106) hx hb dX10_placesOf_90 (by decide) ?_
            exact W.iret (v := (0 : Int32)) hx hb hr (fun t ht hW => ⟨⟨_, (f, g, r, q), rfl, ⟨rfl, (by rw [gP_zero (by omega)]; rfl)⟩, by unfold mB; rw [ht]; exact hP⟩, hS.F ht⟩) hS.2.2 dX10_placesOf_106
      · skip
        have d12 := c12
        rw [fa_le] at d12
        refine lv_iload_n hx hb dX10_placesOf_15 rfl (lv_at hl 4 rfl) ?_
        refine lv_iload hx hb dX10_placesOf_16 (lv_at hl 0 rfl) ?_
        refine lv_ishr hx hb dX10_placesOf_18 ?_
        refine lv_topi (fun v18 e18 => ?_)
        refine lv_iconst (v := 1) hx hb dX10_placesOf_19 (by decide) ?_
        refine lv_iand hx hb dX10_placesOf_20 ?_
        refine lv_topi (fun v20 e20 => ?_)
        refine lv_iconst (v := 1) hx hb dX10_placesOf_21 (by decide) ?_
        have hB : gB ways k = v20 := by rw [e20, e18]; rfl
        refine lv_icmp_ne (tgt := 29) hx hb dX10_placesOf_22 (by decide) (fun c22 => ?_) (fun c22 => ?_)
        · skip
          have d22 := c22
          rw [fa_eq] at d22
          have hx1 := gX_0 (set := ways) (k := k) (fun z => c22 (hB.symm.trans z))
          have hy1 := gY_0 (set := ways) (k := k) (fun z => c22 (hB.symm.trans z))
          refine lv_iconst (v := 0) hx hb dX10_placesOf_29 (by decide) ?_
          refine lv_istore (lv' := [(7, .int (0 : Int32)), (6, .int (nI k)), (5, .int x5), (4, .int x4), (0, .ref mo), (1, .int ways), (2, .int w), (3, .int h)]) hx hb dX10_placesOf_30 hl (by decide) rfl (fun ls hl => ?_)
          refine lv_iload hx hb dX10_placesOf_32 (lv_at hl 3 rfl) ?_
          refine lv_iload hx hb dX10_placesOf_34 (lv_at hl 0 rfl) ?_
          refine lv_if_eq (tgt := 47) hx hb dX10_placesOf_36 (by decide) (fun c36 => ?_) (fun c36 => ?_)
          · skip
            have d36 := c36
            rw [fa_eq] at d36
            refine lv_iconst (v := 0) hx hb dX10_placesOf_47 (by decide) ?_
            refine lv_iadd hx hb dX10_placesOf_48 ?_
            refine lv_topi (fun v48 e48 => ?_)
            have i48 : v48.toInt = x4.toInt + (0 : Int32).toInt := by rw [e48]; exact fb_addI (by omega) (by omega)
            refine lv_istore (lv' := [(4, .int v48), (7, .int (0 : Int32)), (6, .int (nI k)), (5, .int x5), (0, .ref mo), (1, .int ways), (2, .int w), (3, .int h)]) hx hb dX10_placesOf_49 hl (by decide) rfl (fun ls hl => ?_)
            refine lv_iload hx hb dX10_placesOf_51 (lv_at hl 3 rfl) ?_
            refine lv_iload hx hb dX10_placesOf_53 (lv_at hl 1 rfl) ?_
            refine lv_if_eq (tgt := 67) hx hb dX10_placesOf_55 (by decide) (fun c55 => ?_) (fun c55 => ?_)
            · skip
              have d55 := c55
              rw [fa_eq] at d55
              first | have a67 : gdy k = 0 := (by unfold gdy; rw [if_pos (by omega)]) | skip
              refine lv_iconst (v := 0) hx hb dX10_placesOf_67 (by decide) ?_
              refine lv_iadd hx hb dX10_placesOf_68 ?_
              refine lv_topi (fun v68 e68 => ?_)
              have i68 : v68.toInt = x5.toInt + (0 : Int32).toInt := by rw [e68]; exact fb_addI (by omega) (by omega)
              refine lv_istore (lv' := [(5, .int v68), (4, .int v48), (7, .int (0 : Int32)), (6, .int (nI k)), (0, .ref mo), (1, .int ways), (2, .int w), (3, .int h)]) hx hb dX10_placesOf_69 hl (by decide) rfl (fun ls hl => ?_)
              refine lv_iinc (v := (nI (k + 1))) (lv' := [(6, .int (nI (k + 1))), (5, .int v68), (4, .int v48), (7, .int (0 : Int32)), (0, .ref mo), (1, .int ways), (2, .int w), (3, .int h)]) hx hb dX10_placesOf_71 hl (k := 3) rfl (nI_1 _) (by decide) rfl (fun ls hl => ?_)
              refine lv_goto (tgt := 9) hx hb dX10_placesOf_74 (by decide) ?_
              exact ih_9 (k + 1) v68 v48 (by omega) (by omega) (by omega) (by omega) _ _ hP hS ls (lv_sub hl [0, 1, 2, 4, 5, 6, 7] rfl)
            · first | exact absurd c55 (by decide) | exact absurd (by decide) c55
          · first | exact absurd c36 (by decide) | exact absurd (by decide) c36
        · skip
          have d22 := c22
          rw [fa_eq] at d22
          have hx1 := gX_1 (hB.trans c22)
          have hy1 := gY_1 (hB.trans c22)
          have dxb := gdx_b k
          have dyb := gdy_b k
          refine lv_iconst (v := 1) hx hb dX10_placesOf_25 (by decide) ?_
          refine lv_goto (tgt := 30) hx hb dX10_placesOf_26 (by decide) ?_
          refine lv_istore (lv' := [(7, .int (1 : Int32)), (6, .int (nI k)), (5, .int x5), (4, .int x4), (0, .ref mo), (1, .int ways), (2, .int w), (3, .int h)]) hx hb dX10_placesOf_30 hl (by decide) rfl (fun ls hl => ?_)
          refine lv_iload hx hb dX10_placesOf_32 (lv_at hl 3 rfl) ?_
          refine lv_iload hx hb dX10_placesOf_34 (lv_at hl 0 rfl) ?_
          refine lv_if_eq (tgt := 47) hx hb dX10_placesOf_36 (by decide) (fun c36 => ?_) (fun c36 => ?_)
          · first | exact absurd c36 (by decide) | exact absurd (by decide) c36
          · skip
            have d36 := c36
            rw [fa_eq] at d36
            refine lv_iload hx hb dX10_placesOf_39 (lv_at hl 1 rfl) ?_
            refine m_pu (As := [.int (nI k)]) (rest := [.int x4]) ⟨hx, hb, hml, hown, hts⟩ (c_X10_across_x l (nI k) ) (va_cwS 1 hts gX10_placesOf_X10_across rfl rfl rfl (by decide +kernel) ⟨Nat.le_of_ble_eq_true rfl, Nat.le_of_ble_eq_true rfl⟩) hP rfl hl.1 rfl (Nat.le_of_ble_eq_true rfl) dX10_placesOf_41 ⟨Nat.le_of_ble_eq_true rfl, Nat.le_of_ble_eq_true rfl⟩ hS (fun r41 H locs q41 hP hS => ?_)
            have a41 : r41.toInt = gdx k := by rw [q41, ik]; unfold gdx; split <;> split <;> omega
            refine lv_goto (tgt := 48) hx hb dX10_placesOf_44 (by decide) ?_
            refine lv_iadd hx hb dX10_placesOf_48 ?_
            refine lv_topi (fun v48 e48 => ?_)
            have i48 : v48.toInt = x4.toInt + r41.toInt := by rw [e48]; exact fb_addI (by omega) (by omega)
            refine lv_istore (lv' := [(4, .int v48), (7, .int (1 : Int32)), (6, .int (nI k)), (5, .int x5), (0, .ref mo), (1, .int ways), (2, .int w), (3, .int h)]) hx hb dX10_placesOf_49 hl (by decide) rfl (fun ls hl => ?_)
            refine lv_iload hx hb dX10_placesOf_51 (lv_at hl 3 rfl) ?_
            refine lv_iload hx hb dX10_placesOf_53 (lv_at hl 1 rfl) ?_
            refine lv_if_eq (tgt := 67) hx hb dX10_placesOf_55 (by decide) (fun c55 => ?_) (fun c55 => ?_)
            · first | exact absurd c55 (by decide) | exact absurd (by decide) c55
            · skip
              have d55 := c55
              rw [fa_eq] at d55
              refine lv_iload hx hb dX10_placesOf_58 (lv_at hl 2 rfl) ?_
              refine lv_if_le (tgt := 67) hx hb dX10_placesOf_60 (by decide) (fun c60 => ?_) (fun c60 => ?_)
              · skip
                have d60 := c60
                rw [fa_le] at d60
                first | have a67 : gdy k = 0 := (by unfold gdy; rw [if_pos (by omega)]) | skip
                refine lv_iconst (v := 0) hx hb dX10_placesOf_67 (by decide) ?_
                refine lv_iadd hx hb dX10_placesOf_68 ?_
                refine lv_topi (fun v68 e68 => ?_)
                have i68 : v68.toInt = x5.toInt + (0 : Int32).toInt := by rw [e68]; exact fb_addI (by omega) (by omega)
                refine lv_istore (lv' := [(5, .int v68), (4, .int v48), (7, .int (1 : Int32)), (6, .int (nI k)), (0, .ref mo), (1, .int ways), (2, .int w), (3, .int h)]) hx hb dX10_placesOf_69 hl (by decide) rfl (fun ls hl => ?_)
                refine lv_iinc (v := (nI (k + 1))) (lv' := [(6, .int (nI (k + 1))), (5, .int v68), (4, .int v48), (7, .int (1 : Int32)), (0, .ref mo), (1, .int ways), (2, .int w), (3, .int h)]) hx hb dX10_placesOf_71 hl (k := 3) rfl (nI_1 _) (by decide) rfl (fun ls hl => ?_)
                refine lv_goto (tgt := 9) hx hb dX10_placesOf_74 (by decide) ?_
                exact ih_9 (k + 1) v68 v48 (by omega) (by omega) (by omega) (by omega) _ _ hP hS ls (lv_sub hl [0, 1, 2, 4, 5, 6, 7] rfl)
              · skip
                have d60 := c60
                rw [fa_le] at d60
                have a63 : gdy k = 1 := by unfold gdy; rw [if_neg (by omega)]
                refine lv_iconst (v := 1) hx hb dX10_placesOf_63 (by decide) ?_
                refine lv_goto (tgt := 68) hx hb dX10_placesOf_64 (by decide) ?_
                refine lv_iadd hx hb dX10_placesOf_68 ?_
                refine lv_topi (fun v68 e68 => ?_)
                have i68 : v68.toInt = x5.toInt + (1 : Int32).toInt := by rw [e68]; exact fb_addI (by omega) (by omega)
                refine lv_istore (lv' := [(5, .int v68), (4, .int v48), (7, .int (1 : Int32)), (6, .int (nI k)), (0, .ref mo), (1, .int ways), (2, .int w), (3, .int h)]) hx hb dX10_placesOf_69 hl (by decide) rfl (fun ls hl => ?_)
                refine lv_iinc (v := (nI (k + 1))) (lv' := [(6, .int (nI (k + 1))), (5, .int v68), (4, .int v48), (7, .int (1 : Int32)), (0, .ref mo), (1, .int ways), (2, .int w), (3, .int h)]) hx hb dX10_placesOf_71 hl (k := 3) rfl (nI_1 _) (by decide) rfl (fun ls hl => ?_)
                refine lv_goto (tgt := 9) hx hb dX10_placesOf_74 (by decide) ?_
                exact ih_9 (k + 1) v68 v48 (by omega) (by omega) (by omega) (by omega) _ _ hP hS ls (lv_sub hl [0, 1, 2, 4, 5, 6, 7] rfl)
  exact loop_9 (4 + 1) 0 (1 : Int32) (1 : Int32) (by omega) (by simp [gX]) (by simp [gY]) (by omega) _ _ hP hS ls (lv_sub hl [0, 1, 2, 3, 4, 5, 6] rfl)
set_option maxHeartbeats 4000000 in
set_option maxRecDepth 100000 in
theorem c_X10_haunts_x (l : Launch) (D : va_G) (cy : Nat → ClassId) (mo : Nat) (a : Nat → Nat) (f : Nat → Int32) (g : Nat → Int64) (r : Nat → Nat → Int32) (q : Nat → Nat → Int64) (ways : Int32) (w : Int32) (h : Int32) (hD : DM cy mo a)  : Mi l D cy mo a yX10_haunts wsX10_haunts ({ frames := 2, cells := 0, slots := 0, locals := 47 }) f g r q [.int ways, .int w, .int h] (fun r0 u => u = ((upd f 0 (0 : Int32)), g, r, q) ∧ (r0.toInt = gH ways w h)) := by
  refine Met.ofW (cc := cX10_haunts) (maxL := 4) (ret := (some .int)) (by decide) rfl ?_
  intro p e s m args below meth c s₁ B hml hv
  obtain ⟨rfl, hP, hK⟩ := hv
  have hx := B.exec
  have hb := B.bytes
  have hr := B.returns
  have hts := atoms_spec (ws := wsX10_haunts) B.pre
  have hin : ∀ w ∈ u_ws RX10 TX10 35, w ∈ wsX10_haunts := by decide +kernel
  have hown : s.vm.findClass RX10 = some m.cls := findClass_of_methodNamed B.named
  have hlocks := B.notSynchronized
  have hS : va_S (AM mo a) s.heap s.heap [] := va_S.rf
  have hl := lv_entry ([.ref mo, .int ways, .int w, .int h]) (n := 4) (Nat.le_of_ble_eq_true rfl)
  rw [lg_entry_eq]
  generalize (lg_sl ([.ref mo, .int ways, .int w, .int h]) ++ List.replicate (4 - (lg_sl ([.ref mo, .int ways, .int w, .int h])).length) Slot.unset).toArray = ls at hl ⊢
  have hl : lv_has ls 4 [(0, .ref mo), (1, .int ways), (2, .int w), (3, .int h)] := hl
  have k_m1 : (-1 : Int32).toInt = -1 := by decide
  have k_0 : (0 : Int32).toInt = 0 := by decide
  have k_1 : (1 : Int32).toInt = 1 := by decide
  have k_1L : (1 : Int64).toInt = 1 := by decide
  have k_15L : (15 : Int64).toInt = 15 := by decide
  refine lv_aload_n hx hb dX10_haunts_0 rfl (lv_at hl 0 rfl) ?_
  refine lv_iconst (v := 0) hx hb dX10_haunts_1 (by decide) ?_
  refine m_put (v := .int (0 : Int32)) (ty := .int) hx hb hts hin hown hK hP hD hS 0 (by decide) rfl (hts (.fieldLink RX10 79 "ShadowBenchModel" "thrown" "I") (by decide +kernel)) rfl (by decide +kernel) rfl rfl (upd f 0 (0 : Int32)) g rfl dX10_haunts_2 (fun H locs hP hS => ?_)
  refine lv_iload_n hx hb dX10_haunts_5 rfl (lv_at hl 1 rfl) ?_
  refine lv_i2l (v := ways.toInt64) hx hb dX10_haunts_6 rfl ?_
  refine lv_lconst (v := 1) hx hb dX10_haunts_7 (by decide) ?_
  refine lv_ldc2 hx hb hown (hts (.constantLong RX10 228 (15)) (by decide +kernel)) dX10_haunts_8 ?_
  refine m_pu (As := [.long (ways.toInt64), .long (1 : Int64), .long (15 : Int64)]) (rest := []) ⟨hx, hb, hml, hown, hts⟩ (c_X10_isIn l ways.toInt64 (1 : Int64) (15 : Int64) ) (va_cwS 3 hts gX10_haunts_X10_isIn rfl rfl rfl (by decide +kernel) ⟨Nat.le_of_ble_eq_true rfl, Nat.le_of_ble_eq_true rfl⟩) hP rfl hl.1 rfl (Nat.le_of_ble_eq_true rfl) dX10_haunts_11 ⟨Nat.le_of_ble_eq_true rfl, Nat.le_of_ble_eq_true rfl⟩ hS (fun r11 H locs q11 hP hS => ?_)
  have q11 := q11
  simp only [k64, show (0 : Int64).toInt = 0 from rfl, show (1 : Int64).toInt = 1 from rfl, show (2 : Int64).toInt = 2 from rfl, show (3 : Int64).toInt = 3 from rfl, show (6 : Int64).toInt = 6 from rfl] at q11
  refine lv_if_eq (tgt := 25) hx hb dX10_haunts_14 (by decide) (fun c14 => ?_) (fun c14 => ?_)
  · skip
    have b14 := bo_f q11 c14
    refine lv_iconst (v := (-1)) hx hb dX10_haunts_25 (by decide) ?_
    refine lv_goto (tgt := 44) hx hb dX10_haunts_26 (by decide) ?_
    exact W.iret (v := ((-1) : Int32)) hx hb hr (fun t ht hW => ⟨⟨_, ((upd f 0 (0 : Int32)), g, r, q), rfl, ⟨rfl, (by unfold gH; rw [gA_no (by omega)]; rfl)⟩, by unfold mB; rw [ht]; exact hP⟩, hS.F ht⟩) hS.2.2 dX10_haunts_44
  · skip
    have b14 := bo_t q11 c14
    refine lv_iload_n hx hb dX10_haunts_17 rfl (lv_at hl 2 rfl) ?_
    refine lv_iload_n hx hb dX10_haunts_18 rfl (lv_at hl 3 rfl) ?_
    refine m_pu (As := [.int w, .int h]) (rest := []) ⟨hx, hb, hml, hown, hts⟩ (c_X10_isBoard l w h ) (va_cwS 2 hts gX10_haunts_X10_isBoard rfl rfl rfl (by decide +kernel) ⟨Nat.le_of_ble_eq_true rfl, Nat.le_of_ble_eq_true rfl⟩) hP rfl hl.1 rfl (Nat.le_of_ble_eq_true rfl) dX10_haunts_19 ⟨Nat.le_of_ble_eq_true rfl, Nat.le_of_ble_eq_true rfl⟩ hS (fun r19 H locs q19 hP hS => ?_)
    refine lv_if_ne (tgt := 29) hx hb dX10_haunts_22 (by decide) (fun c22 => ?_) (fun c22 => ?_)
    · skip
      have b22 := bo_t q19 c22
      refine lv_aload_n hx hb dX10_haunts_29 rfl (lv_at hl 0 rfl) ?_
      refine lv_iload_n hx hb dX10_haunts_30 rfl (lv_at hl 1 rfl) ?_
      refine lv_iload_n hx hb dX10_haunts_31 rfl (lv_at hl 2 rfl) ?_
      refine lv_iload_n hx hb dX10_haunts_32 rfl (lv_at hl 3 rfl) ?_
      refine m_calli (As := [.int ways, .int w, .int h]) (rest := []) ⟨hx, hb, hml, hown, hts⟩ (c_X10_placesOf_x l D cy mo a (upd f 0 (0 : Int32)) g r q ways w h hD b22.1 b22.2) (cwV 3 hts gX10_haunts_X10_placesOf rfl rfl rfl (by decide +kernel) ⟨Nat.le_of_ble_eq_true rfl, Nat.le_of_ble_eq_true rfl⟩) hK hP rfl hl.1 rfl (Nat.le_of_ble_eq_true rfl) dX10_haunts_33 ⟨Nat.le_of_ble_eq_true rfl, Nat.le_of_ble_eq_true rfl⟩ hS (fun r33 u H locs q33 hP hS => ?_)
      obtain ⟨rfl, q33⟩ := q33
      have hP : va_P D vwCl (WM cy mo a (upd f 0 (0 : Int32)) g r q) H := hP
      have q33 : r33.toInt = gP ways w h := q33
      refine lv_if_le (tgt := 43) hx hb dX10_haunts_36 (by decide) (fun c36 => ?_) (fun c36 => ?_)
      · skip
        have d36 := c36
        rw [fa_le] at d36
        refine lv_iconst (v := 0) hx hb dX10_haunts_43 (by decide) ?_
        exact W.iret (v := (0 : Int32)) hx hb hr (fun t ht hW => ⟨⟨_, ((upd f 0 (0 : Int32)), g, r, q), rfl, ⟨rfl, (by have z9 := gP_b (set := ways) b22.1 b22.2; unfold gH; rw [gA_yes ⟨by omega, b22.1, b22.2⟩, if_neg (by omega)]; show (0 : Int) = _; omega)⟩, by unfold mB; rw [ht]; exact hP⟩, hS.F ht⟩) hS.2.2 dX10_haunts_44
      · skip
        have d36 := c36
        rw [fa_le] at d36
        refine lv_iconst (v := 1) hx hb dX10_haunts_39 (by decide) ?_
        refine lv_goto (tgt := 44) hx hb dX10_haunts_40 (by decide) ?_
        exact W.iret (v := (1 : Int32)) hx hb hr (fun t ht hW => ⟨⟨_, ((upd f 0 (0 : Int32)), g, r, q), rfl, ⟨rfl, (by unfold gH; rw [gA_yes ⟨by omega, b22.1, b22.2⟩, if_pos (by omega)]; rfl)⟩, by unfold mB; rw [ht]; exact hP⟩, hS.F ht⟩) hS.2.2 dX10_haunts_44
    · skip
      have b22 := bo_f q19 c22
      refine lv_iconst (v := (-1)) hx hb dX10_haunts_25 (by decide) ?_
      refine lv_goto (tgt := 44) hx hb dX10_haunts_26 (by decide) ?_
      exact W.iret (v := ((-1) : Int32)) hx hb hr (fun t ht hW => ⟨⟨_, ((upd f 0 (0 : Int32)), g, r, q), rfl, ⟨rfl, (by unfold gH; rw [gA_no (by omega)]; rfl)⟩, by unfold mB; rw [ht]; exact hP⟩, hS.F ht⟩) hS.2.2 dX10_haunts_44
set_option maxHeartbeats 4000000 in
set_option maxRecDepth 100000 in
theorem c_X10_ghosts_x (l : Launch) (D : va_G) (cy : Nat → ClassId) (mo : Nat) (a : Nat → Nat) (f : Nat → Int32) (g : Nat → Int64) (r : Nat → Nat → Int32) (q : Nat → Nat → Int64) (ways : Int32) (w : Int32) (h : Int32) (hD : DM cy mo a)  : Mi l D cy mo a yX10_ghosts wsX10_ghosts ({ frames := 2, cells := 0, slots := 0, locals := 47 }) f g r q [.int ways, .int w, .int h] (fun r0 u => u = ((upd f 0 (0 : Int32)), g, r, q) ∧ (r0.toInt = gA ways w h)) := by
  refine Met.ofW (cc := cX10_ghosts) (maxL := 4) (ret := (some .int)) (by decide) rfl ?_
  intro p e s m args below meth c s₁ B hml hv
  obtain ⟨rfl, hP, hK⟩ := hv
  have hx := B.exec
  have hb := B.bytes
  have hr := B.returns
  have hts := atoms_spec (ws := wsX10_ghosts) B.pre
  have hin : ∀ w ∈ u_ws RX10 TX10 35, w ∈ wsX10_ghosts := by decide +kernel
  have hown : s.vm.findClass RX10 = some m.cls := findClass_of_methodNamed B.named
  have hlocks := B.notSynchronized
  have hS : va_S (AM mo a) s.heap s.heap [] := va_S.rf
  have hl := lv_entry ([.ref mo, .int ways, .int w, .int h]) (n := 4) (Nat.le_of_ble_eq_true rfl)
  rw [lg_entry_eq]
  generalize (lg_sl ([.ref mo, .int ways, .int w, .int h]) ++ List.replicate (4 - (lg_sl ([.ref mo, .int ways, .int w, .int h])).length) Slot.unset).toArray = ls at hl ⊢
  have hl : lv_has ls 4 [(0, .ref mo), (1, .int ways), (2, .int w), (3, .int h)] := hl
  have k_m1 : (-1 : Int32).toInt = -1 := by decide
  have k_0 : (0 : Int32).toInt = 0 := by decide
  have k_1L : (1 : Int64).toInt = 1 := by decide
  have k_15L : (15 : Int64).toInt = 15 := by decide
  refine lv_aload_n hx hb dX10_ghosts_0 rfl (lv_at hl 0 rfl) ?_
  refine lv_iconst (v := 0) hx hb dX10_ghosts_1 (by decide) ?_
  refine m_put (v := .int (0 : Int32)) (ty := .int) hx hb hts hin hown hK hP hD hS 0 (by decide) rfl (hts (.fieldLink RX10 79 "ShadowBenchModel" "thrown" "I") (by decide +kernel)) rfl (by decide +kernel) rfl rfl (upd f 0 (0 : Int32)) g rfl dX10_ghosts_2 (fun H locs hP hS => ?_)
  refine lv_iload_n hx hb dX10_ghosts_5 rfl (lv_at hl 1 rfl) ?_
  refine lv_i2l (v := ways.toInt64) hx hb dX10_ghosts_6 rfl ?_
  refine lv_lconst (v := 1) hx hb dX10_ghosts_7 (by decide) ?_
  refine lv_ldc2 hx hb hown (hts (.constantLong RX10 228 (15)) (by decide +kernel)) dX10_ghosts_8 ?_
  refine m_pu (As := [.long (ways.toInt64), .long (1 : Int64), .long (15 : Int64)]) (rest := []) ⟨hx, hb, hml, hown, hts⟩ (c_X10_isIn l ways.toInt64 (1 : Int64) (15 : Int64) ) (va_cwS 3 hts gX10_ghosts_X10_isIn rfl rfl rfl (by decide +kernel) ⟨Nat.le_of_ble_eq_true rfl, Nat.le_of_ble_eq_true rfl⟩) hP rfl hl.1 rfl (Nat.le_of_ble_eq_true rfl) dX10_ghosts_11 ⟨Nat.le_of_ble_eq_true rfl, Nat.le_of_ble_eq_true rfl⟩ hS (fun r11 H locs q11 hP hS => ?_)
  have q11 := q11
  simp only [k64, show (0 : Int64).toInt = 0 from rfl, show (1 : Int64).toInt = 1 from rfl, show (2 : Int64).toInt = 2 from rfl, show (3 : Int64).toInt = 3 from rfl, show (6 : Int64).toInt = 6 from rfl] at q11
  refine lv_if_eq (tgt := 25) hx hb dX10_ghosts_14 (by decide) (fun c14 => ?_) (fun c14 => ?_)
  · skip
    have b14 := bo_f q11 c14
    refine lv_iconst (v := (-1)) hx hb dX10_ghosts_25 (by decide) ?_
    refine lv_goto (tgt := 36) hx hb dX10_ghosts_26 (by decide) ?_
    exact W.iret (v := ((-1) : Int32)) hx hb hr (fun t ht hW => ⟨⟨_, ((upd f 0 (0 : Int32)), g, r, q), rfl, ⟨rfl, (by rw [gA_no (by omega)]; rfl)⟩, by unfold mB; rw [ht]; exact hP⟩, hS.F ht⟩) hS.2.2 dX10_ghosts_36
  · skip
    have b14 := bo_t q11 c14
    refine lv_iload_n hx hb dX10_ghosts_17 rfl (lv_at hl 2 rfl) ?_
    refine lv_iload_n hx hb dX10_ghosts_18 rfl (lv_at hl 3 rfl) ?_
    refine m_pu (As := [.int w, .int h]) (rest := []) ⟨hx, hb, hml, hown, hts⟩ (c_X10_isBoard l w h ) (va_cwS 2 hts gX10_ghosts_X10_isBoard rfl rfl rfl (by decide +kernel) ⟨Nat.le_of_ble_eq_true rfl, Nat.le_of_ble_eq_true rfl⟩) hP rfl hl.1 rfl (Nat.le_of_ble_eq_true rfl) dX10_ghosts_19 ⟨Nat.le_of_ble_eq_true rfl, Nat.le_of_ble_eq_true rfl⟩ hS (fun r19 H locs q19 hP hS => ?_)
    refine lv_if_ne (tgt := 29) hx hb dX10_ghosts_22 (by decide) (fun c22 => ?_) (fun c22 => ?_)
    · skip
      have b22 := bo_t q19 c22
      refine lv_aload_n hx hb dX10_ghosts_29 rfl (lv_at hl 0 rfl) ?_
      refine lv_iload_n hx hb dX10_ghosts_30 rfl (lv_at hl 1 rfl) ?_
      refine lv_iload_n hx hb dX10_ghosts_31 rfl (lv_at hl 2 rfl) ?_
      refine lv_iload_n hx hb dX10_ghosts_32 rfl (lv_at hl 3 rfl) ?_
      refine m_calli (As := [.int ways, .int w, .int h]) (rest := []) ⟨hx, hb, hml, hown, hts⟩ (c_X10_placesOf_x l D cy mo a (upd f 0 (0 : Int32)) g r q ways w h hD b22.1 b22.2) (cwV 3 hts gX10_ghosts_X10_placesOf rfl rfl rfl (by decide +kernel) ⟨Nat.le_of_ble_eq_true rfl, Nat.le_of_ble_eq_true rfl⟩) hK hP rfl hl.1 rfl (Nat.le_of_ble_eq_true rfl) dX10_ghosts_33 ⟨Nat.le_of_ble_eq_true rfl, Nat.le_of_ble_eq_true rfl⟩ hS (fun r33 u H locs q33 hP hS => ?_)
      obtain ⟨rfl, q33⟩ := q33
      have hP : va_P D vwCl (WM cy mo a (upd f 0 (0 : Int32)) g r q) H := hP
      have q33 : r33.toInt = gP ways w h := q33
      exact W.iret (v := r33) hx hb hr (fun t ht hW => ⟨⟨_, ((upd f 0 (0 : Int32)), g, r, q), rfl, ⟨rfl, (by rw [gA_yes ⟨by omega, b22.1, b22.2⟩]; exact q33)⟩, by unfold mB; rw [ht]; exact hP⟩, hS.F ht⟩) hS.2.2 dX10_ghosts_36
    · skip
      have b22 := bo_f q19 c22
      refine lv_iconst (v := (-1)) hx hb dX10_ghosts_25 (by decide) ?_
      refine lv_goto (tgt := 36) hx hb dX10_ghosts_26 (by decide) ?_
      exact W.iret (v := ((-1) : Int32)) hx hb hr (fun t ht hW => ⟨⟨_, ((upd f 0 (0 : Int32)), g, r, q), rfl, ⟨rfl, (by rw [gA_no (by omega)]; rfl)⟩, by unfold mB; rw [ht]; exact hP⟩, hS.F ht⟩) hS.2.2 dX10_ghosts_36

def gdz (k : Nat) : Int := if k = 0 then 0 else if k = 3 then -1 else 1
theorem gdz_b (k : Nat) : -1 ≤ gdz k ∧ gdz k ≤ 1 := by unfold gdz; split <;> (try split) <;> omega
def gN (set : Int32) : Nat → Int → Int → Int
  | 0, x, y => if x = 0 ∧ y = 0 then 1 else 0
  | k + 1, x, y => if gB set k = 1 then gN set k x y - gN set k (x - gdx k) (y - gdz k) else gN set k x y
theorem gN_1 {set : Int32} {k : Nat} {x y : Int} (h : gB set k = 1) : gN set (k + 1) x y = gN set k x y - gN set k (x - gdx k) (y - gdz k) := by simp only [gN]; rw [if_pos h]
theorem gN_0 {set : Int32} {k : Nat} {x y : Int} (h : ¬ gB set k = 1) : gN set (k + 1) x y = gN set k x y := by simp only [gN]; rw [if_neg h]
theorem gN_b (set : Int32) (k : Nat) : ∀ x y : Int, -(2 ^ k : Nat) ≤ gN set k x y ∧ gN set k x y ≤ (2 ^ k : Nat) := by
  induction k with
  | zero => intro x y; simp only [gN]; split <;> decide
  | succ k ih =>
    intro x y
    have h1 := ih x y
    have h2 := ih (x - gdx k) (y - gdz k)
    have h3 : (2 ^ (k + 1) : Nat) = 2 * 2 ^ k := by rw [Nat.pow_succ]; omega
    by_cases h : gB set k = 1
    · rw [gN_1 h, h3]; omega
    · rw [gN_0 h, h3]; omega
/-- outside its few places a ghost is nought -/
theorem gN_z (set : Int32) (k : Nat) (hk : k ≤ 3) : ∀ x y : Int, (x < 0 ∨ (k : Int) < x ∨ y < 0 ∨ (k : Int) < y) → gN set k x y = 0 := by
  induction k with
  | zero => intro x y h; simp only [gN]; rw [if_neg (by omega)]
  | succ k ih =>
    intro x y h
    have hx := gdx_b k
    have hz : 0 ≤ gdz k ∧ gdz k ≤ 1 := by unfold gdz; split <;> (try split) <;> omega
    have h1 := ih (by omega) x y (by omega)
    have h2 := ih (by omega) (x - gdx k) (y - gdz k) (by omega)
    by_cases hb : gB set k = 1
    · rw [gN_1 hb, h1, h2]; rfl
    · rw [gN_0 hb, h1]
theorem gB_01 (set : Int32) (k : Nat) : gB set k = 0 ∨ gB set k = 1 := by
  have h := pk_andIn (set >>> (nI k &&& 31)) (m := 1) 1 (by decide) (by decide)
  have h1 := vp_in_iff.mp h
  unfold gB
  generalize (set >>> (nI k &&& 31)) &&& 1 = z at h1
  have e0 : (0 : Int32).toInt = 0 := rfl
  have e1 : (1 : Int32).toInt = 1 := rfl
  have h2 : z.toInt = 0 ∨ z.toInt = 1 := by omega
  rcases h2 with h2 | h2
  · exact Or.inl (Int32.toInt_inj.mp (h2.trans e0.symm))
  · exact Or.inr (Int32.toInt_inj.mp (h2.trans e1.symm))
theorem g_sx {x : Nat → Int32} {k : Nat} {v w : Int32} (hk : k < 4) (hx : x 0 = 1 ∧ x 1 = 0 ∧ x 2 = 1 ∧ x 3 = 1) (ew : w = nI k) (e1 : v = x w.toNatClampNeg) : v.toInt = gdx k := by
  rw [ew, nI_clamp (by omega)] at e1
  obtain ⟨h0, h1, h2, h3⟩ := hx
  have h : k = 0 ∨ k = 1 ∨ k = 2 ∨ k = 3 := by omega
  rcases h with rfl | rfl | rfl | rfl
  · rw [h0] at e1; subst e1; decide
  · rw [h1] at e1; subst e1; decide
  · rw [h2] at e1; subst e1; decide
  · rw [h3] at e1; subst e1; decide
theorem g_sy {x : Nat → Int32} {k : Nat} {v w : Int32} (hk : k < 4) (hx : x 0 = 0 ∧ x 1 = 1 ∧ x 2 = 1 ∧ x 3 = -1) (ew : w = nI k) (e1 : v = x w.toNatClampNeg) : v.toInt = gdz k := by
  rw [ew, nI_clamp (by omega)] at e1
  obtain ⟨h0, h1, h2, h3⟩ := hx
  have h : k = 0 ∨ k = 1 ∨ k = 2 ∨ k = 3 := by omega
  rcases h with rfl | rfl | rfl | rfl
  · rw [h0] at e1; subst e1; decide
  · rw [h1] at e1; subst e1; decide
  · rw [h2] at e1; subst e1; decide
  · rw [h3] at e1; subst e1; decide
theorem g_way {w : Int32} {k : Nat} (hk : k < 4) (h : w.toInt = (k : Int)) : w = nI k := Int32.toInt_inj.mp (by rw [h, nI_toInt (by omega)])
/-- the number at x, y of the whole ghost, told from the corner of its square -/
def gF (set : Int32) : Int := (gB set 3).toInt
def gV (set x y : Int32) : Int := gN set 4 x.toInt (y.toInt - gF set)
def gOk (set x y : Int32) : Prop := (1 ≤ set.toInt ∧ set.toInt ≤ 15) ∧ (0 ≤ x.toInt ∧ x.toInt ≤ 8) ∧ (0 ≤ y.toInt ∧ y.toInt ≤ 8)

theorem t_lastf {p : Program} {l : Launch} {e : Env} {R : Room} {s : State} {m : MethodId} {args : Array Value} {below : List Frame} {meth : Method} {c : Code} {H : Heap} {locs : List Loc} {cells slots : Nat} {Q : State → Prop} {cc : ByteArray} {pc : Nat} {ls : Array Slot} {rest : List Value} {D : va_G} {cy : Nat → ClassId} {A : Nat → Prop} {ws : va_W} {G : cG} {H0 : Heap} (hx : p.tables.exec = Jvm.exec) (hb : c.code = cc) (hK : va_K D vwCl (cTy cy) s) (hP : va_P D vwCl ws H) (hD : va_D A ws) (hS : va_S A H0 H locs) (hT : cT cy G ws) {a n z : Nat} (hg : G a = some (1, n, z)) {i : Int32} {x : Int64} (hin : vp_in i n) (hdg : decode cc pc = .ok (.lastore, 1))
    (kk : ∀ (H1 : Heap) (locs1 : List Loc) (ws1 : va_W), cF (fun b => b = a) ws ws1 → (∃ w : Nat → Int64, cIn ws1 a (.inl (cy 1, n, .inr (.inl w))) ∧ w i.toNatClampNeg = x) → va_P D vwCl ws1 H1 → va_D A ws1 → cT cy G ws1 → va_S A H0 H1 locs1 → W p l e R s m args below meth c H1 locs1 cells slots Q (F0 m (pc + 1) ls rest)) : W p l e R s m args below meth c H locs cells slots Q (F0 m pc ls (.long x :: .int i :: .ref a :: rest)) := by
  obtain ⟨_, ⟨q0, hq⟩, w, rfl⟩ := hT _ _ hg
  exact va_last hx hb hK hP hD hS q0 1 hq rfl hin hdg (fun H1 locs1 h1 h2 h3 => kk H1 locs1 _ (cF.up (cUp.set hq) rfl) ⟨_, (cUp.set hq).1, by simp [vp_updL]⟩ h1 h2 (hT.up (cUp.set hq) hg ⟨_, rfl⟩) h3)
set_option maxHeartbeats 4000000 in
set_option maxRecDepth 100000 in
theorem c_X9_ghostNumber_x0 (l : Launch) (D : va_G) (cy : Nat → ClassId) (A : Nat → Prop) (G : cG) (ws : va_W) (set : Int32) (way : Int32) (x : Int32) (y : Int32)  (hD : va_D A ws) (hT : cT cy G ws)  (hw0 : way.toInt = -1) (hx0 : -20 ≤ x.toInt ∧ x.toInt ≤ 20) (hy0 : -20 ≤ y.toInt ∧ y.toInt ≤ 20) : Ei l D cy A yX9_ghostNumber wsX9_ghostNumber ({ frames := 0, cells := 0, slots := 0, locals := 0 }) 0 0 ws [.int set, .int way, .int x, .int y] (fun r0 u => u = (G, ws) ∧ (r0.toInt = gN set 0 x.toInt y.toInt)) := by
  refine Met.ofW (cc := cX9_ghostNumber) (maxL := 5) (ret := (some .int)) (by decide) rfl ?_
  intro p e s m args below meth c s₁ B hml hv
  obtain ⟨rfl, ⟨hP, hK, hA, hV⟩, hZ⟩ := hv
  obtain ⟨tX, tY, xX, xY, ⟨zX1, zX2, zX5⟩, ⟨zY1, zY2, zY5⟩⟩ := id hZ
  have hx := B.exec
  have hb := B.bytes
  have hr := B.returns
  have hts := atoms_spec (ws := wsX9_ghostNumber) B.pre
  have hown : s.vm.findClass RX9 = some m.cls := findClass_of_methodNamed B.named
  have hlocks := B.notSynchronized
  have hS : va_S A s.heap s.heap [] := va_S.rf
  have hl := lv_entry ([.int set, .int way, .int x, .int y]) (n := 5) (Nat.le_of_ble_eq_true rfl)
  rw [lg_entry_eq]
  generalize (lg_sl ([.int set, .int way, .int x, .int y]) ++ List.replicate (5 - (lg_sl ([.int set, .int way, .int x, .int y])).length) Slot.unset).toArray = ls at hl ⊢
  have hl : lv_has ls 5 [(0, .int set), (1, .int way), (2, .int x), (3, .int y)] := hl
  have k_0 : (0 : Int32).toInt = 0 := by decide
  have k_1 : (1 : Int32).toInt = 1 := by decide
  have k_4 : (4 : Int32).toInt = 4 := by decide
  refine lv_iload_n hx hb dX9_ghostNumber_0 rfl (lv_at hl 1 rfl) ?_
  refine lv_if_lt (tgt := 9) hx hb dX9_ghostNumber_1 (by decide) (fun c1 => ?_) (fun c1 => ?_)
  · skip
    have d1 := c1
    rw [fa_lt] at d1
    refine lv_iload_n hx hb dX9_ghostNumber_9 rfl (lv_at hl 2 rfl) ?_
    refine lv_if_ne (tgt := 21) hx hb dX9_ghostNumber_10 (by decide) (fun c10 => ?_) (fun c10 => ?_)
    · skip
      have d10 := c10
      rw [fa_eq] at d10
      refine lv_iconst (v := 0) hx hb dX9_ghostNumber_21 (by decide) ?_
      exact W.iret (v := (0 : Int32)) hx hb hr (fun t ht hW => ⟨⟨_, (G, ws), rfl, ⟨rfl, (by first | (exfalso; omega) | (simp only [gN]; rw [if_pos (by omega)]; rfl) | (simp only [gN]; rw [if_neg (by omega)]; rfl))⟩, by show va_P D vwCl ws t.heap; rw [ht]; exact hP, hD, hT⟩, hS.F ht⟩) hS.2.2 dX9_ghostNumber_22
    · skip
      have d10 := c10
      rw [fa_eq] at d10
      refine lv_iload_n hx hb dX9_ghostNumber_13 rfl (lv_at hl 3 rfl) ?_
      refine lv_if_ne (tgt := 21) hx hb dX9_ghostNumber_14 (by decide) (fun c14 => ?_) (fun c14 => ?_)
      · skip
        have d14 := c14
        rw [fa_eq] at d14
        refine lv_iconst (v := 0) hx hb dX9_ghostNumber_21 (by decide) ?_
        exact W.iret (v := (0 : Int32)) hx hb hr (fun t ht hW => ⟨⟨_, (G, ws), rfl, ⟨rfl, (by first | (exfalso; omega) | (simp only [gN]; rw [if_pos (by omega)]; rfl) | (simp only [gN]; rw [if_neg (by omega)]; rfl))⟩, by show va_P D vwCl ws t.heap; rw [ht]; exact hP, hD, hT⟩, hS.F ht⟩) hS.2.2 dX9_ghostNumber_22
      · skip
        have d14 := c14
        rw [fa_eq] at d14
        refine lv_iconst (v := 1) hx hb dX9_ghostNumber_17 (by decide) ?_
        refine lv_goto (tgt := 22) hx hb dX9_ghostNumber_18 (by decide) ?_
        exact W.iret (v := (1 : Int32)) hx hb hr (fun t ht hW => ⟨⟨_, (G, ws), rfl, ⟨rfl, (by first | (exfalso; omega) | (simp only [gN]; rw [if_pos (by omega)]; rfl) | (simp only [gN]; rw [if_neg (by omega)]; rfl))⟩, by show va_P D vwCl ws t.heap; rw [ht]; exact hP, hD, hT⟩, hS.F ht⟩) hS.2.2 dX9_ghostNumber_22
  · skip
    have d1 := c1
    rw [fa_lt] at d1
    refine lv_iload_n hx hb dX9_ghostNumber_4 rfl (lv_at hl 1 rfl) ?_
    refine lv_iconst (v := 4) hx hb dX9_ghostNumber_5 (by decide) ?_
    refine lv_icmp_lt (tgt := 23) hx hb dX9_ghostNumber_6 (by decide) (fun c6 => ?_) (fun c6 => ?_)
    · skip
      have d6 := c6
      rw [fa_lt] at d6
      exfalso; omega
    · skip
      have d6 := c6
      rw [fa_lt] at d6
      refine lv_iload_n hx hb dX9_ghostNumber_9 rfl (lv_at hl 2 rfl) ?_
      refine lv_if_ne (tgt := 21) hx hb dX9_ghostNumber_10 (by decide) (fun c10 => ?_) (fun c10 => ?_)
      · skip
        have d10 := c10
        rw [fa_eq] at d10
        refine lv_iconst (v := 0) hx hb dX9_ghostNumber_21 (by decide) ?_
        exact W.iret (v := (0 : Int32)) hx hb hr (fun t ht hW => ⟨⟨_, (G, ws), rfl, ⟨rfl, (by first | (exfalso; omega) | (simp only [gN]; rw [if_pos (by omega)]; rfl) | (simp only [gN]; rw [if_neg (by omega)]; rfl))⟩, by show va_P D vwCl ws t.heap; rw [ht]; exact hP, hD, hT⟩, hS.F ht⟩) hS.2.2 dX9_ghostNumber_22
      · skip
        have d10 := c10
        rw [fa_eq] at d10
        refine lv_iload_n hx hb dX9_ghostNumber_13 rfl (lv_at hl 3 rfl) ?_
        refine lv_if_ne (tgt := 21) hx hb dX9_ghostNumber_14 (by decide) (fun c14 => ?_) (fun c14 => ?_)
        · skip
          have d14 := c14
          rw [fa_eq] at d14
          refine lv_iconst (v := 0) hx hb dX9_ghostNumber_21 (by decide) ?_
          exact W.iret (v := (0 : Int32)) hx hb hr (fun t ht hW => ⟨⟨_, (G, ws), rfl, ⟨rfl, (by first | (exfalso; omega) | (simp only [gN]; rw [if_pos (by omega)]; rfl) | (simp only [gN]; rw [if_neg (by omega)]; rfl))⟩, by show va_P D vwCl ws t.heap; rw [ht]; exact hP, hD, hT⟩, hS.F ht⟩) hS.2.2 dX9_ghostNumber_22
        · skip
          have d14 := c14
          rw [fa_eq] at d14
          refine lv_iconst (v := 1) hx hb dX9_ghostNumber_17 (by decide) ?_
          refine lv_goto (tgt := 22) hx hb dX9_ghostNumber_18 (by decide) ?_
          exact W.iret (v := (1 : Int32)) hx hb hr (fun t ht hW => ⟨⟨_, (G, ws), rfl, ⟨rfl, (by first | (exfalso; omega) | (simp only [gN]; rw [if_pos (by omega)]; rfl) | (simp only [gN]; rw [if_neg (by omega)]; rfl))⟩, by show va_P D vwCl ws t.heap; rw [ht]; exact hP, hD, hT⟩, hS.F ht⟩) hS.2.2 dX9_ghostNumber_22
set_option maxHeartbeats 4000000 in
set_option maxRecDepth 100000 in
theorem c_X9_ghostNumber_x1 (l : Launch) (D : va_G) (cy : Nat → ClassId) (A : Nat → Prop) (G : cG) (ws : va_W) (set : Int32) (way : Int32) (x : Int32) (y : Int32)  (hD : va_D A ws) (hT : cT cy G ws)  (hw0 : way.toInt = 0) (hx0 : -19 ≤ x.toInt ∧ x.toInt ≤ 19) (hy0 : -19 ≤ y.toInt ∧ y.toInt ≤ 19) : Ei l D cy A yX9_ghostNumber wsX9_ghostNumber ({ frames := 1, cells := 0, slots := 0, locals := 24 }) 0 0 ws [.int set, .int way, .int x, .int y] (fun r0 u => u = (G, ws) ∧ (r0.toInt = gN set 1 x.toInt y.toInt)) := by
  refine Met.ofW (cc := cX9_ghostNumber) (maxL := 5) (ret := (some .int)) (by decide) rfl ?_
  intro p e s m args below meth c s₁ B hml hv
  obtain ⟨rfl, ⟨hP, hK, hA, hV⟩, hZ⟩ := hv
  obtain ⟨tX, tY, xX, xY, ⟨zX1, zX2, zX5⟩, ⟨zY1, zY2, zY5⟩⟩ := id hZ
  have hx := B.exec
  have hb := B.bytes
  have hr := B.returns
  have hts := atoms_spec (ws := wsX9_ghostNumber) B.pre
  have hown : s.vm.findClass RX9 = some m.cls := findClass_of_methodNamed B.named
  have hlocks := B.notSynchronized
  have hS : va_S A s.heap s.heap [] := va_S.rf
  have hl := lv_entry ([.int set, .int way, .int x, .int y]) (n := 5) (Nat.le_of_ble_eq_true rfl)
  rw [lg_entry_eq]
  generalize (lg_sl ([.int set, .int way, .int x, .int y]) ++ List.replicate (5 - (lg_sl ([.int set, .int way, .int x, .int y])).length) Slot.unset).toArray = ls at hl ⊢
  have hl : lv_has ls 5 [(0, .int set), (1, .int way), (2, .int x), (3, .int y)] := hl
  have k_0 : (0 : Int32).toInt = 0 := by decide
  have k_1 : (1 : Int32).toInt = 1 := by decide
  have k_4 : (4 : Int32).toInt = 4 := by decide
  have ew : way = nI 0 := g_way (by decide) hw0
  have dxb := gdx_b 0
  have dzb := gdz_b 0
  have g01 := gB_01 set 0
  refine lv_iload_n hx hb dX9_ghostNumber_0 rfl (lv_at hl 1 rfl) ?_
  refine lv_if_lt (tgt := 9) hx hb dX9_ghostNumber_1 (by decide) (fun c1 => ?_) (fun c1 => ?_)
  · skip
    have d1 := c1
    rw [fa_lt] at d1
    refine lv_iload_n hx hb dX9_ghostNumber_9 rfl (lv_at hl 2 rfl) ?_
    refine lv_if_ne (tgt := 21) hx hb dX9_ghostNumber_10 (by decide) (fun c10 => ?_) (fun c10 => ?_)
    · skip
      have d10 := c10
      rw [fa_eq] at d10
      refine lv_iconst (v := 0) hx hb dX9_ghostNumber_21 (by decide) ?_
      exact W.iret (v := (0 : Int32)) hx hb hr (fun t ht hW => ⟨⟨_, (G, ws), rfl, ⟨rfl, (by first | (exfalso; omega) | (simp only [gN]; rw [if_pos (by omega)]; rfl) | (simp only [gN]; rw [if_neg (by omega)]; rfl))⟩, by show va_P D vwCl ws t.heap; rw [ht]; exact hP, hD, hT⟩, hS.F ht⟩) hS.2.2 dX9_ghostNumber_22
    · skip
      have d10 := c10
      rw [fa_eq] at d10
      refine lv_iload_n hx hb dX9_ghostNumber_13 rfl (lv_at hl 3 rfl) ?_
      refine lv_if_ne (tgt := 21) hx hb dX9_ghostNumber_14 (by decide) (fun c14 => ?_) (fun c14 => ?_)
      · skip
        have d14 := c14
        rw [fa_eq] at d14
        refine lv_iconst (v := 0) hx hb dX9_ghostNumber_21 (by decide) ?_
        exact W.iret (v := (0 : Int32)) hx hb hr (fun t ht hW => ⟨⟨_, (G, ws), rfl, ⟨rfl, (by first | (exfalso; omega) | (simp only [gN]; rw [if_pos (by omega)]; rfl) | (simp only [gN]; rw [if_neg (by omega)]; rfl))⟩, by show va_P D vwCl ws t.heap; rw [ht]; exact hP, hD, hT⟩, hS.F ht⟩) hS.2.2 dX9_ghostNumber_22
      · skip
        have d14 := c14
        rw [fa_eq] at d14
        refine lv_iconst (v := 1) hx hb dX9_ghostNumber_17 (by decide) ?_
        refine lv_goto (tgt := 22) hx hb dX9_ghostNumber_18 (by decide) ?_
        exact W.iret (v := (1 : Int32)) hx hb hr (fun t ht hW => ⟨⟨_, (G, ws), rfl, ⟨rfl, (by first | (exfalso; omega) | (simp only [gN]; rw [if_pos (by omega)]; rfl) | (simp only [gN]; rw [if_neg (by omega)]; rfl))⟩, by show va_P D vwCl ws t.heap; rw [ht]; exact hP, hD, hT⟩, hS.F ht⟩) hS.2.2 dX9_ghostNumber_22
  · skip
    have d1 := c1
    rw [fa_lt] at d1
    refine lv_iload_n hx hb dX9_ghostNumber_4 rfl (lv_at hl 1 rfl) ?_
    refine lv_iconst (v := 4) hx hb dX9_ghostNumber_5 (by decide) ?_
    refine lv_icmp_lt (tgt := 23) hx hb dX9_ghostNumber_6 (by decide) (fun c6 => ?_) (fun c6 => ?_)
    · skip
      have d6 := c6
      rw [fa_lt] at d6
      refine lv_iload_n hx hb dX9_ghostNumber_23 rfl (lv_at hl 0 rfl) ?_
      refine lv_iload_n hx hb dX9_ghostNumber_24 rfl (lv_at hl 1 rfl) ?_
      refine lv_iconst (v := 1) hx hb dX9_ghostNumber_25 (by decide) ?_
      refine lv_isub hx hb dX9_ghostNumber_26 ?_
      refine lv_topi (fun v26 e26 => ?_)
      have i26 : v26.toInt = way.toInt - (1 : Int32).toInt := by rw [e26]; exact fb_subI (by omega) (by omega)
      refine lv_iload_n hx hb dX9_ghostNumber_27 rfl (lv_at hl 2 rfl) ?_
      refine lv_iload_n hx hb dX9_ghostNumber_28 rfl (lv_at hl 3 rfl) ?_
      refine t_calli (va_runS (g := F0 m 29 ls ([.int y, .int x, .int v26, .int set])) (As := [.int set, .int v26, .int x, .int y]) (rest := []) ⟨hx, hb, hml, hown, hts⟩ (c_X9_ghostNumber_x0 l D cy A G ws set v26 x y hD hT (by omega) (by omega) (by omega)) (va_cwS 4 hts gX9_ghostNumber_X9_ghostNumber rfl rfl rfl (by decide +kernel) ⟨Nat.le_of_ble_eq_true rfl, Nat.le_of_ble_eq_true rfl⟩) (e_preS hP hK hA hS hV hZ) rfl rfl hl.1 rfl (lv_room (Nat.le_of_ble_eq_true rfl)) dX9_ghostNumber_29 ⟨Nat.le_of_ble_eq_true rfl, Nat.le_of_ble_eq_true rfl⟩) hS (fun r29 u H locs q29 hP9 hD9 hT9 hS => ?_)
      obtain ⟨rfl, q29⟩ := q29
      have hP : va_P D vwCl ws H := hP9
      refine lv_istore (lv' := [(4, .int r29), (0, .int set), (1, .int way), (2, .int x), (3, .int y)]) hx hb dX9_ghostNumber_32 hl (by decide) rfl (fun ls hl => ?_)
      refine lv_iload_n hx hb dX9_ghostNumber_34 rfl (lv_at hl 1 rfl) ?_
      refine lv_iload_n hx hb dX9_ghostNumber_35 rfl (lv_at hl 2 rfl) ?_
      refine lv_ishr hx hb dX9_ghostNumber_36 ?_
      refine lv_topi (fun v36 e36 => ?_)
      refine lv_iconst (v := 1) hx hb dX9_ghostNumber_37 (by decide) ?_
      refine lv_iand hx hb dX9_ghostNumber_38 ?_
      refine lv_topi (fun v38 e38 => ?_)
      have hB : gB set 0 = v38 := by rw [e38, e36, ew]; rfl
      refine lv_if_ne (tgt := 45) hx hb dX9_ghostNumber_39 (by decide) (fun c39 => ?_) (fun c39 => ?_)
      · skip
        have d39 := c39
        rw [fa_eq] at d39
        refine lv_iload hx hb dX9_ghostNumber_45 (lv_at hl 0 rfl) ?_
        refine lv_iload_n hx hb dX9_ghostNumber_47 rfl (lv_at hl 1 rfl) ?_
        refine lv_iload_n hx hb dX9_ghostNumber_48 rfl (lv_at hl 2 rfl) ?_
        refine lv_iconst (v := 1) hx hb dX9_ghostNumber_49 (by decide) ?_
        refine lv_isub hx hb dX9_ghostNumber_50 ?_
        refine lv_topi (fun v50 e50 => ?_)
        have i50 : v50.toInt = way.toInt - (1 : Int32).toInt := by rw [e50]; exact fb_subI (by omega) (by omega)
        refine lv_iload_n hx hb dX9_ghostNumber_51 rfl (lv_at hl 3 rfl) ?_
        refine va_gets hx hb zX1 hS hown (hts (.fieldLink RX9 309 "ShadowBench$Board" "STEP_X" "[I") (by decide +kernel)) (fun _ h9 => h9) dX9_ghostNumber_52 ?_
        refine lv_iload_n hx hb dX9_ghostNumber_55 rfl (lv_at hl 2 rfl) ?_
        refine va_ti hx hb zX2 hS (i := way) (vp_in_iff.mpr ⟨by omega, by omega⟩) (v := .int (xX way.toNatClampNeg)) rfl dX9_ghostNumber_56 ?_
        refine lv_topi (fun v56 e56 => ?_)
        have a56 := g_sx (k := 0) (by decide) zX5 ew e56
        refine lv_isub hx hb dX9_ghostNumber_57 ?_
        refine lv_topi (fun v57 e57 => ?_)
        have i57 : v57.toInt = x.toInt - v56.toInt := by rw [e57]; exact fb_subI (by omega) (by omega)
        refine lv_iload_n hx hb dX9_ghostNumber_58 rfl (lv_at hl 4 rfl) ?_
        refine va_gets hx hb zY1 hS hown (hts (.fieldLink RX9 313 "ShadowBench$Board" "STEP_Y" "[I") (by decide +kernel)) (fun _ h9 => h9) dX9_ghostNumber_59 ?_
        refine lv_iload_n hx hb dX9_ghostNumber_62 rfl (lv_at hl 2 rfl) ?_
        refine va_ti hx hb zY2 hS (i := way) (vp_in_iff.mpr ⟨by omega, by omega⟩) (v := .int (xY way.toNatClampNeg)) rfl dX9_ghostNumber_63 ?_
        refine lv_topi (fun v63 e63 => ?_)
        have a63 := g_sy (k := 0) (by decide) zY5 ew e63
        refine lv_isub hx hb dX9_ghostNumber_64 ?_
        refine lv_topi (fun v64 e64 => ?_)
        have i64 : v64.toInt = y.toInt - v63.toInt := by rw [e64]; exact fb_subI (by omega) (by omega)
        refine t_calli (va_runS (g := F0 m 65 ls ([.int v64, .int v57, .int v50, .int set, .int r29])) (As := [.int set, .int v50, .int v57, .int v64]) (rest := [.int r29]) ⟨hx, hb, hml, hown, hts⟩ (c_X9_ghostNumber_x0 l D cy A G ws set v50 v57 v64 hD hT (by omega) (by omega) (by omega)) (va_cwS 4 hts gX9_ghostNumber_X9_ghostNumber rfl rfl rfl (by decide +kernel) ⟨Nat.le_of_ble_eq_true rfl, Nat.le_of_ble_eq_true rfl⟩) (e_preS hP hK hA hS hV hZ) rfl rfl hl.1 rfl (lv_room (Nat.le_of_ble_eq_true rfl)) dX9_ghostNumber_65 ⟨Nat.le_of_ble_eq_true rfl, Nat.le_of_ble_eq_true rfl⟩) hS (fun r65 u H locs q65 hP9 hD9 hT9 hS => ?_)
        obtain ⟨rfl, q65⟩ := q65
        have hP : va_P D vwCl ws H := hP9
        have p1 := gN_b set 0 x.toInt y.toInt
        have p2 := gN_b set 0 v57.toInt v64.toInt
        simp only [show (2 ^ 0 : Nat) = 1 from by decide] at p1 p2
        refine lv_isub hx hb dX9_ghostNumber_68 ?_
        refine lv_topi (fun v68 e68 => ?_)
        have i68 : v68.toInt = r29.toInt - r65.toInt := by rw [e68]; exact fb_subI (by omega) (by omega)
        exact W.iret (v := v68) hx hb hr (fun t ht hW => ⟨⟨_, (G, ws), rfl, ⟨rfl, (by have hb1 : gB set 0 = 1 := g01.resolve_left (fun z => c39 (hB.symm.trans z)); show _ = gN set (0 + 1) _ _; rw [gN_1 hb1, ← a56, ← a63, ← i57, ← i64, ← q29, ← q65]; exact i68)⟩, by show va_P D vwCl ws t.heap; rw [ht]; exact hP, hD, hT⟩, hS.F ht⟩) hS.2.2 dX9_ghostNumber_69
      · skip
        have d39 := c39
        rw [fa_eq] at d39
        refine lv_iload hx hb dX9_ghostNumber_42 (lv_at hl 0 rfl) ?_
        exact W.iret (v := r29) hx hb hr (fun t ht hW => ⟨⟨_, (G, ws), rfl, ⟨rfl, (by show _ = gN set (0 + 1) _ _; rw [gN_0 (fun z => absurd (c39.symm.trans (hB.symm.trans z)) (by decide))]; exact q29)⟩, by show va_P D vwCl ws t.heap; rw [ht]; exact hP, hD, hT⟩, hS.F ht⟩) hS.2.2 dX9_ghostNumber_44
    · skip
      have d6 := c6
      rw [fa_lt] at d6
      refine lv_iload_n hx hb dX9_ghostNumber_9 rfl (lv_at hl 2 rfl) ?_
      refine lv_if_ne (tgt := 21) hx hb dX9_ghostNumber_10 (by decide) (fun c10 => ?_) (fun c10 => ?_)
      · skip
        have d10 := c10
        rw [fa_eq] at d10
        refine lv_iconst (v := 0) hx hb dX9_ghostNumber_21 (by decide) ?_
        exact W.iret (v := (0 : Int32)) hx hb hr (fun t ht hW => ⟨⟨_, (G, ws), rfl, ⟨rfl, (by first | (exfalso; omega) | (simp only [gN]; rw [if_pos (by omega)]; rfl) | (simp only [gN]; rw [if_neg (by omega)]; rfl))⟩, by show va_P D vwCl ws t.heap; rw [ht]; exact hP, hD, hT⟩, hS.F ht⟩) hS.2.2 dX9_ghostNumber_22
      · skip
        have d10 := c10
        rw [fa_eq] at d10
        refine lv_iload_n hx hb dX9_ghostNumber_13 rfl (lv_at hl 3 rfl) ?_
        refine lv_if_ne (tgt := 21) hx hb dX9_ghostNumber_14 (by decide) (fun c14 => ?_) (fun c14 => ?_)
        · skip
          have d14 := c14
          rw [fa_eq] at d14
          refine lv_iconst (v := 0) hx hb dX9_ghostNumber_21 (by decide) ?_
          exact W.iret (v := (0 : Int32)) hx hb hr (fun t ht hW => ⟨⟨_, (G, ws), rfl, ⟨rfl, (by first | (exfalso; omega) | (simp only [gN]; rw [if_pos (by omega)]; rfl) | (simp only [gN]; rw [if_neg (by omega)]; rfl))⟩, by show va_P D vwCl ws t.heap; rw [ht]; exact hP, hD, hT⟩, hS.F ht⟩) hS.2.2 dX9_ghostNumber_22
        · skip
          have d14 := c14
          rw [fa_eq] at d14
          refine lv_iconst (v := 1) hx hb dX9_ghostNumber_17 (by decide) ?_
          refine lv_goto (tgt := 22) hx hb dX9_ghostNumber_18 (by decide) ?_
          exact W.iret (v := (1 : Int32)) hx hb hr (fun t ht hW => ⟨⟨_, (G, ws), rfl, ⟨rfl, (by first | (exfalso; omega) | (simp only [gN]; rw [if_pos (by omega)]; rfl) | (simp only [gN]; rw [if_neg (by omega)]; rfl))⟩, by show va_P D vwCl ws t.heap; rw [ht]; exact hP, hD, hT⟩, hS.F ht⟩) hS.2.2 dX9_ghostNumber_22
set_option maxHeartbeats 4000000 in
set_option maxRecDepth 100000 in
theorem c_X9_ghostNumber_x2 (l : Launch) (D : va_G) (cy : Nat → ClassId) (A : Nat → Prop) (G : cG) (ws : va_W) (set : Int32) (way : Int32) (x : Int32) (y : Int32)  (hD : va_D A ws) (hT : cT cy G ws)  (hw0 : way.toInt = 1) (hx0 : -18 ≤ x.toInt ∧ x.toInt ≤ 18) (hy0 : -18 ≤ y.toInt ∧ y.toInt ≤ 18) : Ei l D cy A yX9_ghostNumber wsX9_ghostNumber ({ frames := 2, cells := 0, slots := 0, locals := 48 }) 0 0 ws [.int set, .int way, .int x, .int y] (fun r0 u => u = (G, ws) ∧ (r0.toInt = gN set 2 x.toInt y.toInt)) := by
  refine Met.ofW (cc := cX9_ghostNumber) (maxL := 5) (ret := (some .int)) (by decide) rfl ?_
  intro p e s m args below meth c s₁ B hml hv
  obtain ⟨rfl, ⟨hP, hK, hA, hV⟩, hZ⟩ := hv
  obtain ⟨tX, tY, xX, xY, ⟨zX1, zX2, zX5⟩, ⟨zY1, zY2, zY5⟩⟩ := id hZ
  have hx := B.exec
  have hb := B.bytes
  have hr := B.returns
  have hts := atoms_spec (ws := wsX9_ghostNumber) B.pre
  have hown : s.vm.findClass RX9 = some m.cls := findClass_of_methodNamed B.named
  have hlocks := B.notSynchronized
  have hS : va_S A s.heap s.heap [] := va_S.rf
  have hl := lv_entry ([.int set, .int way, .int x, .int y]) (n := 5) (Nat.le_of_ble_eq_true rfl)
  rw [lg_entry_eq]
  generalize (lg_sl ([.int set, .int way, .int x, .int y]) ++ List.replicate (5 - (lg_sl ([.int set, .int way, .int x, .int y])).length) Slot.unset).toArray = ls at hl ⊢
  have hl : lv_has ls 5 [(0, .int set), (1, .int way), (2, .int x), (3, .int y)] := hl
  have k_0 : (0 : Int32).toInt = 0 := by decide
  have k_1 : (1 : Int32).toInt = 1 := by decide
  have k_4 : (4 : Int32).toInt = 4 := by decide
  have ew : way = nI 1 := g_way (by decide) hw0
  have dxb := gdx_b 1
  have dzb := gdz_b 1
  have g01 := gB_01 set 1
  refine lv_iload_n hx hb dX9_ghostNumber_0 rfl (lv_at hl 1 rfl) ?_
  refine lv_if_lt (tgt := 9) hx hb dX9_ghostNumber_1 (by decide) (fun c1 => ?_) (fun c1 => ?_)
  · skip
    have d1 := c1
    rw [fa_lt] at d1
    refine lv_iload_n hx hb dX9_ghostNumber_9 rfl (lv_at hl 2 rfl) ?_
    refine lv_if_ne (tgt := 21) hx hb dX9_ghostNumber_10 (by decide) (fun c10 => ?_) (fun c10 => ?_)
    · skip
      have d10 := c10
      rw [fa_eq] at d10
      refine lv_iconst (v := 0) hx hb dX9_ghostNumber_21 (by decide) ?_
      exact W.iret (v := (0 : Int32)) hx hb hr (fun t ht hW => ⟨⟨_, (G, ws), rfl, ⟨rfl, (by first | (exfalso; omega) | (simp only [gN]; rw [if_pos (by omega)]; rfl) | (simp only [gN]; rw [if_neg (by omega)]; rfl))⟩, by show va_P D vwCl ws t.heap; rw [ht]; exact hP, hD, hT⟩, hS.F ht⟩) hS.2.2 dX9_ghostNumber_22
    · skip
      have d10 := c10
      rw [fa_eq] at d10
      refine lv_iload_n hx hb dX9_ghostNumber_13 rfl (lv_at hl 3 rfl) ?_
      refine lv_if_ne (tgt := 21) hx hb dX9_ghostNumber_14 (by decide) (fun c14 => ?_) (fun c14 => ?_)
      · skip
        have d14 := c14
        rw [fa_eq] at d14
        refine lv_iconst (v := 0) hx hb dX9_ghostNumber_21 (by decide) ?_
        exact W.iret (v := (0 : Int32)) hx hb hr (fun t ht hW => ⟨⟨_, (G, ws), rfl, ⟨rfl, (by first | (exfalso; omega) | (simp only [gN]; rw [if_pos (by omega)]; rfl) | (simp only [gN]; rw [if_neg (by omega)]; rfl))⟩, by show va_P D vwCl ws t.heap; rw [ht]; exact hP, hD, hT⟩, hS.F ht⟩) hS.2.2 dX9_ghostNumber_22
      · skip
        have d14 := c14
        rw [fa_eq] at d14
        refine lv_iconst (v := 1) hx hb dX9_ghostNumber_17 (by decide) ?_
        refine lv_goto (tgt := 22) hx hb dX9_ghostNumber_18 (by decide) ?_
        exact W.iret (v := (1 : Int32)) hx hb hr (fun t ht hW => ⟨⟨_, (G, ws), rfl, ⟨rfl, (by first | (exfalso; omega) | (simp only [gN]; rw [if_pos (by omega)]; rfl) | (simp only [gN]; rw [if_neg (by omega)]; rfl))⟩, by show va_P D vwCl ws t.heap; rw [ht]; exact hP, hD, hT⟩, hS.F ht⟩) hS.2.2 dX9_ghostNumber_22
  · skip
    have d1 := c1
    rw [fa_lt] at d1
    refine lv_iload_n hx hb dX9_ghostNumber_4 rfl (lv_at hl 1 rfl) ?_
    refine lv_iconst (v := 4) hx hb dX9_ghostNumber_5 (by decide) ?_
    refine lv_icmp_lt (tgt := 23) hx hb dX9_ghostNumber_6 (by decide) (fun c6 => ?_) (fun c6 => ?_)
    · skip
      have d6 := c6
      rw [fa_lt] at d6
      refine lv_iload_n hx hb dX9_ghostNumber_23 rfl (lv_at hl 0 rfl) ?_
      refine lv_iload_n hx hb dX9_ghostNumber_24 rfl (lv_at hl 1 rfl) ?_
      refine lv_iconst (v := 1) hx hb dX9_ghostNumber_25 (by decide) ?_
      refine lv_isub hx hb dX9_ghostNumber_26 ?_
      refine lv_topi (fun v26 e26 => ?_)
      have i26 : v26.toInt = way.toInt - (1 : Int32).toInt := by rw [e26]; exact fb_subI (by omega) (by omega)
      refine lv_iload_n hx hb dX9_ghostNumber_27 rfl (lv_at hl 2 rfl) ?_
      refine lv_iload_n hx hb dX9_ghostNumber_28 rfl (lv_at hl 3 rfl) ?_
      refine t_calli (va_runS (g := F0 m 29 ls ([.int y, .int x, .int v26, .int set])) (As := [.int set, .int v26, .int x, .int y]) (rest := []) ⟨hx, hb, hml, hown, hts⟩ (c_X9_ghostNumber_x1 l D cy A G ws set v26 x y hD hT (by omega) (by omega) (by omega)) (va_cwS 4 hts gX9_ghostNumber_X9_ghostNumber rfl rfl rfl (by decide +kernel) ⟨Nat.le_of_ble_eq_true rfl, Nat.le_of_ble_eq_true rfl⟩) (e_preS hP hK hA hS hV hZ) rfl rfl hl.1 rfl (lv_room (Nat.le_of_ble_eq_true rfl)) dX9_ghostNumber_29 ⟨Nat.le_of_ble_eq_true rfl, Nat.le_of_ble_eq_true rfl⟩) hS (fun r29 u H locs q29 hP9 hD9 hT9 hS => ?_)
      obtain ⟨rfl, q29⟩ := q29
      have hP : va_P D vwCl ws H := hP9
      refine lv_istore (lv' := [(4, .int r29), (0, .int set), (1, .int way), (2, .int x), (3, .int y)]) hx hb dX9_ghostNumber_32 hl (by decide) rfl (fun ls hl => ?_)
      refine lv_iload_n hx hb dX9_ghostNumber_34 rfl (lv_at hl 1 rfl) ?_
      refine lv_iload_n hx hb dX9_ghostNumber_35 rfl (lv_at hl 2 rfl) ?_
      refine lv_ishr hx hb dX9_ghostNumber_36 ?_
      refine lv_topi (fun v36 e36 => ?_)
      refine lv_iconst (v := 1) hx hb dX9_ghostNumber_37 (by decide) ?_
      refine lv_iand hx hb dX9_ghostNumber_38 ?_
      refine lv_topi (fun v38 e38 => ?_)
      have hB : gB set 1 = v38 := by rw [e38, e36, ew]; rfl
      refine lv_if_ne (tgt := 45) hx hb dX9_ghostNumber_39 (by decide) (fun c39 => ?_) (fun c39 => ?_)
      · skip
        have d39 := c39
        rw [fa_eq] at d39
        refine lv_iload hx hb dX9_ghostNumber_45 (lv_at hl 0 rfl) ?_
        refine lv_iload_n hx hb dX9_ghostNumber_47 rfl (lv_at hl 1 rfl) ?_
        refine lv_iload_n hx hb dX9_ghostNumber_48 rfl (lv_at hl 2 rfl) ?_
        refine lv_iconst (v := 1) hx hb dX9_ghostNumber_49 (by decide) ?_
        refine lv_isub hx hb dX9_ghostNumber_50 ?_
        refine lv_topi (fun v50 e50 => ?_)
        have i50 : v50.toInt = way.toInt - (1 : Int32).toInt := by rw [e50]; exact fb_subI (by omega) (by omega)
        refine lv_iload_n hx hb dX9_ghostNumber_51 rfl (lv_at hl 3 rfl) ?_
        refine va_gets hx hb zX1 hS hown (hts (.fieldLink RX9 309 "ShadowBench$Board" "STEP_X" "[I") (by decide +kernel)) (fun _ h9 => h9) dX9_ghostNumber_52 ?_
        refine lv_iload_n hx hb dX9_ghostNumber_55 rfl (lv_at hl 2 rfl) ?_
        refine va_ti hx hb zX2 hS (i := way) (vp_in_iff.mpr ⟨by omega, by omega⟩) (v := .int (xX way.toNatClampNeg)) rfl dX9_ghostNumber_56 ?_
        refine lv_topi (fun v56 e56 => ?_)
        have a56 := g_sx (k := 1) (by decide) zX5 ew e56
        refine lv_isub hx hb dX9_ghostNumber_57 ?_
        refine lv_topi (fun v57 e57 => ?_)
        have i57 : v57.toInt = x.toInt - v56.toInt := by rw [e57]; exact fb_subI (by omega) (by omega)
        refine lv_iload_n hx hb dX9_ghostNumber_58 rfl (lv_at hl 4 rfl) ?_
        refine va_gets hx hb zY1 hS hown (hts (.fieldLink RX9 313 "ShadowBench$Board" "STEP_Y" "[I") (by decide +kernel)) (fun _ h9 => h9) dX9_ghostNumber_59 ?_
        refine lv_iload_n hx hb dX9_ghostNumber_62 rfl (lv_at hl 2 rfl) ?_
        refine va_ti hx hb zY2 hS (i := way) (vp_in_iff.mpr ⟨by omega, by omega⟩) (v := .int (xY way.toNatClampNeg)) rfl dX9_ghostNumber_63 ?_
        refine lv_topi (fun v63 e63 => ?_)
        have a63 := g_sy (k := 1) (by decide) zY5 ew e63
        refine lv_isub hx hb dX9_ghostNumber_64 ?_
        refine lv_topi (fun v64 e64 => ?_)
        have i64 : v64.toInt = y.toInt - v63.toInt := by rw [e64]; exact fb_subI (by omega) (by omega)
        refine t_calli (va_runS (g := F0 m 65 ls ([.int v64, .int v57, .int v50, .int set, .int r29])) (As := [.int set, .int v50, .int v57, .int v64]) (rest := [.int r29]) ⟨hx, hb, hml, hown, hts⟩ (c_X9_ghostNumber_x1 l D cy A G ws set v50 v57 v64 hD hT (by omega) (by omega) (by omega)) (va_cwS 4 hts gX9_ghostNumber_X9_ghostNumber rfl rfl rfl (by decide +kernel) ⟨Nat.le_of_ble_eq_true rfl, Nat.le_of_ble_eq_true rfl⟩) (e_preS hP hK hA hS hV hZ) rfl rfl hl.1 rfl (lv_room (Nat.le_of_ble_eq_true rfl)) dX9_ghostNumber_65 ⟨Nat.le_of_ble_eq_true rfl, Nat.le_of_ble_eq_true rfl⟩) hS (fun r65 u H locs q65 hP9 hD9 hT9 hS => ?_)
        obtain ⟨rfl, q65⟩ := q65
        have hP : va_P D vwCl ws H := hP9
        have p1 := gN_b set 1 x.toInt y.toInt
        have p2 := gN_b set 1 v57.toInt v64.toInt
        simp only [show (2 ^ 1 : Nat) = 2 from by decide] at p1 p2
        refine lv_isub hx hb dX9_ghostNumber_68 ?_
        refine lv_topi (fun v68 e68 => ?_)
        have i68 : v68.toInt = r29.toInt - r65.toInt := by rw [e68]; exact fb_subI (by omega) (by omega)
        exact W.iret (v := v68) hx hb hr (fun t ht hW => ⟨⟨_, (G, ws), rfl, ⟨rfl, (by have hb1 : gB set 1 = 1 := g01.resolve_left (fun z => c39 (hB.symm.trans z)); show _ = gN set (1 + 1) _ _; rw [gN_1 hb1, ← a56, ← a63, ← i57, ← i64, ← q29, ← q65]; exact i68)⟩, by show va_P D vwCl ws t.heap; rw [ht]; exact hP, hD, hT⟩, hS.F ht⟩) hS.2.2 dX9_ghostNumber_69
      · skip
        have d39 := c39
        rw [fa_eq] at d39
        refine lv_iload hx hb dX9_ghostNumber_42 (lv_at hl 0 rfl) ?_
        exact W.iret (v := r29) hx hb hr (fun t ht hW => ⟨⟨_, (G, ws), rfl, ⟨rfl, (by show _ = gN set (1 + 1) _ _; rw [gN_0 (fun z => absurd (c39.symm.trans (hB.symm.trans z)) (by decide))]; exact q29)⟩, by show va_P D vwCl ws t.heap; rw [ht]; exact hP, hD, hT⟩, hS.F ht⟩) hS.2.2 dX9_ghostNumber_44
    · skip
      have d6 := c6
      rw [fa_lt] at d6
      refine lv_iload_n hx hb dX9_ghostNumber_9 rfl (lv_at hl 2 rfl) ?_
      refine lv_if_ne (tgt := 21) hx hb dX9_ghostNumber_10 (by decide) (fun c10 => ?_) (fun c10 => ?_)
      · skip
        have d10 := c10
        rw [fa_eq] at d10
        refine lv_iconst (v := 0) hx hb dX9_ghostNumber_21 (by decide) ?_
        exact W.iret (v := (0 : Int32)) hx hb hr (fun t ht hW => ⟨⟨_, (G, ws), rfl, ⟨rfl, (by first | (exfalso; omega) | (simp only [gN]; rw [if_pos (by omega)]; rfl) | (simp only [gN]; rw [if_neg (by omega)]; rfl))⟩, by show va_P D vwCl ws t.heap; rw [ht]; exact hP, hD, hT⟩, hS.F ht⟩) hS.2.2 dX9_ghostNumber_22
      · skip
        have d10 := c10
        rw [fa_eq] at d10
        refine lv_iload_n hx hb dX9_ghostNumber_13 rfl (lv_at hl 3 rfl) ?_
        refine lv_if_ne (tgt := 21) hx hb dX9_ghostNumber_14 (by decide) (fun c14 => ?_) (fun c14 => ?_)
        · skip
          have d14 := c14
          rw [fa_eq] at d14
          refine lv_iconst (v := 0) hx hb dX9_ghostNumber_21 (by decide) ?_
          exact W.iret (v := (0 : Int32)) hx hb hr (fun t ht hW => ⟨⟨_, (G, ws), rfl, ⟨rfl, (by first | (exfalso; omega) | (simp only [gN]; rw [if_pos (by omega)]; rfl) | (simp only [gN]; rw [if_neg (by omega)]; rfl))⟩, by show va_P D vwCl ws t.heap; rw [ht]; exact hP, hD, hT⟩, hS.F ht⟩) hS.2.2 dX9_ghostNumber_22
        · skip
          have d14 := c14
          rw [fa_eq] at d14
          refine lv_iconst (v := 1) hx hb dX9_ghostNumber_17 (by decide) ?_
          refine lv_goto (tgt := 22) hx hb dX9_ghostNumber_18 (by decide) ?_
          exact W.iret (v := (1 : Int32)) hx hb hr (fun t ht hW => ⟨⟨_, (G, ws), rfl, ⟨rfl, (by first | (exfalso; omega) | (simp only [gN]; rw [if_pos (by omega)]; rfl) | (simp only [gN]; rw [if_neg (by omega)]; rfl))⟩, by show va_P D vwCl ws t.heap; rw [ht]; exact hP, hD, hT⟩, hS.F ht⟩) hS.2.2 dX9_ghostNumber_22
set_option maxHeartbeats 4000000 in
set_option maxRecDepth 100000 in
theorem c_X9_ghostNumber_x3 (l : Launch) (D : va_G) (cy : Nat → ClassId) (A : Nat → Prop) (G : cG) (ws : va_W) (set : Int32) (way : Int32) (x : Int32) (y : Int32)  (hD : va_D A ws) (hT : cT cy G ws)  (hw0 : way.toInt = 2) (hx0 : -17 ≤ x.toInt ∧ x.toInt ≤ 17) (hy0 : -17 ≤ y.toInt ∧ y.toInt ≤ 17) : Ei l D cy A yX9_ghostNumber wsX9_ghostNumber ({ frames := 3, cells := 0, slots := 0, locals := 72 }) 0 0 ws [.int set, .int way, .int x, .int y] (fun r0 u => u = (G, ws) ∧ (r0.toInt = gN set 3 x.toInt y.toInt)) := by
  refine Met.ofW (cc := cX9_ghostNumber) (maxL := 5) (ret := (some .int)) (by decide) rfl ?_
  intro p e s m args below meth c s₁ B hml hv
  obtain ⟨rfl, ⟨hP, hK, hA, hV⟩, hZ⟩ := hv
  obtain ⟨tX, tY, xX, xY, ⟨zX1, zX2, zX5⟩, ⟨zY1, zY2, zY5⟩⟩ := id hZ
  have hx := B.exec
  have hb := B.bytes
  have hr := B.returns
  have hts := atoms_spec (ws := wsX9_ghostNumber) B.pre
  have hown : s.vm.findClass RX9 = some m.cls := findClass_of_methodNamed B.named
  have hlocks := B.notSynchronized
  have hS : va_S A s.heap s.heap [] := va_S.rf
  have hl := lv_entry ([.int set, .int way, .int x, .int y]) (n := 5) (Nat.le_of_ble_eq_true rfl)
  rw [lg_entry_eq]
  generalize (lg_sl ([.int set, .int way, .int x, .int y]) ++ List.replicate (5 - (lg_sl ([.int set, .int way, .int x, .int y])).length) Slot.unset).toArray = ls at hl ⊢
  have hl : lv_has ls 5 [(0, .int set), (1, .int way), (2, .int x), (3, .int y)] := hl
  have k_0 : (0 : Int32).toInt = 0 := by decide
  have k_1 : (1 : Int32).toInt = 1 := by decide
  have k_4 : (4 : Int32).toInt = 4 := by decide
  have ew : way = nI 2 := g_way (by decide) hw0
  have dxb := gdx_b 2
  have dzb := gdz_b 2
  have g01 := gB_01 set 2
  refine lv_iload_n hx hb dX9_ghostNumber_0 rfl (lv_at hl 1 rfl) ?_
  refine lv_if_lt (tgt := 9) hx hb dX9_ghostNumber_1 (by decide) (fun c1 => ?_) (fun c1 => ?_)
  · skip
    have d1 := c1
    rw [fa_lt] at d1
    refine lv_iload_n hx hb dX9_ghostNumber_9 rfl (lv_at hl 2 rfl) ?_
    refine lv_if_ne (tgt := 21) hx hb dX9_ghostNumber_10 (by decide) (fun c10 => ?_) (fun c10 => ?_)
    · skip
      have d10 := c10
      rw [fa_eq] at d10
      refine lv_iconst (v := 0) hx hb dX9_ghostNumber_21 (by decide) ?_
      exact W.iret (v := (0 : Int32)) hx hb hr (fun t ht hW => ⟨⟨_, (G, ws), rfl, ⟨rfl, (by first | (exfalso; omega) | (simp only [gN]; rw [if_pos (by omega)]; rfl) | (simp only [gN]; rw [if_neg (by omega)]; rfl))⟩, by show va_P D vwCl ws t.heap; rw [ht]; exact hP, hD, hT⟩, hS.F ht⟩) hS.2.2 dX9_ghostNumber_22
    · skip
      have d10 := c10
      rw [fa_eq] at d10
      refine lv_iload_n hx hb dX9_ghostNumber_13 rfl (lv_at hl 3 rfl) ?_
      refine lv_if_ne (tgt := 21) hx hb dX9_ghostNumber_14 (by decide) (fun c14 => ?_) (fun c14 => ?_)
      · skip
        have d14 := c14
        rw [fa_eq] at d14
        refine lv_iconst (v := 0) hx hb dX9_ghostNumber_21 (by decide) ?_
        exact W.iret (v := (0 : Int32)) hx hb hr (fun t ht hW => ⟨⟨_, (G, ws), rfl, ⟨rfl, (by first | (exfalso; omega) | (simp only [gN]; rw [if_pos (by omega)]; rfl) | (simp only [gN]; rw [if_neg (by omega)]; rfl))⟩, by show va_P D vwCl ws t.heap; rw [ht]; exact hP, hD, hT⟩, hS.F ht⟩) hS.2.2 dX9_ghostNumber_22
      · skip
        have d14 := c14
        rw [fa_eq] at d14
        refine lv_iconst (v := 1) hx hb dX9_ghostNumber_17 (by decide) ?_
        refine lv_goto (tgt := 22) hx hb dX9_ghostNumber_18 (by decide) ?_
        exact W.iret (v := (1 : Int32)) hx hb hr (fun t ht hW => ⟨⟨_, (G, ws), rfl, ⟨rfl, (by first | (exfalso; omega) | (simp only [gN]; rw [if_pos (by omega)]; rfl) | (simp only [gN]; rw [if_neg (by omega)]; rfl))⟩, by show va_P D vwCl ws t.heap; rw [ht]; exact hP, hD, hT⟩, hS.F ht⟩) hS.2.2 dX9_ghostNumber_22
  · skip
    have d1 := c1
    rw [fa_lt] at d1
    refine lv_iload_n hx hb dX9_ghostNumber_4 rfl (lv_at hl 1 rfl) ?_
    refine lv_iconst (v := 4) hx hb dX9_ghostNumber_5 (by decide) ?_
    refine lv_icmp_lt (tgt := 23) hx hb dX9_ghostNumber_6 (by decide) (fun c6 => ?_) (fun c6 => ?_)
    · skip
      have d6 := c6
      rw [fa_lt] at d6
      refine lv_iload_n hx hb dX9_ghostNumber_23 rfl (lv_at hl 0 rfl) ?_
      refine lv_iload_n hx hb dX9_ghostNumber_24 rfl (lv_at hl 1 rfl) ?_
      refine lv_iconst (v := 1) hx hb dX9_ghostNumber_25 (by decide) ?_
      refine lv_isub hx hb dX9_ghostNumber_26 ?_
      refine lv_topi (fun v26 e26 => ?_)
      have i26 : v26.toInt = way.toInt - (1 : Int32).toInt := by rw [e26]; exact fb_subI (by omega) (by omega)
      refine lv_iload_n hx hb dX9_ghostNumber_27 rfl (lv_at hl 2 rfl) ?_
      refine lv_iload_n hx hb dX9_ghostNumber_28 rfl (lv_at hl 3 rfl) ?_
      refine t_calli (va_runS (g := F0 m 29 ls ([.int y, .int x, .int v26, .int set])) (As := [.int set, .int v26, .int x, .int y]) (rest := []) ⟨hx, hb, hml, hown, hts⟩ (c_X9_ghostNumber_x2 l D cy A G ws set v26 x y hD hT (by omega) (by omega) (by omega)) (va_cwS 4 hts gX9_ghostNumber_X9_ghostNumber rfl rfl rfl (by decide +kernel) ⟨Nat.le_of_ble_eq_true rfl, Nat.le_of_ble_eq_true rfl⟩) (e_preS hP hK hA hS hV hZ) rfl rfl hl.1 rfl (lv_room (Nat.le_of_ble_eq_true rfl)) dX9_ghostNumber_29 ⟨Nat.le_of_ble_eq_true rfl, Nat.le_of_ble_eq_true rfl⟩) hS (fun r29 u H locs q29 hP9 hD9 hT9 hS => ?_)
      obtain ⟨rfl, q29⟩ := q29
      have hP : va_P D vwCl ws H := hP9
      refine lv_istore (lv' := [(4, .int r29), (0, .int set), (1, .int way), (2, .int x), (3, .int y)]) hx hb dX9_ghostNumber_32 hl (by decide) rfl (fun ls hl => ?_)
      refine lv_iload_n hx hb dX9_ghostNumber_34 rfl (lv_at hl 1 rfl) ?_
      refine lv_iload_n hx hb dX9_ghostNumber_35 rfl (lv_at hl 2 rfl) ?_
      refine lv_ishr hx hb dX9_ghostNumber_36 ?_
      refine lv_topi (fun v36 e36 => ?_)
      refine lv_iconst (v := 1) hx hb dX9_ghostNumber_37 (by decide) ?_
      refine lv_iand hx hb dX9_ghostNumber_38 ?_
      refine lv_topi (fun v38 e38 => ?_)
      have hB : gB set 2 = v38 := by rw [e38, e36, ew]; rfl
      refine lv_if_ne (tgt := 45) hx hb dX9_ghostNumber_39 (by decide) (fun c39 => ?_) (fun c39 => ?_)
      · skip
        have d39 := c39
        rw [fa_eq] at d39
        refine lv_iload hx hb dX9_ghostNumber_45 (lv_at hl 0 rfl) ?_
        refine lv_iload_n hx hb dX9_ghostNumber_47 rfl (lv_at hl 1 rfl) ?_
        refine lv_iload_n hx hb dX9_ghostNumber_48 rfl (lv_at hl 2 rfl) ?_
        refine lv_iconst (v := 1) hx hb dX9_ghostNumber_49 (by decide) ?_
        refine lv_isub hx hb dX9_ghostNumber_50 ?_
        refine lv_topi (fun v50 e50 => ?_)
        have i50 : v50.toInt = way.toInt - (1 : Int32).toInt := by rw [e50]; exact fb_subI (by omega) (by omega)
        refine lv_iload_n hx hb dX9_ghostNumber_51 rfl (lv_at hl 3 rfl) ?_
        refine va_gets hx hb zX1 hS hown (hts (.fieldLink RX9 309 "ShadowBench$Board" "STEP_X" "[I") (by decide +kernel)) (fun _ h9 => h9) dX9_ghostNumber_52 ?_
        refine lv_iload_n hx hb dX9_ghostNumber_55 rfl (lv_at hl 2 rfl) ?_
        refine va_ti hx hb zX2 hS (i := way) (vp_in_iff.mpr ⟨by omega, by omega⟩) (v := .int (xX way.toNatClampNeg)) rfl dX9_ghostNumber_56 ?_
        refine lv_topi (fun v56 e56 => ?_)
        have a56 := g_sx (k := 2) (by decide) zX5 ew e56
        refine lv_isub hx hb dX9_ghostNumber_57 ?_
        refine lv_topi (fun v57 e57 => ?_)
        have i57 : v57.toInt = x.toInt - v56.toInt := by rw [e57]; exact fb_subI (by omega) (by omega)
        refine lv_iload_n hx hb dX9_ghostNumber_58 rfl (lv_at hl 4 rfl) ?_
        refine va_gets hx hb zY1 hS hown (hts (.fieldLink RX9 313 "ShadowBench$Board" "STEP_Y" "[I") (by decide +kernel)) (fun _ h9 => h9) dX9_ghostNumber_59 ?_
        refine lv_iload_n hx hb dX9_ghostNumber_62 rfl (lv_at hl 2 rfl) ?_
        refine va_ti hx hb zY2 hS (i := way) (vp_in_iff.mpr ⟨by omega, by omega⟩) (v := .int (xY way.toNatClampNeg)) rfl dX9_ghostNumber_63 ?_
        refine lv_topi (fun v63 e63 => ?_)
        have a63 := g_sy (k := 2) (by decide) zY5 ew e63
        refine lv_isub hx hb dX9_ghostNumber_64 ?_
        refine lv_topi (fun v64 e64 => ?_)
        have i64 : v64.toInt = y.toInt - v63.toInt := by rw [e64]; exact fb_subI (by omega) (by omega)
        refine t_calli (va_runS (g := F0 m 65 ls ([.int v64, .int v57, .int v50, .int set, .int r29])) (As := [.int set, .int v50, .int v57, .int v64]) (rest := [.int r29]) ⟨hx, hb, hml, hown, hts⟩ (c_X9_ghostNumber_x2 l D cy A G ws set v50 v57 v64 hD hT (by omega) (by omega) (by omega)) (va_cwS 4 hts gX9_ghostNumber_X9_ghostNumber rfl rfl rfl (by decide +kernel) ⟨Nat.le_of_ble_eq_true rfl, Nat.le_of_ble_eq_true rfl⟩) (e_preS hP hK hA hS hV hZ) rfl rfl hl.1 rfl (lv_room (Nat.le_of_ble_eq_true rfl)) dX9_ghostNumber_65 ⟨Nat.le_of_ble_eq_true rfl, Nat.le_of_ble_eq_true rfl⟩) hS (fun r65 u H locs q65 hP9 hD9 hT9 hS => ?_)
        obtain ⟨rfl, q65⟩ := q65
        have hP : va_P D vwCl ws H := hP9
        have p1 := gN_b set 2 x.toInt y.toInt
        have p2 := gN_b set 2 v57.toInt v64.toInt
        simp only [show (2 ^ 2 : Nat) = 4 from by decide] at p1 p2
        refine lv_isub hx hb dX9_ghostNumber_68 ?_
        refine lv_topi (fun v68 e68 => ?_)
        have i68 : v68.toInt = r29.toInt - r65.toInt := by rw [e68]; exact fb_subI (by omega) (by omega)
        exact W.iret (v := v68) hx hb hr (fun t ht hW => ⟨⟨_, (G, ws), rfl, ⟨rfl, (by have hb1 : gB set 2 = 1 := g01.resolve_left (fun z => c39 (hB.symm.trans z)); show _ = gN set (2 + 1) _ _; rw [gN_1 hb1, ← a56, ← a63, ← i57, ← i64, ← q29, ← q65]; exact i68)⟩, by show va_P D vwCl ws t.heap; rw [ht]; exact hP, hD, hT⟩, hS.F ht⟩) hS.2.2 dX9_ghostNumber_69
      · skip
        have d39 := c39
        rw [fa_eq] at d39
        refine lv_iload hx hb dX9_ghostNumber_42 (lv_at hl 0 rfl) ?_
        exact W.iret (v := r29) hx hb hr (fun t ht hW => ⟨⟨_, (G, ws), rfl, ⟨rfl, (by show _ = gN set (2 + 1) _ _; rw [gN_0 (fun z => absurd (c39.symm.trans (hB.symm.trans z)) (by decide))]; exact q29)⟩, by show va_P D vwCl ws t.heap; rw [ht]; exact hP, hD, hT⟩, hS.F ht⟩) hS.2.2 dX9_ghostNumber_44
    · skip
      have d6 := c6
      rw [fa_lt] at d6
      refine lv_iload_n hx hb dX9_ghostNumber_9 rfl (lv_at hl 2 rfl) ?_
      refine lv_if_ne (tgt := 21) hx hb dX9_ghostNumber_10 (by decide) (fun c10 => ?_) (fun c10 => ?_)
      · skip
        have d10 := c10
        rw [fa_eq] at d10
        refine lv_iconst (v := 0) hx hb dX9_ghostNumber_21 (by decide) ?_
        exact W.iret (v := (0 : Int32)) hx hb hr (fun t ht hW => ⟨⟨_, (G, ws), rfl, ⟨rfl, (by first | (exfalso; omega) | (simp only [gN]; rw [if_pos (by omega)]; rfl) | (simp only [gN]; rw [if_neg (by omega)]; rfl))⟩, by show va_P D vwCl ws t.heap; rw [ht]; exact hP, hD, hT⟩, hS.F ht⟩) hS.2.2 dX9_ghostNumber_22
      · skip
        have d10 := c10
        rw [fa_eq] at d10
        refine lv_iload_n hx hb dX9_ghostNumber_13 rfl (lv_at hl 3 rfl) ?_
        refine lv_if_ne (tgt := 21) hx hb dX9_ghostNumber_14 (by decide) (fun c14 => ?_) (fun c14 => ?_)
        · skip
          have d14 := c14
          rw [fa_eq] at d14
          refine lv_iconst (v := 0) hx hb dX9_ghostNumber_21 (by decide) ?_
          exact W.iret (v := (0 : Int32)) hx hb hr (fun t ht hW => ⟨⟨_, (G, ws), rfl, ⟨rfl, (by first | (exfalso; omega) | (simp only [gN]; rw [if_pos (by omega)]; rfl) | (simp only [gN]; rw [if_neg (by omega)]; rfl))⟩, by show va_P D vwCl ws t.heap; rw [ht]; exact hP, hD, hT⟩, hS.F ht⟩) hS.2.2 dX9_ghostNumber_22
        · skip
          have d14 := c14
          rw [fa_eq] at d14
          refine lv_iconst (v := 1) hx hb dX9_ghostNumber_17 (by decide) ?_
          refine lv_goto (tgt := 22) hx hb dX9_ghostNumber_18 (by decide) ?_
          exact W.iret (v := (1 : Int32)) hx hb hr (fun t ht hW => ⟨⟨_, (G, ws), rfl, ⟨rfl, (by first | (exfalso; omega) | (simp only [gN]; rw [if_pos (by omega)]; rfl) | (simp only [gN]; rw [if_neg (by omega)]; rfl))⟩, by show va_P D vwCl ws t.heap; rw [ht]; exact hP, hD, hT⟩, hS.F ht⟩) hS.2.2 dX9_ghostNumber_22
set_option maxHeartbeats 4000000 in
set_option maxRecDepth 100000 in
theorem c_X9_ghostNumber_x4 (l : Launch) (D : va_G) (cy : Nat → ClassId) (A : Nat → Prop) (G : cG) (ws : va_W) (set : Int32) (way : Int32) (x : Int32) (y : Int32)  (hD : va_D A ws) (hT : cT cy G ws)  (hw0 : way.toInt = 3) (hx0 : -16 ≤ x.toInt ∧ x.toInt ≤ 16) (hy0 : -16 ≤ y.toInt ∧ y.toInt ≤ 16) : Ei l D cy A yX9_ghostNumber wsX9_ghostNumber ({ frames := 4, cells := 0, slots := 0, locals := 96 }) 0 0 ws [.int set, .int way, .int x, .int y] (fun r0 u => u = (G, ws) ∧ (r0.toInt = gN set 4 x.toInt y.toInt)) := by
  refine Met.ofW (cc := cX9_ghostNumber) (maxL := 5) (ret := (some .int)) (by decide) rfl ?_
  intro p e s m args below meth c s₁ B hml hv
  obtain ⟨rfl, ⟨hP, hK, hA, hV⟩, hZ⟩ := hv
  obtain ⟨tX, tY, xX, xY, ⟨zX1, zX2, zX5⟩, ⟨zY1, zY2, zY5⟩⟩ := id hZ
  have hx := B.exec
  have hb := B.bytes
  have hr := B.returns
  have hts := atoms_spec (ws := wsX9_ghostNumber) B.pre
  have hown : s.vm.findClass RX9 = some m.cls := findClass_of_methodNamed B.named
  have hlocks := B.notSynchronized
  have hS : va_S A s.heap s.heap [] := va_S.rf
  have hl := lv_entry ([.int set, .int way, .int x, .int y]) (n := 5) (Nat.le_of_ble_eq_true rfl)
  rw [lg_entry_eq]
  generalize (lg_sl ([.int set, .int way, .int x, .int y]) ++ List.replicate (5 - (lg_sl ([.int set, .int way, .int x, .int y])).length) Slot.unset).toArray = ls at hl ⊢
  have hl : lv_has ls 5 [(0, .int set), (1, .int way), (2, .int x), (3, .int y)] := hl
  have k_0 : (0 : Int32).toInt = 0 := by decide
  have k_1 : (1 : Int32).toInt = 1 := by decide
  have k_4 : (4 : Int32).toInt = 4 := by decide
  have ew : way = nI 3 := g_way (by decide) hw0
  have dxb := gdx_b 3
  have dzb := gdz_b 3
  have g01 := gB_01 set 3
  refine lv_iload_n hx hb dX9_ghostNumber_0 rfl (lv_at hl 1 rfl) ?_
  refine lv_if_lt (tgt := 9) hx hb dX9_ghostNumber_1 (by decide) (fun c1 => ?_) (fun c1 => ?_)
  · skip
    have d1 := c1
    rw [fa_lt] at d1
    refine lv_iload_n hx hb dX9_ghostNumber_9 rfl (lv_at hl 2 rfl) ?_
    refine lv_if_ne (tgt := 21) hx hb dX9_ghostNumber_10 (by decide) (fun c10 => ?_) (fun c10 => ?_)
    · skip
      have d10 := c10
      rw [fa_eq] at d10
      refine lv_iconst (v := 0) hx hb dX9_ghostNumber_21 (by decide) ?_
      exact W.iret (v := (0 : Int32)) hx hb hr (fun t ht hW => ⟨⟨_, (G, ws), rfl, ⟨rfl, (by first | (exfalso; omega) | (simp only [gN]; rw [if_pos (by omega)]; rfl) | (simp only [gN]; rw [if_neg (by omega)]; rfl))⟩, by show va_P D vwCl ws t.heap; rw [ht]; exact hP, hD, hT⟩, hS.F ht⟩) hS.2.2 dX9_ghostNumber_22
    · skip
      have d10 := c10
      rw [fa_eq] at d10
      refine lv_iload_n hx hb dX9_ghostNumber_13 rfl (lv_at hl 3 rfl) ?_
      refine lv_if_ne (tgt := 21) hx hb dX9_ghostNumber_14 (by decide) (fun c14 => ?_) (fun c14 => ?_)
      · skip
        have d14 := c14
        rw [fa_eq] at d14
        refine lv_iconst (v := 0) hx hb dX9_ghostNumber_21 (by decide) ?_
        exact W.iret (v := (0 : Int32)) hx hb hr (fun t ht hW => ⟨⟨_, (G, ws), rfl, ⟨rfl, (by first | (exfalso; omega) | (simp only [gN]; rw [if_pos (by omega)]; rfl) | (simp only [gN]; rw [if_neg (by omega)]; rfl))⟩, by show va_P D vwCl ws t.heap; rw [ht]; exact hP, hD, hT⟩, hS.F ht⟩) hS.2.2 dX9_ghostNumber_22
      · skip
        have d14 := c14
        rw [fa_eq] at d14
        refine lv_iconst (v := 1) hx hb dX9_ghostNumber_17 (by decide) ?_
        refine lv_goto (tgt := 22) hx hb dX9_ghostNumber_18 (by decide) ?_
        exact W.iret (v := (1 : Int32)) hx hb hr (fun t ht hW => ⟨⟨_, (G, ws), rfl, ⟨rfl, (by first | (exfalso; omega) | (simp only [gN]; rw [if_pos (by omega)]; rfl) | (simp only [gN]; rw [if_neg (by omega)]; rfl))⟩, by show va_P D vwCl ws t.heap; rw [ht]; exact hP, hD, hT⟩, hS.F ht⟩) hS.2.2 dX9_ghostNumber_22
  · skip
    have d1 := c1
    rw [fa_lt] at d1
    refine lv_iload_n hx hb dX9_ghostNumber_4 rfl (lv_at hl 1 rfl) ?_
    refine lv_iconst (v := 4) hx hb dX9_ghostNumber_5 (by decide) ?_
    refine lv_icmp_lt (tgt := 23) hx hb dX9_ghostNumber_6 (by decide) (fun c6 => ?_) (fun c6 => ?_)
    · skip
      have d6 := c6
      rw [fa_lt] at d6
      refine lv_iload_n hx hb dX9_ghostNumber_23 rfl (lv_at hl 0 rfl) ?_
      refine lv_iload_n hx hb dX9_ghostNumber_24 rfl (lv_at hl 1 rfl) ?_
      refine lv_iconst (v := 1) hx hb dX9_ghostNumber_25 (by decide) ?_
      refine lv_isub hx hb dX9_ghostNumber_26 ?_
      refine lv_topi (fun v26 e26 => ?_)
      have i26 : v26.toInt = way.toInt - (1 : Int32).toInt := by rw [e26]; exact fb_subI (by omega) (by omega)
      refine lv_iload_n hx hb dX9_ghostNumber_27 rfl (lv_at hl 2 rfl) ?_
      refine lv_iload_n hx hb dX9_ghostNumber_28 rfl (lv_at hl 3 rfl) ?_
      refine t_calli (va_runS (g := F0 m 29 ls ([.int y, .int x, .int v26, .int set])) (As := [.int set, .int v26, .int x, .int y]) (rest := []) ⟨hx, hb, hml, hown, hts⟩ (c_X9_ghostNumber_x3 l D cy A G ws set v26 x y hD hT (by omega) (by omega) (by omega)) (va_cwS 4 hts gX9_ghostNumber_X9_ghostNumber rfl rfl rfl (by decide +kernel) ⟨Nat.le_of_ble_eq_true rfl, Nat.le_of_ble_eq_true rfl⟩) (e_preS hP hK hA hS hV hZ) rfl rfl hl.1 rfl (lv_room (Nat.le_of_ble_eq_true rfl)) dX9_ghostNumber_29 ⟨Nat.le_of_ble_eq_true rfl, Nat.le_of_ble_eq_true rfl⟩) hS (fun r29 u H locs q29 hP9 hD9 hT9 hS => ?_)
      obtain ⟨rfl, q29⟩ := q29
      have hP : va_P D vwCl ws H := hP9
      refine lv_istore (lv' := [(4, .int r29), (0, .int set), (1, .int way), (2, .int x), (3, .int y)]) hx hb dX9_ghostNumber_32 hl (by decide) rfl (fun ls hl => ?_)
      refine lv_iload_n hx hb dX9_ghostNumber_34 rfl (lv_at hl 1 rfl) ?_
      refine lv_iload_n hx hb dX9_ghostNumber_35 rfl (lv_at hl 2 rfl) ?_
      refine lv_ishr hx hb dX9_ghostNumber_36 ?_
      refine lv_topi (fun v36 e36 => ?_)
      refine lv_iconst (v := 1) hx hb dX9_ghostNumber_37 (by decide) ?_
      refine lv_iand hx hb dX9_ghostNumber_38 ?_
      refine lv_topi (fun v38 e38 => ?_)
      have hB : gB set 3 = v38 := by rw [e38, e36, ew]; rfl
      refine lv_if_ne (tgt := 45) hx hb dX9_ghostNumber_39 (by decide) (fun c39 => ?_) (fun c39 => ?_)
      · skip
        have d39 := c39
        rw [fa_eq] at d39
        refine lv_iload hx hb dX9_ghostNumber_45 (lv_at hl 0 rfl) ?_
        refine lv_iload_n hx hb dX9_ghostNumber_47 rfl (lv_at hl 1 rfl) ?_
        refine lv_iload_n hx hb dX9_ghostNumber_48 rfl (lv_at hl 2 rfl) ?_
        refine lv_iconst (v := 1) hx hb dX9_ghostNumber_49 (by decide) ?_
        refine lv_isub hx hb dX9_ghostNumber_50 ?_
        refine lv_topi (fun v50 e50 => ?_)
        have i50 : v50.toInt = way.toInt - (1 : Int32).toInt := by rw [e50]; exact fb_subI (by omega) (by omega)
        refine lv_iload_n hx hb dX9_ghostNumber_51 rfl (lv_at hl 3 rfl) ?_
        refine va_gets hx hb zX1 hS hown (hts (.fieldLink RX9 309 "ShadowBench$Board" "STEP_X" "[I") (by decide +kernel)) (fun _ h9 => h9) dX9_ghostNumber_52 ?_
        refine lv_iload_n hx hb dX9_ghostNumber_55 rfl (lv_at hl 2 rfl) ?_
        refine va_ti hx hb zX2 hS (i := way) (vp_in_iff.mpr ⟨by omega, by omega⟩) (v := .int (xX way.toNatClampNeg)) rfl dX9_ghostNumber_56 ?_
        refine lv_topi (fun v56 e56 => ?_)
        have a56 := g_sx (k := 3) (by decide) zX5 ew e56
        refine lv_isub hx hb dX9_ghostNumber_57 ?_
        refine lv_topi (fun v57 e57 => ?_)
        have i57 : v57.toInt = x.toInt - v56.toInt := by rw [e57]; exact fb_subI (by omega) (by omega)
        refine lv_iload_n hx hb dX9_ghostNumber_58 rfl (lv_at hl 4 rfl) ?_
        refine va_gets hx hb zY1 hS hown (hts (.fieldLink RX9 313 "ShadowBench$Board" "STEP_Y" "[I") (by decide +kernel)) (fun _ h9 => h9) dX9_ghostNumber_59 ?_
        refine lv_iload_n hx hb dX9_ghostNumber_62 rfl (lv_at hl 2 rfl) ?_
        refine va_ti hx hb zY2 hS (i := way) (vp_in_iff.mpr ⟨by omega, by omega⟩) (v := .int (xY way.toNatClampNeg)) rfl dX9_ghostNumber_63 ?_
        refine lv_topi (fun v63 e63 => ?_)
        have a63 := g_sy (k := 3) (by decide) zY5 ew e63
        refine lv_isub hx hb dX9_ghostNumber_64 ?_
        refine lv_topi (fun v64 e64 => ?_)
        have i64 : v64.toInt = y.toInt - v63.toInt := by rw [e64]; exact fb_subI (by omega) (by omega)
        refine t_calli (va_runS (g := F0 m 65 ls ([.int v64, .int v57, .int v50, .int set, .int r29])) (As := [.int set, .int v50, .int v57, .int v64]) (rest := [.int r29]) ⟨hx, hb, hml, hown, hts⟩ (c_X9_ghostNumber_x3 l D cy A G ws set v50 v57 v64 hD hT (by omega) (by omega) (by omega)) (va_cwS 4 hts gX9_ghostNumber_X9_ghostNumber rfl rfl rfl (by decide +kernel) ⟨Nat.le_of_ble_eq_true rfl, Nat.le_of_ble_eq_true rfl⟩) (e_preS hP hK hA hS hV hZ) rfl rfl hl.1 rfl (lv_room (Nat.le_of_ble_eq_true rfl)) dX9_ghostNumber_65 ⟨Nat.le_of_ble_eq_true rfl, Nat.le_of_ble_eq_true rfl⟩) hS (fun r65 u H locs q65 hP9 hD9 hT9 hS => ?_)
        obtain ⟨rfl, q65⟩ := q65
        have hP : va_P D vwCl ws H := hP9
        have p1 := gN_b set 3 x.toInt y.toInt
        have p2 := gN_b set 3 v57.toInt v64.toInt
        simp only [show (2 ^ 3 : Nat) = 8 from by decide] at p1 p2
        refine lv_isub hx hb dX9_ghostNumber_68 ?_
        refine lv_topi (fun v68 e68 => ?_)
        have i68 : v68.toInt = r29.toInt - r65.toInt := by rw [e68]; exact fb_subI (by omega) (by omega)
        exact W.iret (v := v68) hx hb hr (fun t ht hW => ⟨⟨_, (G, ws), rfl, ⟨rfl, (by have hb1 : gB set 3 = 1 := g01.resolve_left (fun z => c39 (hB.symm.trans z)); show _ = gN set (3 + 1) _ _; rw [gN_1 hb1, ← a56, ← a63, ← i57, ← i64, ← q29, ← q65]; exact i68)⟩, by show va_P D vwCl ws t.heap; rw [ht]; exact hP, hD, hT⟩, hS.F ht⟩) hS.2.2 dX9_ghostNumber_69
      · skip
        have d39 := c39
        rw [fa_eq] at d39
        refine lv_iload hx hb dX9_ghostNumber_42 (lv_at hl 0 rfl) ?_
        exact W.iret (v := r29) hx hb hr (fun t ht hW => ⟨⟨_, (G, ws), rfl, ⟨rfl, (by show _ = gN set (3 + 1) _ _; rw [gN_0 (fun z => absurd (c39.symm.trans (hB.symm.trans z)) (by decide))]; exact q29)⟩, by show va_P D vwCl ws t.heap; rw [ht]; exact hP, hD, hT⟩, hS.F ht⟩) hS.2.2 dX9_ghostNumber_44
    · skip
      have d6 := c6
      rw [fa_lt] at d6
      refine lv_iload_n hx hb dX9_ghostNumber_9 rfl (lv_at hl 2 rfl) ?_
      refine lv_if_ne (tgt := 21) hx hb dX9_ghostNumber_10 (by decide) (fun c10 => ?_) (fun c10 => ?_)
      · skip
        have d10 := c10
        rw [fa_eq] at d10
        refine lv_iconst (v := 0) hx hb dX9_ghostNumber_21 (by decide) ?_
        exact W.iret (v := (0 : Int32)) hx hb hr (fun t ht hW => ⟨⟨_, (G, ws), rfl, ⟨rfl, (by first | (exfalso; omega) | (simp only [gN]; rw [if_pos (by omega)]; rfl) | (simp only [gN]; rw [if_neg (by omega)]; rfl))⟩, by show va_P D vwCl ws t.heap; rw [ht]; exact hP, hD, hT⟩, hS.F ht⟩) hS.2.2 dX9_ghostNumber_22
      · skip
        have d10 := c10
        rw [fa_eq] at d10
        refine lv_iload_n hx hb dX9_ghostNumber_13 rfl (lv_at hl 3 rfl) ?_
        refine lv_if_ne (tgt := 21) hx hb dX9_ghostNumber_14 (by decide) (fun c14 => ?_) (fun c14 => ?_)
        · skip
          have d14 := c14
          rw [fa_eq] at d14
          refine lv_iconst (v := 0) hx hb dX9_ghostNumber_21 (by decide) ?_
          exact W.iret (v := (0 : Int32)) hx hb hr (fun t ht hW => ⟨⟨_, (G, ws), rfl, ⟨rfl, (by first | (exfalso; omega) | (simp only [gN]; rw [if_pos (by omega)]; rfl) | (simp only [gN]; rw [if_neg (by omega)]; rfl))⟩, by show va_P D vwCl ws t.heap; rw [ht]; exact hP, hD, hT⟩, hS.F ht⟩) hS.2.2 dX9_ghostNumber_22
        · skip
          have d14 := c14
          rw [fa_eq] at d14
          refine lv_iconst (v := 1) hx hb dX9_ghostNumber_17 (by decide) ?_
          refine lv_goto (tgt := 22) hx hb dX9_ghostNumber_18 (by decide) ?_
          exact W.iret (v := (1 : Int32)) hx hb hr (fun t ht hW => ⟨⟨_, (G, ws), rfl, ⟨rfl, (by first | (exfalso; omega) | (simp only [gN]; rw [if_pos (by omega)]; rfl) | (simp only [gN]; rw [if_neg (by omega)]; rfl))⟩, by show va_P D vwCl ws t.heap; rw [ht]; exact hP, hD, hT⟩, hS.F ht⟩) hS.2.2 dX9_ghostNumber_22
set_option maxHeartbeats 4000000 in
set_option maxRecDepth 100000 in
theorem c_X9_ghost_x (l : Launch) (hst : l.stackTraces = false) (D : va_G) (cy : Nat → ClassId) (A : Nat → Prop) (G : cG) (ws : va_W) (o : Nat) (set : Int32) (x : Int32) (y : Int32)  (hD : va_D A ws) (hT : cT cy G ws) (hG_o : G o = some (7, 0, 0))  : Xi l D cy A yX9_ghost wsX9_ghost ({ frames := 6, cells := 1, slots := 6, locals := 120 }) 1 6 ws [.ref o, .int set, .int x, .int y] (fun r0 u => u = (G, ws) ∧ (gOk set x y ∧ r0.toInt = gV set x y)) (fun u => u = (G, ws) ∧ ¬ gOk set x y) (fun E => E = xIA) := by
  refine vx_ofW (cc := cX9_ghost) (maxL := 5) (ret := (some .int)) (by decide) rfl ?_
  intro p e s m args below meth c s₁ B hml hno hv
  obtain ⟨rfl, ⟨hP, hK, hA, hV⟩, hZ, hXT⟩ := hv
  have hx := B.exec
  have hb := B.bytes
  have hr := B.returns
  have hts := atoms_spec (ws := wsX9_ghost) B.pre
  have hown : s.vm.findClass RX9 = some m.cls := findClass_of_methodNamed B.named
  have hlocks := B.notSynchronized
  have hS : va_S A s.heap s.heap [] := va_S.rf
  have hl := lv_entry ([.ref o, .int set, .int x, .int y]) (n := 5) (Nat.le_of_ble_eq_true rfl)
  rw [lg_entry_eq]
  generalize (lg_sl ([.ref o, .int set, .int x, .int y]) ++ List.replicate (5 - (lg_sl ([.ref o, .int set, .int x, .int y])).length) Slot.unset).toArray = ls at hl ⊢
  have hl : lv_has ls 5 [(0, .ref o), (1, .int set), (2, .int x), (3, .int y)] := hl
  have k_0 : (0 : Int32).toInt = 0 := by decide
  have k_1 : (1 : Int32).toInt = 1 := by decide
  have k_3 : (3 : Int32).toInt = 3 := by decide
  have k_9 : (9 : Int32).toInt = 9 := by decide
  refine lv_iload_n hx hb dX9_ghost_0 rfl (lv_at hl 1 rfl) ?_
  refine t_pu (As := [.int set]) (rest := []) ⟨hx, hb, hml, hown, hts⟩ (c_X9_isGhostSet l set ) (va_cwS 1 hts gX9_ghost_X9_isGhostSet rfl rfl rfl (by decide +kernel) ⟨Nat.le_of_ble_eq_true rfl, Nat.le_of_ble_eq_true rfl⟩) hP rfl hl.1 rfl (Nat.le_of_ble_eq_true rfl) dX9_ghost_1 ⟨Nat.le_of_ble_eq_true rfl, Nat.le_of_ble_eq_true rfl⟩ hS (fun r1 H locs q1 hP hS => ?_)
  refine lv_if_eq (tgt := 27) hx hb dX9_ghost_4 (by decide) (fun c4 => ?_) (fun c4 => ?_)
  · skip
    have b4 := bo_f q1 c4
    obtain ⟨sa27, hsa27⟩ := hXT.2.2.1 (RX9, 225, "no such set of ways, or no such place") (by decide)
    exact vx_throwS (own := RX9) (cls := xIA) (names := [xRT, xEX]) (A := A) (ik := 223) (ic := 227) hx hb hst hown (by decide) (by decide) (hts (.classLink RX9 223 xIA) (by decide +kernel)) (hts (.initialized xIA) (by decide +kernel)) hsa27 (x_hat hts hXT (Or.inl rfl) (by decide +kernel) (by decide +kernel)) (by decide +kernel) hXT.2.2.2.1 hXT.2.2.2.2 hS (by rw [hml]; exact hl.1) dX9_ghost_27 dX9_ghost_30 dX9_ghost_31 dX9_ghost_33 dX9_ghost_36 (fun x9 h9 => (hno x9 h9).elim) (Nat.le_of_ble_eq_true rfl) (Nat.le_of_ble_eq_true rfl) (Nat.le_of_ble_eq_true rfl) (Nat.le_of_ble_eq_true rfl) hlocks (x_thr (G' := G) (ws' := ws) ⟨rfl, (by unfold gOk; omega)⟩ (rfl) hP hD hT hS) hS.2.2 (Nat.le_of_ble_eq_true rfl) (Nat.le_of_ble_eq_true rfl)
  · skip
    have b4 := bo_t q1 c4
    refine lv_iload_n hx hb dX9_ghost_7 rfl (lv_at hl 2 rfl) ?_
    refine lv_if_lt (tgt := 27) hx hb dX9_ghost_8 (by decide) (fun c8 => ?_) (fun c8 => ?_)
    · skip
      have d8 := c8
      rw [fa_lt] at d8
      obtain ⟨sa27, hsa27⟩ := hXT.2.2.1 (RX9, 225, "no such set of ways, or no such place") (by decide)
      exact vx_throwS (own := RX9) (cls := xIA) (names := [xRT, xEX]) (A := A) (ik := 223) (ic := 227) hx hb hst hown (by decide) (by decide) (hts (.classLink RX9 223 xIA) (by decide +kernel)) (hts (.initialized xIA) (by decide +kernel)) hsa27 (x_hat hts hXT (Or.inl rfl) (by decide +kernel) (by decide +kernel)) (by decide +kernel) hXT.2.2.2.1 hXT.2.2.2.2 hS (by rw [hml]; exact hl.1) dX9_ghost_27 dX9_ghost_30 dX9_ghost_31 dX9_ghost_33 dX9_ghost_36 (fun x9 h9 => (hno x9 h9).elim) (Nat.le_of_ble_eq_true rfl) (Nat.le_of_ble_eq_true rfl) (Nat.le_of_ble_eq_true rfl) (Nat.le_of_ble_eq_true rfl) hlocks (x_thr (G' := G) (ws' := ws) ⟨rfl, (by unfold gOk; omega)⟩ (rfl) hP hD hT hS) hS.2.2 (Nat.le_of_ble_eq_true rfl) (Nat.le_of_ble_eq_true rfl)
    · skip
      have d8 := c8
      rw [fa_lt] at d8
      refine lv_iload_n hx hb dX9_ghost_11 rfl (lv_at hl 2 rfl) ?_
      refine lv_bipush (v := 9) hx hb dX9_ghost_12 (by decide) ?_
      refine lv_icmp_ge (tgt := 27) hx hb dX9_ghost_14 (by decide) (fun c14 => ?_) (fun c14 => ?_)
      · skip
        have d14 := c14
        rw [fa_le] at d14
        obtain ⟨sa27, hsa27⟩ := hXT.2.2.1 (RX9, 225, "no such set of ways, or no such place") (by decide)
        exact vx_throwS (own := RX9) (cls := xIA) (names := [xRT, xEX]) (A := A) (ik := 223) (ic := 227) hx hb hst hown (by decide) (by decide) (hts (.classLink RX9 223 xIA) (by decide +kernel)) (hts (.initialized xIA) (by decide +kernel)) hsa27 (x_hat hts hXT (Or.inl rfl) (by decide +kernel) (by decide +kernel)) (by decide +kernel) hXT.2.2.2.1 hXT.2.2.2.2 hS (by rw [hml]; exact hl.1) dX9_ghost_27 dX9_ghost_30 dX9_ghost_31 dX9_ghost_33 dX9_ghost_36 (fun x9 h9 => (hno x9 h9).elim) (Nat.le_of_ble_eq_true rfl) (Nat.le_of_ble_eq_true rfl) (Nat.le_of_ble_eq_true rfl) (Nat.le_of_ble_eq_true rfl) hlocks (x_thr (G' := G) (ws' := ws) ⟨rfl, (by unfold gOk; omega)⟩ (rfl) hP hD hT hS) hS.2.2 (Nat.le_of_ble_eq_true rfl) (Nat.le_of_ble_eq_true rfl)
      · skip
        have d14 := c14
        rw [fa_le] at d14
        refine lv_iload_n hx hb dX9_ghost_17 rfl (lv_at hl 3 rfl) ?_
        refine lv_if_lt (tgt := 27) hx hb dX9_ghost_18 (by decide) (fun c18 => ?_) (fun c18 => ?_)
        · skip
          have d18 := c18
          rw [fa_lt] at d18
          obtain ⟨sa27, hsa27⟩ := hXT.2.2.1 (RX9, 225, "no such set of ways, or no such place") (by decide)
          exact vx_throwS (own := RX9) (cls := xIA) (names := [xRT, xEX]) (A := A) (ik := 223) (ic := 227) hx hb hst hown (by decide) (by decide) (hts (.classLink RX9 223 xIA) (by decide +kernel)) (hts (.initialized xIA) (by decide +kernel)) hsa27 (x_hat hts hXT (Or.inl rfl) (by decide +kernel) (by decide +kernel)) (by decide +kernel) hXT.2.2.2.1 hXT.2.2.2.2 hS (by rw [hml]; exact hl.1) dX9_ghost_27 dX9_ghost_30 dX9_ghost_31 dX9_ghost_33 dX9_ghost_36 (fun x9 h9 => (hno x9 h9).elim) (Nat.le_of_ble_eq_true rfl) (Nat.le_of_ble_eq_true rfl) (Nat.le_of_ble_eq_true rfl) (Nat.le_of_ble_eq_true rfl) hlocks (x_thr (G' := G) (ws' := ws) ⟨rfl, (by unfold gOk; omega)⟩ (rfl) hP hD hT hS) hS.2.2 (Nat.le_of_ble_eq_true rfl) (Nat.le_of_ble_eq_true rfl)
        · skip
          have d18 := c18
          rw [fa_lt] at d18
          refine lv_iload_n hx hb dX9_ghost_21 rfl (lv_at hl 3 rfl) ?_
          refine lv_bipush (v := 9) hx hb dX9_ghost_22 (by decide) ?_
          refine lv_icmp_lt (tgt := 37) hx hb dX9_ghost_24 (by decide) (fun c24 => ?_) (fun c24 => ?_)
          · skip
            have d24 := c24
            rw [fa_lt] at d24
            refine lv_iload_n hx hb dX9_ghost_37 rfl (lv_at hl 1 rfl) ?_
            refine lv_iconst (v := 3) hx hb dX9_ghost_38 (by decide) ?_
            refine lv_ishr hx hb dX9_ghost_39 ?_
            refine lv_topi (fun v39 e39 => ?_)
            refine lv_iconst (v := 1) hx hb dX9_ghost_40 (by decide) ?_
            refine lv_iand hx hb dX9_ghost_41 ?_
            refine lv_topi (fun v41 e41 => ?_)
            have hB3 : gB set 3 = v41 := by rw [e41, e39]; rfl
            have b41 := bit1 e41
            refine lv_istore (lv' := [(4, .int v41), (0, .ref o), (1, .int set), (2, .int x), (3, .int y)]) hx hb dX9_ghost_42 hl (by decide) rfl (fun ls hl => ?_)
            refine lv_iload_n hx hb dX9_ghost_44 rfl (lv_at hl 2 rfl) ?_
            refine lv_iconst (v := 3) hx hb dX9_ghost_45 (by decide) ?_
            refine lv_iload_n hx hb dX9_ghost_46 rfl (lv_at hl 3 rfl) ?_
            refine lv_iload_n hx hb dX9_ghost_47 rfl (lv_at hl 4 rfl) ?_
            refine lv_iload hx hb dX9_ghost_48 (lv_at hl 0 rfl) ?_
            refine lv_isub hx hb dX9_ghost_50 ?_
            refine lv_topi (fun v50 e50 => ?_)
            have i50 : v50.toInt = y.toInt - v41.toInt := by rw [e50]; exact fb_subI (by omega) (by omega)
            refine t_calli (va_runS (g := F0 m 51 ls ([.int v50, .int x, .int (3 : Int32), .int set])) (As := [.int set, .int (3 : Int32), .int x, .int v50]) (rest := []) ⟨hx, hb, hml, hown, hts⟩ (c_X9_ghostNumber_x4 l D cy A G ws set (3 : Int32) x v50 hD hT (by omega) (by omega) (by omega)) (va_cwS 4 hts gX9_ghost_X9_ghostNumber rfl rfl rfl (by decide +kernel) ⟨Nat.le_of_ble_eq_true rfl, Nat.le_of_ble_eq_true rfl⟩) (e_preS hP hK hA hS hV hZ) rfl rfl hl.1 rfl (lv_room (Nat.le_of_ble_eq_true rfl)) dX9_ghost_51 ⟨Nat.le_of_ble_eq_true rfl, Nat.le_of_ble_eq_true rfl⟩) hS (fun r51 u H locs q51 hP9 hD9 hT9 hS => ?_)
            obtain ⟨rfl, q51⟩ := q51
            have hP : va_P D vwCl ws H := hP9
            refine vx_ret ?_
            refine W.widen (k := 1) (n := 6) (Nat.le_of_ble_eq_true rfl) (Nat.le_of_ble_eq_true rfl) ?_
            exact W.iret (v := r51) hx hb hr (fun t ht hW => ⟨⟨_, (G, ws), rfl, ⟨rfl, ⟨(by unfold gOk; omega), (by unfold gV gF; rw [hB3, ← i50]; exact q51)⟩⟩, by show va_P D vwCl ws t.heap; rw [ht]; exact hP, hD, hT⟩, hS.F ht⟩) hS.2.2 dX9_ghost_54
          · skip
            have d24 := c24
            rw [fa_lt] at d24
            obtain ⟨sa27, hsa27⟩ := hXT.2.2.1 (RX9, 225, "no such set of ways, or no such place") (by decide)
            exact vx_throwS (own := RX9) (cls := xIA) (names := [xRT, xEX]) (A := A) (ik := 223) (ic := 227) hx hb hst hown (by decide) (by decide) (hts (.classLink RX9 223 xIA) (by decide +kernel)) (hts (.initialized xIA) (by decide +kernel)) hsa27 (x_hat hts hXT (Or.inl rfl) (by decide +kernel) (by decide +kernel)) (by decide +kernel) hXT.2.2.2.1 hXT.2.2.2.2 hS (by rw [hml]; exact hl.1) dX9_ghost_27 dX9_ghost_30 dX9_ghost_31 dX9_ghost_33 dX9_ghost_36 (fun x9 h9 => (hno x9 h9).elim) (Nat.le_of_ble_eq_true rfl) (Nat.le_of_ble_eq_true rfl) (Nat.le_of_ble_eq_true rfl) (Nat.le_of_ble_eq_true rfl) hlocks (x_thr (G' := G) (ws' := ws) ⟨rfl, (by unfold gOk; omega)⟩ (rfl) hP hD hT hS) hS.2.2 (Nat.le_of_ble_eq_true rfl) (Nat.le_of_ble_eq_true rfl)
set_option maxHeartbeats 4000000 in
set_option maxRecDepth 100000 in
theorem c_L_ghost_x (l : Launch) (hst : l.stackTraces = false) (D : va_G) (cy : Nat → ClassId) (A : Nat → Prop) (G : cG) (ws : va_W) (x : Nat) (p0 : Int32) (p1 : Int32) (p2 : Int32) (ou : Nat)  (hD : va_D A ws) (hT : cT cy G ws) (hG_x : G x = some (7, 0, 0)) (hG_ou : G ou = some (1, 1, 0))  : Yi l D cy A yL_ghost wsL_ghost ({ frames := 7, cells := 1, slots := 6, locals := 144 }) 1 6 ws [.ref x, .int p0, .int p1, .int p2, .ref ou] (fun r0 u => cX none (chs [1]) G ws u.1 u.2 ∧ ((r0 = 0 ∧ gOk p0 p1 p2 ∧ ∃ w : Nat → Int64, cIn u.2 ou (.inl (cy 1, 1, .inr (.inl w))) ∧ (w 0).toInt = gV p0 p1 p2) ∨ (r0 = 1 ∧ ¬ gOk p0 p1 p2))) := by
  refine va_MetW (cc := cL_ghost) (maxL := 6) (ret := (some .int)) (by decide) rfl ?_
  intro p e s m args below meth c s₁ B hml hv
  obtain ⟨rfl, ⟨hP, hK, hA, hV⟩, hZ, hXT⟩ := hv
  have hx := B.exec
  have hb := B.bytes
  have hr := B.returns
  have hts := atoms_spec (ws := wsL_ghost) B.pre
  have hown : s.vm.findClass RL = some m.cls := findClass_of_methodNamed B.named
  have hlocks := B.notSynchronized
  have htab := vx_table (x := yL_ghost) B (hts (.codeWith yL_ghost cL_ghost 6 (some .int) [(0, 12, 15, 13)]) (by decide +kernel))
  have hS : va_S A s.heap s.heap [] := va_S.rf
  have hX : cX none (chs [1]) G ws G ws := cX.rf
  have hl := lv_entry ([.ref x, .int p0, .int p1, .int p2, .ref ou]) (n := 6) (Nat.le_of_ble_eq_true rfl)
  rw [lg_entry_eq]
  generalize (lg_sl ([.ref x, .int p0, .int p1, .int p2, .ref ou]) ++ List.replicate (6 - (lg_sl ([.ref x, .int p0, .int p1, .int p2, .ref ou])).length) Slot.unset).toArray = ls at hl ⊢
  have hl : lv_has ls 6 [(0, .ref x), (1, .int p0), (2, .int p1), (3, .int p2), (4, .ref ou)] := hl
  have k_0 : (0 : Int32).toInt = 0 := by decide
  have k_1 : (1 : Int32).toInt = 1 := by decide
  refine lv_aload hx hb dL_ghost_0 (lv_at hl 4 rfl) ?_
  refine lv_iconst (v := 0) hx hb dL_ghost_2 (by decide) ?_
  refine lv_aload_n hx hb dL_ghost_3 rfl (lv_at hl 0 rfl) ?_
  refine lv_iload_n hx hb dL_ghost_4 rfl (lv_at hl 1 rfl) ?_
  refine lv_iload_n hx hb dL_ghost_5 rfl (lv_at hl 2 rfl) ?_
  refine lv_iload_n hx hb dL_ghost_6 rfl (lv_at hl 3 rfl) ?_
  obtain ⟨_, hM_x, bs_x, js_x, sh_x, wk_x, ll_x, jc_x, lc_x, mo_x, lb_x, rfl, hjc_x, hlc_x, hG_bs_x, hG_js_x, hG_sh_x, hG_wk_x, hmo_x, hG_ll_x, hlb_x⟩ := hT _ _ hG_x
  refine x_calli (vx_runV (g := F0 m 7 ls ([.int p2, .int p1, .int p0, .ref x, .int (0 : Int32), .ref ou])) (As := [.int p0, .int p1, .int p2]) (rest := [.int (0 : Int32), .ref ou]) ⟨hx, hb, hml, hown, hts⟩ (c_X9_ghost_x l hst D cy A G ws x p0 p1 p2 hD hT hG_x ) (cwV 3 hts gL_ghost_X9_ghost rfl rfl rfl (by decide +kernel) ⟨Nat.le_of_ble_eq_true rfl, Nat.le_of_ble_eq_true rfl⟩) (x_preV hM_x rfl hP hK hA hS hV hZ hXT) rfl rfl hl.1 rfl (lv_room (Nat.le_of_ble_eq_true rfl)) dL_ghost_7 ⟨Nat.le_of_ble_eq_true rfl, Nat.le_of_ble_eq_true rfl⟩) hS (fun E9 ce9 q9 u H locs px9 pe9 hP9 hD9 hT9 hS hc9 hv9 hcl9 => ?_) (fun r7 u H locs q7 hP9 hD9 hT9 hS => ?_)
  · skip
    obtain ⟨rfl, np9⟩ := px9
    have hP : va_P D vwCl ws H := hP9
    obtain rfl := pe9
    refine vx_catch (own := RL) (name := xIA) (E := xIA) hown [] ⟨0, 12, 15, 13⟩ [] htab (fun z9 h9 => by simp at h9) (by decide) (by decide) (hts (.classLink RL 13 xIA) (by decide +kernel)) (hXT.1.2.1.use rfl) hc9 hv9 hcl9 ?_
    refine lv_astore (lv' := [(5, .ref q9), (0, .ref x), (1, .int p0), (2, .int p1), (3, .int p2), (4, .ref ou)]) hx hb dL_ghost_15 hl (by decide) rfl (fun ls hl => ?_)
    refine lv_iconst (v := 1) hx hb dL_ghost_17 (by decide) ?_
    refine W.widen (k := 1) (n := 6) (Nat.le_of_ble_eq_true rfl) (Nat.le_of_ble_eq_true rfl) ?_
    exact W.iret (v := (1 : Int32)) hx hb hr (fun t ht hW => ⟨⟨_, (G, ws), rfl, ⟨hX, Or.inr ⟨rfl, np9⟩⟩, by show va_P D vwCl ws t.heap; rw [ht]; exact hP, hD, hT⟩, hS.F ht⟩) hS.2.2 dL_ghost_18
  obtain ⟨rfl, q7⟩ := q7
  have hP : va_P D vwCl ws H := hP9
  refine lv_i2l (v := r7.toInt64) hx hb dL_ghost_10 rfl ?_
  refine t_lastf hx hb hK hP hD hS hT hG_ou (vp_in_iff.mpr ⟨by omega, by omega⟩) dL_ghost_11 (fun H locs w11 hU11 hc11 hP hD hT hS => ?_)
  have hM_x := hU11 _ _ (cne hG_x hG_ou (show (7 : Nat) ≠ 1 by decide)) hM_x
  have hX := hX.tr (cX.uF hU11 (Or.inr ⟨_, hG_ou, rfl⟩))
  refine lv_goto (tgt := 19) hx hb dL_ghost_12 (by decide) ?_
  refine lv_iconst (v := 0) hx hb dL_ghost_19 (by decide) ?_
  refine W.widen (k := 1) (n := 6) (Nat.le_of_ble_eq_true rfl) (Nat.le_of_ble_eq_true rfl) ?_
  exact W.iret (v := (0 : Int32)) hx hb hr (fun t ht hW => ⟨⟨_, (G, w11), rfl, ⟨hX, Or.inl ⟨rfl, q7.1, (by obtain ⟨w, h1, h2⟩ := hc11; exact ⟨w, h1, (by have h3 : w 0 = r7.toInt64 := h2; rw [h3, k64]; exact q7.2)⟩)⟩⟩, by show va_P D vwCl w11 t.heap; rw [ht]; exact hP, hD, hT⟩, hS.F ht⟩) hS.2.2 dL_ghost_20
set_option maxHeartbeats 4000000 in
set_option maxRecDepth 100000 in
theorem c_X10_down_x (l : Launch) (way : Int32)  : Pu l yX10_down wsX10_down ({ frames := 0, cells := 0, slots := 0, locals := 0 }) [.int way] (fun r => r.toInt = (if way.toInt = 0 then 0 else if way.toInt = 3 then -1 else 1)) := by
  refine Met.ofW (cc := cX10_down) (maxL := 1) (ret := (some .int)) (by decide) rfl ?_
  intro p e s m args below meth c s₁ B hml hv
  obtain ⟨rfl, -⟩ := hv
  have hx := B.exec
  have hb := B.bytes
  have hr := B.returns
  have hts := atoms_spec (ws := wsX10_down) B.pre
  have hown : s.vm.findClass RX10 = some m.cls := findClass_of_methodNamed B.named
  have hlocks := B.notSynchronized
  have hS : va_S (fun _ => False) s.heap s.heap [] := va_S.rf
  have hl := lv_entry ([.int way]) (n := 1) (Nat.le_of_ble_eq_true rfl)
  rw [lg_entry_eq]
  generalize (lg_sl ([.int way]) ++ List.replicate (1 - (lg_sl ([.int way])).length) Slot.unset).toArray = ls at hl ⊢
  have hl : lv_has ls 1 [(0, .int way)] := hl
  have hS0 := hS
  have k_m1 : (-1 : Int32).toInt = -1 := by decide
  have k_0 : (0 : Int32).toInt = 0 := by decide
  have k_1 : (1 : Int32).toInt = 1 := by decide
  have k_3 : (3 : Int32).toInt = 3 := by decide
  refine lv_iload_n hx hb dX10_down_0 rfl (lv_at hl 0 rfl) ?_
  refine lv_if_ne (tgt := 8) hx hb dX10_down_1 (by decide) (fun c1 => ?_) (fun c1 => ?_)
  · skip
    have d1 := c1
    rw [fa_eq] at d1
    refine lv_iload_n hx hb dX10_down_8 rfl (lv_at hl 0 rfl) ?_
    refine lv_iconst (v := 3) hx hb dX10_down_9 (by decide) ?_
    refine lv_icmp_ne (tgt := 17) hx hb dX10_down_10 (by decide) (fun c10 => ?_) (fun c10 => ?_)
    · skip
      have d10 := c10
      rw [fa_eq] at d10
      refine lv_iconst (v := 1) hx hb dX10_down_17 (by decide) ?_
      exact W.iret (v := (1 : Int32)) hx hb hr (fun t ht hW => ⟨⟨_, (), rfl, (by first | (rw [if_pos (by omega)]; rfl) | (rw [if_neg (by omega), if_pos (by omega)]; rfl) | (rw [if_neg (by omega), if_neg (by omega)]; rfl)), trivial⟩, hS.F ht⟩) hS.2.2 dX10_down_18
    · skip
      have d10 := c10
      rw [fa_eq] at d10
      refine lv_iconst (v := (-1)) hx hb dX10_down_13 (by decide) ?_
      refine lv_goto (tgt := 18) hx hb dX10_down_14 (by decide) ?_
      exact W.iret (v := ((-1) : Int32)) hx hb hr (fun t ht hW => ⟨⟨_, (), rfl, (by first | (rw [if_pos (by omega)]; rfl) | (rw [if_neg (by omega), if_pos (by omega)]; rfl) | (rw [if_neg (by omega), if_neg (by omega)]; rfl)), trivial⟩, hS.F ht⟩) hS.2.2 dX10_down_18
  · skip
    have d1 := c1
    rw [fa_eq] at d1
    refine lv_iconst (v := 0) hx hb dX10_down_4 (by decide) ?_
    refine lv_goto (tgt := 18) hx hb dX10_down_5 (by decide) ?_
    exact W.iret (v := (0 : Int32)) hx hb hr (fun t ht hW => ⟨⟨_, (), rfl, (by first | (rw [if_pos (by omega)]; rfl) | (rw [if_neg (by omega), if_pos (by omega)]; rfl) | (rw [if_neg (by omega), if_neg (by omega)]; rfl)), trivial⟩, hS.F ht⟩) hS.2.2 dX10_down_18

set_option maxHeartbeats 4000000 in
set_option maxRecDepth 100000 in
theorem c_X10_haunt_x (l : Launch) (D : va_G) (cy : Nat → ClassId) (mo : Nat) (a : Nat → Nat) (f : Nat → Int32) (g : Nat → Int64) (r : Nat → Nat → Int32) (q : Nat → Nat → Int64) (ways : Int32) (hD : DM cy mo a)  : Mv l D cy mo a yX10_haunt wsX10_haunt ({ frames := 1, cells := 0, slots := 0, locals := 25 }) f g r q [.int ways] (fun u => ∃ (gh : Nat → Int32), ∃ (mv : Nat → Int32), u = (f, g, (va_up (va_up r 27 gh) 28 mv), q) ∧ (∀ e, e < 121 → (gh e).toInt = gN ways 4 ((e % 11 : Nat) : Int) ((e / 11 : Nat) - gF ways))) := by
  refine Met.ofW (cc := cX10_haunt) (maxL := 7) (ret := none) (by decide) rfl ?_
  intro p e s m args below meth c s₁ B hml hv
  obtain ⟨rfl, hP, hK⟩ := hv
  have hx := B.exec
  have hb := B.bytes
  have hr := B.returns
  have hts := atoms_spec (ws := wsX10_haunt) B.pre
  have hin : ∀ w ∈ u_ws RX10 TX10 35, w ∈ wsX10_haunt := by decide +kernel
  have hown : s.vm.findClass RX10 = some m.cls := findClass_of_methodNamed B.named
  have hlocks := B.notSynchronized
  have hS : va_S (AM mo a) s.heap s.heap [] := va_S.rf
  have hl := lv_entry ([.ref mo, .int ways]) (n := 7) (Nat.le_of_ble_eq_true rfl)
  rw [lg_entry_eq]
  generalize (lg_sl ([.ref mo, .int ways]) ++ List.replicate (7 - (lg_sl ([.ref mo, .int ways])).length) Slot.unset).toArray = ls at hl ⊢
  have hl : lv_has ls 7 [(0, .ref mo), (1, .int ways)] := hl
  have k_0 : (0 : Int32).toInt = 0 := by decide
  have k_1 : (1 : Int32).toInt = 1 := by decide
  have k_3 : (3 : Int32).toInt = 3 := by decide
  have k_4 : (4 : Int32).toInt = 4 := by decide
  have k_11 : (11 : Int32).toInt = 11 := by decide
  have k_121 : (121 : Int32).toInt = 121 := by decide
  have k_0L : (0 : Int64).toInt = 0 := by decide
  have k_10L : (10 : Int64).toInt = 10 := by decide
  refine lv_iconst (v := 0) hx hb dX10_haunt_0 (by decide) ?_
  refine lv_istore_n (lv' := [(2, .int (0 : Int32)), (0, .ref mo), (1, .int ways)]) hx hb dX10_haunt_1 rfl hl (by decide) rfl (fun ls hl => ?_)
  have loop_2 : ∀ (n : Nat) (k : Nat) (g1 : Nat → Int32), (k ≤ 121) → (∀ e, e < k → g1 e = 0) → 121 - k < n → ∀ (H : Heap) (locs : List Loc), va_P D vwCl (WM cy mo a f g (va_up r 27 g1) q) H → va_S (AM mo a) s.heap H locs → ∀ (ls : Array Slot), lv_has ls 7 [(2, .int (nI k)), (0, .ref mo), (1, .int ways)] → W p l e (headSpec wsX10_haunt ({ frames := 1, cells := 0, slots := 0, locals := 25 })).room s m #[Value.ref mo, Value.int ways] below meth c H locs 0 0 (MQ below (va_Qv (fun u => ∃ (gh : Nat → Int32), ∃ (mv : Nat → Int32), u = (f, g, (va_up (va_up r 27 gh) 28 mv), q) ∧ (∀ e, e < 121 → (gh e).toInt = gN ways 4 ((e % 11 : Nat) : Int) ((e / 11 : Nat) - gF ways))) (mB D cy mo a) (AM mo a)) #[Value.ref mo, Value.int ways] s 0 0 (AM mo a)) (F0 m 2 ls []) := by
    intro n
    induction n with
    | zero => intro k g1 j2_0 j2_1 hn; exact absurd hn (Nat.not_lt_zero _)
    | succ n ih_2 =>
      intro k g1 j2_0 j2_1 hn_2 H locs hP hS ls hl
      have ik : (nI k).toInt = (k : Int) := nI_toInt (by omega)
      refine lv_iload_n hx hb dX10_haunt_2 rfl (lv_at hl 0 rfl) ?_
      refine lv_bipush (v := 121) hx hb dX10_haunt_3 (by decide) ?_
      refine lv_icmp_ge (tgt := 21) hx hb dX10_haunt_5 (by decide) (fun c5 => ?_) (fun c5 => ?_)
      · skip
        have d5 := c5
        rw [fa_le] at d5
        have hz0 : ∀ e, e < 121 → g1 e = 0 := fun e he => j2_1 e (by omega)
        refine lv_aload_n hx hb dX10_haunt_21 rfl (lv_at hl 1 rfl) ?_
        refine m_get (v := .ref (a 27)) hx hb hts hin hown hK hP 27 (by decide) rfl (hts (.fieldLink RX10 55 "ShadowBenchModel" "ghost" "[I") (by decide +kernel)) rfl dX10_haunt_22 ?_
        refine lv_iload_n hx hb dX10_haunt_25 rfl (lv_at hl 2 rfl) ?_
        refine lv_iconst (v := 3) hx hb dX10_haunt_26 (by decide) ?_
        refine lv_ishr hx hb dX10_haunt_27 ?_
        refine lv_topi (fun v27 e27 => ?_)
        refine lv_iconst (v := 1) hx hb dX10_haunt_28 (by decide) ?_
        refine lv_iand hx hb dX10_haunt_29 ?_
        refine lv_topi (fun v29 e29 => ?_)
        have hB3 : gB ways 3 = v29 := by rw [e29, e27]; rfl
        have b29 := bit1 e29
        refine lv_bipush (v := 11) hx hb dX10_haunt_30 (by decide) ?_
        refine lv_imul hx hb dX10_haunt_32 ?_
        refine lv_topi (fun v32 e32 => ?_)
        have i32 : v32.toInt = v29.toInt * 11 := by rw [e32]; exact mulcR rfl (by omega) (by omega)
        refine lv_iconst (v := 1) hx hb dX10_haunt_33 (by decide) ?_
        refine m_iast (w := g1) hx hb hK hP hD hS 15 rfl (vp_in_iff.mpr ⟨by omega, by omega⟩) (va_up (va_up r 27 g1) 27 (upd g1 v32.toNatClampNeg (1 : Int32))) (ms_27 cy mo a _ _ _ _ _) dX10_haunt_34 (fun H locs hP hS => ?_)
        have hP := wm_eq rfl rfl (es_r_27__27 r g1 (upd g1 v32.toNatClampNeg (1 : Int32))) rfl hP
        have hfF : gF ways = v29.toInt := by unfold gF; rw [hB3]
        have hcl := m_cl (x := v32) (by omega)
        refine lv_iconst (v := 0) hx hb dX10_haunt_35 (by decide) ?_
        refine lv_istore_n (lv' := [(2, .int (0 : Int32)), (0, .ref mo), (1, .int ways)]) hx hb dX10_haunt_36 rfl hl (by decide) rfl (fun ls hl => ?_)
        have loop_37 : ∀ (n : Nat) (k2 : Nat) (g2 : Nat → Int32) (m2 : Nat → Int32), (k2 ≤ 4) → (∀ e, e < 121 → (g2 e).toInt = gN ways k2 ((e % 11 : Nat) : Int) ((e / 11 : Nat) - gF ways)) → 4 - k2 < n → ∀ (H : Heap) (locs : List Loc), va_P D vwCl (WM cy mo a f g (va_up (va_up r 27 g2) 28 m2) q) H → va_S (AM mo a) s.heap H locs → ∀ (ls : Array Slot), lv_has ls 7 [(2, .int (nI k2)), (0, .ref mo), (1, .int ways)] → W p l e (headSpec wsX10_haunt ({ frames := 1, cells := 0, slots := 0, locals := 25 })).room s m #[Value.ref mo, Value.int ways] below meth c H locs 0 0 (MQ below (va_Qv (fun u => ∃ (gh : Nat → Int32), ∃ (mv : Nat → Int32), u = (f, g, (va_up (va_up r 27 gh) 28 mv), q) ∧ (∀ e, e < 121 → (gh e).toInt = gN ways 4 ((e % 11 : Nat) : Int) ((e / 11 : Nat) - gF ways))) (mB D cy mo a) (AM mo a)) #[Value.ref mo, Value.int ways] s 0 0 (AM mo a)) (F0 m 37 ls []) := by
          intro n
          induction n with
          | zero => intro k2 g2 m2 j37_0 j37_1 hn; exact absurd hn (Nat.not_lt_zero _)
          | succ n ih_37 =>
            intro k2 g2 m2 j37_0 j37_1 hn_37 H locs hP hS ls hl
            have ik2 : (nI k2).toInt = (k2 : Int) := nI_toInt (by omega)
            refine lv_iload_n hx hb dX10_haunt_37 rfl (lv_at hl 0 rfl) ?_
            refine lv_iconst (v := 4) hx hb dX10_haunt_38 (by decide) ?_
            refine lv_icmp_ge (tgt := 196) hx hb dX10_haunt_39 (by decide) (fun c39 => ?_) (fun c39 => ?_)
            · skip
              have d39 := c39
              rw [fa_le] at d39
              obtain rfl : k2 = 4 := by omega
              exact W.vret hx hb hr (fun t ht hW => ⟨⟨(f, g, (va_up (va_up r 27 g2) 28 m2), q), rfl, ⟨g2, m2, rfl, j37_1⟩, by unfold mB; rw [ht]; exact hP⟩, hS.F ht⟩) hS.2.2 dX10_haunt_196
            · skip
              have d39 := c39
              rw [fa_le] at d39
              have dxb := gdx_b k2
              have dzb := gdz_b k2
              have hf01 : 0 ≤ gF ways ∧ gF ways ≤ 1 := by omega
              refine lv_iconst (v := 0) hx hb dX10_haunt_42 (by decide) ?_
              refine lv_istore_n (lv' := [(3, .int (0 : Int32)), (2, .int (nI k2)), (0, .ref mo), (1, .int ways)]) hx hb dX10_haunt_43 rfl hl (by decide) rfl (fun ls hl => ?_)
              have loop_44 : ∀ (n : Nat) (i : Nat) (m3 : Nat → Int32), (i ≤ 121) → (∀ e, e < i → (m3 e).toInt = gN ways (k2 + 1) ((e % 11 : Nat) : Int) ((e / 11 : Nat) - gF ways)) → 121 - i < n → ∀ (H : Heap) (locs : List Loc), va_P D vwCl (WM cy mo a f g (va_up (va_up r 27 g2) 28 m3) q) H → va_S (AM mo a) s.heap H locs → ∀ (ls : Array Slot), lv_has ls 7 [(3, .int (nI i)), (2, .int (nI k2)), (0, .ref mo), (1, .int ways)] → W p l e (headSpec wsX10_haunt ({ frames := 1, cells := 0, slots := 0, locals := 25 })).room s m #[Value.ref mo, Value.int ways] below meth c H locs 0 0 (MQ below (va_Qv (fun u => ∃ (gh : Nat → Int32), ∃ (mv : Nat → Int32), u = (f, g, (va_up (va_up r 27 gh) 28 mv), q) ∧ (∀ e, e < 121 → (gh e).toInt = gN ways 4 ((e % 11 : Nat) : Int) ((e / 11 : Nat) - gF ways))) (mB D cy mo a) (AM mo a)) #[Value.ref mo, Value.int ways] s 0 0 (AM mo a)) (F0 m 44 ls []) := by
                intro n
                induction n with
                | zero => intro i m3 j44_0 j44_1 hn; exact absurd hn (Nat.not_lt_zero _)
                | succ n ih_44 =>
                  intro i m3 j44_0 j44_1 hn_44 H locs hP hS ls hl
                  have ii : (nI i).toInt = (i : Int) := nI_toInt (by omega)
                  refine lv_iload_n hx hb dX10_haunt_44 rfl (lv_at hl 0 rfl) ?_
                  refine lv_bipush (v := 121) hx hb dX10_haunt_45 (by decide) ?_
                  refine lv_icmp_ge (tgt := 155) hx hb dX10_haunt_47 (by decide) (fun c47 => ?_) (fun c47 => ?_)
                  · skip
                    have d47 := c47
                    rw [fa_le] at d47
                    have hmv : gB ways k2 = 1 → ∀ e, e < 121 → (m3 e).toInt = gN ways (k2 + 1) ((e % 11 : Nat) : Int) ((e / 11 : Nat) - gF ways) := fun hb e he => by
                      first
                      | exact j44_1 e (by omega)
                      | exact absurd (hB.symm.trans hb) c56
                    refine lv_iconst (v := 0) hx hb dX10_haunt_155 (by decide) ?_
                    refine lv_istore_n (lv' := [(3, .int (0 : Int32)), (2, .int (nI k2)), (0, .ref mo), (1, .int ways)]) hx hb dX10_haunt_156 rfl hl (by decide) rfl (fun ls hl => ?_)
                    have loop_157 : ∀ (n : Nat) (i2 : Nat) (g4 : Nat → Int32), (i2 ≤ 121) → (∀ e, e < 121 → (g4 e).toInt = (if e < i2 then gN ways (k2 + 1) ((e % 11 : Nat) : Int) ((e / 11 : Nat) - gF ways) else gN ways k2 ((e % 11 : Nat) : Int) ((e / 11 : Nat) - gF ways))) → 121 - i2 < n → ∀ (H : Heap) (locs : List Loc), va_P D vwCl (WM cy mo a f g (va_up (va_up r 28 m3) 27 g4) q) H → va_S (AM mo a) s.heap H locs → ∀ (ls : Array Slot), lv_has ls 7 [(3, .int (nI i2)), (2, .int (nI k2)), (0, .ref mo), (1, .int ways)] → W p l e (headSpec wsX10_haunt ({ frames := 1, cells := 0, slots := 0, locals := 25 })).room s m #[Value.ref mo, Value.int ways] below meth c H locs 0 0 (MQ below (va_Qv (fun u => ∃ (gh : Nat → Int32), ∃ (mv : Nat → Int32), u = (f, g, (va_up (va_up r 27 gh) 28 mv), q) ∧ (∀ e, e < 121 → (gh e).toInt = gN ways 4 ((e % 11 : Nat) : Int) ((e / 11 : Nat) - gF ways))) (mB D cy mo a) (AM mo a)) #[Value.ref mo, Value.int ways] s 0 0 (AM mo a)) (F0 m 157 ls []) := by
                      intro n
                      induction n with
                      | zero => intro i2 g4 j157_0 j157_1 hn; exact absurd hn (Nat.not_lt_zero _)
                      | succ n ih_157 =>
                        intro i2 g4 j157_0 j157_1 hn_157 H locs hP hS ls hl
                        have ii2 : (nI i2).toInt = (i2 : Int) := nI_toInt (by omega)
                        refine lv_iload_n hx hb dX10_haunt_157 rfl (lv_at hl 0 rfl) ?_
                        refine lv_bipush (v := 121) hx hb dX10_haunt_158 (by decide) ?_
                        refine lv_icmp_ge (tgt := 190) hx hb dX10_haunt_160 (by decide) (fun c160 => ?_) (fun c160 => ?_)
                        · skip
                          have d160 := c160
                          rw [fa_le] at d160
                          have hlast : ∀ e, e < 121 → (g4 e).toInt = gN ways (k2 + 1) ((e % 11 : Nat) : Int) ((e / 11 : Nat) - gF ways) := fun e he => by
                            have h9 := j157_1 e he
                            first
                            | (rw [if_pos (by omega)] at h9; exact h9)
                            | (rw [gN_0 (fun z => c169 (hB7.symm.trans z))]; rw [gN_0 (fun z => c169 (hB7.symm.trans z))] at h9; rw [h9]; split <;> rfl)
                          refine lv_iinc (v := (nI (k2 + 1))) (lv' := [(2, .int (nI (k2 + 1))), (3, .int (nI i2)), (0, .ref mo), (1, .int ways)]) hx hb dX10_haunt_190 hl (k := 1) rfl (nI_1 _) (by decide) rfl (fun ls hl => ?_)
                          refine lv_goto (tgt := 37) hx hb dX10_haunt_193 (by decide) ?_
                          have hP := wm_eq rfl rfl (ec_r_28_27__27_28 r m3 g4) rfl hP
                          exact ih_37 (k2 + 1) g4 m3 (by omega) (hlast) (by omega) _ _ hP hS ls (lv_sub hl [0, 2, 3] rfl)
                        · skip
                          have d160 := c160
                          rw [fa_le] at d160
                          refine lv_iload_n hx hb dX10_haunt_163 rfl (lv_at hl 3 rfl) ?_
                          refine lv_iload_n hx hb dX10_haunt_164 rfl (lv_at hl 1 rfl) ?_
                          refine lv_ishr hx hb dX10_haunt_165 ?_
                          refine lv_topi (fun v165 e165 => ?_)
                          refine lv_iconst (v := 1) hx hb dX10_haunt_166 (by decide) ?_
                          refine lv_iand hx hb dX10_haunt_167 ?_
                          refine lv_topi (fun v167 e167 => ?_)
                          have hB7 : gB ways k2 = v167 := by rw [e167, e165]; rfl
                          refine lv_iconst (v := 1) hx hb dX10_haunt_168 (by decide) ?_
                          refine lv_icmp_ne (tgt := 190) hx hb dX10_haunt_169 (by decide) (fun c169 => ?_) (fun c169 => ?_)
                          · skip
                            have d169 := c169
                            rw [fa_eq] at d169
                            have hlast : ∀ e, e < 121 → (g4 e).toInt = gN ways (k2 + 1) ((e % 11 : Nat) : Int) ((e / 11 : Nat) - gF ways) := fun e he => by
                              have h9 := j157_1 e he
                              first
                              | (rw [if_pos (by omega)] at h9; exact h9)
                              | (rw [gN_0 (fun z => c169 (hB7.symm.trans z))]; rw [gN_0 (fun z => c169 (hB7.symm.trans z))] at h9; rw [h9]; split <;> rfl)
                            refine lv_iinc (v := (nI (k2 + 1))) (lv' := [(2, .int (nI (k2 + 1))), (3, .int (nI i2)), (0, .ref mo), (1, .int ways)]) hx hb dX10_haunt_190 hl (k := 1) rfl (nI_1 _) (by decide) rfl (fun ls hl => ?_)
                            refine lv_goto (tgt := 37) hx hb dX10_haunt_193 (by decide) ?_
                            have hP := wm_eq rfl rfl (ec_r_28_27__27_28 r m3 g4) rfl hP
                            exact ih_37 (k2 + 1) g4 m3 (by omega) (hlast) (by omega) _ _ hP hS ls (lv_sub hl [0, 2, 3] rfl)
                          · skip
                            have d169 := c169
                            rw [fa_eq] at d169
                            refine lv_aload_n hx hb dX10_haunt_172 rfl (lv_at hl 2 rfl) ?_
                            refine m_get (v := .ref (a 27)) hx hb hts hin hown hK hP 27 (by decide) rfl (hts (.fieldLink RX10 55 "ShadowBenchModel" "ghost" "[I") (by decide +kernel)) rfl dX10_haunt_173 ?_
                            refine lv_iload_n hx hb dX10_haunt_176 rfl (lv_at hl 0 rfl) ?_
                            refine lv_aload_n hx hb dX10_haunt_177 rfl (lv_at hl 2 rfl) ?_
                            refine m_get (v := .ref (a 28)) hx hb hts hin hown hK hP 28 (by decide) rfl (hts (.fieldLink RX10 58 "ShadowBenchModel" "moved" "[I") (by decide +kernel)) rfl dX10_haunt_178 ?_
                            refine lv_iload_n hx hb dX10_haunt_181 rfl (lv_at hl 0 rfl) ?_
                            refine m_iald (w := m3) hx hb hK hP 16 rfl (vp_in_iff.mpr ⟨by omega, by omega⟩) dX10_haunt_182 ?_
                            refine lv_topi (fun v182 e182 => ?_)
                            have i182 : v182.toInt = (m3 (nI i2).toNatClampNeg).toInt := congrArg Int32.toInt e182
                            have cli2 := nI_clamp (n := i2) (by omega)
                            have t182 : v182.toInt = gN ways (k2 + 1) ((i2 % 11 : Nat) : Int) ((i2 / 11 : Nat) - gF ways) := by rw [i182, cli2]; exact hmv (hB7.trans c169) i2 (by omega)
                            refine m_iast (w := g4) hx hb hK hP hD hS 15 rfl (vp_in_iff.mpr ⟨by omega, by omega⟩) (va_up (va_up (va_up r 28 m3) 27 g4) 27 (upd g4 (nI i2).toNatClampNeg v182)) (ms_27 cy mo a _ _ _ _ _) dX10_haunt_183 (fun H locs hP hS => ?_)
                            have hP := wm_eq rfl rfl (es_r_28_27__27 r m3 g4 (upd g4 (nI i2).toNatClampNeg v182)) rfl hP
                            refine lv_iinc (v := (nI (i2 + 1))) (lv' := [(3, .int (nI (i2 + 1))), (2, .int (nI k2)), (0, .ref mo), (1, .int ways)]) hx hb dX10_haunt_184 hl (k := 0) rfl (nI_1 _) (by decide) rfl (fun ls hl => ?_)
                            refine lv_goto (tgt := 157) hx hb dX10_haunt_187 (by decide) ?_
                            have hP := wm_eq rfl rfl (ec_r_28_27__28_27 r m3 ((upd g4 (nI i2).toNatClampNeg v182))) rfl hP
                            exact ih_157 (i2 + 1) (((upd g4 (nI i2).toNatClampNeg v182))) (by omega) (fun e he => by unfold upd; rw [cli2]; split; (rename_i z9; rw [if_pos (by omega), z9]; exact t182); (have h9 := j157_1 e he; rw [h9]; split <;> split <;> first | rfl | (exfalso; omega))) (by omega) _ _ hP hS ls (lv_sub hl [0, 1, 2, 3] rfl)
                    have hP := wm_eq rfl rfl (ec_r_27_28__28_27 r g2 m3) rfl hP
                    exact loop_157 (121 + 1) 0 g2 (by omega) (fun e he => by rw [if_neg (Nat.not_lt_zero _)]; exact j37_1 e he) (by omega) _ _ hP hS ls (lv_sub hl [0, 1, 2, 3] rfl)
                  · skip
                    have d47 := c47
                    rw [fa_le] at d47
                    refine lv_iload_n hx hb dX10_haunt_50 rfl (lv_at hl 3 rfl) ?_
                    refine lv_iload_n hx hb dX10_haunt_51 rfl (lv_at hl 1 rfl) ?_
                    refine lv_ishr hx hb dX10_haunt_52 ?_
                    refine lv_topi (fun v52 e52 => ?_)
                    refine lv_iconst (v := 1) hx hb dX10_haunt_53 (by decide) ?_
                    refine lv_iand hx hb dX10_haunt_54 ?_
                    refine lv_topi (fun v54 e54 => ?_)
                    have hB : gB ways k2 = v54 := by rw [e54, e52]; rfl
                    refine lv_iconst (v := 1) hx hb dX10_haunt_55 (by decide) ?_
                    refine lv_icmp_ne (tgt := 155) hx hb dX10_haunt_56 (by decide) (fun c56 => ?_) (fun c56 => ?_)
                    · skip
                      have d56 := c56
                      rw [fa_eq] at d56
                      have hmv : gB ways k2 = 1 → ∀ e, e < 121 → (m3 e).toInt = gN ways (k2 + 1) ((e % 11 : Nat) : Int) ((e / 11 : Nat) - gF ways) := fun hb e he => by
                        first
                        | exact j44_1 e (by omega)
                        | exact absurd (hB.symm.trans hb) c56
                      refine lv_iconst (v := 0) hx hb dX10_haunt_155 (by decide) ?_
                      refine lv_istore_n (lv' := [(3, .int (0 : Int32)), (2, .int (nI k2)), (0, .ref mo), (1, .int ways)]) hx hb dX10_haunt_156 rfl hl (by decide) rfl (fun ls hl => ?_)
                      have loop_157 : ∀ (n : Nat) (i2 : Nat) (g4 : Nat → Int32), (i2 ≤ 121) → (∀ e, e < 121 → (g4 e).toInt = (if e < i2 then gN ways (k2 + 1) ((e % 11 : Nat) : Int) ((e / 11 : Nat) - gF ways) else gN ways k2 ((e % 11 : Nat) : Int) ((e / 11 : Nat) - gF ways))) → 121 - i2 < n → ∀ (H : Heap) (locs : List Loc), va_P D vwCl (WM cy mo a f g (va_up (va_up r 28 m3) 27 g4) q) H → va_S (AM mo a) s.heap H locs → ∀ (ls : Array Slot), lv_has ls 7 [(3, .int (nI i2)), (2, .int (nI k2)), (0, .ref mo), (1, .int ways)] → W p l e (headSpec wsX10_haunt ({ frames := 1, cells := 0, slots := 0, locals := 25 })).room s m #[Value.ref mo, Value.int ways] below meth c H locs 0 0 (MQ below (va_Qv (fun u => ∃ (gh : Nat → Int32), ∃ (mv : Nat → Int32), u = (f, g, (va_up (va_up r 27 gh) 28 mv), q) ∧ (∀ e, e < 121 → (gh e).toInt = gN ways 4 ((e % 11 : Nat) : Int) ((e / 11 : Nat) - gF ways))) (mB D cy mo a) (AM mo a)) #[Value.ref mo, Value.int ways] s 0 0 (AM mo a)) (F0 m 157 ls []) := by
                        intro n
                        induction n with
                        | zero => intro i2 g4 j157_0 j157_1 hn; exact absurd hn (Nat.not_lt_zero _)
                        | succ n ih_157 =>
                          intro i2 g4 j157_0 j157_1 hn_157 H locs hP hS ls hl
                          have ii2 : (nI i2).toInt = (i2 : Int) := nI_toInt (by omega)
                          refine lv_iload_n hx hb dX10_haunt_157 rfl (lv_at hl 0 rfl) ?_
                          refine lv_bipush (v := 121) hx hb dX10_haunt_158 (by decide) ?_
                          refine lv_icmp_ge (tgt := 190) hx hb dX10_haunt_160 (by decide) (fun c160 => ?_) (fun c160 => ?_)
                          · skip
                            have d160 := c160
                            rw [fa_le] at d160
                            have hlast : ∀ e, e < 121 → (g4 e).toInt = gN ways (k2 + 1) ((e % 11 : Nat) : Int) ((e / 11 : Nat) - gF ways) := fun e he => by
                              have h9 := j157_1 e he
                              first
                              | (rw [if_pos (by omega)] at h9; exact h9)
                              | (rw [gN_0 (fun z => c169 (hB7.symm.trans z))]; rw [gN_0 (fun z => c169 (hB7.symm.trans z))] at h9; rw [h9]; split <;> rfl)
                            refine lv_iinc (v := (nI (k2 + 1))) (lv' := [(2, .int (nI (k2 + 1))), (3, .int (nI i2)), (0, .ref mo), (1, .int ways)]) hx hb dX10_haunt_190 hl (k := 1) rfl (nI_1 _) (by decide) rfl (fun ls hl => ?_)
                            refine lv_goto (tgt := 37) hx hb dX10_haunt_193 (by decide) ?_
                            have hP := wm_eq rfl rfl (ec_r_28_27__27_28 r m3 g4) rfl hP
                            exact ih_37 (k2 + 1) g4 m3 (by omega) (hlast) (by omega) _ _ hP hS ls (lv_sub hl [0, 2, 3] rfl)
                          · skip
                            have d160 := c160
                            rw [fa_le] at d160
                            refine lv_iload_n hx hb dX10_haunt_163 rfl (lv_at hl 3 rfl) ?_
                            refine lv_iload_n hx hb dX10_haunt_164 rfl (lv_at hl 1 rfl) ?_
                            refine lv_ishr hx hb dX10_haunt_165 ?_
                            refine lv_topi (fun v165 e165 => ?_)
                            refine lv_iconst (v := 1) hx hb dX10_haunt_166 (by decide) ?_
                            refine lv_iand hx hb dX10_haunt_167 ?_
                            refine lv_topi (fun v167 e167 => ?_)
                            have hB7 : gB ways k2 = v167 := by rw [e167, e165]; rfl
                            refine lv_iconst (v := 1) hx hb dX10_haunt_168 (by decide) ?_
                            refine lv_icmp_ne (tgt := 190) hx hb dX10_haunt_169 (by decide) (fun c169 => ?_) (fun c169 => ?_)
                            · skip
                              have d169 := c169
                              rw [fa_eq] at d169
                              have hlast : ∀ e, e < 121 → (g4 e).toInt = gN ways (k2 + 1) ((e % 11 : Nat) : Int) ((e / 11 : Nat) - gF ways) := fun e he => by
                                have h9 := j157_1 e he
                                first
                                | (rw [if_pos (by omega)] at h9; exact h9)
                                | (rw [gN_0 (fun z => c169 (hB7.symm.trans z))]; rw [gN_0 (fun z => c169 (hB7.symm.trans z))] at h9; rw [h9]; split <;> rfl)
                              refine lv_iinc (v := (nI (k2 + 1))) (lv' := [(2, .int (nI (k2 + 1))), (3, .int (nI i2)), (0, .ref mo), (1, .int ways)]) hx hb dX10_haunt_190 hl (k := 1) rfl (nI_1 _) (by decide) rfl (fun ls hl => ?_)
                              refine lv_goto (tgt := 37) hx hb dX10_haunt_193 (by decide) ?_
                              have hP := wm_eq rfl rfl (ec_r_28_27__27_28 r m3 g4) rfl hP
                              exact ih_37 (k2 + 1) g4 m3 (by omega) (hlast) (by omega) _ _ hP hS ls (lv_sub hl [0, 2, 3] rfl)
                            · skip
                              have d169 := c169
                              rw [fa_eq] at d169
                              refine lv_aload_n hx hb dX10_haunt_172 rfl (lv_at hl 2 rfl) ?_
                              refine m_get (v := .ref (a 27)) hx hb hts hin hown hK hP 27 (by decide) rfl (hts (.fieldLink RX10 55 "ShadowBenchModel" "ghost" "[I") (by decide +kernel)) rfl dX10_haunt_173 ?_
                              refine lv_iload_n hx hb dX10_haunt_176 rfl (lv_at hl 0 rfl) ?_
                              refine lv_aload_n hx hb dX10_haunt_177 rfl (lv_at hl 2 rfl) ?_
                              refine m_get (v := .ref (a 28)) hx hb hts hin hown hK hP 28 (by decide) rfl (hts (.fieldLink RX10 58 "ShadowBenchModel" "moved" "[I") (by decide +kernel)) rfl dX10_haunt_178 ?_
                              refine lv_iload_n hx hb dX10_haunt_181 rfl (lv_at hl 0 rfl) ?_
                              refine m_iald (w := m3) hx hb hK hP 16 rfl (vp_in_iff.mpr ⟨by omega, by omega⟩) dX10_haunt_182 ?_
                              refine lv_topi (fun v182 e182 => ?_)
                              have i182 : v182.toInt = (m3 (nI i2).toNatClampNeg).toInt := congrArg Int32.toInt e182
                              have cli2 := nI_clamp (n := i2) (by omega)
                              have t182 : v182.toInt = gN ways (k2 + 1) ((i2 % 11 : Nat) : Int) ((i2 / 11 : Nat) - gF ways) := by rw [i182, cli2]; exact hmv (hB7.trans c169) i2 (by omega)
                              refine m_iast (w := g4) hx hb hK hP hD hS 15 rfl (vp_in_iff.mpr ⟨by omega, by omega⟩) (va_up (va_up (va_up r 28 m3) 27 g4) 27 (upd g4 (nI i2).toNatClampNeg v182)) (ms_27 cy mo a _ _ _ _ _) dX10_haunt_183 (fun H locs hP hS => ?_)
                              have hP := wm_eq rfl rfl (es_r_28_27__27 r m3 g4 (upd g4 (nI i2).toNatClampNeg v182)) rfl hP
                              refine lv_iinc (v := (nI (i2 + 1))) (lv' := [(3, .int (nI (i2 + 1))), (2, .int (nI k2)), (0, .ref mo), (1, .int ways)]) hx hb dX10_haunt_184 hl (k := 0) rfl (nI_1 _) (by decide) rfl (fun ls hl => ?_)
                              refine lv_goto (tgt := 157) hx hb dX10_haunt_187 (by decide) ?_
                              have hP := wm_eq rfl rfl (ec_r_28_27__28_27 r m3 ((upd g4 (nI i2).toNatClampNeg v182))) rfl hP
                              exact ih_157 (i2 + 1) (((upd g4 (nI i2).toNatClampNeg v182))) (by omega) (fun e he => by unfold upd; rw [cli2]; split; (rename_i z9; rw [if_pos (by omega), z9]; exact t182); (have h9 := j157_1 e he; rw [h9]; split <;> split <;> first | rfl | (exfalso; omega))) (by omega) _ _ hP hS ls (lv_sub hl [0, 1, 2, 3] rfl)
                      have hP := wm_eq rfl rfl (ec_r_27_28__28_27 r g2 m3) rfl hP
                      exact loop_157 (121 + 1) 0 g2 (by omega) (fun e he => by rw [if_neg (Nat.not_lt_zero _)]; exact j37_1 e he) (by omega) _ _ hP hS ls (lv_sub hl [0, 1, 2, 3] rfl)
                    · skip
                      have d56 := c56
                      rw [fa_eq] at d56
                      refine lv_iload_n hx hb dX10_haunt_59 rfl (lv_at hl 0 rfl) ?_
                      refine lv_bipush (v := 11) hx hb dX10_haunt_60 (by decide) ?_
                      refine lv_irem hx hb dX10_haunt_62 (fun z => by rw [fa_eq] at z; omega) ?_
                      refine lv_topi (fun v62 e62 => ?_)
                      have i62 : v62.toInt = (nI i).toInt % (11 : Int32).toInt := by rw [e62]; exact my_irem (by omega) (by omega)
                      have j62 : 0 ≤ v62.toInt ∧ v62.toInt < (11 : Int32).toInt ∧ v62.toInt ≤ (nI i).toInt := by rw [e62]; exact my_remb (by omega) (by omega)
                      rw [show (11 : Int32).toInt = 11 from by decide] at i62 j62
                      refine lv_iload_n hx hb dX10_haunt_63 rfl (lv_at hl 1 rfl) ?_
                      refine m_pu (As := [.int (nI k2)]) (rest := [.int v62]) ⟨hx, hb, hml, hown, hts⟩ (c_X10_across_x l (nI k2) ) (va_cwS 1 hts gX10_haunt_X10_across rfl rfl rfl (by decide +kernel) ⟨Nat.le_of_ble_eq_true rfl, Nat.le_of_ble_eq_true rfl⟩) hP rfl hl.1 rfl (Nat.le_of_ble_eq_true rfl) dX10_haunt_64 ⟨Nat.le_of_ble_eq_true rfl, Nat.le_of_ble_eq_true rfl⟩ hS (fun r64 H locs q64 hP hS => ?_)
                      have a64 : r64.toInt = gdx k2 := by rw [q64, ik2]; unfold gdx; split <;> split <;> omega
                      refine lv_isub hx hb dX10_haunt_67 ?_
                      refine lv_topi (fun v67 e67 => ?_)
                      have i67 : v67.toInt = v62.toInt - r64.toInt := by rw [e67]; exact fb_subI (by omega) (by omega)
                      refine lv_istore (lv' := [(4, .int v67), (3, .int (nI i)), (2, .int (nI k2)), (0, .ref mo), (1, .int ways)]) hx hb dX10_haunt_68 hl (by decide) rfl (fun ls hl => ?_)
                      refine lv_iload_n hx hb dX10_haunt_70 rfl (lv_at hl 1 rfl) ?_
                      refine lv_bipush (v := 11) hx hb dX10_haunt_71 (by decide) ?_
                      refine lv_idiv hx hb dX10_haunt_73 (fun z => by rw [fa_eq] at z; omega) ?_
                      refine lv_topi (fun v73 e73 => ?_)
                      have i73 : v73.toInt = (nI i).toInt / (11 : Int32).toInt := by rw [e73]; exact my_idiv (by omega) (by omega)
                      have j73 : 0 ≤ v73.toInt ∧ v73.toInt ≤ (nI i).toInt := by rw [e73]; exact my_divb (by omega) (by omega)
                      rw [show (11 : Int32).toInt = 11 from by decide] at i73
                      refine lv_iload_n hx hb dX10_haunt_74 rfl (lv_at hl 2 rfl) ?_
                      refine m_pu (As := [.int (nI k2)]) (rest := [.int v73]) ⟨hx, hb, hml, hown, hts⟩ (c_X10_down_x l (nI k2) ) (va_cwS 1 hts gX10_haunt_X10_down rfl rfl rfl (by decide +kernel) ⟨Nat.le_of_ble_eq_true rfl, Nat.le_of_ble_eq_true rfl⟩) hP rfl hl.1 rfl (Nat.le_of_ble_eq_true rfl) dX10_haunt_75 ⟨Nat.le_of_ble_eq_true rfl, Nat.le_of_ble_eq_true rfl⟩ hS (fun r75 H locs q75 hP hS => ?_)
                      have a75 : r75.toInt = gdz k2 := by rw [q75, ik2]; unfold gdz; split <;> (try split) <;> (try split) <;> (try split) <;> omega
                      refine lv_isub hx hb dX10_haunt_78 ?_
                      refine lv_topi (fun v78 e78 => ?_)
                      have i78 : v78.toInt = v73.toInt - r75.toInt := by rw [e78]; exact fb_subI (by omega) (by omega)
                      refine lv_istore (lv' := [(5, .int v78), (4, .int v67), (3, .int (nI i)), (2, .int (nI k2)), (0, .ref mo), (1, .int ways)]) hx hb dX10_haunt_79 hl (by decide) rfl (fun ls hl => ?_)
                      refine lv_iload hx hb dX10_haunt_81 (lv_at hl 1 rfl) ?_
                      refine lv_i2l (v := v67.toInt64) hx hb dX10_haunt_83 rfl ?_
                      refine lv_lconst (v := 0) hx hb dX10_haunt_84 (by decide) ?_
                      refine lv_ldc2 hx hb hown (hts (.constantLong RX10 248 (10)) (by decide +kernel)) dX10_haunt_85 ?_
                      refine m_pu (As := [.long (v67.toInt64), .long (0 : Int64), .long (10 : Int64)]) (rest := []) ⟨hx, hb, hml, hown, hts⟩ (c_X10_isIn l v67.toInt64 (0 : Int64) (10 : Int64) ) (va_cwS 3 hts gX10_haunt_X10_isIn rfl rfl rfl (by decide +kernel) ⟨Nat.le_of_ble_eq_true rfl, Nat.le_of_ble_eq_true rfl⟩) hP rfl hl.1 rfl (Nat.le_of_ble_eq_true rfl) dX10_haunt_88 ⟨Nat.le_of_ble_eq_true rfl, Nat.le_of_ble_eq_true rfl⟩ hS (fun r88 H locs q88 hP hS => ?_)
                      have q88 := q88
                      simp only [k64, show (0 : Int64).toInt = 0 from rfl, show (1 : Int64).toInt = 1 from rfl, show (2 : Int64).toInt = 2 from rfl, show (3 : Int64).toInt = 3 from rfl, show (6 : Int64).toInt = 6 from rfl] at q88
                      refine lv_if_eq (tgt := 111) hx hb dX10_haunt_91 (by decide) (fun c91 => ?_) (fun c91 => ?_)
                      · skip
                        have b91 := bo_f q88 c91
                        refine lv_iconst (v := 0) hx hb dX10_haunt_111 (by decide) ?_
                        refine lv_istore (lv' := [(6, .int (0 : Int32)), (5, .int v78), (4, .int v67), (3, .int (nI i)), (2, .int (nI k2)), (0, .ref mo), (1, .int ways)]) hx hb dX10_haunt_112 hl (by decide) rfl (fun ls hl => ?_)
                        refine lv_aload_n hx hb dX10_haunt_114 rfl (lv_at hl 5 rfl) ?_
                        refine m_get (v := .ref (a 28)) hx hb hts hin hown hK hP 28 (by decide) rfl (hts (.fieldLink RX10 58 "ShadowBenchModel" "moved" "[I") (by decide +kernel)) rfl dX10_haunt_115 ?_
                        refine lv_iload_n hx hb dX10_haunt_118 rfl (lv_at hl 3 rfl) ?_
                        refine lv_aload_n hx hb dX10_haunt_119 rfl (lv_at hl 5 rfl) ?_
                        refine m_get (v := .ref (a 27)) hx hb hts hin hown hK hP 27 (by decide) rfl (hts (.fieldLink RX10 55 "ShadowBenchModel" "ghost" "[I") (by decide +kernel)) rfl dX10_haunt_120 ?_
                        refine lv_iload_n hx hb dX10_haunt_123 rfl (lv_at hl 3 rfl) ?_
                        refine m_iald (w := g2) hx hb hK hP 15 rfl (vp_in_iff.mpr ⟨by omega, by omega⟩) dX10_haunt_124 ?_
                        refine lv_topi (fun v124 e124 => ?_)
                        have i124 : v124.toInt = (g2 (nI i).toNatClampNeg).toInt := congrArg Int32.toInt e124
                        have cli := nI_clamp (n := i) (by omega)
                        have t124 : v124.toInt = gN ways k2 ((i % 11 : Nat) : Int) ((i / 11 : Nat) - gF ways) := by rw [i124, cli]; exact j37_1 i (by omega)
                        have hp2 : (2 ^ k2 : Nat) ≤ 16 := Nat.le_trans (Nat.pow_le_pow_right (by decide) (show k2 ≤ 4 by omega)) (by decide)
                        have p1 := gN_b ways k2 ((i % 11 : Nat) : Int) ((i / 11 : Nat) - gF ways)
                        have p2 := gN_b ways k2 (((i % 11 : Nat) : Int) - gdx k2) (((i / 11 : Nat) - gF ways) - gdz k2)
                        refine lv_iload hx hb dX10_haunt_125 (lv_at hl 0 rfl) ?_
                        refine lv_if_eq (tgt := 146) hx hb dX10_haunt_127 (by decide) (fun c127 => ?_) (fun c127 => ?_)
                        · skip
                          have d127 := c127
                          rw [fa_eq] at d127
                          have t0 : gN ways k2 (((i % 11 : Nat) : Int) - gdx k2) (((i / 11 : Nat) - gF ways) - gdz k2) = 0 := by
                            first | have y91 := b91 | skip
                            first | have y104 := b104 | skip
                            try simp only [k64, show (0 : Int64).toInt = 0 from rfl, show (10 : Int64).toInt = 10 from rfl] at y91
                            try simp only [k64, show (0 : Int64).toInt = 0 from rfl, show (10 : Int64).toInt = 10 from rfl] at y104
                            exact gN_z ways k2 (by omega) _ _ (by omega)
                          refine lv_iconst (v := 0) hx hb dX10_haunt_146 (by decide) ?_
                          refine lv_isub hx hb dX10_haunt_147 ?_
                          refine lv_topi (fun v147 e147 => ?_)
                          have i147 : v147.toInt = v124.toInt - (0 : Int32).toInt := by rw [e147]; exact fb_subI (by omega) (by omega)
                          have hst : v147.toInt = gN ways (k2 + 1) ((i % 11 : Nat) : Int) ((i / 11 : Nat) - gF ways) := by
                            rw [gN_1 (hB.trans c56)]
                            first
                            | (rw [← t124, ← t142]; exact i147)
                            | (rw [t0, ← t124]; omega)
                          refine m_iast (w := m3) hx hb hK hP hD hS 16 rfl (vp_in_iff.mpr ⟨by omega, by omega⟩) (va_up (va_up (va_up r 27 g2) 28 m3) 28 (upd m3 (nI i).toNatClampNeg v147)) (ms_28 cy mo a _ _ _ _ _) dX10_haunt_148 (fun H locs hP hS => ?_)
                          have hP := wm_eq rfl rfl (es_r_27_28__28 r g2 m3 (upd m3 (nI i).toNatClampNeg v147)) rfl hP
                          refine lv_iinc (v := (nI (i + 1))) (lv' := [(3, .int (nI (i + 1))), (6, .int (0 : Int32)), (5, .int v78), (4, .int v67), (2, .int (nI k2)), (0, .ref mo), (1, .int ways)]) hx hb dX10_haunt_149 hl (k := 3) rfl (nI_1 _) (by decide) rfl (fun ls hl => ?_)
                          refine lv_goto (tgt := 44) hx hb dX10_haunt_152 (by decide) ?_
                          have hP := wm_eq rfl rfl (ec_r_27_28__27_28 r g2 ((upd m3 (nI i).toNatClampNeg v147))) rfl hP
                          exact ih_44 (i + 1) (((upd m3 (nI i).toNatClampNeg v147))) (by omega) (fun e he => by unfold upd; rw [cli]; split; (rename_i z9; rw [z9]; exact hst); exact j44_1 e (by omega)) (by omega) _ _ hP hS ls (lv_sub hl [0, 4, 5, 6] rfl)
                        · first | exact absurd c127 (by decide) | exact absurd (by decide) c127
                      · skip
                        have b91 := bo_t q88 c91
                        refine lv_iload hx hb dX10_haunt_94 (lv_at hl 0 rfl) ?_
                        refine lv_i2l (v := v78.toInt64) hx hb dX10_haunt_96 rfl ?_
                        refine lv_lconst (v := 0) hx hb dX10_haunt_97 (by decide) ?_
                        refine lv_ldc2 hx hb hown (hts (.constantLong RX10 248 (10)) (by decide +kernel)) dX10_haunt_98 ?_
                        refine m_pu (As := [.long (v78.toInt64), .long (0 : Int64), .long (10 : Int64)]) (rest := []) ⟨hx, hb, hml, hown, hts⟩ (c_X10_isIn l v78.toInt64 (0 : Int64) (10 : Int64) ) (va_cwS 3 hts gX10_haunt_X10_isIn rfl rfl rfl (by decide +kernel) ⟨Nat.le_of_ble_eq_true rfl, Nat.le_of_ble_eq_true rfl⟩) hP rfl hl.1 rfl (Nat.le_of_ble_eq_true rfl) dX10_haunt_101 ⟨Nat.le_of_ble_eq_true rfl, Nat.le_of_ble_eq_true rfl⟩ hS (fun r101 H locs q101 hP hS => ?_)
                        have q101 := q101
                        simp only [k64, show (0 : Int64).toInt = 0 from rfl, show (1 : Int64).toInt = 1 from rfl, show (2 : Int64).toInt = 2 from rfl, show (3 : Int64).toInt = 3 from rfl, show (6 : Int64).toInt = 6 from rfl] at q101
                        refine lv_if_eq (tgt := 111) hx hb dX10_haunt_104 (by decide) (fun c104 => ?_) (fun c104 => ?_)
                        · skip
                          have b104 := bo_f q101 c104
                          refine lv_iconst (v := 0) hx hb dX10_haunt_111 (by decide) ?_
                          refine lv_istore (lv' := [(6, .int (0 : Int32)), (5, .int v78), (4, .int v67), (3, .int (nI i)), (2, .int (nI k2)), (0, .ref mo), (1, .int ways)]) hx hb dX10_haunt_112 hl (by decide) rfl (fun ls hl => ?_)
                          refine lv_aload_n hx hb dX10_haunt_114 rfl (lv_at hl 5 rfl) ?_
                          refine m_get (v := .ref (a 28)) hx hb hts hin hown hK hP 28 (by decide) rfl (hts (.fieldLink RX10 58 "ShadowBenchModel" "moved" "[I") (by decide +kernel)) rfl dX10_haunt_115 ?_
                          refine lv_iload_n hx hb dX10_haunt_118 rfl (lv_at hl 3 rfl) ?_
                          refine lv_aload_n hx hb dX10_haunt_119 rfl (lv_at hl 5 rfl) ?_
                          refine m_get (v := .ref (a 27)) hx hb hts hin hown hK hP 27 (by decide) rfl (hts (.fieldLink RX10 55 "ShadowBenchModel" "ghost" "[I") (by decide +kernel)) rfl dX10_haunt_120 ?_
                          refine lv_iload_n hx hb dX10_haunt_123 rfl (lv_at hl 3 rfl) ?_
                          refine m_iald (w := g2) hx hb hK hP 15 rfl (vp_in_iff.mpr ⟨by omega, by omega⟩) dX10_haunt_124 ?_
                          refine lv_topi (fun v124 e124 => ?_)
                          have i124 : v124.toInt = (g2 (nI i).toNatClampNeg).toInt := congrArg Int32.toInt e124
                          have cli := nI_clamp (n := i) (by omega)
                          have t124 : v124.toInt = gN ways k2 ((i % 11 : Nat) : Int) ((i / 11 : Nat) - gF ways) := by rw [i124, cli]; exact j37_1 i (by omega)
                          have hp2 : (2 ^ k2 : Nat) ≤ 16 := Nat.le_trans (Nat.pow_le_pow_right (by decide) (show k2 ≤ 4 by omega)) (by decide)
                          have p1 := gN_b ways k2 ((i % 11 : Nat) : Int) ((i / 11 : Nat) - gF ways)
                          have p2 := gN_b ways k2 (((i % 11 : Nat) : Int) - gdx k2) (((i / 11 : Nat) - gF ways) - gdz k2)
                          refine lv_iload hx hb dX10_haunt_125 (lv_at hl 0 rfl) ?_
                          refine lv_if_eq (tgt := 146) hx hb dX10_haunt_127 (by decide) (fun c127 => ?_) (fun c127 => ?_)
                          · skip
                            have d127 := c127
                            rw [fa_eq] at d127
                            have t0 : gN ways k2 (((i % 11 : Nat) : Int) - gdx k2) (((i / 11 : Nat) - gF ways) - gdz k2) = 0 := by
                              first | have y91 := b91 | skip
                              first | have y104 := b104 | skip
                              try simp only [k64, show (0 : Int64).toInt = 0 from rfl, show (10 : Int64).toInt = 10 from rfl] at y91
                              try simp only [k64, show (0 : Int64).toInt = 0 from rfl, show (10 : Int64).toInt = 10 from rfl] at y104
                              exact gN_z ways k2 (by omega) _ _ (by omega)
                            refine lv_iconst (v := 0) hx hb dX10_haunt_146 (by decide) ?_
                            refine lv_isub hx hb dX10_haunt_147 ?_
                            refine lv_topi (fun v147 e147 => ?_)
                            have i147 : v147.toInt = v124.toInt - (0 : Int32).toInt := by rw [e147]; exact fb_subI (by omega) (by omega)
                            have hst : v147.toInt = gN ways (k2 + 1) ((i % 11 : Nat) : Int) ((i / 11 : Nat) - gF ways) := by
                              rw [gN_1 (hB.trans c56)]
                              first
                              | (rw [← t124, ← t142]; exact i147)
                              | (rw [t0, ← t124]; omega)
                            refine m_iast (w := m3) hx hb hK hP hD hS 16 rfl (vp_in_iff.mpr ⟨by omega, by omega⟩) (va_up (va_up (va_up r 27 g2) 28 m3) 28 (upd m3 (nI i).toNatClampNeg v147)) (ms_28 cy mo a _ _ _ _ _) dX10_haunt_148 (fun H locs hP hS => ?_)
                            have hP := wm_eq rfl rfl (es_r_27_28__28 r g2 m3 (upd m3 (nI i).toNatClampNeg v147)) rfl hP
                            refine lv_iinc (v := (nI (i + 1))) (lv' := [(3, .int (nI (i + 1))), (6, .int (0 : Int32)), (5, .int v78), (4, .int v67), (2, .int (nI k2)), (0, .ref mo), (1, .int ways)]) hx hb dX10_haunt_149 hl (k := 3) rfl (nI_1 _) (by decide) rfl (fun ls hl => ?_)
                            refine lv_goto (tgt := 44) hx hb dX10_haunt_152 (by decide) ?_
                            have hP := wm_eq rfl rfl (ec_r_27_28__27_28 r g2 ((upd m3 (nI i).toNatClampNeg v147))) rfl hP
                            exact ih_44 (i + 1) (((upd m3 (nI i).toNatClampNeg v147))) (by omega) (fun e he => by unfold upd; rw [cli]; split; (rename_i z9; rw [z9]; exact hst); exact j44_1 e (by omega)) (by omega) _ _ hP hS ls (lv_sub hl [0, 4, 5, 6] rfl)
                          · first | exact absurd c127 (by decide) | exact absurd (by decide) c127
                        · skip
                          have b104 := bo_t q101 c104
                          refine lv_iconst (v := 1) hx hb dX10_haunt_107 (by decide) ?_
                          refine lv_goto (tgt := 112) hx hb dX10_haunt_108 (by decide) ?_
                          refine lv_istore (lv' := [(6, .int (1 : Int32)), (5, .int v78), (4, .int v67), (3, .int (nI i)), (2, .int (nI k2)), (0, .ref mo), (1, .int ways)]) hx hb dX10_haunt_112 hl (by decide) rfl (fun ls hl => ?_)
                          refine lv_aload_n hx hb dX10_haunt_114 rfl (lv_at hl 5 rfl) ?_
                          refine m_get (v := .ref (a 28)) hx hb hts hin hown hK hP 28 (by decide) rfl (hts (.fieldLink RX10 58 "ShadowBenchModel" "moved" "[I") (by decide +kernel)) rfl dX10_haunt_115 ?_
                          refine lv_iload_n hx hb dX10_haunt_118 rfl (lv_at hl 3 rfl) ?_
                          refine lv_aload_n hx hb dX10_haunt_119 rfl (lv_at hl 5 rfl) ?_
                          refine m_get (v := .ref (a 27)) hx hb hts hin hown hK hP 27 (by decide) rfl (hts (.fieldLink RX10 55 "ShadowBenchModel" "ghost" "[I") (by decide +kernel)) rfl dX10_haunt_120 ?_
                          refine lv_iload_n hx hb dX10_haunt_123 rfl (lv_at hl 3 rfl) ?_
                          refine m_iald (w := g2) hx hb hK hP 15 rfl (vp_in_iff.mpr ⟨by omega, by omega⟩) dX10_haunt_124 ?_
                          refine lv_topi (fun v124 e124 => ?_)
                          have i124 : v124.toInt = (g2 (nI i).toNatClampNeg).toInt := congrArg Int32.toInt e124
                          have cli := nI_clamp (n := i) (by omega)
                          have t124 : v124.toInt = gN ways k2 ((i % 11 : Nat) : Int) ((i / 11 : Nat) - gF ways) := by rw [i124, cli]; exact j37_1 i (by omega)
                          have hp2 : (2 ^ k2 : Nat) ≤ 16 := Nat.le_trans (Nat.pow_le_pow_right (by decide) (show k2 ≤ 4 by omega)) (by decide)
                          have p1 := gN_b ways k2 ((i % 11 : Nat) : Int) ((i / 11 : Nat) - gF ways)
                          have p2 := gN_b ways k2 (((i % 11 : Nat) : Int) - gdx k2) (((i / 11 : Nat) - gF ways) - gdz k2)
                          refine lv_iload hx hb dX10_haunt_125 (lv_at hl 0 rfl) ?_
                          refine lv_if_eq (tgt := 146) hx hb dX10_haunt_127 (by decide) (fun c127 => ?_) (fun c127 => ?_)
                          · first | exact absurd c127 (by decide) | exact absurd (by decide) c127
                          · skip
                            have d127 := c127
                            rw [fa_eq] at d127
                            refine lv_aload_n hx hb dX10_haunt_130 rfl (lv_at hl 5 rfl) ?_
                            refine m_get (v := .ref (a 27)) hx hb hts hin hown hK hP 27 (by decide) rfl (hts (.fieldLink RX10 55 "ShadowBenchModel" "ghost" "[I") (by decide +kernel)) rfl dX10_haunt_131 ?_
                            have y91 := b91
                            have y104 := b104
                            try simp only [k64, show (0 : Int64).toInt = 0 from rfl, show (10 : Int64).toInt = 10 from rfl] at y91 y104
                            refine lv_bipush (v := 11) hx hb dX10_haunt_134 (by decide) ?_
                            refine lv_iload hx hb dX10_haunt_136 (lv_at hl 1 rfl) ?_
                            refine lv_imul hx hb dX10_haunt_138 ?_
                            refine lv_topi (fun v138 e138 => ?_)
                            have i138 : v138.toInt = 11 * v78.toInt := by rw [e138]; exact mulcL rfl (by omega) (by omega)
                            refine lv_iload hx hb dX10_haunt_139 (lv_at hl 2 rfl) ?_
                            refine lv_iadd hx hb dX10_haunt_141 ?_
                            refine lv_topi (fun v141 e141 => ?_)
                            have i141 : v141.toInt = v138.toInt + v67.toInt := by rw [e141]; exact fb_addI (by omega) (by omega)
                            refine m_iald (w := g2) hx hb hK hP 15 rfl (vp_in_iff.mpr ⟨by omega, by omega⟩) dX10_haunt_142 ?_
                            refine lv_topi (fun v142 e142 => ?_)
                            have i142 : v142.toInt = (g2 v141.toNatClampNeg).toInt := congrArg Int32.toInt e142
                            have t142 : v142.toInt = gN ways k2 (((i % 11 : Nat) : Int) - gdx k2) (((i / 11 : Nat) - gF ways) - gdz k2) := by
                              rw [i142]
                              have hc := m_cl (x := v141) (by omega)
                              rw [j37_1 v141.toNatClampNeg (by omega), show ((v141.toNatClampNeg % 11 : Nat) : Int) = ((i % 11 : Nat) : Int) - gdx k2 by omega, show ((v141.toNatClampNeg / 11 : Nat) : Int) - gF ways = ((i / 11 : Nat) - gF ways) - gdz k2 by omega]
                            refine lv_goto (tgt := 147) hx hb dX10_haunt_143 (by decide) ?_
                            refine lv_isub hx hb dX10_haunt_147 ?_
                            refine lv_topi (fun v147 e147 => ?_)
                            have i147 : v147.toInt = v124.toInt - v142.toInt := by rw [e147]; exact fb_subI (by omega) (by omega)
                            have hst : v147.toInt = gN ways (k2 + 1) ((i % 11 : Nat) : Int) ((i / 11 : Nat) - gF ways) := by
                              rw [gN_1 (hB.trans c56)]
                              first
                              | (rw [← t124, ← t142]; exact i147)
                              | (rw [t0, ← t124]; omega)
                            refine m_iast (w := m3) hx hb hK hP hD hS 16 rfl (vp_in_iff.mpr ⟨by omega, by omega⟩) (va_up (va_up (va_up r 27 g2) 28 m3) 28 (upd m3 (nI i).toNatClampNeg v147)) (ms_28 cy mo a _ _ _ _ _) dX10_haunt_148 (fun H locs hP hS => ?_)
                            have hP := wm_eq rfl rfl (es_r_27_28__28 r g2 m3 (upd m3 (nI i).toNatClampNeg v147)) rfl hP
                            refine lv_iinc (v := (nI (i + 1))) (lv' := [(3, .int (nI (i + 1))), (6, .int (1 : Int32)), (5, .int v78), (4, .int v67), (2, .int (nI k2)), (0, .ref mo), (1, .int ways)]) hx hb dX10_haunt_149 hl (k := 3) rfl (nI_1 _) (by decide) rfl (fun ls hl => ?_)
                            refine lv_goto (tgt := 44) hx hb dX10_haunt_152 (by decide) ?_
                            have hP := wm_eq rfl rfl (ec_r_27_28__27_28 r g2 ((upd m3 (nI i).toNatClampNeg v147))) rfl hP
                            exact ih_44 (i + 1) (((upd m3 (nI i).toNatClampNeg v147))) (by omega) (fun e he => by unfold upd; rw [cli]; split; (rename_i z9; rw [z9]; exact hst); exact j44_1 e (by omega)) (by omega) _ _ hP hS ls (lv_sub hl [0, 4, 5, 6] rfl)
              exact loop_44 (121 + 1) 0 m2 (by omega) (fun e he => absurd he (Nat.not_lt_zero _)) (by omega) _ _ hP hS ls (lv_sub hl [0, 1, 2, 3] rfl)
        have hP := wm_eq rfl rfl (ec_r_27__27_28 r ((upd g1 v32.toNatClampNeg (1 : Int32)))) rfl hP
        exact loop_37 (4 + 1) 0 (((upd g1 v32.toNatClampNeg (1 : Int32)))) (r 28) (by omega) (fun e he => by simp only [gN]; unfold upd; split; (rw [if_pos (by omega)]; rfl); (rw [hz0 e he, if_neg (by omega)]; rfl)) (by omega) _ _ hP hS ls (lv_sub hl [0, 1, 2] rfl)
      · skip
        have d5 := c5
        rw [fa_le] at d5
        refine lv_aload_n hx hb dX10_haunt_8 rfl (lv_at hl 1 rfl) ?_
        refine m_get (v := .ref (a 27)) hx hb hts hin hown hK hP 27 (by decide) rfl (hts (.fieldLink RX10 55 "ShadowBenchModel" "ghost" "[I") (by decide +kernel)) rfl dX10_haunt_9 ?_
        refine lv_iload_n hx hb dX10_haunt_12 rfl (lv_at hl 0 rfl) ?_
        refine lv_iconst (v := 0) hx hb dX10_haunt_13 (by decide) ?_
        refine m_iast (w := g1) hx hb hK hP hD hS 15 rfl (vp_in_iff.mpr ⟨by omega, by omega⟩) (va_up (va_up r 27 g1) 27 (upd g1 (nI k).toNatClampNeg (0 : Int32))) (ms_27 cy mo a _ _ _ _ _) dX10_haunt_14 (fun H locs hP hS => ?_)
        have hP := wm_eq rfl rfl (es_r_27__27 r g1 (upd g1 (nI k).toNatClampNeg (0 : Int32))) rfl hP
        refine lv_iinc (v := (nI (k + 1))) (lv' := [(2, .int (nI (k + 1))), (0, .ref mo), (1, .int ways)]) hx hb dX10_haunt_15 hl (k := 0) rfl (nI_1 _) (by decide) rfl (fun ls hl => ?_)
        refine lv_goto (tgt := 2) hx hb dX10_haunt_18 (by decide) ?_
        have hP := wm_eq rfl rfl (ec_r_27__27 r ((upd g1 (nI k).toNatClampNeg (0 : Int32)))) rfl hP
        exact ih_2 (k + 1) (((upd g1 (nI k).toNatClampNeg (0 : Int32)))) (by omega) (fun e he => by have hck := nI_clamp (n := k) (by omega); unfold upd; split; rfl; exact j2_1 e (by omega)) (by omega) _ _ hP hS ls (lv_sub hl [0, 1, 2] rfl)
  have hP := wm_eq rfl rfl (ec_r___27 r ) rfl hP
  exact loop_2 (121 + 1) 0 (r 27) (by omega) (fun e he => absurd he (Nat.not_lt_zero _)) (by omega) _ _ hP hS ls (lv_sub hl [0, 1, 2] rfl)
set_option maxHeartbeats 4000000 in
set_option maxRecDepth 100000 in
theorem c_X10_ghost_x (l : Launch) (D : va_G) (cy : Nat → ClassId) (mo : Nat) (a : Nat → Nat) (f : Nat → Int32) (g : Nat → Int64) (r : Nat → Nat → Int32) (q : Nat → Nat → Int64) (ways : Int32) (x : Int32) (y : Int32) (hD : DM cy mo a)  : Mi l D cy mo a yX10_ghost wsX10_ghost ({ frames := 2, cells := 0, slots := 0, locals := 51 }) f g r q [.int ways, .int x, .int y] (fun r0 u => ∃ (th : Int32), ∃ (gh : Nat → Int32), ∃ (mv : Nat → Int32), u = ((upd f 0 th), g, (va_up (va_up r 27 gh) 28 mv), q) ∧ ((gOk ways x y ∧ th = 0 ∧ r0.toInt = gV ways x y) ∨ (¬ gOk ways x y ∧ th = 1))) := by
  refine Met.ofW (cc := cX10_ghost) (maxL := 4) (ret := (some .int)) (by decide) rfl ?_
  intro p e s m args below meth c s₁ B hml hv
  obtain ⟨rfl, hP, hK⟩ := hv
  have hx := B.exec
  have hb := B.bytes
  have hr := B.returns
  have hts := atoms_spec (ws := wsX10_ghost) B.pre
  have hin : ∀ w ∈ u_ws RX10 TX10 35, w ∈ wsX10_ghost := by decide +kernel
  have hown : s.vm.findClass RX10 = some m.cls := findClass_of_methodNamed B.named
  have hlocks := B.notSynchronized
  have hS : va_S (AM mo a) s.heap s.heap [] := va_S.rf
  have hl := lv_entry ([.ref mo, .int ways, .int x, .int y]) (n := 4) (Nat.le_of_ble_eq_true rfl)
  rw [lg_entry_eq]
  generalize (lg_sl ([.ref mo, .int ways, .int x, .int y]) ++ List.replicate (4 - (lg_sl ([.ref mo, .int ways, .int x, .int y])).length) Slot.unset).toArray = ls at hl ⊢
  have hl : lv_has ls 4 [(0, .ref mo), (1, .int ways), (2, .int x), (3, .int y)] := hl
  have k_0 : (0 : Int32).toInt = 0 := by decide
  have k_1 : (1 : Int32).toInt = 1 := by decide
  have k_11 : (11 : Int32).toInt = 11 := by decide
  have k_0L : (0 : Int64).toInt = 0 := by decide
  have k_1L : (1 : Int64).toInt = 1 := by decide
  have k_8L : (8 : Int64).toInt = 8 := by decide
  have k_15L : (15 : Int64).toInt = 15 := by decide
  refine lv_aload_n hx hb dX10_ghost_0 rfl (lv_at hl 0 rfl) ?_
  refine lv_iload_n hx hb dX10_ghost_1 rfl (lv_at hl 1 rfl) ?_
  refine lv_i2l (v := ways.toInt64) hx hb dX10_ghost_2 rfl ?_
  refine lv_lconst (v := 1) hx hb dX10_ghost_3 (by decide) ?_
  refine lv_ldc2 hx hb hown (hts (.constantLong RX10 228 (15)) (by decide +kernel)) dX10_ghost_4 ?_
  refine m_pu (As := [.long (ways.toInt64), .long (1 : Int64), .long (15 : Int64)]) (rest := [.ref mo]) ⟨hx, hb, hml, hown, hts⟩ (c_X10_isIn l ways.toInt64 (1 : Int64) (15 : Int64) ) (va_cwS 3 hts gX10_ghost_X10_isIn rfl rfl rfl (by decide +kernel) ⟨Nat.le_of_ble_eq_true rfl, Nat.le_of_ble_eq_true rfl⟩) hP rfl hl.1 rfl (Nat.le_of_ble_eq_true rfl) dX10_ghost_7 ⟨Nat.le_of_ble_eq_true rfl, Nat.le_of_ble_eq_true rfl⟩ hS (fun r7 H locs q7 hP hS => ?_)
  have q7 := q7
  simp only [k64, show (0 : Int64).toInt = 0 from rfl, show (1 : Int64).toInt = 1 from rfl, show (2 : Int64).toInt = 2 from rfl, show (3 : Int64).toInt = 3 from rfl, show (6 : Int64).toInt = 6 from rfl] at q7
  refine lv_if_eq (tgt := 41) hx hb dX10_ghost_10 (by decide) (fun c10 => ?_) (fun c10 => ?_)
  · skip
    have b10 := bo_f q7 c10
    refine lv_iconst (v := 1) hx hb dX10_ghost_41 (by decide) ?_
    refine m_put (v := .int (1 : Int32)) (ty := .int) hx hb hts hin hown hK hP hD hS 0 (by decide) rfl (hts (.fieldLink RX10 79 "ShadowBenchModel" "thrown" "I") (by decide +kernel)) rfl (by decide +kernel) rfl rfl (upd f 0 (1 : Int32)) g rfl dX10_ghost_42 (fun H locs hP hS => ?_)
    refine lv_aload_n hx hb dX10_ghost_45 rfl (lv_at hl 0 rfl) ?_
    refine m_get (v := .int (1 : Int32)) hx hb hts hin hown hK hP 0 (by decide) rfl (hts (.fieldLink RX10 79 "ShadowBenchModel" "thrown" "I") (by decide +kernel)) rfl dX10_ghost_46 ?_
    refine lv_if_le (tgt := 54) hx hb dX10_ghost_49 (by decide) (fun c49 => ?_) (fun c49 => ?_)
    · first | exact absurd c49 (by decide) | exact absurd (by decide) c49
    · skip
      have d49 := c49
      rw [fa_le] at d49
      have nb : ¬ gOk ways x y := by
        unfold gOk
        first | have y10 := b10 | skip
        first | have y22 := b22 | skip
        first | have y34 := b34 | skip
        try simp only [k64, show (0 : Int64).toInt = 0 from rfl, show (1 : Int64).toInt = 1 from rfl, show (8 : Int64).toInt = 8 from rfl, show (15 : Int64).toInt = 15 from rfl] at y10
        try simp only [k64, show (0 : Int64).toInt = 0 from rfl, show (8 : Int64).toInt = 8 from rfl] at y22
        try simp only [k64, show (0 : Int64).toInt = 0 from rfl, show (8 : Int64).toInt = 8 from rfl] at y34
        omega
      refine lv_iconst (v := 0) hx hb dX10_ghost_52 (by decide) ?_
      have hP := wm_eq rfl rfl (ec_r___27_28 r ) rfl hP
      exact W.iret (v := (0 : Int32)) hx hb hr (fun t ht hW => ⟨⟨_, ((upd f 0 (1 : Int32)), g, (va_up (va_up r 27 (r 27)) 28 (r 28)), q), rfl, ⟨(1 : Int32), (r 27), (r 28), rfl, Or.inr ⟨nb, rfl⟩⟩, by unfold mB; rw [ht]; exact hP⟩, hS.F ht⟩) hS.2.2 dX10_ghost_53
  · skip
    have b10 := bo_t q7 c10
    refine lv_iload_n hx hb dX10_ghost_13 rfl (lv_at hl 2 rfl) ?_
    refine lv_i2l (v := x.toInt64) hx hb dX10_ghost_14 rfl ?_
    refine lv_lconst (v := 0) hx hb dX10_ghost_15 (by decide) ?_
    refine lv_ldc2 hx hb hown (hts (.constantLong RX10 250 (8)) (by decide +kernel)) dX10_ghost_16 ?_
    refine m_pu (As := [.long (x.toInt64), .long (0 : Int64), .long (8 : Int64)]) (rest := [.ref mo]) ⟨hx, hb, hml, hown, hts⟩ (c_X10_isIn l x.toInt64 (0 : Int64) (8 : Int64) ) (va_cwS 3 hts gX10_ghost_X10_isIn rfl rfl rfl (by decide +kernel) ⟨Nat.le_of_ble_eq_true rfl, Nat.le_of_ble_eq_true rfl⟩) hP rfl hl.1 rfl (Nat.le_of_ble_eq_true rfl) dX10_ghost_19 ⟨Nat.le_of_ble_eq_true rfl, Nat.le_of_ble_eq_true rfl⟩ hS (fun r19 H locs q19 hP hS => ?_)
    have q19 := q19
    simp only [k64, show (0 : Int64).toInt = 0 from rfl, show (1 : Int64).toInt = 1 from rfl, show (2 : Int64).toInt = 2 from rfl, show (3 : Int64).toInt = 3 from rfl, show (6 : Int64).toInt = 6 from rfl] at q19
    refine lv_if_eq (tgt := 41) hx hb dX10_ghost_22 (by decide) (fun c22 => ?_) (fun c22 => ?_)
    · skip
      have b22 := bo_f q19 c22
      refine lv_iconst (v := 1) hx hb dX10_ghost_41 (by decide) ?_
      refine m_put (v := .int (1 : Int32)) (ty := .int) hx hb hts hin hown hK hP hD hS 0 (by decide) rfl (hts (.fieldLink RX10 79 "ShadowBenchModel" "thrown" "I") (by decide +kernel)) rfl (by decide +kernel) rfl rfl (upd f 0 (1 : Int32)) g rfl dX10_ghost_42 (fun H locs hP hS => ?_)
      refine lv_aload_n hx hb dX10_ghost_45 rfl (lv_at hl 0 rfl) ?_
      refine m_get (v := .int (1 : Int32)) hx hb hts hin hown hK hP 0 (by decide) rfl (hts (.fieldLink RX10 79 "ShadowBenchModel" "thrown" "I") (by decide +kernel)) rfl dX10_ghost_46 ?_
      refine lv_if_le (tgt := 54) hx hb dX10_ghost_49 (by decide) (fun c49 => ?_) (fun c49 => ?_)
      · first | exact absurd c49 (by decide) | exact absurd (by decide) c49
      · skip
        have d49 := c49
        rw [fa_le] at d49
        have nb : ¬ gOk ways x y := by
          unfold gOk
          first | have y10 := b10 | skip
          first | have y22 := b22 | skip
          first | have y34 := b34 | skip
          try simp only [k64, show (0 : Int64).toInt = 0 from rfl, show (1 : Int64).toInt = 1 from rfl, show (8 : Int64).toInt = 8 from rfl, show (15 : Int64).toInt = 15 from rfl] at y10
          try simp only [k64, show (0 : Int64).toInt = 0 from rfl, show (8 : Int64).toInt = 8 from rfl] at y22
          try simp only [k64, show (0 : Int64).toInt = 0 from rfl, show (8 : Int64).toInt = 8 from rfl] at y34
          omega
        refine lv_iconst (v := 0) hx hb dX10_ghost_52 (by decide) ?_
        have hP := wm_eq rfl rfl (ec_r___27_28 r ) rfl hP
        exact W.iret (v := (0 : Int32)) hx hb hr (fun t ht hW => ⟨⟨_, ((upd f 0 (1 : Int32)), g, (va_up (va_up r 27 (r 27)) 28 (r 28)), q), rfl, ⟨(1 : Int32), (r 27), (r 28), rfl, Or.inr ⟨nb, rfl⟩⟩, by unfold mB; rw [ht]; exact hP⟩, hS.F ht⟩) hS.2.2 dX10_ghost_53
    · skip
      have b22 := bo_t q19 c22
      refine lv_iload_n hx hb dX10_ghost_25 rfl (lv_at hl 3 rfl) ?_
      refine lv_i2l (v := y.toInt64) hx hb dX10_ghost_26 rfl ?_
      refine lv_lconst (v := 0) hx hb dX10_ghost_27 (by decide) ?_
      refine lv_ldc2 hx hb hown (hts (.constantLong RX10 250 (8)) (by decide +kernel)) dX10_ghost_28 ?_
      refine m_pu (As := [.long (y.toInt64), .long (0 : Int64), .long (8 : Int64)]) (rest := [.ref mo]) ⟨hx, hb, hml, hown, hts⟩ (c_X10_isIn l y.toInt64 (0 : Int64) (8 : Int64) ) (va_cwS 3 hts gX10_ghost_X10_isIn rfl rfl rfl (by decide +kernel) ⟨Nat.le_of_ble_eq_true rfl, Nat.le_of_ble_eq_true rfl⟩) hP rfl hl.1 rfl (Nat.le_of_ble_eq_true rfl) dX10_ghost_31 ⟨Nat.le_of_ble_eq_true rfl, Nat.le_of_ble_eq_true rfl⟩ hS (fun r31 H locs q31 hP hS => ?_)
      have q31 := q31
      simp only [k64, show (0 : Int64).toInt = 0 from rfl, show (1 : Int64).toInt = 1 from rfl, show (2 : Int64).toInt = 2 from rfl, show (3 : Int64).toInt = 3 from rfl, show (6 : Int64).toInt = 6 from rfl] at q31
      refine lv_if_eq (tgt := 41) hx hb dX10_ghost_34 (by decide) (fun c34 => ?_) (fun c34 => ?_)
      · skip
        have b34 := bo_f q31 c34
        refine lv_iconst (v := 1) hx hb dX10_ghost_41 (by decide) ?_
        refine m_put (v := .int (1 : Int32)) (ty := .int) hx hb hts hin hown hK hP hD hS 0 (by decide) rfl (hts (.fieldLink RX10 79 "ShadowBenchModel" "thrown" "I") (by decide +kernel)) rfl (by decide +kernel) rfl rfl (upd f 0 (1 : Int32)) g rfl dX10_ghost_42 (fun H locs hP hS => ?_)
        refine lv_aload_n hx hb dX10_ghost_45 rfl (lv_at hl 0 rfl) ?_
        refine m_get (v := .int (1 : Int32)) hx hb hts hin hown hK hP 0 (by decide) rfl (hts (.fieldLink RX10 79 "ShadowBenchModel" "thrown" "I") (by decide +kernel)) rfl dX10_ghost_46 ?_
        refine lv_if_le (tgt := 54) hx hb dX10_ghost_49 (by decide) (fun c49 => ?_) (fun c49 => ?_)
        · first | exact absurd c49 (by decide) | exact absurd (by decide) c49
        · skip
          have d49 := c49
          rw [fa_le] at d49
          have nb : ¬ gOk ways x y := by
            unfold gOk
            first | have y10 := b10 | skip
            first | have y22 := b22 | skip
            first | have y34 := b34 | skip
            try simp only [k64, show (0 : Int64).toInt = 0 from rfl, show (1 : Int64).toInt = 1 from rfl, show (8 : Int64).toInt = 8 from rfl, show (15 : Int64).toInt = 15 from rfl] at y10
            try simp only [k64, show (0 : Int64).toInt = 0 from rfl, show (8 : Int64).toInt = 8 from rfl] at y22
            try simp only [k64, show (0 : Int64).toInt = 0 from rfl, show (8 : Int64).toInt = 8 from rfl] at y34
            omega
          refine lv_iconst (v := 0) hx hb dX10_ghost_52 (by decide) ?_
          have hP := wm_eq rfl rfl (ec_r___27_28 r ) rfl hP
          exact W.iret (v := (0 : Int32)) hx hb hr (fun t ht hW => ⟨⟨_, ((upd f 0 (1 : Int32)), g, (va_up (va_up r 27 (r 27)) 28 (r 28)), q), rfl, ⟨(1 : Int32), (r 27), (r 28), rfl, Or.inr ⟨nb, rfl⟩⟩, by unfold mB; rw [ht]; exact hP⟩, hS.F ht⟩) hS.2.2 dX10_ghost_53
      · skip
        have b34 := bo_t q31 c34
        refine lv_iconst (v := 0) hx hb dX10_ghost_37 (by decide) ?_
        refine lv_goto (tgt := 42) hx hb dX10_ghost_38 (by decide) ?_
        refine m_put (v := .int (0 : Int32)) (ty := .int) hx hb hts hin hown hK hP hD hS 0 (by decide) rfl (hts (.fieldLink RX10 79 "ShadowBenchModel" "thrown" "I") (by decide +kernel)) rfl (by decide +kernel) rfl rfl (upd f 0 (0 : Int32)) g rfl dX10_ghost_42 (fun H locs hP hS => ?_)
        refine lv_aload_n hx hb dX10_ghost_45 rfl (lv_at hl 0 rfl) ?_
        refine m_get (v := .int (0 : Int32)) hx hb hts hin hown hK hP 0 (by decide) rfl (hts (.fieldLink RX10 79 "ShadowBenchModel" "thrown" "I") (by decide +kernel)) rfl dX10_ghost_46 ?_
        refine lv_if_le (tgt := 54) hx hb dX10_ghost_49 (by decide) (fun c49 => ?_) (fun c49 => ?_)
        · skip
          have d49 := c49
          rw [fa_le] at d49
          have y10 := b10
          have y22 := b22
          have y34 := b34
          try simp only [k64, show (0 : Int64).toInt = 0 from rfl, show (1 : Int64).toInt = 1 from rfl, show (8 : Int64).toInt = 8 from rfl, show (15 : Int64).toInt = 15 from rfl] at y10
          try simp only [k64, show (0 : Int64).toInt = 0 from rfl, show (8 : Int64).toInt = 8 from rfl] at y22
          try simp only [k64, show (0 : Int64).toInt = 0 from rfl, show (8 : Int64).toInt = 8 from rfl] at y34
          have yb : gOk ways x y := by unfold gOk; omega
          refine lv_aload_n hx hb dX10_ghost_54 rfl (lv_at hl 0 rfl) ?_
          refine lv_iload_n hx hb dX10_ghost_55 rfl (lv_at hl 1 rfl) ?_
          refine m_callv (As := [.int ways]) (rest := []) ⟨hx, hb, hml, hown, hts⟩ (c_X10_haunt_x l D cy mo a (upd f 0 (0 : Int32)) g r q ways hD) (cwV 1 hts gX10_ghost_X10_haunt rfl rfl rfl (by decide +kernel) ⟨Nat.le_of_ble_eq_true rfl, Nat.le_of_ble_eq_true rfl⟩) hK hP rfl hl.1 rfl (Nat.le_of_ble_eq_true rfl) dX10_ghost_56 ⟨Nat.le_of_ble_eq_true rfl, Nat.le_of_ble_eq_true rfl⟩ hS (fun u H locs q56 hP hS => ?_)
          obtain ⟨gh_56, mv_56, rfl, q56⟩ := q56
          have hP : va_P D vwCl (WM cy mo a (upd f 0 (0 : Int32)) g (va_up (va_up r 27 gh_56) 28 mv_56) q) H := hP
          have q56 : ∀ e, e < 121 → (gh_56 e).toInt = gN ways 4 ((e % 11 : Nat) : Int) ((e / 11 : Nat) - gF ways) := q56
          refine lv_aload_n hx hb dX10_ghost_59 rfl (lv_at hl 0 rfl) ?_
          refine m_get (v := .ref (a 27)) hx hb hts hin hown hK hP 27 (by decide) rfl (hts (.fieldLink RX10 55 "ShadowBenchModel" "ghost" "[I") (by decide +kernel)) rfl dX10_ghost_60 ?_
          refine lv_bipush (v := 11) hx hb dX10_ghost_63 (by decide) ?_
          refine lv_iload_n hx hb dX10_ghost_65 rfl (lv_at hl 3 rfl) ?_
          refine lv_imul hx hb dX10_ghost_66 ?_
          refine lv_topi (fun v66 e66 => ?_)
          have i66 : v66.toInt = 11 * y.toInt := by rw [e66]; exact mulcL rfl (by omega) (by omega)
          refine lv_iload_n hx hb dX10_ghost_67 rfl (lv_at hl 2 rfl) ?_
          refine lv_iadd hx hb dX10_ghost_68 ?_
          refine lv_topi (fun v68 e68 => ?_)
          have i68 : v68.toInt = v66.toInt + x.toInt := by rw [e68]; exact fb_addI (by omega) (by omega)
          refine m_iald (w := gh_56) hx hb hK hP 15 rfl (vp_in_iff.mpr ⟨by omega, by omega⟩) dX10_ghost_69 ?_
          refine lv_topi (fun v69 e69 => ?_)
          have i69 : v69.toInt = (gh_56 v68.toNatClampNeg).toInt := congrArg Int32.toInt e69
          have hc := m_cl (x := v68) (by omega)
          have t69 : v69.toInt = gV ways x y := by
            rw [i69, q56 v68.toNatClampNeg (by omega), show ((v68.toNatClampNeg % 11 : Nat) : Int) = x.toInt by omega, show ((v68.toNatClampNeg / 11 : Nat) : Int) = y.toInt by omega]
            rfl
          exact W.iret (v := v69) hx hb hr (fun t ht hW => ⟨⟨_, ((upd f 0 (0 : Int32)), g, (va_up (va_up r 27 gh_56) 28 mv_56), q), rfl, ⟨(0 : Int32), gh_56, mv_56, rfl, Or.inl ⟨yb, rfl, t69⟩⟩, by unfold mB; rw [ht]; exact hP⟩, hS.F ht⟩) hS.2.2 dX10_ghost_70
        · first | exact absurd c49 (by decide) | exact absurd (by decide) c49
set_option maxHeartbeats 4000000 in
set_option maxRecDepth 100000 in
theorem c_X10_thrown_x (l : Launch) (D : va_G) (cy : Nat → ClassId) (mo : Nat) (a : Nat → Nat) (f : Nat → Int32) (g : Nat → Int64) (r : Nat → Nat → Int32) (q : Nat → Nat → Int64)  (hD : DM cy mo a)  : Mi l D cy mo a yX10_thrown wsX10_thrown ({ frames := 0, cells := 0, slots := 0, locals := 0 }) f g r q [] (fun r0 u => u = (f, g, r, q) ∧ (r0 = f 0)) := by
  refine Met.ofW (cc := cX10_thrown) (maxL := 1) (ret := (some .int)) (by decide) rfl ?_
  intro p e s m args below meth c s₁ B hml hv
  obtain ⟨rfl, hP, hK⟩ := hv
  have hx := B.exec
  have hb := B.bytes
  have hr := B.returns
  have hts := atoms_spec (ws := wsX10_thrown) B.pre
  have hin : ∀ w ∈ u_ws RX10 TX10 35, w ∈ wsX10_thrown := by decide +kernel
  have hown : s.vm.findClass RX10 = some m.cls := findClass_of_methodNamed B.named
  have hlocks := B.notSynchronized
  have hS : va_S (AM mo a) s.heap s.heap [] := va_S.rf
  have hl := lv_entry ([.ref mo]) (n := 1) (Nat.le_of_ble_eq_true rfl)
  rw [lg_entry_eq]
  generalize (lg_sl ([.ref mo]) ++ List.replicate (1 - (lg_sl ([.ref mo])).length) Slot.unset).toArray = ls at hl ⊢
  have hl : lv_has ls 1 [(0, .ref mo)] := hl
  have k_0 : (0 : Int32).toInt = 0 := by decide
  refine lv_aload_n hx hb dX10_thrown_0 rfl (lv_at hl 0 rfl) ?_
  refine m_get (v := .int (f 0)) hx hb hts hin hown hK hP 0 (by decide) rfl (hts (.fieldLink RX10 79 "ShadowBenchModel" "thrown" "I") (by decide +kernel)) rfl dX10_thrown_1 ?_
  exact W.iret (v := (f 0)) hx hb hr (fun t ht hW => ⟨⟨_, (f, g, r, q), rfl, ⟨rfl, rfl⟩, by unfold mB; rw [ht]; exact hP⟩, hS.F ht⟩) hS.2.2 dX10_thrown_4
