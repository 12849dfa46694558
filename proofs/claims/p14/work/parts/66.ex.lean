/-! arrays of references whose content is told -/
section CAR
variable {p : Program} {l : Launch} {e : Env} {R : Room} {s : State} {m : MethodId} {args : Array Value} {below : List Frame} {meth : Method} {c : Code} {H : Heap} {locs : List Loc} {cells slots : Nat} {Q : State → Prop}
variable {cc : ByteArray} {pc : Nat} {ls : Array Slot} {rest : List Value} {D : va_G} {cy : Nat → ClassId} {A : Nat → Prop} {ws : va_W} {G : cG} {H0 : Heap}
theorem t_aald8f (hx : p.tables.exec = Jvm.exec) (hb : c.code = cc) (hK : va_K D vwCl (cTy cy) s) (hP : va_P D vwCl ws H) {a n : Nat} {f : Nat → Option Nat} (hM : cIn ws a (.inl (cy 3, cqa n f))) (hf : ∀ i x, i < n → f i = some x → G x = some (2, i % 6 + 1, i / 6 + 1)) {i : Int32} (hin : vp_in i n) (hdg : decode cc pc = .ok (.aaload, 1))
    (kn : f i.toNatClampNeg = none → W p l e R s m args below meth c H locs cells slots Q (F0 m (pc + 1) ls (.null :: rest)))
    (ks : ∀ x, G x = some (2, i.toNatClampNeg % 6 + 1, i.toNatClampNeg / 6 + 1) → f i.toNatClampNeg = some x → W p l e R s m args below meth c H locs cells slots Q (F0 m (pc + 1) ls (.ref x :: rest))) : W p l e R s m args below meth c H locs cells slots Q (F0 m pc ls (.int i :: .ref a :: rest)) := by
  obtain ⟨q0, hq⟩ := hM
  have hlt : i.toNatClampNeg < n := Nat.not_le.mp fun q => hin (Or.inr q)
  refine va_aldq hx hb hK hP q0 3 hq rfl hin hdg ?_
  cases hv : f i.toNatClampNeg with
  | none => exact kn hv
  | some x => exact ks x (hf _ x hlt hv) hv
theorem t_aast8f (hx : p.tables.exec = Jvm.exec) (hb : c.code = cc) (hK : va_K D vwCl (cTy cy) s) (hP : va_P D vwCl ws H) (hD : va_D A ws) (hS : va_S A H0 H locs) (hT : cT cy G ws) {a n z v : Nat} (hg : G a = some (8, n, z)) {f : Nat → Option Nat} (hM : cIn ws a (.inl (cy 3, cqa n f))) (hf : ∀ i x, i < n → f i = some x → G x = some (2, i % 6 + 1, i / 6 + 1)) {i : Int32} (hv : G v = some (2, i.toNatClampNeg % 6 + 1, i.toNatClampNeg / 6 + 1)) (hin : vp_in i n) (hdg : decode cc pc = .ok (.aastore, 1))
    (kk : ∀ (H1 : Heap) (locs1 : List Loc) (ws1 : va_W), cF (fun b => b = a) ws ws1 → cIn ws1 a (.inl (cy 3, cqa n (va_up f i.toNatClampNeg (some v)))) → (∀ j x, j < n → va_up f i.toNatClampNeg (some v) j = some x → G x = some (2, j % 6 + 1, j / 6 + 1)) → va_P D vwCl ws1 H1 → va_D A ws1 → cT cy G ws1 → va_S A H0 H1 locs1 → W p l e R s m args below meth c H1 locs1 cells slots Q (F0 m (pc + 1) ls rest)) : W p l e R s m args below meth c H locs cells slots Q (F0 m pc ls (.ref v :: .int i :: .ref a :: rest)) := by
  obtain ⟨q0, hq⟩ := hM
  obtain ⟨_, ⟨qk, hqk⟩, hb0, b1, b2, b3, rfl, -⟩ := hT _ _ hv
  have hf1 : ∀ j x, j < n → va_up f i.toNatClampNeg (some v) j = some x → G x = some (2, j % 6 + 1, j / 6 + 1) := fun j x hj hx => c_upf (P := fun i x => G x = some (2, i % 6 + 1, i / 6 + 1)) hf hv hj hx
  exact va_astq (r := (RX0, TX0, 8)) hx hb hK hP hD hS q0 3 qk 0 hq rfl hqk rfl hin hdg (fun H1 locs1 k1 k2 k3 => kk H1 locs1 _ (cF.up (cUp.set hq) rfl) (cUp.set hq).1 hf1 k1 k2 (hT.up (cUp.set hq) hg ⟨_, rfl, hf1⟩) k3)
end CAR

def gB (set : Int32) (k : Nat) : Int32 := (set >>> (nI k &&& 31)) &&& 1
def gdx (k : Nat) : Int := if k = 1 then 0 else 1
def gdy (k : Nat) : Int := if k = 0 then 0 else 1
def gX (set : Int32) : Nat → Int
  | 0 => 0
  | k + 1 => if gB set k = 1 then gX set k + gdx k else gX set k
def gY (set : Int32) : Nat → Int
  | 0 => 0
  | k + 1 => if gB set k = 1 then gY set k + gdy k else gY set k
theorem gdx_b (k : Nat) : 0 ≤ gdx k ∧ gdx k ≤ 1 := by unfold gdx; split <;> omega
theorem gdy_b (k : Nat) : 0 ≤ gdy k ∧ gdy k ≤ 1 := by unfold gdy; split <;> omega
theorem gX_b (set : Int32) (k : Nat) : 0 ≤ gX set k ∧ gX set k ≤ k := by
  induction k with
  | zero => simp [gX]
  | succ k ih => have := gdx_b k; simp only [gX]; split <;> omega
theorem gY_b (set : Int32) (k : Nat) : 0 ≤ gY set k ∧ gY set k ≤ k := by
  induction k with
  | zero => simp [gY]
  | succ k ih => have := gdy_b k; simp only [gY]; split <;> omega
theorem gX_1 {set : Int32} {k : Nat} (h : gB set k = 1) : gX set (k + 1) = gX set k + gdx k := by simp only [gX]; rw [if_pos h]
theorem gX_0 {set : Int32} {k : Nat} (h : ¬ gB set k = 1) : gX set (k + 1) = gX set k := by simp only [gX]; rw [if_neg h]
theorem gY_1 {set : Int32} {k : Nat} (h : gB set k = 1) : gY set (k + 1) = gY set k + gdy k := by simp only [gY]; rw [if_pos h]
theorem gY_0 {set : Int32} {k : Nat} (h : ¬ gB set k = 1) : gY set (k + 1) = gY set k := by simp only [gY]; rw [if_neg h]
theorem g_ax {x : Nat → Int32} {i : Nat} {v w : Int32} (hi : i < 4) (hx : x 0 = 1 ∧ x 1 = 0 ∧ x 2 = 1 ∧ x 3 = 1) (e1 : v = x (nI i).toNatClampNeg) (e2 : w = if 0 ≤ v then v else 0 - v) : w.toInt = gdx i := by
  rw [nI_clamp (by omega)] at e1
  obtain ⟨h0, h1, h2, h3⟩ := hx
  have h : i = 0 ∨ i = 1 ∨ i = 2 ∨ i = 3 := by omega
  rcases h with rfl | rfl | rfl | rfl
  · rw [h0] at e1; subst e1; subst e2; decide
  · rw [h1] at e1; subst e1; subst e2; decide
  · rw [h2] at e1; subst e1; subst e2; decide
  · rw [h3] at e1; subst e1; subst e2; decide
theorem g_ay {x : Nat → Int32} {i : Nat} {v w : Int32} (hi : i < 4) (hx : x 0 = 0 ∧ x 1 = 1 ∧ x 2 = 1 ∧ x 3 = -1) (e1 : v = x (nI i).toNatClampNeg) (e2 : w = if 0 ≤ v then v else 0 - v) : w.toInt = gdy i := by
  rw [nI_clamp (by omega)] at e1
  obtain ⟨h0, h1, h2, h3⟩ := hx
  have h : i = 0 ∨ i = 1 ∨ i = 2 ∨ i = 3 := by omega
  rcases h with rfl | rfl | rfl | rfl
  · rw [h0] at e1; subst e1; subst e2; decide
  · rw [h1] at e1; subst e1; subst e2; decide
  · rw [h2] at e1; subst e1; subst e2; decide
  · rw [h3] at e1; subst e1; subst e2; decide
def gP (set w h : Int32) : Int := if gX set 4 < w.toInt ∧ gY set 4 < h.toInt then (w.toInt - gX set 4) * (h.toInt - gY set 4) else 0
def gA (set w h : Int32) : Int := if (1 ≤ set.toInt ∧ set.toInt ≤ 15) ∧ (1 ≤ w.toInt ∧ w.toInt ≤ 6) ∧ (1 ≤ h.toInt ∧ h.toInt ≤ 6) then gP set w h else -1
def gH (set w h : Int32) : Int := if 0 < gA set w h then 1 else gA set w h
theorem gA_no {set w h : Int32} (hn : ¬ ((1 ≤ set.toInt ∧ set.toInt ≤ 15) ∧ (1 ≤ w.toInt ∧ w.toInt ≤ 6) ∧ (1 ≤ h.toInt ∧ h.toInt ≤ 6))) : gA set w h = -1 := by unfold gA; rw [if_neg hn]
theorem gA_yes {set w h : Int32} (hn : (1 ≤ set.toInt ∧ set.toInt ≤ 15) ∧ (1 ≤ w.toInt ∧ w.toInt ≤ 6) ∧ (1 ≤ h.toInt ∧ h.toInt ≤ 6)) : gA set w h = gP set w h := by unfold gA; rw [if_pos hn]
theorem gP_pos {set w h : Int32} {x y : Int} (ex : x = w.toInt - gX set 4) (ey : y = h.toInt - gY set 4) (px : 0 < x) (py : 0 < y) : gP set w h = x * y := by unfold gP; rw [if_pos (by omega), ex, ey]
theorem gP_zero {set w h : Int32} (hn : ¬ (gX set 4 < w.toInt ∧ gY set 4 < h.toInt)) : gP set w h = 0 := by unfold gP; rw [if_neg hn]
theorem gP_b {set w h : Int32} (hw : 1 ≤ w.toInt ∧ w.toInt ≤ 6) (hh : 1 ≤ h.toInt ∧ h.toInt ≤ 6) : 0 ≤ gP set w h := by
  unfold gP
  split
  · exact Int.mul_nonneg (by omega) (by omega)
  · omega
set_option maxHeartbeats 4000000 in
set_option maxRecDepth 100000 in
theorem c_X9_boardOf_x (l : Launch) (D : va_G) (cy : Nat → ClassId) (A : Nat → Prop) (G : cG) (ws : va_W) (o : Nat) (wide : Int32) (high : Int32)  (hD : va_D A ws) (hT : cT cy G ws) (hG_o : G o = some (7, 0, 0))  : Ca l D cy A yX9_boardOf wsX9_boardOf ({ frames := 4, cells := 4, slots := 502, locals := 93 }) 4 502 ws [.ref o, .int wide, .int high] (fun r0 u => cX none (chs [1, 8]) G ws u.1 u.2 ∧ ((∀ x, r0 = some x → u.1 x = some (2, wide.toNatClampNeg, high.toNatClampNeg)) ∧ (r0 = none → ¬ ((1 ≤ wide.toInt ∧ wide.toInt ≤ 6) ∧ (1 ≤ high.toInt ∧ high.toInt ≤ 6))) ∧ ∀ x, r0 = some x → ((1 ≤ wide.toInt ∧ wide.toInt ≤ 6) ∧ (1 ≤ high.toInt ∧ high.toInt ≤ 6)))) := by
  refine Met.ofW (cc := cX9_boardOf) (maxL := 4) (ret := (some (.object "ShadowBench$Board"))) (by decide) rfl ?_
  intro p e s m args below meth c s₁ B hml hv
  obtain ⟨rfl, hP, hK, hA, hV⟩ := hv
  have hx := B.exec
  have hb := B.bytes
  have hr := B.returns
  have hts := atoms_spec (ws := wsX9_boardOf) B.pre
  have hown : s.vm.findClass RX9 = some m.cls := findClass_of_methodNamed B.named
  have hlocks := B.notSynchronized
  have hS : va_S A s.heap s.heap [] := va_S.rf
  have hX : cX none (chs [1, 8]) G ws G ws := cX.rf
  have hl := lv_entry ([.ref o, .int wide, .int high]) (n := 4) (Nat.le_of_ble_eq_true rfl)
  rw [lg_entry_eq]
  generalize (lg_sl ([.ref o, .int wide, .int high]) ++ List.replicate (4 - (lg_sl ([.ref o, .int wide, .int high])).length) Slot.unset).toArray = ls at hl ⊢
  have hl : lv_has ls 4 [(0, .ref o), (1, .int wide), (2, .int high)] := hl
  have k_0 : (0 : Int32).toInt = 0 := by decide
  have k_1 : (1 : Int32).toInt = 1 := by decide
  have k_6 : (6 : Int32).toInt = 6 := by decide
  refine lv_iload_n hx hb dX9_boardOf_0 rfl (lv_at hl 1 rfl) ?_
  refine lv_iconst (v := 1) hx hb dX9_boardOf_1 (by decide) ?_
  refine lv_icmp_lt (tgt := 22) hx hb dX9_boardOf_2 (by decide) (fun c2 => ?_) (fun c2 => ?_)
  · skip
    have d2 := c2
    rw [fa_lt] at d2
    refine lv_null hx hb dX9_boardOf_22 ?_
    refine W.widen (k := 4) (n := 502) (Nat.le_of_ble_eq_true rfl) (Nat.le_of_ble_eq_true rfl) ?_
    exact W.aret (v := .null) hx hb hr (Or.inl ⟨_, rfl⟩) (Or.inl rfl) (fun t ht hW => ⟨⟨none, (G, ws), rfl, ⟨hX, ⟨(fun _ z => nomatch z), (fun _ => by omega), (fun _ z => nomatch z)⟩⟩, by show va_P D vwCl ws t.heap; rw [ht]; exact hP, hD, hT⟩, hS.F ht⟩) hS.2.2 dX9_boardOf_23
  · skip
    have d2 := c2
    rw [fa_lt] at d2
    refine lv_iload_n hx hb dX9_boardOf_5 rfl (lv_at hl 1 rfl) ?_
    refine lv_bipush (v := 6) hx hb dX9_boardOf_6 (by decide) ?_
    refine lv_icmp_gt (tgt := 22) hx hb dX9_boardOf_8 (by decide) (fun c8 => ?_) (fun c8 => ?_)
    · skip
      have d8 := c8
      rw [fa_lt] at d8
      refine lv_null hx hb dX9_boardOf_22 ?_
      refine W.widen (k := 4) (n := 502) (Nat.le_of_ble_eq_true rfl) (Nat.le_of_ble_eq_true rfl) ?_
      exact W.aret (v := .null) hx hb hr (Or.inl ⟨_, rfl⟩) (Or.inl rfl) (fun t ht hW => ⟨⟨none, (G, ws), rfl, ⟨hX, ⟨(fun _ z => nomatch z), (fun _ => by omega), (fun _ z => nomatch z)⟩⟩, by show va_P D vwCl ws t.heap; rw [ht]; exact hP, hD, hT⟩, hS.F ht⟩) hS.2.2 dX9_boardOf_23
    · skip
      have d8 := c8
      rw [fa_lt] at d8
      refine lv_iload_n hx hb dX9_boardOf_11 rfl (lv_at hl 2 rfl) ?_
      refine lv_iconst (v := 1) hx hb dX9_boardOf_12 (by decide) ?_
      refine lv_icmp_lt (tgt := 22) hx hb dX9_boardOf_13 (by decide) (fun c13 => ?_) (fun c13 => ?_)
      · skip
        have d13 := c13
        rw [fa_lt] at d13
        refine lv_null hx hb dX9_boardOf_22 ?_
        refine W.widen (k := 4) (n := 502) (Nat.le_of_ble_eq_true rfl) (Nat.le_of_ble_eq_true rfl) ?_
        exact W.aret (v := .null) hx hb hr (Or.inl ⟨_, rfl⟩) (Or.inl rfl) (fun t ht hW => ⟨⟨none, (G, ws), rfl, ⟨hX, ⟨(fun _ z => nomatch z), (fun _ => by omega), (fun _ z => nomatch z)⟩⟩, by show va_P D vwCl ws t.heap; rw [ht]; exact hP, hD, hT⟩, hS.F ht⟩) hS.2.2 dX9_boardOf_23
      · skip
        have d13 := c13
        rw [fa_lt] at d13
        refine lv_iload_n hx hb dX9_boardOf_16 rfl (lv_at hl 2 rfl) ?_
        refine lv_bipush (v := 6) hx hb dX9_boardOf_17 (by decide) ?_
        refine lv_icmp_le (tgt := 24) hx hb dX9_boardOf_19 (by decide) (fun c19 => ?_) (fun c19 => ?_)
        · skip
          have d19 := c19
          rw [fa_le] at d19
          refine lv_iload_n hx hb dX9_boardOf_24 rfl (lv_at hl 2 rfl) ?_
          refine lv_iconst (v := 1) hx hb dX9_boardOf_25 (by decide) ?_
          refine lv_isub hx hb dX9_boardOf_26 ?_
          refine lv_topi (fun v26 e26 => ?_)
          have i26 : v26.toInt = high.toInt - (1 : Int32).toInt := by rw [e26]; exact fb_subI (by omega) (by omega)
          refine lv_bipush (v := 6) hx hb dX9_boardOf_27 (by decide) ?_
          refine lv_imul hx hb dX9_boardOf_29 ?_
          refine lv_topi (fun v29 e29 => ?_)
          have i29 : v29.toInt = v26.toInt * 6 := by rw [e29]; exact mulcR rfl (by omega) (by omega)
          refine lv_iload_n hx hb dX9_boardOf_30 rfl (lv_at hl 1 rfl) ?_
          refine lv_iadd hx hb dX9_boardOf_31 ?_
          refine lv_topi (fun v31 e31 => ?_)
          have i31 : v31.toInt = v29.toInt + wide.toInt := by rw [e31]; exact fb_addI (by omega) (by omega)
          refine lv_iconst (v := 1) hx hb dX9_boardOf_32 (by decide) ?_
          refine lv_isub hx hb dX9_boardOf_33 ?_
          refine lv_topi (fun v33 e33 => ?_)
          have i33 : v33.toInt = v31.toInt - (1 : Int32).toInt := by rw [e33]; exact fb_subI (by omega) (by omega)
          refine lv_istore_n (lv' := [(3, .int v33), (0, .ref o), (1, .int wide), (2, .int high)]) hx hb dX9_boardOf_34 rfl hl (by decide) rfl (fun ls hl => ?_)
          have e9 := m_cl (x := v33) (by omega)
          have f9 := m_cl (x := wide) (by omega)
          have g9 := m_cl (x := high) (by omega)
          have e1 : v33.toNatClampNeg % 6 + 1 = wide.toNatClampNeg := by omega
          have e2 : v33.toNatClampNeg / 6 + 1 = high.toNatClampNeg := by omega
          refine lv_aload_n hx hb dX9_boardOf_35 rfl (lv_at hl 1 rfl) ?_
          obtain ⟨_, hM_o, bs_o, js_o, sh_o, wk_o, ll_o, jc_o, lc_o, mo_o, lb_o, rfl, hjc_o, hlc_o, hG_bs_o, hG_js_o, hG_sh_o, hG_wk_o, hmo_o, hG_ll_o, hlb_o⟩ := hT _ _ hG_o
          refine t_get (v := .ref bs_o) (C := RX9) (T := TX9) (N := 9) hx hb hts (by decide +kernel) hown hK hP hM_o rfl 0 (by decide) (hts (.fieldLink RX9 9 "ShadowBench" "boards" "[LShadowBench$Board;") (by decide +kernel)) (fun _ h9 => h9) rfl dX9_boardOf_36 ?_
          refine lv_iload_n hx hb dX9_boardOf_39 rfl (lv_at hl 0 rfl) ?_
          obtain ⟨_, hM_bs_o, fa_bs_o, rfl, hf_bs_o⟩ := hT _ _ hG_bs_o
          refine t_aald8f hx hb hK hP hM_bs_o hf_bs_o (vp_in_iff.mpr ⟨by omega, by omega⟩) dX9_boardOf_40 (fun nf40 => ?_) (fun x40 hG_x40 nf40 => ?_)
          · skip
            refine lv_ifnonnullN hx hb dX9_boardOf_41 ?_
            refine lv_aload_n hx hb dX9_boardOf_44 rfl (lv_at hl 1 rfl) ?_
            refine t_get (v := .ref bs_o) (C := RX9) (T := TX9) (N := 9) hx hb hts (by decide +kernel) hown hK hP hM_o rfl 0 (by decide) (hts (.fieldLink RX9 9 "ShadowBench" "boards" "[LShadowBench$Board;") (by decide +kernel)) (fun _ h9 => h9) rfl dX9_boardOf_45 ?_
            refine lv_iload_n hx hb dX9_boardOf_48 rfl (lv_at hl 0 rfl) ?_
            refine t_new (C := RX0) (T := TX0) (N := 8) (ci := 0) (ty0 := tyX0) (fs := [.int 0, .int 0, .int 0, .int 0, .int 0, .null, .null, .null]) hx hb hts (by decide +kernel) tyX0_ok hown (hts (.classLink RX9 7 RX0) (by decide +kernel)) (hts (.instantiable RX0 8) (by decide +kernel)) (hts (.initialized RX0) (by decide +kernel)) hK hP hD hS hA hT rfl (by decide +kernel) (Nat.le_of_ble_eq_true rfl) (Nat.le_of_ble_eq_true rfl) dX9_boardOf_49 (fun q49 H w49 hM_q49 hO_q49 hF49 hX49 hk49 hP hD hT hS => ?_)
            have hN_q49 := hX.new0 hO_q49 hF49
            have hM_o := hk49 _ _ hM_o
            have hM_bs_o := hk49 _ _ hM_bs_o
            have hX := hX.tr (hX49 _ _)
            refine lv_dup hx hb dX9_boardOf_52 rfl ?_
            refine lv_iload_n hx hb dX9_boardOf_53 rfl (lv_at hl 2 rfl) ?_
            refine lv_iload_n hx hb dX9_boardOf_54 rfl (lv_at hl 3 rfl) ?_
            refine t_callv (va_runI (g := F0 m 55 ls ([.int high, .int wide, .ref q49, .ref q49, .int v33, .ref bs_o])) (As := [.int wide, .int high]) (rest := [.ref q49, .int v33, .ref bs_o]) (b := q49) ⟨hx, hb, hml, hown, hts⟩ (c_X0_init_i l D cy A G w49 q49 wide high hD hT hO_q49 hM_q49 (by omega)) (cwI 2 hts gX9_boardOf_X0_init rfl rfl rfl (hts (.initialized RX0) (by decide +kernel)) (hts (.methodLink RX9 290 yX0_init) (by decide +kernel)) (hts (.instanceMethod yX0_init) (by decide +kernel)) rfl (by decide +kernel) ⟨Nat.le_of_ble_eq_true rfl, Nat.le_of_ble_eq_true rfl⟩) (c_preS hP hK hA hS hV) rfl rfl hl.1 rfl (lv_room (Nat.le_of_ble_eq_true rfl)) dX9_boardOf_55 ⟨Nat.le_of_ble_eq_true rfl, Nat.le_of_ble_eq_true rfl⟩) hS (fun u H locs q55 hP9 hD9 hT9 hS => ?_)
            obtain ⟨G55, w55⟩ := u
            obtain ⟨hX9, q55⟩ := q55
            have hX9 : cX (some q49) (chs [1]) G w49 G55 w55 := hX9
            have hP : va_P D vwCl w55 H := hP9
            have hD : va_D A w55 := hD9
            have hT : cT cy G55 w55 := hT9
            have hM_o := hX9.2.1 _ _ (cP.no1 (Ne.symm (cne0 hO_q49 hG_o)) hG_o rfl) hM_o
            have hM_bs_o := hX9.2.1 _ _ (cP.no1 (Ne.symm (cne0 hO_q49 hG_bs_o)) hG_bs_o rfl) hM_bs_o
            have hG_o := hX9.1 _ _ hG_o
            have hG_bs_o := hX9.1 _ _ hG_bs_o
            have hG_js_o := hX9.1 _ _ hG_js_o
            have hG_sh_o := hX9.1 _ _ hG_sh_o
            have hG_wk_o := hX9.1 _ _ hG_wk_o
            have hG_ll_o := hX9.1 _ _ hG_ll_o
            have hf_bs_o := fun i9 x9 h9 z9 => hX9.1 _ _ (hf_bs_o i9 x9 h9 z9)
            have hG_q49 : G55 q49 = some (2, wide.toNatClampNeg, high.toNatClampNeg) := q55.1
            have q55 := q55.2
            have hX := hX.trN hN_q49 (hX9.wk (chs_sub (by decide)))
            refine t_aast8f hx hb hK hP hD hS hT hG_bs_o hM_bs_o hf_bs_o (by rw [e1, e2]; exact hG_q49) (vp_in_iff.mpr ⟨by omega, by omega⟩) dX9_boardOf_58 (fun H locs w58 hU58 hM9_bs_o hf9_bs_o hP hD hT hS => ?_)
            have hM_o := hU58 _ _ (cne hG_o hG_bs_o (show (7 : Nat) ≠ 8 by decide)) hM_o
            have hM_bs_o := hM9_bs_o
            have hf_bs_o := hf9_bs_o
            have hX := hX.tr (cX.uF hU58 (Or.inr ⟨_, hG_bs_o, rfl⟩))
            refine lv_aload_n hx hb dX9_boardOf_59 rfl (lv_at hl 1 rfl) ?_
            refine t_get (v := .ref bs_o) (C := RX9) (T := TX9) (N := 9) hx hb hts (by decide +kernel) hown hK hP hM_o rfl 0 (by decide) (hts (.fieldLink RX9 9 "ShadowBench" "boards" "[LShadowBench$Board;") (by decide +kernel)) (fun _ h9 => h9) rfl dX9_boardOf_60 ?_
            refine lv_iload_n hx hb dX9_boardOf_63 rfl (lv_at hl 0 rfl) ?_
            refine t_aald8f hx hb hK hP hM_bs_o hf_bs_o (vp_in_iff.mpr ⟨by omega, by omega⟩) dX9_boardOf_64 (fun nf64 => ?_) (fun x64 hG_x64 nf64 => ?_)
            · first | exact absurd (nf64.symm.trans nf40) (by simp) | (simp [va_up] at nf64)
            · skip
              refine W.widen (k := 4) (n := 502) (Nat.le_of_ble_eq_true rfl) (Nat.le_of_ble_eq_true rfl) ?_
              exact W.aret (v := .ref x64) hx hb hr (Or.inl ⟨_, rfl⟩) (Or.inr ⟨_, rfl⟩) (fun t ht hW => ⟨⟨(some x64), (G55, w58), rfl, ⟨hX, ⟨(fun _ z => Option.some.inj z ▸ (by rw [← e1, ← e2]; exact hG_x64)), (fun z => nomatch z), (fun _ _ => by omega)⟩⟩, by show va_P D vwCl w58 t.heap; rw [ht]; exact hP, hD, hT⟩, hS.F ht⟩) hS.2.2 dX9_boardOf_65
          · skip
            refine lv_ifnonnull (tgt := 59) hx hb dX9_boardOf_41 (by decide) ?_
            refine lv_aload_n hx hb dX9_boardOf_59 rfl (lv_at hl 1 rfl) ?_
            refine t_get (v := .ref bs_o) (C := RX9) (T := TX9) (N := 9) hx hb hts (by decide +kernel) hown hK hP hM_o rfl 0 (by decide) (hts (.fieldLink RX9 9 "ShadowBench" "boards" "[LShadowBench$Board;") (by decide +kernel)) (fun _ h9 => h9) rfl dX9_boardOf_60 ?_
            refine lv_iload_n hx hb dX9_boardOf_63 rfl (lv_at hl 0 rfl) ?_
            refine t_aald8f hx hb hK hP hM_bs_o hf_bs_o (vp_in_iff.mpr ⟨by omega, by omega⟩) dX9_boardOf_64 (fun nf64 => ?_) (fun x64 hG_x64 nf64 => ?_)
            · first | exact absurd (nf64.symm.trans nf40) (by simp) | (simp [va_up] at nf64)
            · skip
              refine W.widen (k := 4) (n := 502) (Nat.le_of_ble_eq_true rfl) (Nat.le_of_ble_eq_true rfl) ?_
              exact W.aret (v := .ref x64) hx hb hr (Or.inl ⟨_, rfl⟩) (Or.inr ⟨_, rfl⟩) (fun t ht hW => ⟨⟨(some x64), (G, ws), rfl, ⟨hX, ⟨(fun _ z => Option.some.inj z ▸ (by rw [← e1, ← e2]; exact hG_x64)), (fun z => nomatch z), (fun _ _ => by omega)⟩⟩, by show va_P D vwCl ws t.heap; rw [ht]; exact hP, hD, hT⟩, hS.F ht⟩) hS.2.2 dX9_boardOf_65
        · skip
          have d19 := c19
          rw [fa_le] at d19
          refine lv_null hx hb dX9_boardOf_22 ?_
          refine W.widen (k := 4) (n := 502) (Nat.le_of_ble_eq_true rfl) (Nat.le_of_ble_eq_true rfl) ?_
          exact W.aret (v := .null) hx hb hr (Or.inl ⟨_, rfl⟩) (Or.inl rfl) (fun t ht hW => ⟨⟨none, (G, ws), rfl, ⟨hX, ⟨(fun _ z => nomatch z), (fun _ => by omega), (fun _ z => nomatch z)⟩⟩, by show va_P D vwCl ws t.heap; rw [ht]; exact hP, hD, hT⟩, hS.F ht⟩) hS.2.2 dX9_boardOf_23
set_option maxHeartbeats 4000000 in
set_option maxRecDepth 100000 in
theorem c_X9_ghostPlaces_x (l : Launch) (D : va_G) (cy : Nat → ClassId) (A : Nat → Prop) (G : cG) (ws : va_W) (o : Nat) (set : Int32) (wide : Int32) (high : Int32)  (hD : va_D A ws) (hT : cT cy G ws) (hG_o : G o = some (7, 0, 0))  : Ei l D cy A yX9_ghostPlaces wsX9_ghostPlaces ({ frames := 5, cells := 4, slots := 502, locals := 116 }) 4 502 ws [.ref o, .int set, .int wide, .int high] (fun r0 u => cX none (chs [1, 8]) G ws u.1 u.2 ∧ (r0.toInt = gA set wide high)) := by
  refine Met.ofW (cc := cX9_ghostPlaces) (maxL := 7) (ret := (some .int)) (by decide) rfl ?_
  intro p e s m args below meth c s₁ B hml hv
  obtain ⟨rfl, ⟨hP, hK, hA, hV⟩, hZ⟩ := hv
  obtain ⟨tX, tY, xX, xY, ⟨zX1, zX2, zX5⟩, ⟨zY1, zY2, zY5⟩⟩ := id hZ
  have hx := B.exec
  have hb := B.bytes
  have hr := B.returns
  have hts := atoms_spec (ws := wsX9_ghostPlaces) B.pre
  have hown : s.vm.findClass RX9 = some m.cls := findClass_of_methodNamed B.named
  have hlocks := B.notSynchronized
  have hS : va_S A s.heap s.heap [] := va_S.rf
  have hX : cX none (chs [1, 8]) G ws G ws := cX.rf
  have hl := lv_entry ([.ref o, .int set, .int wide, .int high]) (n := 7) (Nat.le_of_ble_eq_true rfl)
  rw [lg_entry_eq]
  generalize (lg_sl ([.ref o, .int set, .int wide, .int high]) ++ List.replicate (7 - (lg_sl ([.ref o, .int set, .int wide, .int high])).length) Slot.unset).toArray = ls at hl ⊢
  have hl : lv_has ls 7 [(0, .ref o), (1, .int set), (2, .int wide), (3, .int high)] := hl
  have k_m1 : (-1 : Int32).toInt = -1 := by decide
  have k_0 : (0 : Int32).toInt = 0 := by decide
  have k_1 : (1 : Int32).toInt = 1 := by decide
  have k_4 : (4 : Int32).toInt = 4 := by decide
  refine lv_iload_n hx hb dX9_ghostPlaces_0 rfl (lv_at hl 1 rfl) ?_
  refine t_pu (As := [.int set]) (rest := []) ⟨hx, hb, hml, hown, hts⟩ (c_X9_isGhostSet l set ) (va_cwS 1 hts gX9_ghostPlaces_X9_isGhostSet rfl rfl rfl (by decide +kernel) ⟨Nat.le_of_ble_eq_true rfl, Nat.le_of_ble_eq_true rfl⟩) hP rfl hl.1 rfl (Nat.le_of_ble_eq_true rfl) dX9_ghostPlaces_1 ⟨Nat.le_of_ble_eq_true rfl, Nat.le_of_ble_eq_true rfl⟩ hS (fun r1 H locs q1 hP hS => ?_)
  refine lv_if_eq (tgt := 16) hx hb dX9_ghostPlaces_4 (by decide) (fun c4 => ?_) (fun c4 => ?_)
  · skip
    have b4 := bo_f q1 c4
    refine lv_iconst (v := (-1)) hx hb dX9_ghostPlaces_16 (by decide) ?_
    refine W.widen (k := 4) (n := 502) (Nat.le_of_ble_eq_true rfl) (Nat.le_of_ble_eq_true rfl) ?_
    exact W.iret (v := ((-1) : Int32)) hx hb hr (fun t ht hW => ⟨⟨_, (G, ws), rfl, ⟨hX, (by rw [gA_no (by omega)]; rfl)⟩, by show va_P D vwCl ws t.heap; rw [ht]; exact hP, hD, hT⟩, hS.F ht⟩) hS.2.2 dX9_ghostPlaces_17
  · skip
    have b4 := bo_t q1 c4
    refine lv_aload_n hx hb dX9_ghostPlaces_7 rfl (lv_at hl 0 rfl) ?_
    refine lv_iload_n hx hb dX9_ghostPlaces_8 rfl (lv_at hl 2 rfl) ?_
    refine lv_iload_n hx hb dX9_ghostPlaces_9 rfl (lv_at hl 3 rfl) ?_
    obtain ⟨_, hM_o, bs_o, js_o, sh_o, wk_o, ll_o, jc_o, lc_o, mo_o, lb_o, rfl, hjc_o, hlc_o, hG_bs_o, hG_js_o, hG_sh_o, hG_wk_o, hmo_o, hG_ll_o, hlb_o⟩ := hT _ _ hG_o
    refine t_calla (va_runV (g := F0 m 10 ls ([.int high, .int wide, .ref o])) (As := [.int wide, .int high]) (rest := []) ⟨hx, hb, hml, hown, hts⟩ (c_X9_boardOf_x l D cy A G ws o wide high hD hT hG_o ) (cwV 2 hts gX9_ghostPlaces_X9_boardOf rfl rfl rfl (by decide +kernel) ⟨Nat.le_of_ble_eq_true rfl, Nat.le_of_ble_eq_true rfl⟩) (c_preV hM_o rfl hP hK hA hS hV) rfl rfl hl.1 rfl (lv_room (Nat.le_of_ble_eq_true rfl)) dX9_ghostPlaces_10 ⟨Nat.le_of_ble_eq_true rfl, Nat.le_of_ble_eq_true rfl⟩) hS (fun r10 u H locs q10 hP9 hD9 hT9 hS => ?_)
    obtain ⟨G10, w10⟩ := u
    obtain ⟨hX9, q10⟩ := q10
    have hX9 : cX none (chs [1, 8]) G ws G10 w10 := hX9
    have hP : va_P D vwCl w10 H := hP9
    have hD : va_D A w10 := hD9
    have hT : cT cy G10 w10 := hT9
    have hM_o := hX9.2.1 _ _ (cP.no hG_o rfl) hM_o
    have hG_o := hX9.1 _ _ hG_o
    have hG_bs_o := hX9.1 _ _ hG_bs_o
    have hG_js_o := hX9.1 _ _ hG_js_o
    have hG_sh_o := hX9.1 _ _ hG_sh_o
    have hG_wk_o := hX9.1 _ _ hG_wk_o
    have hG_ll_o := hX9.1 _ _ hG_ll_o
    have hX := hX.tr hX9
    rcases r10 with _ | x10
    · skip
      have vn10 := q10.2.1 rfl
      refine lv_ifnonnullN hx hb dX9_ghostPlaces_13 ?_
      refine lv_iconst (v := (-1)) hx hb dX9_ghostPlaces_16 (by decide) ?_
      refine W.widen (k := 4) (n := 502) (Nat.le_of_ble_eq_true rfl) (Nat.le_of_ble_eq_true rfl) ?_
      exact W.iret (v := ((-1) : Int32)) hx hb hr (fun t ht hW => ⟨⟨_, (G10, w10), rfl, ⟨hX, (by rw [gA_no (by omega)]; rfl)⟩, by show va_P D vwCl w10 t.heap; rw [ht]; exact hP, hD, hT⟩, hS.F ht⟩) hS.2.2 dX9_ghostPlaces_17
    · skip
      have hG_x10 := q10.1 x10 rfl
      have vb10 := q10.2.2 x10 rfl
      refine lv_ifnonnull (tgt := 18) hx hb dX9_ghostPlaces_13 (by decide) ?_
      refine lv_iload_n hx hb dX9_ghostPlaces_18 rfl (lv_at hl 2 rfl) ?_
      refine lv_istore (lv' := [(4, .int wide), (0, .ref o), (1, .int set), (2, .int wide), (3, .int high)]) hx hb dX9_ghostPlaces_19 hl (by decide) rfl (fun ls hl => ?_)
      refine lv_iload_n hx hb dX9_ghostPlaces_21 rfl (lv_at hl 4 rfl) ?_
      refine lv_istore (lv' := [(5, .int high), (4, .int wide), (0, .ref o), (1, .int set), (2, .int wide), (3, .int high)]) hx hb dX9_ghostPlaces_22 hl (by decide) rfl (fun ls hl => ?_)
      refine lv_iconst (v := 0) hx hb dX9_ghostPlaces_24 (by decide) ?_
      refine lv_istore (lv' := [(6, .int (0 : Int32)), (5, .int high), (4, .int wide), (0, .ref o), (1, .int set), (2, .int wide), (3, .int high)]) hx hb dX9_ghostPlaces_25 hl (by decide) rfl (fun ls hl => ?_)
      have loop_27 : ∀ (n : Nat) (i : Nat) (x5 : Int32) (x4 : Int32), (i ≤ 4) → (x4.toInt = wide.toInt - gX set i) → (x5.toInt = high.toInt - gY set i) → 4 - i < n → ∀ (H : Heap) (locs : List Loc), va_P D vwCl w10 H → va_S A s.heap H locs → ∀ (ls : Array Slot), lv_has ls 7 [(6, .int (nI i)), (5, .int x5), (4, .int x4), (0, .ref o), (1, .int set), (2, .int wide), (3, .int high)] → W p l e (headSpec wsX9_ghostPlaces ({ frames := 5, cells := 4, slots := 502, locals := 116 })).room s m #[Value.ref o, Value.int set, Value.int wide, Value.int high] below meth c H locs 4 502 (MQ below (va_Qi (fun r0 u => cX none (chs [1, 8]) G ws u.1 u.2 ∧ (r0.toInt = gA set wide high)) (cB D cy A) A) #[Value.ref o, Value.int set, Value.int wide, Value.int high] s 4 502 A) (F0 m 27 ls []) := by
        intro n
        induction n with
        | zero => intro i x5 x4 j27_0 j27_1 j27_2 hn; exact absurd hn (Nat.not_lt_zero _)
        | succ n ih_27 =>
          intro i x5 x4 j27_0 j27_1 j27_2 hn_27 H locs hP hS  ls hl
          have ii : (nI i).toInt = (i : Int) := nI_toInt (by omega)
          have bx := gX_b set i
          have by9 := gY_b set i
          refine lv_iload hx hb dX9_ghostPlaces_27 (lv_at hl 0 rfl) ?_
          refine lv_iconst (v := 4) hx hb dX9_ghostPlaces_29 (by decide) ?_
          refine lv_icmp_ge (tgt := 77) hx hb dX9_ghostPlaces_30 (by decide) (fun c30 => ?_) (fun c30 => ?_)
          · skip
            have d30 := c30
            rw [fa_le] at d30
            obtain rfl : i = 4 := by omega
            refine lv_iload hx hb dX9_ghostPlaces_77 (lv_at hl 2 rfl) ?_
            refine lv_if_le (tgt := 95) hx hb dX9_ghostPlaces_79 (by decide) (fun c79 => ?_) (fun c79 => ?_)
            · skip
              have d79 := c79
              rw [fa_le] at d79
              refine lv_iconst (v := 0) hx hb dX9_ghostPlaces_95 (by decide) ?_
              refine W.widen (k := 4) (n := 502) (Nat.le_of_ble_eq_true rfl) (Nat.le_of_ble_eq_true rfl) ?_
              exact W.iret (v := (0 : Int32)) hx hb hr (fun t ht hW => ⟨⟨_, (G10, w10), rfl, ⟨hX, (by rw [gA_yes (by omega), gP_zero (by omega)]; rfl)⟩, by show va_P D vwCl w10 t.heap; rw [ht]; exact hP, hD, hT⟩, hS.F ht⟩) hS.2.2 dX9_ghostPlaces_96
            · skip
              have d79 := c79
              rw [fa_le] at d79
              refine lv_iload hx hb dX9_ghostPlaces_82 (lv_at hl 1 rfl) ?_
              refine lv_if_le (tgt := 95) hx hb dX9_ghostPlaces_84 (by decide) (fun c84 => ?_) (fun c84 => ?_)
              · skip
                have d84 := c84
                rw [fa_le] at d84
                refine lv_iconst (v := 0) hx hb dX9_ghostPlaces_95 (by decide) ?_
                refine W.widen (k := 4) (n := 502) (Nat.le_of_ble_eq_true rfl) (Nat.le_of_ble_eq_true rfl) ?_
                exact W.iret (v := (0 : Int32)) hx hb hr (fun t ht hW => ⟨⟨_, (G10, w10), rfl, ⟨hX, (by rw [gA_yes (by omega), gP_zero (by omega)]; rfl)⟩, by show va_P D vwCl w10 t.heap; rw [ht]; exact hP, hD, hT⟩, hS.F ht⟩) hS.2.2 dX9_ghostPlaces_96
              · skip
                have d84 := c84
                rw [fa_le] at d84
                refine lv_iload hx hb dX9_ghostPlaces_87 (lv_at hl 2 rfl) ?_
                refine lv_iload hx hb dX9_ghostPlaces_89 (lv_at hl 1 rfl) ?_
                have m91 := mul66 (w := x4) (h := x5) (by omega) (by omega)
                refine lv_imul hx hb dX9_ghostPlaces_91 ?_
                refine lv_topi (fun v91 e91 => ?_)
                have i91 : v91.toInt = x4.toInt * x5.toInt := by rw [e91]; exact fb_mulI (by omega) (by omega)
                refine lv_goto (tgt := 96) hx hb dX9_ghostPlaces_92 (by decide) ?_
                refine W.widen (k := 4) (n := 502) (Nat.le_of_ble_eq_true rfl) (Nat.le_of_ble_eq_true rfl) ?_
                exact W.iret (v := v91) hx hb hr (fun t ht hW => ⟨⟨_, (G10, w10), rfl, ⟨hX, (by rw [gA_yes (by omega), gP_pos j27_1 j27_2 (by omega) (by omega)]; exact i91)⟩, by show va_P D vwCl w10 t.heap; rw [ht]; exact hP, hD, hT⟩, hS.F ht⟩) hS.2.2 dX9_ghostPlaces_96
          · skip
            have d30 := c30
            rw [fa_le] at d30
            refine lv_iload_n hx hb dX9_ghostPlaces_33 rfl (lv_at hl 4 rfl) ?_
            refine lv_iload hx hb dX9_ghostPlaces_34 (lv_at hl 0 rfl) ?_
            refine lv_ishr hx hb dX9_ghostPlaces_36 ?_
            refine lv_topi (fun v36 e36 => ?_)
            refine lv_iconst (v := 1) hx hb dX9_ghostPlaces_37 (by decide) ?_
            refine lv_iand hx hb dX9_ghostPlaces_38 ?_
            refine lv_topi (fun v38 e38 => ?_)
            refine lv_iconst (v := 1) hx hb dX9_ghostPlaces_39 (by decide) ?_
            have hB : gB set i = v38 := by rw [e38, e36]; rfl
            refine lv_icmp_ne (tgt := 71) hx hb dX9_ghostPlaces_40 (by decide) (fun c40 => ?_) (fun c40 => ?_)
            · skip
              have d40 := c40
              rw [fa_eq] at d40
              first | have hx1 := gX_0 (set := set) (k := i) (fun z => c40 (hB.symm.trans z)) | skip
              first | have hy1 := gY_0 (set := set) (k := i) (fun z => c40 (hB.symm.trans z)) | skip
              refine lv_iinc (v := (nI (i + 1))) (lv' := [(6, .int (nI (i + 1))), (5, .int x5), (4, .int x4), (0, .ref o), (1, .int set), (2, .int wide), (3, .int high)]) hx hb dX9_ghostPlaces_71 hl (k := 0) rfl (nI_1 _) (by decide) rfl (fun ls hl => ?_)
              refine lv_goto (tgt := 27) hx hb dX9_ghostPlaces_74 (by decide) ?_
              exact ih_27 (i + 1) x5 x4 (by omega) (by omega) (by omega) (by omega) _ _ hP hS  ls (lv_sub hl [0, 1, 2, 3, 4, 5, 6] rfl)
            · skip
              have d40 := c40
              rw [fa_eq] at d40
              have hx1 := gX_1 (hB.trans c40)
              have hy1 := gY_1 (hB.trans c40)
              have dxb := gdx_b i
              have dyb := gdy_b i
              refine lv_iload hx hb dX9_ghostPlaces_43 (lv_at hl 2 rfl) ?_
              refine va_gets hx hb zX1 hS hown (hts (.fieldLink RX9 309 "ShadowBench$Board" "STEP_X" "[I") (by decide +kernel)) (fun _ h9 => h9) dX9_ghostPlaces_45 ?_
              refine lv_iload hx hb dX9_ghostPlaces_48 (lv_at hl 0 rfl) ?_
              refine va_ti hx hb zX2 hS (i := (nI i)) (vp_in_iff.mpr ⟨by omega, by omega⟩) (v := .int (xX (nI i).toNatClampNeg)) rfl dX9_ghostPlaces_50 ?_
              refine lv_topi (fun v50 e50 => ?_)
              refine va_mabs hx hb (by rw [hml]; exact hl.1.symm) hown (hts (.methodLink RX9 316 Lib.Math.abs.name) (by decide +kernel)) (hts (.static Lib.Math.abs.name) (by decide +kernel)) (hts (.initialized "java/lang/Math") (by decide +kernel)) (hts (.code Lib.Math.abs.name Lib.Math.abs.code 1 (some .int)) (by decide +kernel)) (Nat.le_of_ble_eq_true rfl) (Nat.le_of_ble_eq_true rfl) (Nat.le_of_ble_eq_true rfl) (Nat.le_of_ble_eq_true rfl) dX9_ghostPlaces_51 ?_
              refine lv_topi (fun v51 e51 => ?_)
              have a51 := g_ax (by omega) zX5 e50 e51
              refine lv_isub hx hb dX9_ghostPlaces_54 ?_
              refine lv_topi (fun v54 e54 => ?_)
              have i54 : v54.toInt = x4.toInt - v51.toInt := by rw [e54]; exact fb_subI (by omega) (by omega)
              refine lv_istore (lv' := [(4, .int v54), (6, .int (nI i)), (5, .int x5), (0, .ref o), (1, .int set), (2, .int wide), (3, .int high)]) hx hb dX9_ghostPlaces_55 hl (by decide) rfl (fun ls hl => ?_)
              refine lv_iload hx hb dX9_ghostPlaces_57 (lv_at hl 2 rfl) ?_
              refine va_gets hx hb zY1 hS hown (hts (.fieldLink RX9 313 "ShadowBench$Board" "STEP_Y" "[I") (by decide +kernel)) (fun _ h9 => h9) dX9_ghostPlaces_59 ?_
              refine lv_iload hx hb dX9_ghostPlaces_62 (lv_at hl 1 rfl) ?_
              refine va_ti hx hb zY2 hS (i := (nI i)) (vp_in_iff.mpr ⟨by omega, by omega⟩) (v := .int (xY (nI i).toNatClampNeg)) rfl dX9_ghostPlaces_64 ?_
              refine lv_topi (fun v64 e64 => ?_)
              refine va_mabs hx hb (by rw [hml]; exact hl.1.symm) hown (hts (.methodLink RX9 316 Lib.Math.abs.name) (by decide +kernel)) (hts (.static Lib.Math.abs.name) (by decide +kernel)) (hts (.initialized "java/lang/Math") (by decide +kernel)) (hts (.code Lib.Math.abs.name Lib.Math.abs.code 1 (some .int)) (by decide +kernel)) (Nat.le_of_ble_eq_true rfl) (Nat.le_of_ble_eq_true rfl) (Nat.le_of_ble_eq_true rfl) (Nat.le_of_ble_eq_true rfl) dX9_ghostPlaces_65 ?_
              refine lv_topi (fun v65 e65 => ?_)
              have a65 := g_ay (by omega) zY5 e64 e65
              refine lv_isub hx hb dX9_ghostPlaces_68 ?_
              refine lv_topi (fun v68 e68 => ?_)
              have i68 : v68.toInt = x5.toInt - v65.toInt := by rw [e68]; exact fb_subI (by omega) (by omega)
              refine lv_istore (lv' := [(5, .int v68), (4, .int v54), (6, .int (nI i)), (0, .ref o), (1, .int set), (2, .int wide), (3, .int high)]) hx hb dX9_ghostPlaces_69 hl (by decide) rfl (fun ls hl => ?_)
              first | have hx1 := gX_0 (set := set) (k := i) (fun z => c40 (hB.symm.trans z)) | skip
              first | have hy1 := gY_0 (set := set) (k := i) (fun z => c40 (hB.symm.trans z)) | skip
              refine lv_iinc (v := (nI (i + 1))) (lv' := [(6, .int (nI (i + 1))), (5, .int v68), (4, .int v54), (0, .ref o), (1, .int set), (2, .int wide), (3, .int high)]) hx hb dX9_ghostPlaces_71 hl (k := 2) rfl (nI_1 _) (by decide) rfl (fun ls hl => ?_)
              refine lv_goto (tgt := 27) hx hb dX9_ghostPlaces_74 (by decide) ?_
              exact ih_27 (i + 1) v68 v54 (by omega) (by omega) (by omega) (by omega) _ _ hP hS  ls (lv_sub hl [0, 1, 2, 3, 4, 5, 6] rfl)
      exact loop_27 (4 + 1) 0 high wide (by omega) (by simp [gX]) (by simp [gY]) (by omega) _ _ hP hS  ls (lv_sub hl [0, 1, 2, 3, 4, 5, 6] rfl)
set_option maxHeartbeats 4000000 in
set_option maxRecDepth 100000 in
theorem c_X9_haunts_x (l : Launch) (D : va_G) (cy : Nat → ClassId) (A : Nat → Prop) (G : cG) (ws : va_W) (o : Nat) (set : Int32) (wide : Int32) (high : Int32)  (hD : va_D A ws) (hT : cT cy G ws) (hG_o : G o = some (7, 0, 0))  : Ei l D cy A yX9_haunts wsX9_haunts ({ frames := 6, cells := 4, slots := 502, locals := 142 }) 4 502 ws [.ref o, .int set, .int wide, .int high] (fun r0 u => cX none (chs [1, 8]) G ws u.1 u.2 ∧ (r0.toInt = gH set wide high)) := by
  refine Met.ofW (cc := cX9_haunts) (maxL := 5) (ret := (some .int)) (by decide) rfl ?_
  intro p e s m args below meth c s₁ B hml hv
  obtain ⟨rfl, ⟨hP, hK, hA, hV⟩, hZ⟩ := hv
  obtain ⟨tX, tY, xX, xY, ⟨zX1, zX2, zX5⟩, ⟨zY1, zY2, zY5⟩⟩ := id hZ
  have hx := B.exec
  have hb := B.bytes
  have hr := B.returns
  have hts := atoms_spec (ws := wsX9_haunts) B.pre
  have hown : s.vm.findClass RX9 = some m.cls := findClass_of_methodNamed B.named
  have hlocks := B.notSynchronized
  have hS : va_S A s.heap s.heap [] := va_S.rf
  have hX : cX none (chs [1, 8]) G ws G ws := cX.rf
  have hl := lv_entry ([.ref o, .int set, .int wide, .int high]) (n := 5) (Nat.le_of_ble_eq_true rfl)
  rw [lg_entry_eq]
  generalize (lg_sl ([.ref o, .int set, .int wide, .int high]) ++ List.replicate (5 - (lg_sl ([.ref o, .int set, .int wide, .int high])).length) Slot.unset).toArray = ls at hl ⊢
  have hl : lv_has ls 5 [(0, .ref o), (1, .int set), (2, .int wide), (3, .int high)] := hl
  have k_0 : (0 : Int32).toInt = 0 := by decide
  have k_1 : (1 : Int32).toInt = 1 := by decide
  refine lv_aload_n hx hb dX9_haunts_0 rfl (lv_at hl 0 rfl) ?_
  refine lv_iload_n hx hb dX9_haunts_1 rfl (lv_at hl 1 rfl) ?_
  refine lv_iload_n hx hb dX9_haunts_2 rfl (lv_at hl 2 rfl) ?_
  refine lv_iload_n hx hb dX9_haunts_3 rfl (lv_at hl 3 rfl) ?_
  obtain ⟨_, hM_o, bs_o, js_o, sh_o, wk_o, ll_o, jc_o, lc_o, mo_o, lb_o, rfl, hjc_o, hlc_o, hG_bs_o, hG_js_o, hG_sh_o, hG_wk_o, hmo_o, hG_ll_o, hlb_o⟩ := hT _ _ hG_o
  refine t_calli (va_runV (g := F0 m 4 ls ([.int high, .int wide, .int set, .ref o])) (As := [.int set, .int wide, .int high]) (rest := []) ⟨hx, hb, hml, hown, hts⟩ (c_X9_ghostPlaces_x l D cy A G ws o set wide high hD hT hG_o ) (cwV 3 hts gX9_haunts_X9_ghostPlaces rfl rfl rfl (by decide +kernel) ⟨Nat.le_of_ble_eq_true rfl, Nat.le_of_ble_eq_true rfl⟩) (e_preV hM_o rfl hP hK hA hS hV hZ) rfl rfl hl.1 rfl (lv_room (Nat.le_of_ble_eq_true rfl)) dX9_haunts_4 ⟨Nat.le_of_ble_eq_true rfl, Nat.le_of_ble_eq_true rfl⟩) hS (fun r4 u H locs q4 hP9 hD9 hT9 hS => ?_)
  obtain ⟨G4, w4⟩ := u
  obtain ⟨hX9, q4⟩ := q4
  have hX9 : cX none (chs [1, 8]) G ws G4 w4 := hX9
  have hP : va_P D vwCl w4 H := hP9
  have hD : va_D A w4 := hD9
  have hT : cT cy G4 w4 := hT9
  have hM_o := hX9.2.1 _ _ (cP.no hG_o rfl) hM_o
  have hG_o := hX9.1 _ _ hG_o
  have hG_bs_o := hX9.1 _ _ hG_bs_o
  have hG_js_o := hX9.1 _ _ hG_js_o
  have hG_sh_o := hX9.1 _ _ hG_sh_o
  have hG_wk_o := hX9.1 _ _ hG_wk_o
  have hG_ll_o := hX9.1 _ _ hG_ll_o
  have hX := hX.tr hX9
  refine lv_istore (lv' := [(4, .int r4), (0, .ref o), (1, .int set), (2, .int wide), (3, .int high)]) hx hb dX9_haunts_7 hl (by decide) rfl (fun ls hl => ?_)
  refine lv_iload hx hb dX9_haunts_9 (lv_at hl 0 rfl) ?_
  refine lv_if_le (tgt := 18) hx hb dX9_haunts_11 (by decide) (fun c11 => ?_) (fun c11 => ?_)
  · skip
    have d11 := c11
    rw [fa_le] at d11
    refine lv_iload hx hb dX9_haunts_18 (lv_at hl 0 rfl) ?_
    refine W.widen (k := 4) (n := 502) (Nat.le_of_ble_eq_true rfl) (Nat.le_of_ble_eq_true rfl) ?_
    exact W.iret (v := r4) hx hb hr (fun t ht hW => ⟨⟨_, (G4, w4), rfl, ⟨hX, (by unfold gH; rw [if_neg (by omega)]; exact q4)⟩, by show va_P D vwCl w4 t.heap; rw [ht]; exact hP, hD, hT⟩, hS.F ht⟩) hS.2.2 dX9_haunts_20
  · skip
    have d11 := c11
    rw [fa_le] at d11
    refine lv_iconst (v := 1) hx hb dX9_haunts_14 (by decide) ?_
    refine lv_goto (tgt := 20) hx hb dX9_haunts_15 (by decide) ?_
    refine W.widen (k := 4) (n := 502) (Nat.le_of_ble_eq_true rfl) (Nat.le_of_ble_eq_true rfl) ?_
    exact W.iret (v := (1 : Int32)) hx hb hr (fun t ht hW => ⟨⟨_, (G4, w4), rfl, ⟨hX, (by unfold gH; rw [if_pos (by omega)]; rfl)⟩, by show va_P D vwCl w4 t.heap; rw [ht]; exact hP, hD, hT⟩, hS.F ht⟩) hS.2.2 dX9_haunts_20
set_option maxHeartbeats 4000000 in
set_option maxRecDepth 100000 in
theorem c_X9_ghosts_x (l : Launch) (D : va_G) (cy : Nat → ClassId) (A : Nat → Prop) (G : cG) (ws : va_W) (o : Nat) (set : Int32) (wide : Int32) (high : Int32)  (hD : va_D A ws) (hT : cT cy G ws) (hG_o : G o = some (7, 0, 0))  : Ei l D cy A yX9_ghosts wsX9_ghosts ({ frames := 6, cells := 4, slots := 502, locals := 142 }) 4 502 ws [.ref o, .int set, .int wide, .int high] (fun r0 u => cX none (chs [1, 8]) G ws u.1 u.2 ∧ (r0.toInt = gA set wide high)) := by
  refine Met.ofW (cc := cX9_ghosts) (maxL := 4) (ret := (some .int)) (by decide) rfl ?_
  intro p e s m args below meth c s₁ B hml hv
  obtain ⟨rfl, ⟨hP, hK, hA, hV⟩, hZ⟩ := hv
  obtain ⟨tX, tY, xX, xY, ⟨zX1, zX2, zX5⟩, ⟨zY1, zY2, zY5⟩⟩ := id hZ
  have hx := B.exec
  have hb := B.bytes
  have hr := B.returns
  have hts := atoms_spec (ws := wsX9_ghosts) B.pre
  have hown : s.vm.findClass RX9 = some m.cls := findClass_of_methodNamed B.named
  have hlocks := B.notSynchronized
  have hS : va_S A s.heap s.heap [] := va_S.rf
  have hX : cX none (chs [1, 8]) G ws G ws := cX.rf
  have hl := lv_entry ([.ref o, .int set, .int wide, .int high]) (n := 4) (Nat.le_of_ble_eq_true rfl)
  rw [lg_entry_eq]
  generalize (lg_sl ([.ref o, .int set, .int wide, .int high]) ++ List.replicate (4 - (lg_sl ([.ref o, .int set, .int wide, .int high])).length) Slot.unset).toArray = ls at hl ⊢
  have hl : lv_has ls 4 [(0, .ref o), (1, .int set), (2, .int wide), (3, .int high)] := hl
  have k_0 : (0 : Int32).toInt = 0 := by decide
  refine lv_aload_n hx hb dX9_ghosts_0 rfl (lv_at hl 0 rfl) ?_
  refine lv_iload_n hx hb dX9_ghosts_1 rfl (lv_at hl 1 rfl) ?_
  refine lv_iload_n hx hb dX9_ghosts_2 rfl (lv_at hl 2 rfl) ?_
  refine lv_iload_n hx hb dX9_ghosts_3 rfl (lv_at hl 3 rfl) ?_
  obtain ⟨_, hM_o, bs_o, js_o, sh_o, wk_o, ll_o, jc_o, lc_o, mo_o, lb_o, rfl, hjc_o, hlc_o, hG_bs_o, hG_js_o, hG_sh_o, hG_wk_o, hmo_o, hG_ll_o, hlb_o⟩ := hT _ _ hG_o
  refine t_calli (va_runV (g := F0 m 4 ls ([.int high, .int wide, .int set, .ref o])) (As := [.int set, .int wide, .int high]) (rest := []) ⟨hx, hb, hml, hown, hts⟩ (c_X9_ghostPlaces_x l D cy A G ws o set wide high hD hT hG_o ) (cwV 3 hts gX9_ghosts_X9_ghostPlaces rfl rfl rfl (by decide +kernel) ⟨Nat.le_of_ble_eq_true rfl, Nat.le_of_ble_eq_true rfl⟩) (e_preV hM_o rfl hP hK hA hS hV hZ) rfl rfl hl.1 rfl (lv_room (Nat.le_of_ble_eq_true rfl)) dX9_ghosts_4 ⟨Nat.le_of_ble_eq_true rfl, Nat.le_of_ble_eq_true rfl⟩) hS (fun r4 u H locs q4 hP9 hD9 hT9 hS => ?_)
  obtain ⟨G4, w4⟩ := u
  obtain ⟨hX9, q4⟩ := q4
  have hX9 : cX none (chs [1, 8]) G ws G4 w4 := hX9
  have hP : va_P D vwCl w4 H := hP9
  have hD : va_D A w4 := hD9
  have hT : cT cy G4 w4 := hT9
  have hM_o := hX9.2.1 _ _ (cP.no hG_o rfl) hM_o
  have hG_o := hX9.1 _ _ hG_o
  have hG_bs_o := hX9.1 _ _ hG_bs_o
  have hG_js_o := hX9.1 _ _ hG_js_o
  have hG_sh_o := hX9.1 _ _ hG_sh_o
  have hG_wk_o := hX9.1 _ _ hG_wk_o
  have hG_ll_o := hX9.1 _ _ hG_ll_o
  have hX := hX.tr hX9
  refine W.widen (k := 4) (n := 502) (Nat.le_of_ble_eq_true rfl) (Nat.le_of_ble_eq_true rfl) ?_
  exact W.iret (v := r4) hx hb hr (fun t ht hW => ⟨⟨_, (G4, w4), rfl, ⟨hX, q4⟩, by show va_P D vwCl w4 t.heap; rw [ht]; exact hP, hD, hT⟩, hS.F ht⟩) hS.2.2 dX9_ghosts_7
set_option maxHeartbeats 4000000 in
set_option maxRecDepth 100000 in
theorem c_X10_across_x (l : Launch) (way : Int32)  : Pu l yX10_across wsX10_across ({ frames := 0, cells := 0, slots := 0, locals := 0 }) [.int way] (fun r => r.toInt = (if way.toInt = 1 then 0 else 1)) := by
  refine Met.ofW (cc := cX10_across) (maxL := 1) (ret := (some .int)) (by decide) rfl ?_
  intro p e s m args below meth c s₁ B hml hv
  obtain ⟨rfl, -⟩ := hv
  have hx := B.exec
  have hb := B.bytes
  have hr := B.returns
  have hts := atoms_spec (ws := wsX10_across) B.pre
  have hown : s.vm.findClass RX10 = some m.cls := findClass_of_methodNamed B.named
  have hlocks := B.notSynchronized
  have hS : va_S (fun _ => False) s.heap s.heap [] := va_S.rf
  have hl := lv_entry ([.int way]) (n := 1) (Nat.le_of_ble_eq_true rfl)
  rw [lg_entry_eq]
  generalize (lg_sl ([.int way]) ++ List.replicate (1 - (lg_sl ([.int way])).length) Slot.unset).toArray = ls at hl ⊢
  have hl : lv_has ls 1 [(0, .int way)] := hl
  have hS0 := hS
  have k_0 : (0 : Int32).toInt = 0 := by decide
  have k_1 : (1 : Int32).toInt = 1 := by decide
  refine lv_iload_n hx hb dX10_across_0 rfl (lv_at hl 0 rfl) ?_
  refine lv_iconst (v := 1) hx hb dX10_across_1 (by decide) ?_
  refine lv_icmp_ne (tgt := 9) hx hb dX10_across_2 (by decide) (fun c2 => ?_) (fun c2 => ?_)
  · skip
    have d2 := c2
    rw [fa_eq] at d2
    refine lv_iconst (v := 1) hx hb dX10_across_9 (by decide) ?_
    exact W.iret (v := (1 : Int32)) hx hb hr (fun t ht hW => ⟨⟨_, (), rfl, (by first | (rw [if_pos (by omega)]; rfl) | (rw [if_neg (by omega)]; rfl)), trivial⟩, hS.F ht⟩) hS.2.2 dX10_across_10
  · skip
    have d2 := c2
    rw [fa_eq] at d2
    refine lv_iconst (v := 0) hx hb dX10_across_5 (by decide) ?_
    refine lv_goto (tgt := 10) hx hb dX10_across_6 (by decide) ?_
    exact W.iret (v := (0 : Int32)) hx hb hr (fun t ht hW => ⟨⟨_, (), rfl, (by first | (rw [if_pos (by omega)]; rfl) | (rw [if_neg (by omega)]; rfl)), trivial⟩, hS.F ht⟩) hS.2.2 dX10_across_10

set_option maxHeartbeats 4000000 in
set_option maxRecDepth 100000 in
theorem c_X10_placesOf_x (l : Launch) (D : va_G) (cy : Nat → ClassId) (mo : Nat) (a : Nat → Nat) (f : Nat → Int32) (g : Nat → Int64) (r : Nat → Nat → Int32) (q : Nat → Nat → Int64) (ways : Int32) (w : Int32) (h : Int32) (hD : DM cy mo a) (hw : 1 ≤ w.toInt ∧ w.toInt ≤ 6) (hh : 1 ≤ h.toInt ∧ h.toInt ≤ 6) : Mi l D cy mo a yX10_placesOf wsX10_placesOf ({ frames := 1, cells := 0, slots := 0, locals := 20 }) f g r q [.int ways, .int w, .int h] (fun r0 u => u = (f, g, r, q) ∧ (r0.toInt = gP ways w h)) := by
  refine Met.ofW (cc := cX10_placesOf) (maxL := 8) (ret := (some .int)) (by decide) rfl ?_
  intro p e s m args below meth c s₁ B hml hv
  obtain ⟨rfl, hP, hK⟩ := hv
  have hx := B.exec
  have hb := B.bytes
  have hr := B.returns
  have hts := atoms_spec (ws := wsX10_placesOf) B.pre
  skip
  have hown : s.vm.findClass RX10 = some m.cls := findClass_of_methodNamed B.named
  have hlocks := B.notSynchronized
  have hS : va_S (AM mo a) s.heap s.heap [] := va_S.rf
  have hl := lv_entry ([.ref mo, .int ways, .int w, .int h]) (n := 8) (Nat.le_of_ble_eq_true rfl)
  rw [lg_entry_eq]
  generalize (lg_sl ([.ref mo, .int ways, .int w, .int h]) ++ List.replicate (8 - (lg_sl ([.ref mo, .int ways, .int w, .int h])).length) Slot.unset).toArray = ls at hl ⊢
  have hl : lv_has ls 8 [(0, .ref mo), (1, .int ways), (2, .int w), (3, .int h)] := hl
  have k_0 : (0 : Int32).toInt = 0 := by decide
  have k_1 : (1 : Int32).toInt = 1 := by decide
  have k_4 : (4 : Int32).toInt = 4 := by decide
  refine lv_iconst (v := 1) hx hb dX10_placesOf_0 (by decide) ?_
  refine lv_istore (lv' := [(4, .int (1 : Int32)), (0, .ref mo), (1, .int ways), (2, .int w), (3, .int h)]) hx hb dX10_placesOf_1 hl (by decide) rfl (fun ls hl => ?_)
  refine lv_iconst (v := 1) hx hb dX10_placesOf_3 (by decide) ?_
  refine lv_istore (lv' := [(5, .int (1 : Int32)), (4, .int (1 : Int32)), (0, .ref mo), (1, .int ways), (2, .int w), (3, .int h)]) hx hb dX10_placesOf_4 hl (by decide) rfl (fun ls hl => ?_)
  refine lv_iconst (v := 0) hx hb dX10_placesOf_6 (by decide) ?_
  refine lv_istore (lv' := [(6, .int (0 : Int32)), (5, .int (1 : Int32)), (4, .int (1 : Int32)), (0, .ref mo), (1, .int ways), (2, .int w), (3, .int h)]) hx hb dX10_placesOf_7 hl (by decide) rfl (fun ls hl => ?_)
  have loop_9 : ∀ (n : Nat) (k : Nat) (x5 : Int32) (x4 : Int32), (k ≤ 4) → (x4.toInt = 1 + gX ways k) → (x5.toInt = 1 + gY ways k) → 4 - k < n → ∀ (H : Heap) (locs : List Loc), va_P D vwCl (WM cy mo a f g r q) H → va_S (AM mo a) s.heap H locs → ∀ (ls : Array Slot), lv_has ls 8 [(6, .int (nI k)), (5, .int x5), (4, .int x4), (0, .ref mo), (1, .int ways), (2, .int w), (3, .int h)] → W p l e (headSpec wsX10_placesOf ({ frames := 1, cells := 0, slots := 0, locals := 20 })).room s m #[Value.ref mo, Value.int ways, Value.int w, Value.int h] below meth c H locs 0 0 (MQ below (va_Qi (fun r0 u => u = (f, g, r, q) ∧ (r0.toInt = gP ways w h)) (mB D cy mo a) (AM mo a)) #[Value.ref mo, Value.int ways, Value.int w, Value.int h] s 0 0 (AM mo a)) (F0 m 9 ls []) := by
    intro n
    induction n with
    | zero => intro k x5 x4  j9_0 j9_1 j9_2 hn; exact absurd hn (Nat.not_lt_zero _)
    | succ n ih_9 =>
      intro k x5 x4  j9_0 j9_1 j9_2 hn_9 H locs hP hS ls hl
      have ik : (nI k).toInt = (k : Int) := nI_toInt (by omega)
      have bx := gX_b ways k
      have by9 := gY_b ways k
      refine lv_iload hx hb dX10_placesOf_9 (lv_at hl 0 rfl) ?_
      refine lv_iconst (v := 4) hx hb dX10_placesOf_11 (by decide) ?_
      refine lv_icmp_ge (tgt := 77) hx hb dX10_placesOf_12 (by decide) (fun c12 => ?_) (fun c12 => ?_)
      · skip
        have d12 := c12
        rw [fa_le] at d12
        obtain rfl : k = 4 := by omega
        refine lv_iload_n hx hb dX10_placesOf_77 rfl (lv_at hl 5 rfl) ?_
        refine lv_iload hx hb dX10_placesOf_78 (lv_at hl 2 rfl) ?_
        refine lv_icmp_lt (tgt := 89) hx hb dX10_placesOf_80 (by decide) (fun c80 => ?_) (fun c80 => ?_)
        · skip
          have d80 := c80
          rw [fa_lt] at d80
          refine lv_iconst (v := 0) hx hb dX10_placesOf_89 (by decide) ?_
          refine lv_goto (tgt := 106) hx hb dX10_placesOf_90 (by decide) ?_
          exact W.iret (v := (0 : Int32)) hx hb hr (fun t ht hW => ⟨⟨_, (f, g, r, q), rfl, ⟨rfl, (by rw [gP_zero (by omega)]; rfl)⟩, by unfold mB; rw [ht]; exact hP⟩, hS.F ht⟩) hS.2.2 dX10_placesOf_106
        · skip
          have d80 := c80
          rw [fa_lt] at d80
          refine lv_iload_n hx hb dX10_placesOf_83 rfl (lv_at hl 6 rfl) ?_
          refine lv_iload hx hb dX10_placesOf_84 (lv_at hl 1 rfl) ?_
          refine lv_icmp_ge (tgt := 93) hx hb dX10_placesOf_86 (by decide) (fun c86 => ?_) (fun c86 => ?_)
          · skip
            have d86 := c86
            rw [fa_le] at d86
            refine lv_iload_n hx hb dX10_placesOf_93 rfl (lv_at hl 5 rfl) ?_
            refine lv_iload hx hb dX10_placesOf_94 (lv_at hl 2 rfl) ?_
            refine lv_isub hx hb dX10_placesOf_96 ?_
            refine lv_topi (fun v96 e96 => ?_)
            have i96 : v96.toInt = w.toInt - x4.toInt := by rw [e96]; exact fb_subI (by omega) (by omega)
            refine lv_iconst (v := 1) hx hb dX10_placesOf_97 (by decide) ?_
            refine lv_iadd hx hb dX10_placesOf_98 ?_
            refine lv_topi (fun v98 e98 => ?_)
            have i98 : v98.toInt = v96.toInt + (1 : Int32).toInt := by rw [e98]; exact fb_addI (by omega) (by omega)
            refine lv_iload_n hx hb dX10_placesOf_99 rfl (lv_at hl 6 rfl) ?_
            refine lv_iload hx hb dX10_placesOf_100 (lv_at hl 1 rfl) ?_
            refine lv_isub hx hb dX10_placesOf_102 ?_
            refine lv_topi (fun v102 e102 => ?_)
            have i102 : v102.toInt = h.toInt - x5.toInt := by rw [e102]; exact fb_subI (by omega) (by omega)
            refine lv_iconst (v := 1) hx hb dX10_placesOf_103 (by decide) ?_
            refine lv_iadd hx hb dX10_placesOf_104 ?_
            refine lv_topi (fun v104 e104 => ?_)
            have i104 : v104.toInt = v102.toInt + (1 : Int32).toInt := by rw [e104]; exact fb_addI (by omega) (by omega)
            have m105 := mul66 (w := v98) (h := v104) (by omega) (by omega)
            refine lv_imul hx hb dX10_placesOf_105 ?_
            refine lv_topi (fun v105 e105 => ?_)
            have i105 : v105.toInt = v98.toInt * v104.toInt := by rw [e105]; exact fb_mulI (by omega) (by omega)
            exact W.iret (v := v105) hx hb hr (fun t ht hW => ⟨⟨_, (f, g, r, q), rfl, ⟨rfl, (by rw [gP_pos (x := v98.toInt) (y := v104.toInt) (by omega) (by omega) (by omega) (by omega)]; exact i105)⟩, by unfold mB; rw [ht]; exact hP⟩, hS.F ht⟩) hS.2.2 dX10_placesOf_106
          · skip
            have d86 := c86
            rw [fa_le] at d86
            refine lv_iconst (v := 0) hx hb dX10_placesOf_89 (by decide) ?_
            refine lv_goto (tgt := 106) hx hb dX10_placesOf_90 (by decide) ?_
            exact W.iret (v := (0 : Int32)) hx hb hr (fun t ht hW => ⟨⟨_, (f, g, r, q), rfl, ⟨rfl, (by rw [gP_zero (by omega)]; rfl)⟩, by unfold mB; rw [ht]; exact hP⟩, hS.F ht⟩) hS.2.2 dX10_placesOf_106
      · skip
        have d12 := c12
        rw [fa_le] at d12
        refine lv_iload_n hx hb dX10_placesOf_15 rfl (lv_at hl 4 rfl) ?_
        refine lv_iload hx hb dX10_placesOf_16 (lv_at hl 0 rfl) ?_
        refine lv_ishr hx hb dX10_placesOf_18 ?_
        refine lv_topi (fun v18 e18 => ?_)
        refine lv_iconst (v := 1) hx hb dX10_placesOf_19 (by decide) ?_
        refine lv_iand hx hb dX10_placesOf_20 ?_
        refine lv_topi (fun v20 e20 => ?_)
        refine lv_iconst (v := 1) hx hb dX10_placesOf_21 (by decide) ?_
        have hB : gB ways k = v20 := by rw [e20, e18]; rfl
        refine lv_icmp_ne (tgt := 29) hx hb dX10_placesOf_22 (by decide) (fun c22 => ?_) (fun c22 => ?_)
        · skip
          have d22 := c22
          rw [fa_eq] at d22
          have hx1 := gX_0 (set := ways) (k := k) (fun z => c22 (hB.symm.trans z))
          have hy1 := gY_0 (set := ways) (k := k) (fun z => c22 (hB.symm.trans z))
          refine lv_iconst (v := 0) hx hb dX10_placesOf_29 (by decide) ?_
          refine lv_istore (lv' := [(7, .int (0 : Int32)), (6, .int (nI k)), (5, .int x5), (4, .int x4), (0, .ref mo), (1, .int ways), (2, .int w), (3, .int h)]) hx hb dX10_placesOf_30 hl (by decide) rfl (fun ls hl => ?_)
          refine lv_iload hx hb dX10_placesOf_32 (lv_at hl 3 rfl) ?_
          refine lv_iload hx hb dX10_placesOf_34 (lv_at hl 0 rfl) ?_
          refine lv_if_eq (tgt := 47) hx hb dX10_placesOf_36 (by decide) (fun c36 => ?_) (fun c36 => ?_)
          · skip
            have d36 := c36
            rw [fa_eq] at d36
            refine lv_iconst (v := 0) hx hb dX10_placesOf_47 (by decide) ?_
            refine lv_iadd hx hb dX10_placesOf_48 ?_
            refine lv_topi (fun v48 e48 => ?_)
            have i48 : v48.toInt = x4.toInt + (0 : Int32).toInt := by rw [e48]; exact fb_addI (by omega) (by omega)
            refine lv_istore (lv' := [(4, .int v48), (7, .int (0 : Int32)), (6, .int (nI k)), (5, .int x5), (0, .ref mo), (1, .int ways), (2, .int w), (3, .int h)]) hx hb dX10_placesOf_49 hl (by decide) rfl (fun ls hl => ?_)
            refine lv_iload hx hb dX10_placesOf_51 (lv_at hl 3 rfl) ?_
            refine lv_iload hx hb dX10_placesOf_53 (lv_at hl 1 rfl) ?_
            refine lv_if_eq (tgt := 67) hx hb dX10_placesOf_55 (by decide) (fun c55 => ?_) (fun c55 => ?_)
            · skip
              have d55 := c55
              rw [fa_eq] at d55
              first | have a67 : gdy k = 0 := (by unfold gdy; rw [if_pos (by omega)]) | skip
              refine lv_iconst (v := 0) hx hb dX10_placesOf_67 (by decide) ?_
              refine lv_iadd hx hb dX10_placesOf_68 ?_
              refine lv_topi (fun v68 e68 => ?_)
              have i68 : v68.toInt = x5.toInt + (0 : Int32).toInt := by rw [e68]; exact fb_addI (by omega) (by omega)
              refine lv_istore (lv' := [(5, .int v68), (4, .int v48), (7, .int (0 : Int32)), (6, .int (nI k)), (0, .ref mo), (1, .int ways), (2, .int w), (3, .int h)]) hx hb dX10_placesOf_69 hl (by decide) rfl (fun ls hl => ?_)
              refine lv_iinc (v := (nI (k + 1))) (lv' := [(6, .int (nI (k + 1))), (5, .int v68), (4, .int v48), (7, .int (0 : Int32)), (0, .ref mo), (1, .int ways), (2, .int w), (3, .int h)]) hx hb dX10_placesOf_71 hl (k := 3) rfl (nI_1 _) (by decide) rfl (fun ls hl => ?_)
              refine lv_goto (tgt := 9) hx hb dX10_placesOf_74 (by decide) ?_
              exact ih_9 (k + 1) v68 v48 (by omega) (by omega) (by omega) (by omega) _ _ hP hS ls (lv_sub hl [0, 1, 2, 4, 5, 6, 7] rfl)
            · first | exact absurd c55 (by decide) | exact absurd (by decide) c55
          · first | exact absurd c36 (by decide) | exact absurd (by decide) c36
        · skip
          have d22 := c22
          rw [fa_eq] at d22
          have hx1 := gX_1 (hB.trans c22)
          have hy1 := gY_1 (hB.trans c22)
          have dxb := gdx_b k
          have dyb := gdy_b k
          refine lv_iconst (v := 1) hx hb dX10_placesOf_25 (by decide) ?_
          refine lv_goto (tgt := 30) hx hb dX10_placesOf_26 (by decide) ?_
          refine lv_istore (lv' := [(7, .int (1 : Int32)), (6, .int (nI k)), (5, .int x5), (4, .int x4), (0, .ref mo), (1, .int ways), (2, .int w), (3, .int h)]) hx hb dX10_placesOf_30 hl (by decide) rfl (fun ls hl => ?_)
          refine lv_iload hx hb dX10_placesOf_32 (lv_at hl 3 rfl) ?_
          refine lv_iload hx hb dX10_placesOf_34 (lv_at hl 0 rfl) ?_
          refine lv_if_eq (tgt := 47) hx hb dX10_placesOf_36 (by decide) (fun c36 => ?_) (fun c36 => ?_)
          · first | exact absurd c36 (by decide) | exact absurd (by decide) c36
          · skip
            have d36 := c36
            rw [fa_eq] at d36
            refine lv_iload hx hb dX10_placesOf_39 (lv_at hl 1 rfl) ?_
            refine m_pu (As := [.int (nI k)]) (rest := [.int x4]) ⟨hx, hb, hml, hown, hts⟩ (c_X10_across_x l (nI k) ) (va_cwS 1 hts gX10_placesOf_X10_across rfl rfl rfl (by decide +kernel) ⟨Nat.le_of_ble_eq_true rfl, Nat.le_of_ble_eq_true rfl⟩) hP rfl hl.1 rfl (Nat.le_of_ble_eq_true rfl) dX10_placesOf_41 ⟨Nat.le_of_ble_eq_true rfl, Nat.le_of_ble_eq_true rfl⟩ hS (fun r41 H locs q41 hP hS => ?_)
            have a41 : r41.toInt = gdx k := by rw [q41, ik]; unfold gdx; split <;> split <;> omega
            refine lv_goto (tgt := 48) hx hb dX10_placesOf_44 (by decide) ?_
            refine lv_iadd hx hb dX10_placesOf_48 ?_
            refine lv_topi (fun v48 e48 => ?_)
            have i48 : v48.toInt = x4.toInt + r41.toInt := by rw [e48]; exact fb_addI (by omega) (by omega)
            refine lv_istore (lv' := [(4, .int v48), (7, .int (1 : Int32)), (6, .int (nI k)), (5, .int x5), (0, .ref mo), (1, .int ways), (2, .int w), (3, .int h)]) hx hb dX10_placesOf_49 hl (by decide) rfl (fun ls hl => ?_)
            refine lv_iload hx hb dX10_placesOf_51 (lv_at hl 3 rfl) ?_
            refine lv_iload hx hb dX10_placesOf_53 (lv_at hl 1 rfl) ?_
            refine lv_if_eq (tgt := 67) hx hb dX10_placesOf_55 (by decide) (fun c55 => ?_) (fun c55 => ?_)
            · first | exact absurd c55 (by decide) | exact absurd (by decide) c55
            · skip
              have d55 := c55
              rw [fa_eq] at d55
              refine lv_iload hx hb dX10_placesOf_58 (lv_at hl 2 rfl) ?_
              refine lv_if_le (tgt := 67) hx hb dX10_placesOf_60 (by decide) (fun c60 => ?_) (fun c60 => ?_)
              · skip
                have d60 := c60
                rw [fa_le] at d60
                first | have a67 : gdy k = 0 := (by unfold gdy; rw [if_pos (by omega)]) | skip
                refine lv_iconst (v := 0) hx hb dX10_placesOf_67 (by decide) ?_
                refine lv_iadd hx hb dX10_placesOf_68 ?_
                refine lv_topi (fun v68 e68 => ?_)
                have i68 : v68.toInt = x5.toInt + (0 : Int32).toInt := by rw [e68]; exact fb_addI (by omega) (by omega)
                refine lv_istore (lv' := [(5, .int v68), (4, .int v48), (7, .int (1 : Int32)), (6, .int (nI k)), (0, .ref mo), (1, .int ways), (2, .int w), (3, .int h)]) hx hb dX10_placesOf_69 hl (by decide) rfl (fun ls hl => ?_)
                refine lv_iinc (v := (nI (k + 1))) (lv' := [(6, .int (nI (k + 1))), (5, .int v68), (4, .int v48), (7, .int (1 : Int32)), (0, .ref mo), (1, .int ways), (2, .int w), (3, .int h)]) hx hb dX10_placesOf_71 hl (k := 3) rfl (nI_1 _) (by decide) rfl (fun ls hl => ?_)
                refine lv_goto (tgt := 9) hx hb dX10_placesOf_74 (by decide) ?_
                exact ih_9 (k + 1) v68 v48 (by omega) (by omega) (by omega) (by omega) _ _ hP hS ls (lv_sub hl [0, 1, 2, 4, 5, 6, 7] rfl)
              · skip
                have d60 := c60
                rw [fa_le] at d60
                have a63 : gdy k = 1 := by unfold gdy; rw [if_neg (by omega)]
                refine lv_iconst (v := 1) hx hb dX10_placesOf_63 (by decide) ?_
                refine lv_goto (tgt := 68) hx hb dX10_placesOf_64 (by decide) ?_
                refine lv_iadd hx hb dX10_placesOf_68 ?_
                refine lv_topi (fun v68 e68 => ?_)
                have i68 : v68.toInt = x5.toInt + (1 : Int32).toInt := by rw [e68]; exact fb_addI (by omega) (by omega)
                refine lv_istore (lv' := [(5, .int v68), (4, .int v48), (7, .int (1 : Int32)), (6, .int (nI k)), (0, .ref mo), (1, .int ways), (2, .int w), (3, .int h)]) hx hb dX10_placesOf_69 hl (by decide) rfl (fun ls hl => ?_)
                refine lv_iinc (v := (nI (k + 1))) (lv' := [(6, .int (nI (k + 1))), (5, .int v68), (4, .int v48), (7, .int (1 : Int32)), (0, .ref mo), (1, .int ways), (2, .int w), (3, .int h)]) hx hb dX10_placesOf_71 hl (k := 3) rfl (nI_1 _) (by decide) rfl (fun ls hl => ?_)
                refine lv_goto (tgt := 9) hx hb dX10_placesOf_74 (by decide) ?_
                exact ih_9 (k + 1) v68 v48 (by omega) (by omega) (by omega) (by omega) _ _ hP hS ls (lv_sub hl [0, 1, 2, 4, 5, 6, 7] rfl)
  exact loop_9 (4 + 1) 0 (1 : Int32) (1 : Int32) (by omega) (by simp [gX]) (by simp [gY]) (by omega) _ _ hP hS ls (lv_sub hl [0, 1, 2, 3, 4, 5, 6] rfl)
set_option maxHeartbeats 4000000 in
set_option maxRecDepth 100000 in
theorem c_X10_haunts_x (l : Launch) (D : va_G) (cy : Nat → ClassId) (mo : Nat) (a : Nat → Nat) (f : Nat → Int32) (g : Nat → Int64) (r : Nat → Nat → Int32) (q : Nat → Nat → Int64) (ways : Int32) (w : Int32) (h : Int32) (hD : DM cy mo a)  : Mi l D cy mo a yX10_haunts wsX10_haunts ({ frames := 2, cells := 0, slots := 0, locals := 47 }) f g r q [.int ways, .int w, .int h] (fun r0 u => u = ((upd f 0 (0 : Int32)), g, r, q) ∧ (r0.toInt = gH ways w h)) := by
  refine Met.ofW (cc := cX10_haunts) (maxL := 4) (ret := (some .int)) (by decide) rfl ?_
  intro p e s m args below meth c s₁ B hml hv
  obtain ⟨rfl, hP, hK⟩ := hv
  have hx := B.exec
  have hb := B.bytes
  have hr := B.returns
  have hts := atoms_spec (ws := wsX10_haunts) B.pre
  have hin : ∀ w ∈ u_ws RX10 TX10 35, w ∈ wsX10_haunts := by decide +kernel
  have hown : s.vm.findClass RX10 = some m.cls := findClass_of_methodNamed B.named
  have hlocks := B.notSynchronized
  have hS : va_S (AM mo a) s.heap s.heap [] := va_S.rf
  have hl := lv_entry ([.ref mo, .int ways, .int w, .int h]) (n := 4) (Nat.le_of_ble_eq_true rfl)
  rw [lg_entry_eq]
  generalize (lg_sl ([.ref mo, .int ways, .int w, .int h]) ++ List.replicate (4 - (lg_sl ([.ref mo, .int ways, .int w, .int h])).length) Slot.unset).toArray = ls at hl ⊢
  have hl : lv_has ls 4 [(0, .ref mo), (1, .int ways), (2, .int w), (3, .int h)] := hl
  have k_m1 : (-1 : Int32).toInt = -1 := by decide
  have k_0 : (0 : Int32).toInt = 0 := by decide
  have k_1 : (1 : Int32).toInt = 1 := by decide
  have k_1L : (1 : Int64).toInt = 1 := by decide
  have k_15L : (15 : Int64).toInt = 15 := by decide
  refine lv_aload_n hx hb dX10_haunts_0 rfl (lv_at hl 0 rfl) ?_
  refine lv_iconst (v := 0) hx hb dX10_haunts_1 (by decide) ?_
  refine m_put (v := .int (0 : Int32)) (ty := .int) hx hb hts hin hown hK hP hD hS 0 (by decide) rfl (hts (.fieldLink RX10 79 "ShadowBenchModel" "thrown" "I") (by decide +kernel)) rfl (by decide +kernel) rfl rfl (upd f 0 (0 : Int32)) g rfl dX10_haunts_2 (fun H locs hP hS => ?_)
  refine lv_iload_n hx hb dX10_haunts_5 rfl (lv_at hl 1 rfl) ?_
  refine lv_i2l (v := ways.toInt64) hx hb dX10_haunts_6 rfl ?_
  refine lv_lconst (v := 1) hx hb dX10_haunts_7 (by decide) ?_
  refine lv_ldc2 hx hb hown (hts (.constantLong RX10 228 (15)) (by decide +kernel)) dX10_haunts_8 ?_
  refine m_pu (As := [.long (ways.toInt64), .long (1 : Int64), .long (15 : Int64)]) (rest := []) ⟨hx, hb, hml, hown, hts⟩ (c_X10_isIn l ways.toInt64 (1 : Int64) (15 : Int64) ) (va_cwS 3 hts gX10_haunts_X10_isIn rfl rfl rfl (by decide +kernel) ⟨Nat.le_of_ble_eq_true rfl, Nat.le_of_ble_eq_true rfl⟩) hP rfl hl.1 rfl (Nat.le_of_ble_eq_true rfl) dX10_haunts_11 ⟨Nat.le_of_ble_eq_true rfl, Nat.le_of_ble_eq_true rfl⟩ hS (fun r11 H locs q11 hP hS => ?_)
  have q11 := q11
  simp only [k64, show (0 : Int64).toInt = 0 from rfl, show (1 : Int64).toInt = 1 from rfl, show (2 : Int64).toInt = 2 from rfl, show (3 : Int64).toInt = 3 from rfl, show (6 : Int64).toInt = 6 from rfl] at q11
  refine lv_if_eq (tgt := 25) hx hb dX10_haunts_14 (by decide) (fun c14 => ?_) (fun c14 => ?_)
  · skip
    have b14 := bo_f q11 c14
    refine lv_iconst (v := (-1)) hx hb dX10_haunts_25 (by decide) ?_
    refine lv_goto (tgt := 44) hx hb dX10_haunts_26 (by decide) ?_
    exact W.iret (v := ((-1) : Int32)) hx hb hr (fun t ht hW => ⟨⟨_, ((upd f 0 (0 : Int32)), g, r, q), rfl, ⟨rfl, (by unfold gH; rw [gA_no (by omega)]; rfl)⟩, by unfold mB; rw [ht]; exact hP⟩, hS.F ht⟩) hS.2.2 dX10_haunts_44
  · skip
    have b14 := bo_t q11 c14
    refine lv_iload_n hx hb dX10_haunts_17 rfl (lv_at hl 2 rfl) ?_
    refine lv_iload_n hx hb dX10_haunts_18 rfl (lv_at hl 3 rfl) ?_
    refine m_pu (As := [.int w, .int h]) (rest := []) ⟨hx, hb, hml, hown, hts⟩ (c_X10_isBoard l w h ) (va_cwS 2 hts gX10_haunts_X10_isBoard rfl rfl rfl (by decide +kernel) ⟨Nat.le_of_ble_eq_true rfl, Nat.le_of_ble_eq_true rfl⟩) hP rfl hl.1 rfl (Nat.le_of_ble_eq_true rfl) dX10_haunts_19 ⟨Nat.le_of_ble_eq_true rfl, Nat.le_of_ble_eq_true rfl⟩ hS (fun r19 H locs q19 hP hS => ?_)
    refine lv_if_ne (tgt := 29) hx hb dX10_haunts_22 (by decide) (fun c22 => ?_) (fun c22 => ?_)
    · skip
      have b22 := bo_t q19 c22
      refine lv_aload_n hx hb dX10_haunts_29 rfl (lv_at hl 0 rfl) ?_
      refine lv_iload_n hx hb dX10_haunts_30 rfl (lv_at hl 1 rfl) ?_
      refine lv_iload_n hx hb dX10_haunts_31 rfl (lv_at hl 2 rfl) ?_
      refine lv_iload_n hx hb dX10_haunts_32 rfl (lv_at hl 3 rfl) ?_
      refine m_calli (As := [.int ways, .int w, .int h]) (rest := []) ⟨hx, hb, hml, hown, hts⟩ (c_X10_placesOf_x l D cy mo a (upd f 0 (0 : Int32)) g r q ways w h hD b22.1 b22.2) (cwV 3 hts gX10_haunts_X10_placesOf rfl rfl rfl (by decide +kernel) ⟨Nat.le_of_ble_eq_true rfl, Nat.le_of_ble_eq_true rfl⟩) hK hP rfl hl.1 rfl (Nat.le_of_ble_eq_true rfl) dX10_haunts_33 ⟨Nat.le_of_ble_eq_true rfl, Nat.le_of_ble_eq_true rfl⟩ hS (fun r33 u H locs q33 hP hS => ?_)
      obtain ⟨rfl, q33⟩ := q33
      have hP : va_P D vwCl (WM cy mo a (upd f 0 (0 : Int32)) g r q) H := hP
      have q33 : r33.toInt = gP ways w h := q33
      refine lv_if_le (tgt := 43) hx hb dX10_haunts_36 (by decide) (fun c36 => ?_) (fun c36 => ?_)
      · skip
        have d36 := c36
        rw [fa_le] at d36
        refine lv_iconst (v := 0) hx hb dX10_haunts_43 (by decide) ?_
        exact W.iret (v := (0 : Int32)) hx hb hr (fun t ht hW => ⟨⟨_, ((upd f 0 (0 : Int32)), g, r, q), rfl, ⟨rfl, (by have z9 := gP_b (set := ways) b22.1 b22.2; unfold gH; rw [gA_yes ⟨by omega, b22.1, b22.2⟩, if_neg (by omega)]; show (0 : Int) = _; omega)⟩, by unfold mB; rw [ht]; exact hP⟩, hS.F ht⟩) hS.2.2 dX10_haunts_44
      · skip
        have d36 := c36
        rw [fa_le] at d36
        refine lv_iconst (v := 1) hx hb dX10_haunts_39 (by decide) ?_
        refine lv_goto (tgt := 44) hx hb dX10_haunts_40 (by decide) ?_
        exact W.iret (v := (1 : Int32)) hx hb hr (fun t ht hW => ⟨⟨_, ((upd f 0 (0 : Int32)), g, r, q), rfl, ⟨rfl, (by unfold gH; rw [gA_yes ⟨by omega, b22.1, b22.2⟩, if_pos (by omega)]; rfl)⟩, by unfold mB; rw [ht]; exact hP⟩, hS.F ht⟩) hS.2.2 dX10_haunts_44
    · skip
      have b22 := bo_f q19 c22
      refine lv_iconst (v := (-1)) hx hb dX10_haunts_25 (by decide) ?_
      refine lv_goto (tgt := 44) hx hb dX10_haunts_26 (by decide) ?_
      exact W.iret (v := ((-1) : Int32)) hx hb hr (fun t ht hW => ⟨⟨_, ((upd f 0 (0 : Int32)), g, r, q), rfl, ⟨rfl, (by unfold gH; rw [gA_no (by omega)]; rfl)⟩, by unfold mB; rw [ht]; exact hP⟩, hS.F ht⟩) hS.2.2 dX10_haunts_44
set_option maxHeartbeats 4000000 in
set_option maxRecDepth 100000 in
theorem c_X10_ghosts_x (l : Launch) (D : va_G) (cy : Nat → ClassId) (mo : Nat) (a : Nat → Nat) (f : Nat → Int32) (g : Nat → Int64) (r : Nat → Nat → Int32) (q : Nat → Nat → Int64) (ways : Int32) (w : Int32) (h : Int32) (hD : DM cy mo a)  : Mi l D cy mo a yX10_ghosts wsX10_ghosts ({ frames := 2, cells := 0, slots := 0, locals := 47 }) f g r q [.int ways, .int w, .int h] (fun r0 u => u = ((upd f 0 (0 : Int32)), g, r, q) ∧ (r0.toInt = gA ways w h)) := by
  refine Met.ofW (cc := cX10_ghosts) (maxL := 4) (ret := (some .int)) (by decide) rfl ?_
  intro p e s m args below meth c s₁ B hml hv
  obtain ⟨rfl, hP, hK⟩ := hv
  have hx := B.exec
  have hb := B.bytes
  have hr := B.returns
  have hts := atoms_spec (ws := wsX10_ghosts) B.pre
  have hin : ∀ w ∈ u_ws RX10 TX10 35, w ∈ wsX10_ghosts := by decide +kernel
  have hown : s.vm.findClass RX10 = some m.cls := findClass_of_methodNamed B.named
  have hlocks := B.notSynchronized
  have hS : va_S (AM mo a) s.heap s.heap [] := va_S.rf
  have hl := lv_entry ([.ref mo, .int ways, .int w, .int h]) (n := 4) (Nat.le_of_ble_eq_true rfl)
  rw [lg_entry_eq]
  generalize (lg_sl ([.ref mo, .int ways, .int w, .int h]) ++ List.replicate (4 - (lg_sl ([.ref mo, .int ways, .int w, .int h])).length) Slot.unset).toArray = ls at hl ⊢
  have hl : lv_has ls 4 [(0, .ref mo), (1, .int ways), (2, .int w), (3, .int h)] := hl
  have k_m1 : (-1 : Int32).toInt = -1 := by decide
  have k_0 : (0 : Int32).toInt = 0 := by decide
  have k_1L : (1 : Int64).toInt = 1 := by decide
  have k_15L : (15 : Int64).toInt = 15 := by decide
  refine lv_aload_n hx hb dX10_ghosts_0 rfl (lv_at hl 0 rfl) ?_
  refine lv_iconst (v := 0) hx hb dX10_ghosts_1 (by decide) ?_
  refine m_put (v := .int (0 : Int32)) (ty := .int) hx hb hts hin hown hK hP hD hS 0 (by decide) rfl (hts (.fieldLink RX10 79 "ShadowBenchModel" "thrown" "I") (by decide +kernel)) rfl (by decide +kernel) rfl rfl (upd f 0 (0 : Int32)) g rfl dX10_ghosts_2 (fun H locs hP hS => ?_)
  refine lv_iload_n hx hb dX10_ghosts_5 rfl (lv_at hl 1 rfl) ?_
  refine lv_i2l (v := ways.toInt64) hx hb dX10_ghosts_6 rfl ?_
  refine lv_lconst (v := 1) hx hb dX10_ghosts_7 (by decide) ?_
  refine lv_ldc2 hx hb hown (hts (.constantLong RX10 228 (15)) (by decide +kernel)) dX10_ghosts_8 ?_
  refine m_pu (As := [.long (ways.toInt64), .long (1 : Int64), .long (15 : Int64)]) (rest := []) ⟨hx, hb, hml, hown, hts⟩ (c_X10_isIn l ways.toInt64 (1 : Int64) (15 : Int64) ) (va_cwS 3 hts gX10_ghosts_X10_isIn rfl rfl rfl (by decide +kernel) ⟨Nat.le_of_ble_eq_true rfl, Nat.le_of_ble_eq_true rfl⟩) hP rfl hl.1 rfl (Nat.le_of_ble_eq_true rfl) dX10_ghosts_11 ⟨Nat.le_of_ble_eq_true rfl, Nat.le_of_ble_eq_true rfl⟩ hS (fun r11 H locs q11 hP hS => ?_)
  have q11 := q11
  simp only [k64, show (0 : Int64).toInt = 0 from rfl, show (1 : Int64).toInt = 1 from rfl, show (2 : Int64).toInt = 2 from rfl, show (3 : Int64).toInt = 3 from rfl, show (6 : Int64).toInt = 6 from rfl] at q11
  refine lv_if_eq (tgt := 25) hx hb dX10_ghosts_14 (by decide) (fun c14 => ?_) (fun c14 => ?_)
  · skip
    have b14 := bo_f q11 c14
    refine lv_iconst (v := (-1)) hx hb dX10_ghosts_25 (by decide) ?_
    refine lv_goto (tgt := 36) hx hb dX10_ghosts_26 (by decide) ?_
    exact W.iret (v := ((-1) : Int32)) hx hb hr (fun t ht hW => ⟨⟨_, ((upd f 0 (0 : Int32)), g, r, q), rfl, ⟨rfl, (by rw [gA_no (by omega)]; rfl)⟩, by unfold mB; rw [ht]; exact hP⟩, hS.F ht⟩) hS.2.2 dX10_ghosts_36
  · skip
    have b14 := bo_t q11 c14
    refine lv_iload_n hx hb dX10_ghosts_17 rfl (lv_at hl 2 rfl) ?_
    refine lv_iload_n hx hb dX10_ghosts_18 rfl (lv_at hl 3 rfl) ?_
    refine m_pu (As := [.int w, .int h]) (rest := []) ⟨hx, hb, hml, hown, hts⟩ (c_X10_isBoard l w h ) (va_cwS 2 hts gX10_ghosts_X10_isBoard rfl rfl rfl (by decide +kernel) ⟨Nat.le_of_ble_eq_true rfl, Nat.le_of_ble_eq_true rfl⟩) hP rfl hl.1 rfl (Nat.le_of_ble_eq_true rfl) dX10_ghosts_19 ⟨Nat.le_of_ble_eq_true rfl, Nat.le_of_ble_eq_true rfl⟩ hS (fun r19 H locs q19 hP hS => ?_)
    refine lv_if_ne (tgt := 29) hx hb dX10_ghosts_22 (by decide) (fun c22 => ?_) (fun c22 => ?_)
    · skip
      have b22 := bo_t q19 c22
      refine lv_aload_n hx hb dX10_ghosts_29 rfl (lv_at hl 0 rfl) ?_
      refine lv_iload_n hx hb dX10_ghosts_30 rfl (lv_at hl 1 rfl) ?_
      refine lv_iload_n hx hb dX10_ghosts_31 rfl (lv_at hl 2 rfl) ?_
      refine lv_iload_n hx hb dX10_ghosts_32 rfl (lv_at hl 3 rfl) ?_
      refine m_calli (As := [.int ways, .int w, .int h]) (rest := []) ⟨hx, hb, hml, hown, hts⟩ (c_X10_placesOf_x l D cy mo a (upd f 0 (0 : Int32)) g r q ways w h hD b22.1 b22.2) (cwV 3 hts gX10_ghosts_X10_placesOf rfl rfl rfl (by decide +kernel) ⟨Nat.le_of_ble_eq_true rfl, Nat.le_of_ble_eq_true rfl⟩) hK hP rfl hl.1 rfl (Nat.le_of_ble_eq_true rfl) dX10_ghosts_33 ⟨Nat.le_of_ble_eq_true rfl, Nat.le_of_ble_eq_true rfl⟩ hS (fun r33 u H locs q33 hP hS => ?_)
      obtain ⟨rfl, q33⟩ := q33
      have hP : va_P D vwCl (WM cy mo a (upd f 0 (0 : Int32)) g r q) H := hP
      have q33 : r33.toInt = gP ways w h := q33
      exact W.iret (v := r33) hx hb hr (fun t ht hW => ⟨⟨_, ((upd f 0 (0 : Int32)), g, r, q), rfl, ⟨rfl, (by rw [gA_yes ⟨by omega, b22.1, b22.2⟩]; exact q33)⟩, by unfold mB; rw [ht]; exact hP⟩, hS.F ht⟩) hS.2.2 dX10_ghosts_36
    · skip
      have b22 := bo_f q19 c22
      refine lv_iconst (v := (-1)) hx hb dX10_ghosts_25 (by decide) ?_
      refine lv_goto (tgt := 36) hx hb dX10_ghosts_26 (by decide) ?_
      exact W.iret (v := ((-1) : Int32)) hx hb hr (fun t ht hW => ⟨⟨_, ((upd f 0 (0 : Int32)), g, r, q), rfl, ⟨rfl, (by rw [gA_no (by omega)]; rfl)⟩, by unfold mB; rw [ht]; exact hP⟩, hS.F ht⟩) hS.2.2 dX10_ghosts_36
/-! pictures by their bits -/
def lb (x : Int64) (i : Nat) : Bool := x.toBitVec.getLsbD i
theorem lb_ext {x y : Int64} (h : ∀ i, i < 64 → lb x i = lb y i) : x = y := Int64.toBitVec_inj.mp (BitVec.eq_of_getLsbD_eq (fun i hi => h i hi))
theorem lb_or (x y : Int64) (i : Nat) : lb (x ||| y) i = (lb x i || lb y i) := by unfold lb; rw [Int64.toBitVec_or, BitVec.getLsbD_or]
theorem lb_and (x y : Int64) (i : Nat) : lb (x &&& y) i = (lb x i && lb y i) := by unfold lb; rw [Int64.toBitVec_and, BitVec.getLsbD_and]
theorem lb_xor (x y : Int64) (i : Nat) : lb (x ^^^ y) i = (lb x i ^^ lb y i) := by unfold lb; rw [Int64.toBitVec_xor, BitVec.getLsbD_xor]
theorem lb_big {x : Int64} {i : Nat} (h : 64 ≤ i) : lb x i = false := BitVec.getLsbD_of_ge _ _ h
theorem lb_0 (i : Nat) : lb 0 i = false := BitVec.getLsbD_zero
theorem lb_1 (i : Nat) : lb 1 i = decide (i = 0) := by
  rcases Nat.lt_or_ge i 64 with h | h
  · exact (by decide +kernel : ∀ i, i < 64 → lb 1 i = decide (i = 0)) i h
  · rw [lb_big h, decide_eq_false (by omega)]
theorem lb_m1 : ∀ i, i < 64 → lb (-1) i = true := by decide +kernel
theorem s64_l : ∀ n, n < 64 → (((nI n).toInt64 &&& 63).toBitVec.smod 64).toNat = n := by decide +kernel
theorem s64_u : ∀ n, n < 64 → (((nI n).toInt64.toUInt64 &&& Int64.toUInt64 63).toBitVec % 64).toNat = n := by decide +kernel
theorem lb_shl (n : Nat) (hn : n < 64) (x : Int64) {i : Nat} (hi : i < 64) : lb (x <<< ((nI n).toInt64 &&& 63)) i = (decide (n ≤ i) && lb x (i - n)) := by
  unfold lb
  rw [Int64.toBitVec_shiftLeft]
  show (x.toBitVec <<< (((nI n).toInt64 &&& 63).toBitVec.smod 64).toNat).getLsbD i = _
  rw [s64_l n hn, BitVec.getLsbD_shiftLeft]
  rcases Nat.lt_or_ge i n with h | h
  · simp [h, Nat.not_le.mpr h]
  · simp [hi, h, Nat.not_lt.mpr h]
theorem lb_ushr (n : Nat) (hn : n < 64) (x : Int64) (i : Nat) : lb ((x.toUInt64 >>> ((nI n).toInt64.toUInt64 &&& Int64.toUInt64 63)).toInt64) i = lb x (n + i) := by
  show (x.toUInt64 >>> ((nI n).toInt64.toUInt64 &&& Int64.toUInt64 63)).toBitVec.getLsbD i = x.toUInt64.toBitVec.getLsbD (n + i)
  rw [UInt64.toBitVec_shiftRight]
  show (x.toUInt64.toBitVec >>> (((nI n).toInt64.toUInt64 &&& Int64.toUInt64 63).toBitVec % 64).toNat).getLsbD i = _
  rw [s64_u n hn, BitVec.getLsbD_ushiftRight]
theorem lb_sshr (n : Nat) (hn : n < 64) (x : Int64) {i : Nat} (hi : i < 64) : lb (x >>> ((nI n).toInt64 &&& 63)) i = if n + i < 64 then lb x (n + i) else lb x 63 := by
  unfold lb
  rw [Int64.toBitVec_shiftRight]
  show (x.toBitVec.sshiftRight (((nI n).toInt64 &&& 63).toBitVec.smod 64).toNat).getLsbD i = _
  rw [s64_l n hn, BitVec.getLsbD_sshiftRight, BitVec.msb_eq_getLsbD_last]
  simp [hi]
/-- a single bit -/
theorem lb_l1 {k : Nat} (hk : k < 64) {i : Nat} (hi : i < 64) : lb (l1 k) i = decide (i = k) := by
  unfold l1
  rw [lb_shl k hk 1 hi, lb_1]
  rcases Nat.lt_or_ge i k with h | h
  · rw [decide_eq_false (show ¬ k ≤ i by omega), decide_eq_false (show ¬ i = k by omega)]; rfl
  · rw [decide_eq_true h, Bool.true_and]
    by_cases e : i = k
    · rw [decide_eq_true e, decide_eq_true (by omega)]
    · rw [decide_eq_false e, decide_eq_false (by omega)]
theorem l1_no {p : Int64} {k : Nat} (hk : k < 64) : (p &&& l1 k) = 0 ↔ lb p k = false := by
  constructor
  · intro h
    have t := congrArg (fun x => lb x k) h
    simp only [lb_and, lb_l1 hk hk, lb_0, decide_true, Bool.and_true] at t
    exact t
  · intro h
    apply lb_ext
    intro i hi
    rw [lb_and, lb_l1 hk hi, lb_0]
    by_cases e : i = k
    · rw [e, h]; rfl
    · rw [decide_eq_false e, Bool.and_false]
theorem one_lb (p : Int64) {k : Nat} (hk : k < 64) : r_one p (nI k) = if lb p k then 1 else 0 := by
  have h : (p >>> ((nI k).toInt64 &&& 63)) &&& 1 = if lb p k then (1 : Int64) else 0 := by
    apply lb_ext
    intro i hi
    rw [lb_and, lb_1, lb_sshr k hk p hi]
    by_cases e : i = 0
    · subst e
      rw [if_pos (by omega), decide_eq_true rfl, Bool.and_true, Nat.add_zero]
      cases hb : lb p k
      · simp [lb_0]
      · simp [lb_1]
    · rw [decide_eq_false e, Bool.and_false]
      split
      · rw [lb_1, decide_eq_false e]
      · rw [lb_0]
  unfold r_one
  rw [h]
  split <;> rfl
/-- what a picture of a board is -/
def isPic (n : Nat) (p : Int64) : Prop := 0 ≤ p.toInt ∧ p.toInt < ((2 ^ n : Nat) : Int)
theorem pic_nat {n : Nat} {p : Int64} (hn : n ≤ 36) : isPic n p ↔ p.toBitVec.toNat < 2 ^ n := by
  have h1 : p.toInt = if 2 * p.toBitVec.toNat < 18446744073709551616 then (p.toBitVec.toNat : Int) else (p.toBitVec.toNat : Int) - 18446744073709551616 := BitVec.toInt_eq_toNat_cond _
  have h2 := p.toBitVec.isLt
  have h3 : 2 ^ n ≤ 2 ^ 36 := Nat.pow_le_pow_right (by decide) hn
  unfold isPic
  rw [h1]
  generalize 2 ^ n = N at *
  split <;> omega
theorem pic_u {p : Int64} {n : Nat} (hn : n ≤ 36) : (p.toUInt64 >>> ((nI n).toInt64.toUInt64 &&& Int64.toUInt64 63)).toInt64 = 0 ↔ isPic n p := by
  rw [pic_nat hn, ← Int64.toBitVec_inj, ← BitVec.toNat_inj]
  show (p.toUInt64 >>> ((nI n).toInt64.toUInt64 &&& Int64.toUInt64 63)).toNat = 0 ↔ p.toUInt64.toNat < 2 ^ n
  have h := s64_u n (by omega)
  rw [UInt64.toNat_shiftRight, show ((nI n).toInt64.toUInt64 &&& Int64.toUInt64 63).toNat % 64 = n from h, Nat.shiftRight_eq_div_pow]
  constructor
  · intro h
    have d : p.toUInt64.toNat / 2 ^ n < 1 := by rw [h]; decide
    have e := (Nat.div_lt_iff_lt_mul (Nat.two_pow_pos n)).mp d
    rw [Nat.one_mul] at e
    exact e
  · exact Nat.div_eq_of_lt
theorem pic_hi {n : Nat} {p : Int64} (hn : n ≤ 36) (h : isPic n p) {i : Nat} (hi : n ≤ i) : lb p i = false := by
  have h1 := (pic_nat hn).mp h
  unfold lb
  rw [BitVec.getLsbD]
  exact Nat.testBit_lt_two_pow (Nat.lt_of_lt_of_le h1 (Nat.pow_le_pow_right (by decide) hi))
theorem l1_top : ∀ n, n ≤ 36 → (l1 n).toInt = ((2 ^ n : Nat) : Int) := by decide +kernel
theorem cl_nI {w : Int32} (h : 0 ≤ w.toInt) : nI w.toNatClampNeg = w := by
  have h2 : w.toInt < 2 ^ 31 := Int32.toInt_lt w
  have e := m_cl (x := w) h
  apply Int32.toInt_inj.mp
  rw [nI_toInt (by omega)]
  omega
theorem top_eq {w h : Int32} (hw : 1 ≤ w.toInt ∧ w.toInt ≤ 6) (hh : 1 ≤ h.toInt ∧ h.toInt ≤ 6) : (r_top w h).toInt = ((2 ^ (w.toNatClampNeg * h.toNatClampNeg) : Nat) : Int) := by
  have e1 := cl_nI (w := w) (by omega)
  have e2 := cl_nI (w := h) (by omega)
  have a1 := m_cl (x := w) (by omega)
  have a2 := m_cl (x := h) (by omega)
  have hm : w.toNatClampNeg * h.toNatClampNeg ≤ 6 * 6 := Nat.mul_le_mul (by omega) (by omega)
  unfold r_top
  rw [← e1, ← e2, pk_mul]
  rw [e1, e2]
  exact l1_top _ (by omega)
def goodP (w h : Int32) (p : Int64) : Prop := ((1 ≤ w.toInt ∧ w.toInt ≤ 6) ∧ (1 ≤ h.toInt ∧ h.toInt ≤ 6)) ∧ isPic (w.toNatClampNeg * h.toNatClampNeg) p
theorem goodP_of {w h : Int32} {p : Int64} (hb : ((1 ≤ w.toInt ∧ w.toInt ≤ 6) ∧ (1 ≤ h.toInt ∧ h.toInt ≤ 6)) ∧ 0 ≤ p.toInt ∧ p.toInt < (r_top w h).toInt) : goodP w h p := ⟨hb.1, hb.2.1, by rw [← top_eq hb.1.1 hb.1.2]; exact hb.2.2⟩
theorem goodP_no {w h : Int32} {p : Int64} (hb : ¬ (((1 ≤ w.toInt ∧ w.toInt ≤ 6) ∧ (1 ≤ h.toInt ∧ h.toInt ≤ 6)) ∧ 0 ≤ p.toInt ∧ p.toInt < (r_top w h).toInt)) : ¬ goodP w h p := fun g => hb ⟨g.1, g.2.1, by rw [top_eq g.1.1 g.1.2]; exact g.2.2⟩
theorem wh36 {w h : Int32} (hw : 1 ≤ w.toInt ∧ w.toInt ≤ 6) (hh : 1 ≤ h.toInt ∧ h.toInt ≤ 6) : (1 ≤ w.toNatClampNeg ∧ w.toNatClampNeg ≤ 6) ∧ (1 ≤ h.toNatClampNeg ∧ h.toNatClampNeg ≤ 6) ∧ w.toNatClampNeg * h.toNatClampNeg ≤ 36 ∧ ((w.toNatClampNeg * h.toNatClampNeg : Nat) : Int) = w.toInt * h.toInt := by
  have a1 := m_cl (x := w) (by omega)
  have a2 := m_cl (x := h) (by omega)
  have hm : w.toNatClampNeg * h.toNatClampNeg ≤ 6 * 6 := Nat.mul_le_mul (by omega) (by omega)
  refine ⟨by omega, by omega, by omega, ?_⟩
  rw [Int.natCast_mul, a1, a2]

def tP (w h : Nat) (how : Int) (x y : Nat) : Nat := if how = 0 then x * h + h - 1 - y else if how = 1 then (h - 1 - y) * w + x else x * h + y
theorem tP_b {w h x y : Nat} (how : Int) (hw : w ≤ 6) (hh : h ≤ 6) (hx : x < w) (hy : y < h) : tP w h how x y < 64 := by
  unfold tP
  have h1 : x * h ≤ 5 * 6 := Nat.mul_le_mul (by omega) hh
  have h2 : (h - 1 - y) * w ≤ 5 * 6 := Nat.mul_le_mul (by omega) hw
  split
  · omega
  · split <;> omega
def tF (w h : Nat) (p : Int64) (how : Int) : Nat → Int64
  | 0 => 0
  | n + 1 => tF w h p how n ||| (if lb p n then l1 (tP w h how (n % w) (n / w)) else 0)
def tN (p : Int64) : Nat → Int64
  | 0 => 0
  | n + 1 => tN p n ||| (if lb p n then 0 else l1 n)
def tQ (w h : Nat) (p : Int64) (how : Int) : Int64 := if how = 3 then tN p (w * h) else tF w h p how (w * h)
def tA (w h : Int32) (p : Int64) (how : Int32) (x : Int64) : Prop := (goodP w h p ∧ (0 ≤ how.toInt ∧ how.toInt ≤ 3) ∧ x = tQ w.toNatClampNeg h.toNatClampNeg p how.toInt) ∨ (¬ (goodP w h p ∧ (0 ≤ how.toInt ∧ how.toInt ≤ 3)) ∧ x = -1)
theorem tA_eq {w h : Int32} {p : Int64} {how : Int32} {x y : Int64} (hx : tA w h p how x) (hy : tA w h p how y) : x = y := by
  rcases hx with ⟨a, b, c⟩ | ⟨a, c⟩ <;> rcases hy with ⟨d, e, f⟩ | ⟨d, f⟩
  · rw [c, f]
  · exact absurd ⟨a, b⟩ d
  · exact absurd ⟨d, e⟩ a
  · rw [c, f]
theorem lb_tN (p : Int64) {i : Nat} (hi : i < 64) : ∀ n, n ≤ 64 → lb (tN p n) i = (decide (i < n) && !lb p i) := by
  intro n
  induction n with
  | zero => intro _; rw [decide_eq_false (by omega)]; exact lb_0 i
  | succ n ih =>
    intro hn
    simp only [tN]
    rw [lb_or, ih (by omega)]
    by_cases e : i = n
    · subst e
      cases hb : lb p i
      · simp [hb, lb_l1 hi hi]
      · simp [hb, lb_0]
    · have h1 : lb (if lb p n = true then 0 else l1 n) i = false := by
        split
        · exact lb_0 i
        · rw [lb_l1 (by omega) hi, decide_eq_false e]
      rw [h1, Bool.or_false]
      by_cases e2 : i < n
      · rw [decide_eq_true e2, decide_eq_true (by omega)]
      · rw [decide_eq_false e2, decide_eq_false (by omega)]
theorem l1_mask : ∀ n, n ≤ 36 → ∀ i, i < 64 → lb (l1 n - 1) i = decide (i < n) := by decide +kernel
theorem tN_mask {p : Int64} {n : Nat} (hn : n ≤ 36) : (p ^^^ (-1)) &&& (l1 n - 1) = tN p n := by
  apply lb_ext
  intro i hi
  rw [lb_tN p hi n (by omega), lb_and, lb_xor, lb_m1 i hi, l1_mask n hn i hi, Bool.and_comm]
  simp
theorem tF_1 {w h k i : Nat} {p : Int64} {how : Int} (hi : i < w) (hb : lb p (k * w + i) = true) : tF w h p how (k * w + (i + 1)) = tF w h p how (k * w + i) ||| l1 (tP w h how i k) := by
  show tF w h p how ((k * w + i) + 1) = _
  simp only [tF]
  rw [if_pos hb, Nat.mul_comm k w, Nat.mul_add_mod, Nat.mod_eq_of_lt hi, Nat.mul_add_div (by omega), Nat.div_eq_of_lt hi, Nat.add_zero]
theorem or_0 (x : Int64) : x ||| 0 = x := by
  apply lb_ext
  intro i _
  rw [lb_or, lb_0, Bool.or_false]
theorem tF_0 {w h k i : Nat} {p : Int64} {how : Int} (hb : lb p (k * w + i) = false) : tF w h p how (k * w + (i + 1)) = tF w h p how (k * w + i) := by
  show tF w h p how ((k * w + i) + 1) = _
  simp only [tF]
  rw [hb, if_neg (by decide), or_0]
theorem kw_b {k i w h : Nat} (hw : w ≤ 6) (hh : h ≤ 6) (hi : i < w) (hk : k < h) : k * w + i < 64 := by
  have : k * w ≤ 5 * 6 := Nat.mul_le_mul (by omega) hw
  omega
/-- the reference's step -/
theorem t_one {p : Int64} {k t : Nat} (hk : k < 64) {z : Int32} (hz : z = r_one p (nI k)) : z.toInt64 <<< ((nI t).toInt64 &&& 63) = if lb p k then l1 t else 0 := by
  rw [hz, one_lb p hk]
  split
  · rfl
  · apply lb_ext
    intro i hi
    show lb ((0 : Int64) <<< ((nI t).toInt64 &&& 63)) i = _
    unfold lb
    rw [Int64.toBitVec_shiftLeft]
    show ((0#64) <<< (((nI t).toInt64 &&& 63).toBitVec.smod 64).toNat).getLsbD i = (0#64).getLsbD i
    simp
theorem t_not {p : Int64} {k t : Nat} (hk : k < 64) {z y : Int32} (hz : z = r_one p (nI k)) (hy : y = 1 - z) : y.toInt64 <<< ((nI t).toInt64 &&& 63) = if lb p k then 0 else l1 t := by
  rw [hy, hz, one_lb p hk]
  split
  · apply lb_ext
    intro i hi
    show lb ((0 : Int64) <<< ((nI t).toInt64 &&& 63)) i = _
    unfold lb
    rw [Int64.toBitVec_shiftLeft]
    show ((0#64) <<< (((nI t).toInt64 &&& 63).toBitVec.smod 64).toNat).getLsbD i = (0#64).getLsbD i
    simp
  · rfl
def tR (w h : Nat) (p : Int64) (how : Int) (n : Nat) : Int64 := if how = 3 then tN p n else tF w h p how n
theorem tR_0 (w h : Nat) (p : Int64) (how : Int) : (0 : Int64) = tR w h p how 0 := by unfold tR; split <;> rfl
theorem tR_s {w h : Nat} {p : Int64} {how : Int} {n t : Nat} (h3 : ¬ how = 3) (hn : n < 64) (ht : t = tP w h how (n % w) (n / w)) {z : Int32} (hz : z = r_one p (nI n)) {x y : Int64} (hx : x = tR w h p how n) (hy : y = x ||| (z.toInt64 <<< ((nI t).toInt64 &&& 63))) : y = tR w h p how (n + 1) := by
  rw [hy, hx, t_one hn hz, ht]
  unfold tR
  rw [if_neg h3, if_neg h3]
  simp only [tF]
theorem tR_3 {w h : Nat} {p : Int64} {how : Int} {n t : Nat} (h3 : how = 3) (hn : n < 64) (ht : t = n) {z u : Int32} (hz : z = r_one p (nI n)) (hu : u = 1 - z) {x y : Int64} (hx : x = tR w h p how n) (hy : y = x ||| (u.toInt64 <<< ((nI t).toInt64 &&& 63))) : y = tR w h p how (n + 1) := by
  rw [hy, hx, t_not hn hz hu, ht]
  unfold tR
  rw [if_pos h3, if_pos h3]
  simp only [tN]
/-- the reference's places -/
theorem t_p0 {i a b : Nat} {x y v1 v2 v3 v4 w h : Int32} (ew : w = nI a) (eh : h = nI b) (hb : 1 ≤ b) (ex : x = nI (i % a)) (ey : y = nI (i / a)) (hy : i / a < b) (e1 : v1 = x * h) (e2 : v2 = v1 + h) (e3 : v3 = v2 - 1) (e4 : v4 = v3 - y) : v4 = nI (i % a * b + b - 1 - i / a) := by
  rw [e4, e3, e2, e1, ex, ey, eh, pk_mul, nI_add, show (1 : Int32) = nI 1 from rfl, pk_sub (by omega), pk_sub (by omega)]
theorem t_p1 {i a b : Nat} {x y v1 v2 v3 v4 w h : Int32} (ew : w = nI a) (eh : h = nI b) (hb : 1 ≤ b) (ex : x = nI (i % a)) (ey : y = nI (i / a)) (hy : i / a < b) (e1 : v1 = h - 1) (e2 : v2 = v1 - y) (e3 : v3 = v2 * w) (e4 : v4 = v3 + x) : v4 = nI ((b - 1 - i / a) * a + i % a) := by
  rw [e4, e3, e2, e1, ex, ey, eh, ew, show (1 : Int32) = nI 1 from rfl, pk_sub (by omega), pk_sub (by omega), pk_mul, nI_add]
theorem t_p2 {i a b : Nat} {x y v1 v2 h : Int32} (eh : h = nI b) (ex : x = nI (i % a)) (ey : y = nI (i / a)) (e1 : v1 = x * h) (e2 : v2 = v1 + y) : v2 = nI (i % a * b + i / a) := by
  rw [e2, e1, ex, ey, eh, pk_mul, nI_add]
set_option maxHeartbeats 4000000 in
set_option maxRecDepth 100000 in
theorem c_X0_isPicture_x (l : Launch) (D : va_G) (cy : Nat → ClassId) (A : Nat → Prop) (G : cG) (ws : va_W) (o : Nat) (p0 : Int64) {w h : Nat} (hD : va_D A ws) (hT : cT cy G ws) (hG_o : G o = some (2, w, h))  : Ci l D cy A yX0_isPicture wsX0_isPicture ({ frames := 0, cells := 0, slots := 0, locals := 0 }) 0 0 ws [.ref o, .long p0] (fun r0 u => u = (G, ws) ∧ (Bo r0 (isPic (w * h) p0))) := by
  refine Met.ofW (cc := cX0_isPicture) (maxL := 3) (ret := (some .boolean)) (by decide) rfl ?_
  intro p e s m args below meth c s₁ B hml hv
  obtain ⟨rfl, hP, hK, hA, hV⟩ := hv
  have hx := B.exec
  have hb := B.bytes
  have hr := B.returns
  have hts := atoms_spec (ws := wsX0_isPicture) B.pre
  have hown : s.vm.findClass RX0 = some m.cls := findClass_of_methodNamed B.named
  have hlocks := B.notSynchronized
  have hS : va_S A s.heap s.heap [] := va_S.rf
  have hl := lv_entry ([.ref o, .long p0]) (n := 3) (Nat.le_of_ble_eq_true rfl)
  rw [lg_entry_eq]
  generalize (lg_sl ([.ref o, .long p0]) ++ List.replicate (3 - (lg_sl ([.ref o, .long p0])).length) Slot.unset).toArray = ls at hl ⊢
  have hl : lv_has ls 3 [(0, .ref o), (1, .long p0)] := hl
  have k_0 : (0 : Int32).toInt = 0 := by decide
  have k_1 : (1 : Int32).toInt = 1 := by decide
  have k_0L : (0 : Int64).toInt = 0 := by decide
  refine lv_lload_n hx hb dX0_isPicture_0 rfl (lv_at hl 1 rfl) ?_
  refine lv_aload_n hx hb dX0_isPicture_1 rfl (lv_at hl 0 rfl) ?_
  obtain ⟨_, hM_o, hb_o, l_o, f_o, r_o, rfl, hG_l_o, hG_f_o, hG_r_o⟩ := hT _ _ hG_o
  refine t_get (v := .int (nI (w * h))) (C := RX0) (T := TX0) (N := 8) hx hb hts (by decide +kernel) hown hK hP hM_o rfl 2 (by decide) (hts (.fieldLink RX0 20 "ShadowBench$Board" "squares" "I") (by decide +kernel)) (fun _ h9 => h9) rfl dX0_isPicture_2 ?_
  have m_wh_o := cb_mul hb_o
  have i_wh_o : (nI (w * h)).toInt = _ := nI_toInt (by omega)
  refine lv_lushr (v := (p0.toUInt64 >>> (((nI (w * h))).toInt64.toUInt64 &&& Int64.toUInt64 63)).toInt64) hx hb dX0_isPicture_5 rfl ?_
  refine lv_lconst (v := 0) hx hb dX0_isPicture_6 (by decide) ?_
  refine W.lcmp hx hb dX0_isPicture_7 ?_
  refine lv_if_ne (tgt := 15) hx hb dX0_isPicture_8 (by decide) (fun c8 => ?_) (fun c8 => ?_)
  · skip
    have d8 := c8
    rw [lg_cmp_eq, fa_eq64] at d8
    refine lv_iconst (v := 0) hx hb dX0_isPicture_15 (by decide) ?_
    exact W.zret (v := (0 : Int32)) hx hb hr (by decide) (fun t ht hW => ⟨⟨_, (G, ws), rfl, ⟨rfl, Or.inr ⟨rfl, fun z9 => c8 ((lg_cmp_eq _ _).mpr ((pic_u m_wh_o.2).mpr z9))⟩⟩, by show va_P D vwCl ws t.heap; rw [ht]; exact hP, hD, hT⟩, hS.F ht⟩) hS.2.2 dX0_isPicture_16
  · skip
    have d8 := c8
    rw [lg_cmp_eq, fa_eq64] at d8
    refine lv_iconst (v := 1) hx hb dX0_isPicture_11 (by decide) ?_
    refine lv_goto (tgt := 16) hx hb dX0_isPicture_12 (by decide) ?_
    exact W.zret (v := (1 : Int32)) hx hb hr (by decide) (fun t ht hW => ⟨⟨_, (G, ws), rfl, ⟨rfl, Or.inl ⟨rfl, (pic_u m_wh_o.2).mp ((lg_cmp_eq _ _).mp c8)⟩⟩, by show va_P D vwCl ws t.heap; rw [ht]; exact hP, hD, hT⟩, hS.F ht⟩) hS.2.2 dX0_isPicture_16
set_option maxHeartbeats 4000000 in
set_option maxRecDepth 100000 in
theorem c_X0_bit_x (l : Launch) (D : va_G) (cy : Nat → ClassId) (A : Nat → Prop) (G : cG) (ws : va_W) (o : Nat) (x : Nat) (y : Nat) {w h : Nat} (hD : va_D A ws) (hT : cT cy G ws) (hG_o : G o = some (2, w, h))  : Cl l D cy A yX0_bit wsX0_bit ({ frames := 0, cells := 0, slots := 0, locals := 0 }) 0 0 ws [.ref o, .int (nI x), .int (nI y)] (fun r0 u => u = (G, ws) ∧ (r0 = l1 (y * w + x))) := by
  refine Met.ofW (cc := cX0_bit) (maxL := 3) (ret := (some .long)) (by decide) rfl ?_
  intro p e s m args below meth c s₁ B hml hv
  obtain ⟨rfl, hP, hK, hA, hV⟩ := hv
  have hx := B.exec
  have hb := B.bytes
  have hr := B.returns
  have hts := atoms_spec (ws := wsX0_bit) B.pre
  have hown : s.vm.findClass RX0 = some m.cls := findClass_of_methodNamed B.named
  have hlocks := B.notSynchronized
  have hS : va_S A s.heap s.heap [] := va_S.rf
  have hl := lv_entry ([.ref o, .int (nI x), .int (nI y)]) (n := 3) (Nat.le_of_ble_eq_true rfl)
  rw [lg_entry_eq]
  generalize (lg_sl ([.ref o, .int (nI x), .int (nI y)]) ++ List.replicate (3 - (lg_sl ([.ref o, .int (nI x), .int (nI y)])).length) Slot.unset).toArray = ls at hl ⊢
  have hl : lv_has ls 3 [(0, .ref o), (1, .int (nI x)), (2, .int (nI y))] := hl
  have k_0 : (0 : Int32).toInt = 0 := by decide
  have k_1L : (1 : Int64).toInt = 1 := by decide
  refine lv_lconst (v := 1) hx hb dX0_bit_0 (by decide) ?_
  refine lv_iload_n hx hb dX0_bit_1 rfl (lv_at hl 2 rfl) ?_
  refine lv_aload_n hx hb dX0_bit_2 rfl (lv_at hl 0 rfl) ?_
  obtain ⟨_, hM_o, hb_o, l_o, f_o, r_o, rfl, hG_l_o, hG_f_o, hG_r_o⟩ := hT _ _ hG_o
  refine t_get (v := .int (nI w)) (C := RX0) (T := TX0) (N := 8) hx hb hts (by decide +kernel) hown hK hP hM_o rfl 0 (by decide) (hts (.fieldLink RX0 13 "ShadowBench$Board" "wide" "I") (by decide +kernel)) (fun _ h9 => h9) rfl dX0_bit_3 ?_
  have i_w_o : (nI w).toInt = _ := nI_toInt (by omega)
  refine lv_imul hx hb dX0_bit_6 ?_
  refine lv_topi (fun v6 e6 => ?_)
  refine lv_iload_n hx hb dX0_bit_7 rfl (lv_at hl 1 rfl) ?_
  refine lv_iadd hx hb dX0_bit_8 ?_
  refine lv_topi (fun v8 e8 => ?_)
  refine lv_lshl (v := (1 : Int64) <<< (v8.toInt64 &&& 63)) hx hb dX0_bit_9 rfl ?_
  exact W.lret (v := ((1 : Int64) <<< (v8.toInt64 &&& 63))) hx hb hr (fun t ht hW => ⟨⟨_, (G, ws), rfl, ⟨rfl, (by unfold l1; rw [e8, e6, pk_mul, nI_add])⟩, by show va_P D vwCl ws t.heap; rw [ht]; exact hP, hD, hT⟩, hS.F ht⟩) hS.2.2 dX0_bit_10
set_option maxHeartbeats 4000000 in
set_option maxRecDepth 100000 in
theorem c_X0_placeTurned_x (l : Launch) (D : va_G) (cy : Nat → ClassId) (A : Nat → Prop) (G : cG) (ws : va_W) (o : Nat) (how : Int32) (x : Nat) (y : Nat) {w h : Nat} (hD : va_D A ws) (hT : cT cy G ws) (hG_o : G o = some (2, w, h)) (hx1 : x < w) (hy1 : y < h) : Ci l D cy A yX0_placeTurned wsX0_placeTurned ({ frames := 0, cells := 0, slots := 0, locals := 0 }) 0 0 ws [.ref o, .int how, .int (nI x), .int (nI y)] (fun r0 u => u = (G, ws) ∧ (r0 = nI (tP w h how.toInt x y))) := by
  refine Met.ofW (cc := cX0_placeTurned) (maxL := 4) (ret := (some .int)) (by decide) rfl ?_
  intro p e s m args below meth c s₁ B hml hv
  obtain ⟨rfl, hP, hK, hA, hV⟩ := hv
  have hx := B.exec
  have hb := B.bytes
  have hr := B.returns
  have hts := atoms_spec (ws := wsX0_placeTurned) B.pre
  have hown : s.vm.findClass RX0 = some m.cls := findClass_of_methodNamed B.named
  have hlocks := B.notSynchronized
  have hS : va_S A s.heap s.heap [] := va_S.rf
  have hl := lv_entry ([.ref o, .int how, .int (nI x), .int (nI y)]) (n := 4) (Nat.le_of_ble_eq_true rfl)
  rw [lg_entry_eq]
  generalize (lg_sl ([.ref o, .int how, .int (nI x), .int (nI y)]) ++ List.replicate (4 - (lg_sl ([.ref o, .int how, .int (nI x), .int (nI y)])).length) Slot.unset).toArray = ls at hl ⊢
  have hl : lv_has ls 4 [(0, .ref o), (1, .int how), (2, .int (nI x)), (3, .int (nI y))] := hl
  have k_0 : (0 : Int32).toInt = 0 := by decide
  have k_1 : (1 : Int32).toInt = 1 := by decide
  refine lv_iload_n hx hb dX0_placeTurned_0 rfl (lv_at hl 1 rfl) ?_
  by_cases s1_0 : how.toInt = 0
  · skip
    refine lv_lookup (off := 27) (tgt := 28) hx hb dX0_placeTurned_1 (by decide) (by rw [s1_0]; decide) (by decide) ?_
    refine lv_iload_n hx hb dX0_placeTurned_28 rfl (lv_at hl 2 rfl) ?_
    refine lv_aload_n hx hb dX0_placeTurned_29 rfl (lv_at hl 0 rfl) ?_
    obtain ⟨_, hM_o, hb_o, l_o, f_o, r_o, rfl, hG_l_o, hG_f_o, hG_r_o⟩ := hT _ _ hG_o
    refine t_get (v := .int (nI h)) (C := RX0) (T := TX0) (N := 8) hx hb hts (by decide +kernel) hown hK hP hM_o rfl 1 (by decide) (hts (.fieldLink RX0 17 "ShadowBench$Board" "high" "I") (by decide +kernel)) (fun _ h9 => h9) rfl dX0_placeTurned_30 ?_
    have i_h_o : (nI h).toInt = _ := nI_toInt (by omega)
    refine lv_imul hx hb dX0_placeTurned_33 ?_
    refine lv_topi (fun v33 e33 => ?_)
    refine lv_aload_n hx hb dX0_placeTurned_34 rfl (lv_at hl 0 rfl) ?_
    refine t_get (v := .int (nI h)) (C := RX0) (T := TX0) (N := 8) hx hb hts (by decide +kernel) hown hK hP hM_o rfl 1 (by decide) (hts (.fieldLink RX0 17 "ShadowBench$Board" "high" "I") (by decide +kernel)) (fun _ h9 => h9) rfl dX0_placeTurned_35 ?_
    refine lv_iadd hx hb dX0_placeTurned_38 ?_
    refine lv_topi (fun v38 e38 => ?_)
    refine lv_iconst (v := 1) hx hb dX0_placeTurned_39 (by decide) ?_
    refine lv_isub hx hb dX0_placeTurned_40 ?_
    refine lv_topi (fun v40 e40 => ?_)
    refine lv_iload_n hx hb dX0_placeTurned_41 rfl (lv_at hl 3 rfl) ?_
    refine lv_isub hx hb dX0_placeTurned_42 ?_
    refine lv_topi (fun v42 e42 => ?_)
    exact W.iret (v := v42) hx hb hr (fun t ht hW => ⟨⟨_, (G, ws), rfl, ⟨rfl, (by unfold tP; rw [if_pos s1_0, e42, e40, e38, e33, pk_mul, nI_add, show (1 : Int32) = nI 1 from rfl, pk_sub (by omega), pk_sub (by omega)])⟩, by show va_P D vwCl ws t.heap; rw [ht]; exact hP, hD, hT⟩, hS.F ht⟩) hS.2.2 dX0_placeTurned_43
  by_cases s1_1 : how.toInt = 1
  · skip
    refine lv_lookup (off := 43) (tgt := 44) hx hb dX0_placeTurned_1 (by decide) (by rw [s1_1]; decide) (by decide) ?_
    refine lv_aload_n hx hb dX0_placeTurned_44 rfl (lv_at hl 0 rfl) ?_
    obtain ⟨_, hM_o, hb_o, l_o, f_o, r_o, rfl, hG_l_o, hG_f_o, hG_r_o⟩ := hT _ _ hG_o
    refine t_get (v := .int (nI h)) (C := RX0) (T := TX0) (N := 8) hx hb hts (by decide +kernel) hown hK hP hM_o rfl 1 (by decide) (hts (.fieldLink RX0 17 "ShadowBench$Board" "high" "I") (by decide +kernel)) (fun _ h9 => h9) rfl dX0_placeTurned_45 ?_
    have i_h_o : (nI h).toInt = _ := nI_toInt (by omega)
    refine lv_iconst (v := 1) hx hb dX0_placeTurned_48 (by decide) ?_
    refine lv_isub hx hb dX0_placeTurned_49 ?_
    refine lv_topi (fun v49 e49 => ?_)
    refine lv_iload_n hx hb dX0_placeTurned_50 rfl (lv_at hl 3 rfl) ?_
    refine lv_isub hx hb dX0_placeTurned_51 ?_
    refine lv_topi (fun v51 e51 => ?_)
    refine lv_aload_n hx hb dX0_placeTurned_52 rfl (lv_at hl 0 rfl) ?_
    refine t_get (v := .int (nI w)) (C := RX0) (T := TX0) (N := 8) hx hb hts (by decide +kernel) hown hK hP hM_o rfl 0 (by decide) (hts (.fieldLink RX0 13 "ShadowBench$Board" "wide" "I") (by decide +kernel)) (fun _ h9 => h9) rfl dX0_placeTurned_53 ?_
    have i_w_o : (nI w).toInt = _ := nI_toInt (by omega)
    refine lv_imul hx hb dX0_placeTurned_56 ?_
    refine lv_topi (fun v56 e56 => ?_)
    refine lv_iload_n hx hb dX0_placeTurned_57 rfl (lv_at hl 2 rfl) ?_
    refine lv_iadd hx hb dX0_placeTurned_58 ?_
    refine lv_topi (fun v58 e58 => ?_)
    exact W.iret (v := v58) hx hb hr (fun t ht hW => ⟨⟨_, (G, ws), rfl, ⟨rfl, (by unfold tP; rw [if_neg s1_0, if_pos s1_1, e58, e56, e51, e49, show (1 : Int32) = nI 1 from rfl, pk_sub (by omega), pk_sub (by omega), pk_mul, nI_add])⟩, by show va_P D vwCl ws t.heap; rw [ht]; exact hP, hD, hT⟩, hS.F ht⟩) hS.2.2 dX0_placeTurned_59
  refine lv_lookup (off := 59) (tgt := 60) hx hb dX0_placeTurned_1 (by decide) (by simp [Op.lookupswitch.offset_cons, Op.lookupswitch.offset_nil, Ne.symm s1_0, s1_0, Ne.symm s1_1, s1_1]) (by decide) ?_
  refine lv_iload_n hx hb dX0_placeTurned_60 rfl (lv_at hl 2 rfl) ?_
  refine lv_aload_n hx hb dX0_placeTurned_61 rfl (lv_at hl 0 rfl) ?_
  obtain ⟨_, hM_o, hb_o, l_o, f_o, r_o, rfl, hG_l_o, hG_f_o, hG_r_o⟩ := hT _ _ hG_o
  refine t_get (v := .int (nI h)) (C := RX0) (T := TX0) (N := 8) hx hb hts (by decide +kernel) hown hK hP hM_o rfl 1 (by decide) (hts (.fieldLink RX0 17 "ShadowBench$Board" "high" "I") (by decide +kernel)) (fun _ h9 => h9) rfl dX0_placeTurned_62 ?_
  have i_h_o : (nI h).toInt = _ := nI_toInt (by omega)
  refine lv_imul hx hb dX0_placeTurned_65 ?_
  refine lv_topi (fun v65 e65 => ?_)
  refine lv_iload_n hx hb dX0_placeTurned_66 rfl (lv_at hl 3 rfl) ?_
  refine lv_iadd hx hb dX0_placeTurned_67 ?_
  refine lv_topi (fun v67 e67 => ?_)
  exact W.iret (v := v67) hx hb hr (fun t ht hW => ⟨⟨_, (G, ws), rfl, ⟨rfl, (by unfold tP; rw [if_neg s1_0, if_neg s1_1, e67, e65, pk_mul, nI_add])⟩, by show va_P D vwCl ws t.heap; rw [ht]; exact hP, hD, hT⟩, hS.F ht⟩) hS.2.2 dX0_placeTurned_68
set_option maxHeartbeats 4000000 in
set_option maxRecDepth 100000 in
theorem c_X0_turnedPicture_x (l : Launch) (D : va_G) (cy : Nat → ClassId) (A : Nat → Prop) (G : cG) (ws : va_W) (o : Nat) (p0 : Int64) (how : Int32) {w h : Nat} (hD : va_D A ws) (hT : cT cy G ws) (hG_o : G o = some (2, w, h))  : Cl l D cy A yX0_turnedPicture wsX0_turnedPicture ({ frames := 1, cells := 0, slots := 0, locals := 23 }) 0 0 ws [.ref o, .long p0, .int how] (fun r0 u => u = (G, ws) ∧ (r0 = tQ w h p0 how.toInt)) := by
  refine Met.ofW (cc := cX0_turnedPicture) (maxL := 8) (ret := (some .long)) (by decide) rfl ?_
  intro p e s m args below meth c s₁ B hml hv
  obtain ⟨rfl, hP, hK, hA, hV⟩ := hv
  have hx := B.exec
  have hb := B.bytes
  have hr := B.returns
  have hts := atoms_spec (ws := wsX0_turnedPicture) B.pre
  have hown : s.vm.findClass RX0 = some m.cls := findClass_of_methodNamed B.named
  have hlocks := B.notSynchronized
  have hS : va_S A s.heap s.heap [] := va_S.rf
  have hl := lv_entry ([.ref o, .long p0, .int how]) (n := 8) (Nat.le_of_ble_eq_true rfl)
  rw [lg_entry_eq]
  generalize (lg_sl ([.ref o, .long p0, .int how]) ++ List.replicate (8 - (lg_sl ([.ref o, .long p0, .int how])).length) Slot.unset).toArray = ls at hl ⊢
  have hl : lv_has ls 8 [(0, .ref o), (1, .long p0), (3, .int how)] := hl
  have k_0 : (0 : Int32).toInt = 0 := by decide
  have k_3 : (3 : Int32).toInt = 3 := by decide
  have k_m1L : (-1 : Int64).toInt = -1 := by decide
  have k_0L : (0 : Int64).toInt = 0 := by decide
  have k_1L : (1 : Int64).toInt = 1 := by decide
  have hb9 := c_hb hT hG_o
  refine lv_iload_n hx hb dX0_turnedPicture_0 rfl (lv_at hl 2 rfl) ?_
  refine lv_iconst (v := 3) hx hb dX0_turnedPicture_1 (by decide) ?_
  refine lv_icmp_ne (tgt := 20) hx hb dX0_turnedPicture_2 (by decide) (fun c2 => ?_) (fun c2 => ?_)
  · skip
    have d2 := c2
    rw [fa_eq] at d2
    refine lv_lconst (v := 0) hx hb dX0_turnedPicture_20 (by decide) ?_
    refine lv_lstore (lv' := [(4, .long (0 : Int64)), (0, .ref o), (1, .long p0), (3, .int how)]) hx hb dX0_turnedPicture_21 hl (by decide) rfl (fun ls hl => ?_)
    refine lv_iconst (v := 0) hx hb dX0_turnedPicture_23 (by decide) ?_
    refine lv_istore (lv' := [(6, .int (0 : Int32)), (4, .long (0 : Int64)), (0, .ref o), (1, .long p0), (3, .int how)]) hx hb dX0_turnedPicture_24 hl (by decide) rfl (fun ls hl => ?_)
    have loop_26 : ∀ (n : Nat) (k : Nat) (x4 : Int64), (k ≤ h) → (x4 = tF w h p0 how.toInt (k * w)) → h - k < n → ∀ (H : Heap) (locs : List Loc), va_P D vwCl ws H → va_S A s.heap H locs → ∀ (ls : Array Slot), lv_has ls 8 [(6, .int (nI k)), (4, .long x4), (0, .ref o), (1, .long p0), (3, .int how)] → W p l e (headSpec wsX0_turnedPicture ({ frames := 1, cells := 0, slots := 0, locals := 23 })).room s m #[Value.ref o, Value.long p0, Value.int how] below meth c H locs 0 0 (MQ below (va_Ql (fun r0 u => u = (G, ws) ∧ (r0 = tQ w h p0 how.toInt)) (cB D cy A) A) #[Value.ref o, Value.long p0, Value.int how] s 0 0 A) (F0 m 26 ls []) := by
      intro n
      induction n with
      | zero => intro k x4 j26_0 j26_1 hn; exact absurd hn (Nat.not_lt_zero _)
      | succ n ih_26 =>
        intro k x4 j26_0 j26_1 hn_26 H locs hP hS  ls hl
        have ik : (nI k).toInt = (k : Int) := nI_toInt (by omega)
        refine lv_iload hx hb dX0_turnedPicture_26 (lv_at hl 0 rfl) ?_
        refine lv_aload_n hx hb dX0_turnedPicture_28 rfl (lv_at hl 2 rfl) ?_
        obtain ⟨_, hM_o, hb_o, l_o, f_o, r_o, rfl, hG_l_o, hG_f_o, hG_r_o⟩ := hT _ _ hG_o
        refine t_get (v := .int (nI h)) (C := RX0) (T := TX0) (N := 8) hx hb hts (by decide +kernel) hown hK hP hM_o rfl 1 (by decide) (hts (.fieldLink RX0 17 "ShadowBench$Board" "high" "I") (by decide +kernel)) (fun _ h9 => h9) rfl dX0_turnedPicture_29 ?_
        have i_h_o : (nI h).toInt = _ := nI_toInt (by omega)
        refine lv_icmp_ge (tgt := 90) hx hb dX0_turnedPicture_32 (by decide) (fun c32 => ?_) (fun c32 => ?_)
        · skip
          have d32 := c32
          rw [fa_le] at d32
          obtain rfl : k = h := by omega
          refine lv_lload hx hb dX0_turnedPicture_90 (lv_at hl 1 rfl) ?_
          exact W.lret (v := x4) hx hb hr (fun t ht hW => ⟨⟨_, (G, ws), rfl, ⟨rfl, (by unfold tQ; rw [if_neg (by omega), Nat.mul_comm w k]; exact j26_1)⟩, by show va_P D vwCl ws t.heap; rw [ht]; exact hP, hD, hT⟩, hS.F ht⟩) hS.2.2 dX0_turnedPicture_92
        · skip
          have d32 := c32
          rw [fa_le] at d32
          refine lv_iconst (v := 0) hx hb dX0_turnedPicture_35 (by decide) ?_
          refine lv_istore (lv' := [(7, .int (0 : Int32)), (6, .int (nI k)), (4, .long x4), (0, .ref o), (1, .long p0), (3, .int how)]) hx hb dX0_turnedPicture_36 hl (by decide) rfl (fun ls hl => ?_)
          have loop_38 : ∀ (n : Nat) (i : Nat) (z4 : Int64), (i ≤ w) → (z4 = tF w h p0 how.toInt (k * w + i)) → w - i < n → ∀ (H : Heap) (locs : List Loc), va_P D vwCl ws H → va_S A s.heap H locs → ∀ (ls : Array Slot), lv_has ls 8 [(7, .int (nI i)), (6, .int (nI k)), (4, .long z4), (0, .ref o), (1, .long p0), (3, .int how)] → W p l e (headSpec wsX0_turnedPicture ({ frames := 1, cells := 0, slots := 0, locals := 23 })).room s m #[Value.ref o, Value.long p0, Value.int how] below meth c H locs 0 0 (MQ below (va_Ql (fun r0 u => u = (G, ws) ∧ (r0 = tQ w h p0 how.toInt)) (cB D cy A) A) #[Value.ref o, Value.long p0, Value.int how] s 0 0 A) (F0 m 38 ls []) := by
            intro n
            induction n with
            | zero => intro i z4 j38_0 j38_1 hn; exact absurd hn (Nat.not_lt_zero _)
            | succ n ih_38 =>
              intro i z4 j38_0 j38_1 hn_38 H locs hP hS  ls hl
              have ii : (nI i).toInt = (i : Int) := nI_toInt (by omega)
              refine lv_iload hx hb dX0_turnedPicture_38 (lv_at hl 0 rfl) ?_
              refine lv_aload_n hx hb dX0_turnedPicture_40 rfl (lv_at hl 3 rfl) ?_
              refine t_get (v := .int (nI w)) (C := RX0) (T := TX0) (N := 8) hx hb hts (by decide +kernel) hown hK hP hM_o rfl 0 (by decide) (hts (.fieldLink RX0 13 "ShadowBench$Board" "wide" "I") (by decide +kernel)) (fun _ h9 => h9) rfl dX0_turnedPicture_41 ?_
              have i_w_o : (nI w).toInt = _ := nI_toInt (by omega)
              refine lv_icmp_ge (tgt := 84) hx hb dX0_turnedPicture_44 (by decide) (fun c44 => ?_) (fun c44 => ?_)
              · skip
                have d44 := c44
                rw [fa_le] at d44
                obtain rfl : i = w := by omega
                have e84 : z4 = tF i h p0 how.toInt ((k + 1) * i) := by rw [Nat.succ_mul]; exact j38_1
                refine lv_iinc (v := (nI (k + 1))) (lv' := [(6, .int (nI (k + 1))), (7, .int (nI i)), (4, .long z4), (0, .ref o), (1, .long p0), (3, .int how)]) hx hb dX0_turnedPicture_84 hl (k := 1) rfl (nI_1 _) (by decide) rfl (fun ls hl => ?_)
                refine lv_goto (tgt := 26) hx hb dX0_turnedPicture_87 (by decide) ?_
                exact ih_26 (k + 1) z4 (by omega) (e84) (by omega) _ _ hP hS  ls (lv_sub hl [0, 2, 3, 4, 5] rfl)
              · skip
                have d44 := c44
                rw [fa_le] at d44
                have kb := kw_b (k := k) (i := i) hb9.2.1 hb9.2.2.2 (by omega) (by omega)
                refine lv_lload_n hx hb dX0_turnedPicture_47 rfl (lv_at hl 4 rfl) ?_
                refine lv_aload_n hx hb dX0_turnedPicture_48 rfl (lv_at hl 3 rfl) ?_
                refine lv_iload hx hb dX0_turnedPicture_49 (lv_at hl 0 rfl) ?_
                refine lv_iload hx hb dX0_turnedPicture_51 (lv_at hl 1 rfl) ?_
                refine t_calll (va_runV (g := F0 m 53 ls ([.int (nI k), .int (nI i), .ref o, .long p0])) (As := [.int (nI i), .int (nI k)]) (rest := [.long p0]) ⟨hx, hb, hml, hown, hts⟩ (c_X0_bit_x l D cy A G ws o i k hD hT hG_o ) (cwV 2 hts gX0_turnedPicture_X0_bit rfl rfl rfl (by decide +kernel) ⟨Nat.le_of_ble_eq_true rfl, Nat.le_of_ble_eq_true rfl⟩) (c_preV hM_o rfl hP hK hA hS hV) rfl rfl hl.1 rfl (lv_room (Nat.le_of_ble_eq_true rfl)) dX0_turnedPicture_53 ⟨Nat.le_of_ble_eq_true rfl, Nat.le_of_ble_eq_true rfl⟩) hS (fun r53 u H locs q53 hP9 hD9 hT9 hS => ?_)
                obtain ⟨rfl, q53⟩ := q53
                have hP : va_P D vwCl ws H := hP9
                refine lv_land hx hb dX0_turnedPicture_56 ?_
                refine lv_topl (fun v56 e56 => ?_)
                refine lv_lconst (v := 0) hx hb dX0_turnedPicture_57 (by decide) ?_
                refine W.lcmp hx hb dX0_turnedPicture_58 ?_
                have e56b : v56 = p0 &&& l1 (k * w + i) := by rw [e56, q53]
                refine lv_if_eq (tgt := 78) hx hb dX0_turnedPicture_59 (by decide) (fun c59 => ?_) (fun c59 => ?_)
                · skip
                  have d59 := c59
                  rw [lg_cmp_eq, fa_eq64] at d59
                  have hst : tF w h p0 how.toInt (k * w + (i + 1)) = tF w h p0 how.toInt (k * w + (i + 1)) := rfl
                  first | have hl0 : lb p0 (k * w + i) = false := (l1_no kb).mp (e56b.symm.trans ((lg_cmp_eq _ _).mp c59)) | skip
                  first | have e78b : z4 = tF w h p0 how.toInt (k * w + (i + 1)) := (by rw [tF_0 hl0]; exact j38_1) | skip
                  refine lv_iinc (v := (nI (i + 1))) (lv' := [(7, .int (nI (i + 1))), (6, .int (nI k)), (4, .long z4), (0, .ref o), (1, .long p0), (3, .int how)]) hx hb dX0_turnedPicture_78 hl (k := 0) rfl (nI_1 _) (by decide) rfl (fun ls hl => ?_)
                  refine lv_goto (tgt := 38) hx hb dX0_turnedPicture_81 (by decide) ?_
                  exact ih_38 (i + 1) z4 (by omega) (by first | exact e75b | exact e78b) (by omega) _ _ hP hS  ls (lv_sub hl [0, 1, 2, 3, 4, 5] rfl)
                · skip
                  have d59 := c59
                  rw [lg_cmp_eq, fa_eq64] at d59
                  have hl1 : lb p0 (k * w + i) = true := by cases hq : lb p0 (k * w + i); exact absurd ((lg_cmp_eq _ _).mpr (e56b.trans ((l1_no kb).mpr hq))) c59; rfl
                  refine lv_lload hx hb dX0_turnedPicture_62 (lv_at hl 2 rfl) ?_
                  refine lv_lconst (v := 1) hx hb dX0_turnedPicture_64 (by decide) ?_
                  refine lv_aload_n hx hb dX0_turnedPicture_65 rfl (lv_at hl 3 rfl) ?_
                  refine lv_iload_n hx hb dX0_turnedPicture_66 rfl (lv_at hl 5 rfl) ?_
                  refine lv_iload hx hb dX0_turnedPicture_67 (lv_at hl 0 rfl) ?_
                  refine lv_iload hx hb dX0_turnedPicture_69 (lv_at hl 1 rfl) ?_
                  refine t_calli (va_runV (g := F0 m 71 ls ([.int (nI k), .int (nI i), .int how, .ref o, .long (1 : Int64), .long z4])) (As := [.int how, .int (nI i), .int (nI k)]) (rest := [.long (1 : Int64), .long z4]) ⟨hx, hb, hml, hown, hts⟩ (c_X0_placeTurned_x l D cy A G ws o how i k hD hT hG_o (by omega) (by omega)) (cwV 3 hts gX0_turnedPicture_X0_placeTurned rfl rfl rfl (by decide +kernel) ⟨Nat.le_of_ble_eq_true rfl, Nat.le_of_ble_eq_true rfl⟩) (c_preV hM_o rfl hP hK hA hS hV) rfl rfl hl.1 rfl (lv_room (Nat.le_of_ble_eq_true rfl)) dX0_turnedPicture_71 ⟨Nat.le_of_ble_eq_true rfl, Nat.le_of_ble_eq_true rfl⟩) hS (fun r71 u H locs q71 hP9 hD9 hT9 hS => ?_)
                  obtain ⟨rfl, q71⟩ := q71
                  have hP : va_P D vwCl ws H := hP9
                  refine lv_lshl (v := (1 : Int64) <<< (r71.toInt64 &&& 63)) hx hb dX0_turnedPicture_74 rfl ?_
                  refine lv_lor hx hb dX0_turnedPicture_75 ?_
                  refine lv_topl (fun v75 e75 => ?_)
                  have e75b : v75 = tF w h p0 how.toInt (k * w + (i + 1)) := by rw [tF_1 (by omega) hl1, e75, q71, j38_1]; rfl
                  refine lv_lstore (lv' := [(4, .long v75), (7, .int (nI i)), (6, .int (nI k)), (0, .ref o), (1, .long p0), (3, .int how)]) hx hb dX0_turnedPicture_76 hl (by decide) rfl (fun ls hl => ?_)
                  have hst : tF w h p0 how.toInt (k * w + (i + 1)) = tF w h p0 how.toInt (k * w + (i + 1)) := rfl
                  first | have hl0 : lb p0 (k * w + i) = false := (l1_no kb).mp (e56b.symm.trans ((lg_cmp_eq _ _).mp c59)) | skip
                  first | have e78b : z4 = tF w h p0 how.toInt (k * w + (i + 1)) := (by rw [tF_0 hl0]; exact j38_1) | skip
                  refine lv_iinc (v := (nI (i + 1))) (lv' := [(7, .int (nI (i + 1))), (4, .long v75), (6, .int (nI k)), (0, .ref o), (1, .long p0), (3, .int how)]) hx hb dX0_turnedPicture_78 hl (k := 1) rfl (nI_1 _) (by decide) rfl (fun ls hl => ?_)
                  refine lv_goto (tgt := 38) hx hb dX0_turnedPicture_81 (by decide) ?_
                  exact ih_38 (i + 1) v75 (by omega) (by first | exact e75b | exact e78b) (by omega) _ _ hP hS  ls (lv_sub hl [0, 2, 1, 3, 4, 5] rfl)
          exact loop_38 (w + 1) 0 x4 (by omega) (by rw [Nat.add_zero]; exact j26_1) (by omega) _ _ hP hS  ls (lv_sub hl [0, 1, 2, 3, 4, 5] rfl)
    exact loop_26 (h + 1) 0 (0 : Int64) (by omega) (by rw [Nat.zero_mul]; rfl) (by omega) _ _ hP hS  ls (lv_sub hl [0, 1, 2, 3, 4] rfl)
  · skip
    have d2 := c2
    rw [fa_eq] at d2
    refine lv_lload_n hx hb dX0_turnedPicture_5 rfl (lv_at hl 1 rfl) ?_
    refine lv_ldc2 hx hb hown (hts (.constantLong RX0 73 (-1)) (by decide +kernel)) dX0_turnedPicture_6 ?_
    refine lv_lxor hx hb dX0_turnedPicture_9 ?_
    refine lv_topl (fun v9 e9 => ?_)
    refine lv_lconst (v := 1) hx hb dX0_turnedPicture_10 (by decide) ?_
    refine lv_aload_n hx hb dX0_turnedPicture_11 rfl (lv_at hl 0 rfl) ?_
    obtain ⟨_, hM_o, hb_o, l_o, f_o, r_o, rfl, hG_l_o, hG_f_o, hG_r_o⟩ := hT _ _ hG_o
    refine t_get (v := .int (nI (w * h))) (C := RX0) (T := TX0) (N := 8) hx hb hts (by decide +kernel) hown hK hP hM_o rfl 2 (by decide) (hts (.fieldLink RX0 20 "ShadowBench$Board" "squares" "I") (by decide +kernel)) (fun _ h9 => h9) rfl dX0_turnedPicture_12 ?_
    have m_wh_o := cb_mul hb_o
    have i_wh_o : (nI (w * h)).toInt = _ := nI_toInt (by omega)
    refine lv_lshl (v := (1 : Int64) <<< (((nI (w * h))).toInt64 &&& 63)) hx hb dX0_turnedPicture_15 rfl ?_
    refine lv_lconst (v := 1) hx hb dX0_turnedPicture_16 (by decide) ?_
    refine lv_lsub hx hb dX0_turnedPicture_17 ?_
    refine lv_topl (fun v17 e17 => ?_)
    refine lv_land hx hb dX0_turnedPicture_18 ?_
    refine lv_topl (fun v18 e18 => ?_)
    exact W.lret (v := v18) hx hb hr (fun t ht hW => ⟨⟨_, (G, ws), rfl, ⟨rfl, (by have m9 := cb_mul hb9; unfold tQ; rw [if_pos (by omega), ← tN_mask m9.2, e18, e17, e9]; rfl)⟩, by show va_P D vwCl ws t.heap; rw [ht]; exact hP, hD, hT⟩, hS.F ht⟩) hS.2.2 dX0_turnedPicture_19
set_option maxHeartbeats 4000000 in
set_option maxRecDepth 100000 in
theorem c_X9_turned_x (l : Launch) (D : va_G) (cy : Nat → ClassId) (A : Nat → Prop) (G : cG) (ws : va_W) (o : Nat) (wide : Int32) (high : Int32) (p0 : Int64) (how : Int32)  (hD : va_D A ws) (hT : cT cy G ws) (hG_o : G o = some (7, 0, 0))  : Cl l D cy A yX9_turned wsX9_turned ({ frames := 5, cells := 4, slots := 502, locals := 116 }) 4 502 ws [.ref o, .int wide, .int high, .long p0, .int how] (fun r0 u => cX none (chs [1, 8]) G ws u.1 u.2 ∧ (tA wide high p0 how r0)) := by
  refine Met.ofW (cc := cX9_turned) (maxL := 7) (ret := (some .long)) (by decide) rfl ?_
  intro p e s m args below meth c s₁ B hml hv
  obtain ⟨rfl, hP, hK, hA, hV⟩ := hv
  have hx := B.exec
  have hb := B.bytes
  have hr := B.returns
  have hts := atoms_spec (ws := wsX9_turned) B.pre
  have hown : s.vm.findClass RX9 = some m.cls := findClass_of_methodNamed B.named
  have hlocks := B.notSynchronized
  have hS : va_S A s.heap s.heap [] := va_S.rf
  have hX : cX none (chs [1, 8]) G ws G ws := cX.rf
  have hl := lv_entry ([.ref o, .int wide, .int high, .long p0, .int how]) (n := 7) (Nat.le_of_ble_eq_true rfl)
  rw [lg_entry_eq]
  generalize (lg_sl ([.ref o, .int wide, .int high, .long p0, .int how]) ++ List.replicate (7 - (lg_sl ([.ref o, .int wide, .int high, .long p0, .int how])).length) Slot.unset).toArray = ls at hl ⊢
  have hl : lv_has ls 7 [(0, .ref o), (1, .int wide), (2, .int high), (3, .long p0), (5, .int how)] := hl
  have k_0 : (0 : Int32).toInt = 0 := by decide
  have k_3 : (3 : Int32).toInt = 3 := by decide
  have k_m1L : (-1 : Int64).toInt = -1 := by decide
  refine lv_aload_n hx hb dX9_turned_0 rfl (lv_at hl 0 rfl) ?_
  refine lv_iload_n hx hb dX9_turned_1 rfl (lv_at hl 1 rfl) ?_
  refine lv_iload_n hx hb dX9_turned_2 rfl (lv_at hl 2 rfl) ?_
  obtain ⟨_, hM_o, bs_o, js_o, sh_o, wk_o, ll_o, jc_o, lc_o, mo_o, lb_o, rfl, hjc_o, hlc_o, hG_bs_o, hG_js_o, hG_sh_o, hG_wk_o, hmo_o, hG_ll_o, hlb_o⟩ := hT _ _ hG_o
  refine t_calla (va_runV (g := F0 m 3 ls ([.int high, .int wide, .ref o])) (As := [.int wide, .int high]) (rest := []) ⟨hx, hb, hml, hown, hts⟩ (c_X9_boardOf_x l D cy A G ws o wide high hD hT hG_o ) (cwV 2 hts gX9_turned_X9_boardOf rfl rfl rfl (by decide +kernel) ⟨Nat.le_of_ble_eq_true rfl, Nat.le_of_ble_eq_true rfl⟩) (c_preV hM_o rfl hP hK hA hS hV) rfl rfl hl.1 rfl (lv_room (Nat.le_of_ble_eq_true rfl)) dX9_turned_3 ⟨Nat.le_of_ble_eq_true rfl, Nat.le_of_ble_eq_true rfl⟩) hS (fun r3 u H locs q3 hP9 hD9 hT9 hS => ?_)
  obtain ⟨G3, w3⟩ := u
  obtain ⟨hX9, q3⟩ := q3
  have hX9 : cX none (chs [1, 8]) G ws G3 w3 := hX9
  have hP : va_P D vwCl w3 H := hP9
  have hD : va_D A w3 := hD9
  have hT : cT cy G3 w3 := hT9
  have hM_o := hX9.2.1 _ _ (cP.no hG_o rfl) hM_o
  have hG_o := hX9.1 _ _ hG_o
  have hG_bs_o := hX9.1 _ _ hG_bs_o
  have hG_js_o := hX9.1 _ _ hG_js_o
  have hG_sh_o := hX9.1 _ _ hG_sh_o
  have hG_wk_o := hX9.1 _ _ hG_wk_o
  have hG_ll_o := hX9.1 _ _ hG_ll_o
  have hX := hX.tr hX9
  rcases r3 with _ | x3
  · skip
    have vn3 := q3.2.1 rfl
    refine lv_astoreN (lv' := [(6, .null), (0, .ref o), (1, .int wide), (2, .int high), (3, .long p0), (5, .int how)]) hx hb dX9_turned_6 hl (by decide) rfl (fun ls hl => ?_)
    refine lv_aloadN hx hb dX9_turned_8 (lv_at hl 0 rfl) ?_
    refine lv_ifnullN (tgt := 33) hx hb dX9_turned_10 (by decide) ?_
    refine lv_ldc2 hx hb hown (hts (.constantLong RX9 143 (-1)) (by decide +kernel)) dX9_turned_33 ?_
    refine W.widen (k := 4) (n := 502) (Nat.le_of_ble_eq_true rfl) (Nat.le_of_ble_eq_true rfl) ?_
    exact W.lret (v := (-1 : Int64)) hx hb hr (fun t ht hW => ⟨⟨_, (G3, w3), rfl, ⟨hX, (Or.inr ⟨(fun z9 => by first | exact vn3 z9.1.1 | exact b19 z9.1.2 | omega), rfl⟩)⟩, by show va_P D vwCl w3 t.heap; rw [ht]; exact hP, hD, hT⟩, hS.F ht⟩) hS.2.2 dX9_turned_36
  · skip
    have hG_x3 := q3.1 x3 rfl
    have vb3 := q3.2.2 x3 rfl
    refine lv_astore (lv' := [(6, .ref x3), (0, .ref o), (1, .int wide), (2, .int high), (3, .long p0), (5, .int how)]) hx hb dX9_turned_6 hl (by decide) rfl (fun ls hl => ?_)
    refine lv_aload hx hb dX9_turned_8 (lv_at hl 0 rfl) ?_
    refine lv_ifnull hx hb dX9_turned_10 ?_
    refine lv_aload hx hb dX9_turned_13 (lv_at hl 0 rfl) ?_
    refine lv_lload_n hx hb dX9_turned_15 rfl (lv_at hl 4 rfl) ?_
    obtain ⟨_, hM_x3, hb_x3, l_x3, f_x3, r_x3, rfl, hG_l_x3, hG_f_x3, hG_r_x3⟩ := hT _ _ hG_x3
    refine t_calli (va_runV (g := F0 m 16 ls ([.long p0, .ref x3])) (As := [.long p0]) (rest := []) ⟨hx, hb, hml, hown, hts⟩ (c_X0_isPicture_x l D cy A G3 w3 x3 p0 hD hT hG_x3 ) (cwV 1 hts gX9_turned_X0_isPicture rfl rfl rfl (by decide +kernel) ⟨Nat.le_of_ble_eq_true rfl, Nat.le_of_ble_eq_true rfl⟩) (c_preV hM_x3 rfl hP hK hA hS hV) rfl rfl hl.1 rfl (lv_room (Nat.le_of_ble_eq_true rfl)) dX9_turned_16 ⟨Nat.le_of_ble_eq_true rfl, Nat.le_of_ble_eq_true rfl⟩) hS (fun r16 u H locs q16 hP9 hD9 hT9 hS => ?_)
    obtain ⟨rfl, q16⟩ := q16
    have hP : va_P D vwCl w3 H := hP9
    refine lv_if_eq (tgt := 33) hx hb dX9_turned_19 (by decide) (fun c19 => ?_) (fun c19 => ?_)
    · skip
      have b19 := bo_f q16 c19
      refine lv_ldc2 hx hb hown (hts (.constantLong RX9 143 (-1)) (by decide +kernel)) dX9_turned_33 ?_
      refine W.widen (k := 4) (n := 502) (Nat.le_of_ble_eq_true rfl) (Nat.le_of_ble_eq_true rfl) ?_
      exact W.lret (v := (-1 : Int64)) hx hb hr (fun t ht hW => ⟨⟨_, (G3, w3), rfl, ⟨hX, (Or.inr ⟨(fun z9 => by first | exact vn3 z9.1.1 | exact b19 z9.1.2 | omega), rfl⟩)⟩, by show va_P D vwCl w3 t.heap; rw [ht]; exact hP, hD, hT⟩, hS.F ht⟩) hS.2.2 dX9_turned_36
    · skip
      have b19 := bo_t q16 c19
      refine lv_iload hx hb dX9_turned_22 (lv_at hl 5 rfl) ?_
      refine lv_if_lt (tgt := 33) hx hb dX9_turned_24 (by decide) (fun c24 => ?_) (fun c24 => ?_)
      · skip
        have d24 := c24
        rw [fa_lt] at d24
        refine lv_ldc2 hx hb hown (hts (.constantLong RX9 143 (-1)) (by decide +kernel)) dX9_turned_33 ?_
        refine W.widen (k := 4) (n := 502) (Nat.le_of_ble_eq_true rfl) (Nat.le_of_ble_eq_true rfl) ?_
        exact W.lret (v := (-1 : Int64)) hx hb hr (fun t ht hW => ⟨⟨_, (G3, w3), rfl, ⟨hX, (Or.inr ⟨(fun z9 => by first | exact vn3 z9.1.1 | exact b19 z9.1.2 | omega), rfl⟩)⟩, by show va_P D vwCl w3 t.heap; rw [ht]; exact hP, hD, hT⟩, hS.F ht⟩) hS.2.2 dX9_turned_36
      · skip
        have d24 := c24
        rw [fa_lt] at d24
        refine lv_iload hx hb dX9_turned_27 (lv_at hl 5 rfl) ?_
        refine lv_iconst (v := 3) hx hb dX9_turned_29 (by decide) ?_
        refine lv_icmp_le (tgt := 37) hx hb dX9_turned_30 (by decide) (fun c30 => ?_) (fun c30 => ?_)
        · skip
          have d30 := c30
          rw [fa_le] at d30
          refine lv_aload hx hb dX9_turned_37 (lv_at hl 0 rfl) ?_
          refine lv_lload_n hx hb dX9_turned_39 rfl (lv_at hl 4 rfl) ?_
          refine lv_iload hx hb dX9_turned_40 (lv_at hl 5 rfl) ?_
          refine t_calll (va_runV (g := F0 m 42 ls ([.int how, .long p0, .ref x3])) (As := [.long p0, .int how]) (rest := []) ⟨hx, hb, hml, hown, hts⟩ (c_X0_turnedPicture_x l D cy A G3 w3 x3 p0 how hD hT hG_x3 ) (cwV 2 hts gX9_turned_X0_turnedPicture rfl rfl rfl (by decide +kernel) ⟨Nat.le_of_ble_eq_true rfl, Nat.le_of_ble_eq_true rfl⟩) (c_preV hM_x3 rfl hP hK hA hS hV) rfl rfl hl.1 rfl (lv_room (Nat.le_of_ble_eq_true rfl)) dX9_turned_42 ⟨Nat.le_of_ble_eq_true rfl, Nat.le_of_ble_eq_true rfl⟩) hS (fun r42 u H locs q42 hP9 hD9 hT9 hS => ?_)
          obtain ⟨rfl, q42⟩ := q42
          have hP : va_P D vwCl w3 H := hP9
          refine W.widen (k := 4) (n := 502) (Nat.le_of_ble_eq_true rfl) (Nat.le_of_ble_eq_true rfl) ?_
          exact W.lret (v := r42) hx hb hr (fun t ht hW => ⟨⟨_, (G3, w3), rfl, ⟨hX, (Or.inl ⟨⟨vb3, b19⟩, (by omega), q42⟩)⟩, by show va_P D vwCl w3 t.heap; rw [ht]; exact hP, hD, hT⟩, hS.F ht⟩) hS.2.2 dX9_turned_45
        · skip
          have d30 := c30
          rw [fa_le] at d30
          refine lv_ldc2 hx hb hown (hts (.constantLong RX9 143 (-1)) (by decide +kernel)) dX9_turned_33 ?_
          refine W.widen (k := 4) (n := 502) (Nat.le_of_ble_eq_true rfl) (Nat.le_of_ble_eq_true rfl) ?_
          exact W.lret (v := (-1 : Int64)) hx hb hr (fun t ht hW => ⟨⟨_, (G3, w3), rfl, ⟨hX, (Or.inr ⟨(fun z9 => by first | exact vn3 z9.1.1 | exact b19 z9.1.2 | omega), rfl⟩)⟩, by show va_P D vwCl w3 t.heap; rw [ht]; exact hP, hD, hT⟩, hS.F ht⟩) hS.2.2 dX9_turned_36

set_option maxHeartbeats 4000000 in
set_option maxRecDepth 100000 in
theorem c_X10_turned_x (l : Launch) (D : va_G) (cy : Nat → ClassId) (mo : Nat) (a : Nat → Nat) (f : Nat → Int32) (g : Nat → Int64) (r : Nat → Nat → Int32) (q : Nat → Nat → Int64) (w : Int32) (h : Int32) (p0 : Int64) (how : Int32) (hD : DM cy mo a)  : Ml l D cy mo a yX10_turned wsX10_turned ({ frames := 3, cells := 0, slots := 0, locals := 69 }) f g r q [.int w, .int h, .long p0, .int how] (fun r0 u => u = ((upd f 0 (0 : Int32)), g, r, q) ∧ (tA w h p0 how r0)) := by
  refine Met.ofW (cc := cX10_turned) (maxL := 12) (ret := (some .long)) (by decide) rfl ?_
  intro p e s m args below meth c s₁ B hml hv
  obtain ⟨rfl, hP, hK⟩ := hv
  have hx := B.exec
  have hb := B.bytes
  have hr := B.returns
  have hts := atoms_spec (ws := wsX10_turned) B.pre
  have hin : ∀ w ∈ u_ws RX10 TX10 35, w ∈ wsX10_turned := by decide +kernel
  have hown : s.vm.findClass RX10 = some m.cls := findClass_of_methodNamed B.named
  have hlocks := B.notSynchronized
  have hS : va_S (AM mo a) s.heap s.heap [] := va_S.rf
  have hl := lv_entry ([.ref mo, .int w, .int h, .long p0, .int how]) (n := 12) (Nat.le_of_ble_eq_true rfl)
  rw [lg_entry_eq]
  generalize (lg_sl ([.ref mo, .int w, .int h, .long p0, .int how]) ++ List.replicate (12 - (lg_sl ([.ref mo, .int w, .int h, .long p0, .int how])).length) Slot.unset).toArray = ls at hl ⊢
  have hl : lv_has ls 12 [(0, .ref mo), (1, .int w), (2, .int h), (3, .long p0), (5, .int how)] := hl
  have k_0 : (0 : Int32).toInt = 0 := by decide
  have k_1 : (1 : Int32).toInt = 1 := by decide
  have k_2 : (2 : Int32).toInt = 2 := by decide
  have k_3 : (3 : Int32).toInt = 3 := by decide
  have k_m1L : (-1 : Int64).toInt = -1 := by decide
  have k_0L : (0 : Int64).toInt = 0 := by decide
  have k_3L : (3 : Int64).toInt = 3 := by decide
  refine lv_aload_n hx hb dX10_turned_0 rfl (lv_at hl 0 rfl) ?_
  refine lv_iconst (v := 0) hx hb dX10_turned_1 (by decide) ?_
  refine m_put (v := .int (0 : Int32)) (ty := .int) hx hb hts hin hown hK hP hD hS 0 (by decide) rfl (hts (.fieldLink RX10 79 "ShadowBenchModel" "thrown" "I") (by decide +kernel)) rfl (by decide +kernel) rfl rfl (upd f 0 (0 : Int32)) g rfl dX10_turned_2 (fun H locs hP hS => ?_)
  refine lv_iload_n hx hb dX10_turned_5 rfl (lv_at hl 1 rfl) ?_
  refine lv_iload_n hx hb dX10_turned_6 rfl (lv_at hl 2 rfl) ?_
  refine lv_lload_n hx hb dX10_turned_7 rfl (lv_at hl 3 rfl) ?_
  refine m_pu (As := [.int w, .int h, .long p0]) (rest := []) ⟨hx, hb, hml, hown, hts⟩ (c_X10_isPicture l w h p0 ) (va_cwS 3 hts gX10_turned_X10_isPicture rfl rfl rfl (by decide +kernel) ⟨Nat.le_of_ble_eq_true rfl, Nat.le_of_ble_eq_true rfl⟩) hP rfl hl.1 rfl (Nat.le_of_ble_eq_true rfl) dX10_turned_8 ⟨Nat.le_of_ble_eq_true rfl, Nat.le_of_ble_eq_true rfl⟩ hS (fun r8 H locs q8 hP hS => ?_)
  refine lv_if_eq (tgt := 27) hx hb dX10_turned_11 (by decide) (fun c11 => ?_) (fun c11 => ?_)
  · skip
    have b11 := bo_f q8 c11
    refine lv_ldc2 hx hb hown (hts (.constantLong RX10 185 (-1)) (by decide +kernel)) dX10_turned_27 ?_
    exact W.lret (v := (-1 : Int64)) hx hb hr (fun t ht hW => ⟨⟨_, ((upd f 0 (0 : Int32)), g, r, q), rfl, ⟨rfl, (Or.inr ⟨(fun z9 => by first | exact goodP_no b11 z9.1 | exact b24 z9.2), rfl⟩)⟩, by unfold mB; rw [ht]; exact hP⟩, hS.F ht⟩) hS.2.2 dX10_turned_30
  · skip
    have b11 := bo_t q8 c11
    refine lv_iload hx hb dX10_turned_14 (lv_at hl 4 rfl) ?_
    refine lv_i2l (v := how.toInt64) hx hb dX10_turned_16 rfl ?_
    refine lv_lconst (v := 0) hx hb dX10_turned_17 (by decide) ?_
    refine lv_ldc2 hx hb hown (hts (.constantLong RX10 116 (3)) (by decide +kernel)) dX10_turned_18 ?_
    refine m_pu (As := [.long (how.toInt64), .long (0 : Int64), .long (3 : Int64)]) (rest := []) ⟨hx, hb, hml, hown, hts⟩ (c_X10_isIn l how.toInt64 (0 : Int64) (3 : Int64) ) (va_cwS 3 hts gX10_turned_X10_isIn rfl rfl rfl (by decide +kernel) ⟨Nat.le_of_ble_eq_true rfl, Nat.le_of_ble_eq_true rfl⟩) hP rfl hl.1 rfl (Nat.le_of_ble_eq_true rfl) dX10_turned_21 ⟨Nat.le_of_ble_eq_true rfl, Nat.le_of_ble_eq_true rfl⟩ hS (fun r21 H locs q21 hP hS => ?_)
    have q21 := q21
    simp only [k64, show (0 : Int64).toInt = 0 from rfl, show (1 : Int64).toInt = 1 from rfl, show (2 : Int64).toInt = 2 from rfl, show (3 : Int64).toInt = 3 from rfl, show (6 : Int64).toInt = 6 from rfl] at q21
    refine lv_if_ne (tgt := 31) hx hb dX10_turned_24 (by decide) (fun c24 => ?_) (fun c24 => ?_)
    · skip
      have b24 := bo_t q21 c24
      have gp := goodP_of b11
      have y24 := b24
      try simp only [k64, show (0 : Int64).toInt = 0 from rfl, show (3 : Int64).toInt = 3 from rfl] at y24
      obtain ⟨ha, hb9, h36, hwh⟩ := wh36 b11.1.1 b11.1.2
      have ew := cl_nI (w := w) (by omega)
      have eh := cl_nI (w := h) (by omega)
      obtain ⟨A9, hA9⟩ : ∃ z, z = w.toNatClampNeg := ⟨_, rfl⟩
      obtain ⟨B9, hB9⟩ : ∃ z, z = h.toNatClampNeg := ⟨_, rfl⟩
      rw [← hA9] at ha h36 hwh ew
      rw [← hB9] at hb9 h36 hwh eh
      have m37 := mul66 b11.1.1 b11.1.2
      refine lv_lconst (v := 0) hx hb dX10_turned_31 (by decide) ?_
      refine lv_lstore (lv' := [(6, .long (0 : Int64)), (0, .ref mo), (1, .int w), (2, .int h), (3, .long p0), (5, .int how)]) hx hb dX10_turned_32 hl (by decide) rfl (fun ls hl => ?_)
      refine lv_iconst (v := 0) hx hb dX10_turned_34 (by decide) ?_
      refine lv_istore (lv' := [(8, .int (0 : Int32)), (6, .long (0 : Int64)), (0, .ref mo), (1, .int w), (2, .int h), (3, .long p0), (5, .int how)]) hx hb dX10_turned_35 hl (by decide) rfl (fun ls hl => ?_)
      have loop_37 : ∀ (n : Nat) (s1 : Nat) (x6 : Int64), ((s1 : Int) ≤ ((A9 * B9 : Nat) : Int)) → (x6 = tR A9 B9 p0 how.toInt s1) → A9 * B9 - s1 < n → ∀ (H : Heap) (locs : List Loc), va_P D vwCl (WM cy mo a (upd f 0 (0 : Int32)) g r q) H → va_S (AM mo a) s.heap H locs → ∀ (ls : Array Slot), lv_has ls 12 [(8, .int (nI s1)), (6, .long x6), (0, .ref mo), (1, .int w), (2, .int h), (3, .long p0), (5, .int how)] → W p l e (headSpec wsX10_turned ({ frames := 3, cells := 0, slots := 0, locals := 69 })).room s m #[Value.ref mo, Value.int w, Value.int h, Value.long p0, Value.int how] below meth c H locs 0 0 (MQ below (va_Ql (fun r0 u => u = ((upd f 0 (0 : Int32)), g, r, q) ∧ (tA w h p0 how r0)) (mB D cy mo a) (AM mo a)) #[Value.ref mo, Value.int w, Value.int h, Value.long p0, Value.int how] s 0 0 (AM mo a)) (F0 m 37 ls []) := by
        intro n
        induction n with
        | zero => intro s1 x6  j37_0 j37_1 hn; exact absurd hn (Nat.not_lt_zero _)
        | succ n ih_37 =>
          intro s1 x6  j37_0 j37_1 hn_37 H locs hP hS ls hl
          have is1 : (nI s1).toInt = (s1 : Int) := nI_toInt (by omega)
          refine lv_iload hx hb dX10_turned_37 (lv_at hl 0 rfl) ?_
          refine lv_iload_n hx hb dX10_turned_39 rfl (lv_at hl 3 rfl) ?_
          refine lv_iload_n hx hb dX10_turned_40 rfl (lv_at hl 4 rfl) ?_
          refine lv_imul hx hb dX10_turned_41 ?_
          refine lv_topi (fun v41 e41 => ?_)
          have i41 : v41.toInt = w.toInt * h.toInt := by rw [e41]; exact fb_mulI (by omega) (by omega)
          refine lv_icmp_ge (tgt := 154) hx hb dX10_turned_42 (by decide) (fun c42 => ?_) (fun c42 => ?_)
          · skip
            have d42 := c42
            rw [fa_le] at d42
            obtain rfl : s1 = A9 * B9 := by omega
            refine lv_lload hx hb dX10_turned_154 (lv_at hl 1 rfl) ?_
            exact W.lret (v := x6) hx hb hr (fun t ht hW => ⟨⟨_, ((upd f 0 (0 : Int32)), g, r, q), rfl, ⟨rfl, (Or.inl ⟨gp, y24, (by rw [← hA9, ← hB9]; exact j37_1)⟩)⟩, by unfold mB; rw [ht]; exact hP⟩, hS.F ht⟩) hS.2.2 dX10_turned_156
          · skip
            have d42 := c42
            rw [fa_le] at d42
            have hs1 : s1 < A9 * B9 := by omega
            have hdv : s1 / A9 < B9 := Nat.div_lt_of_lt_mul hs1
            refine lv_iload hx hb dX10_turned_45 (lv_at hl 0 rfl) ?_
            refine lv_iload_n hx hb dX10_turned_47 rfl (lv_at hl 3 rfl) ?_
            refine lv_irem hx hb dX10_turned_48 (fun z => by rw [fa_eq] at z; omega) ?_
            refine lv_topi (fun v48 e48 => ?_)
            have i48 : v48.toInt = (nI s1).toInt % w.toInt := by rw [e48]; exact my_irem (by omega) (by omega)
            have j48 : 0 ≤ v48.toInt ∧ v48.toInt < w.toInt ∧ v48.toInt ≤ (nI s1).toInt := by rw [e48]; exact my_remb (by omega) (by omega)
            refine lv_istore (lv' := [(9, .int v48), (8, .int (nI s1)), (6, .long x6), (0, .ref mo), (1, .int w), (2, .int h), (3, .long p0), (5, .int how)]) hx hb dX10_turned_49 hl (by decide) rfl (fun ls hl => ?_)
            refine lv_iload hx hb dX10_turned_51 (lv_at hl 1 rfl) ?_
            refine lv_iload_n hx hb dX10_turned_53 rfl (lv_at hl 4 rfl) ?_
            refine lv_idiv hx hb dX10_turned_54 (fun z => by rw [fa_eq] at z; omega) ?_
            refine lv_topi (fun v54 e54 => ?_)
            have i54 : v54.toInt = (nI s1).toInt / w.toInt := by rw [e54]; exact my_idiv (by omega) (by omega)
            have j54 : 0 ≤ v54.toInt ∧ v54.toInt ≤ (nI s1).toInt := by rw [e54]; exact my_divb (by omega) (by omega)
            refine lv_istore (lv' := [(10, .int v54), (9, .int v48), (8, .int (nI s1)), (6, .long x6), (0, .ref mo), (1, .int w), (2, .int h), (3, .long p0), (5, .int how)]) hx hb dX10_turned_55 hl (by decide) rfl (fun ls hl => ?_)
            have f48 : v48 = nI (s1 % A9) := by rw [e48, ← ew]; exact pk_rem (by omega) (by omega) (by omega)
            have f54 : v54 = nI (s1 / A9) := by rw [e54, ← ew]; exact pk_div (by omega) (by omega) (by omega)
            refine lv_iload hx hb dX10_turned_57 (lv_at hl 8 rfl) ?_
            refine lv_if_ne (tgt := 76) hx hb dX10_turned_59 (by decide) (fun c59 => ?_) (fun c59 => ?_)
            · skip
              have d59 := c59
              rw [fa_eq] at d59
              refine lv_iload hx hb dX10_turned_76 (lv_at hl 8 rfl) ?_
              refine lv_iconst (v := 1) hx hb dX10_turned_78 (by decide) ?_
              refine lv_icmp_ne (tgt := 96) hx hb dX10_turned_79 (by decide) (fun c79 => ?_) (fun c79 => ?_)
              · skip
                have d79 := c79
                rw [fa_eq] at d79
                refine lv_iload hx hb dX10_turned_96 (lv_at hl 8 rfl) ?_
                refine lv_iconst (v := 2) hx hb dX10_turned_98 (by decide) ?_
                refine lv_icmp_ne (tgt := 112) hx hb dX10_turned_99 (by decide) (fun c99 => ?_) (fun c99 => ?_)
                · skip
                  have d99 := c99
                  rw [fa_eq] at d99
                  refine lv_iload hx hb dX10_turned_112 (lv_at hl 2 rfl) ?_
                  refine lv_istore (lv' := [(11, .int (nI s1)), (10, .int v54), (9, .int v48), (8, .int (nI s1)), (6, .long x6), (0, .ref mo), (1, .int w), (2, .int h), (3, .long p0), (5, .int how)]) hx hb dX10_turned_114 hl (by decide) rfl (fun ls hl => ?_)
                  refine lv_lload hx hb dX10_turned_116 (lv_at hl 4 rfl) ?_
                  refine lv_iload hx hb dX10_turned_118 (lv_at hl 9 rfl) ?_
                  refine lv_iconst (v := 3) hx hb dX10_turned_120 (by decide) ?_
                  refine lv_icmp_ne (tgt := 135) hx hb dX10_turned_121 (by decide) (fun c121 => ?_) (fun c121 => ?_)
                  · skip
                    have d121 := c121
                    rw [fa_eq] at d121
                    refine lv_lload_n hx hb dX10_turned_135 rfl (lv_at hl 8 rfl) ?_
                    refine lv_iload hx hb dX10_turned_136 (lv_at hl 3 rfl) ?_
                    refine m_pu (As := [.long p0, .int (nI s1)]) (rest := [.long x6]) ⟨hx, hb, hml, hown, hts⟩ (c_X10_one l p0 (nI s1) ) (va_cwS 2 hts gX10_turned_X10_one rfl rfl rfl (by decide +kernel) ⟨Nat.le_of_ble_eq_true rfl, Nat.le_of_ble_eq_true rfl⟩) hP rfl hl.1 rfl (Nat.le_of_ble_eq_true rfl) dX10_turned_138 ⟨Nat.le_of_ble_eq_true rfl, Nat.le_of_ble_eq_true rfl⟩ hS (fun r138 H locs q138 hP hS => ?_)
                    have i138 : r138.toInt = (r_one p0 (nI s1)).toInt := congrArg Int32.toInt q138
                    refine lv_i2l (v := r138.toInt64) hx hb dX10_turned_141 rfl ?_
                    refine lv_iload hx hb dX10_turned_142 (lv_at hl 0 rfl) ?_
                    refine lv_lshl (v := r138.toInt64 <<< ((nI s1).toInt64 &&& 63)) hx hb dX10_turned_144 rfl ?_
                    refine lv_lor hx hb dX10_turned_145 ?_
                    refine lv_topl (fun v145 e145 => ?_)
                    have hnx : v145 = tR A9 B9 p0 how.toInt (s1 + 1) := by
                      first
                      | exact tR_s (by omega) (by omega) rfl q138 j37_1 (by rw [e145, f72])
                      | exact tR_s (by omega) (by omega) rfl q138 j37_1 (by rw [e145, f92])
                      | exact tR_s (by omega) (by omega) rfl q138 j37_1 (by rw [e145, f108])
                      | exact tR_3 (by omega) (by omega) rfl q128 e131 j37_1 e145
                      | (exfalso; omega)
                    refine lv_lstore (lv' := [(6, .long v145), (11, .int (nI s1)), (10, .int v54), (9, .int v48), (8, .int (nI s1)), (0, .ref mo), (1, .int w), (2, .int h), (3, .long p0), (5, .int how)]) hx hb dX10_turned_146 hl (by decide) rfl (fun ls hl => ?_)
                    refine lv_iinc (v := (nI (s1 + 1))) (lv' := [(8, .int (nI (s1 + 1))), (6, .long v145), (11, .int (nI s1)), (10, .int v54), (9, .int v48), (0, .ref mo), (1, .int w), (2, .int h), (3, .long p0), (5, .int how)]) hx hb dX10_turned_148 hl (k := 4) rfl (nI_1 _) (by decide) rfl (fun ls hl => ?_)
                    refine lv_goto (tgt := 37) hx hb dX10_turned_151 (by decide) ?_
                    exact ih_37 (s1 + 1) v145 (by omega) (hnx) (by omega) _ _ hP hS ls (lv_sub hl [0, 1, 5, 6, 7, 8, 9] rfl)
                  · skip
                    have d121 := c121
                    rw [fa_eq] at d121
                    refine lv_iconst (v := 1) hx hb dX10_turned_124 (by decide) ?_
                    refine lv_lload_n hx hb dX10_turned_125 rfl (lv_at hl 8 rfl) ?_
                    refine lv_iload hx hb dX10_turned_126 (lv_at hl 3 rfl) ?_
                    refine m_pu (As := [.long p0, .int (nI s1)]) (rest := [.int (1 : Int32), .long x6]) ⟨hx, hb, hml, hown, hts⟩ (c_X10_one l p0 (nI s1) ) (va_cwS 2 hts gX10_turned_X10_one rfl rfl rfl (by decide +kernel) ⟨Nat.le_of_ble_eq_true rfl, Nat.le_of_ble_eq_true rfl⟩) hP rfl hl.1 rfl (Nat.le_of_ble_eq_true rfl) dX10_turned_128 ⟨Nat.le_of_ble_eq_true rfl, Nat.le_of_ble_eq_true rfl⟩ hS (fun r128 H locs q128 hP hS => ?_)
                    have i128 : r128.toInt = (r_one p0 (nI s1)).toInt := congrArg Int32.toInt q128
                    refine lv_isub hx hb dX10_turned_131 ?_
                    refine lv_topi (fun v131 e131 => ?_)
                    refine lv_goto (tgt := 141) hx hb dX10_turned_132 (by decide) ?_
                    refine lv_i2l (v := v131.toInt64) hx hb dX10_turned_141 rfl ?_
                    refine lv_iload hx hb dX10_turned_142 (lv_at hl 0 rfl) ?_
                    refine lv_lshl (v := v131.toInt64 <<< ((nI s1).toInt64 &&& 63)) hx hb dX10_turned_144 rfl ?_
                    refine lv_lor hx hb dX10_turned_145 ?_
                    refine lv_topl (fun v145 e145 => ?_)
                    have hnx : v145 = tR A9 B9 p0 how.toInt (s1 + 1) := by
                      first
                      | exact tR_s (by omega) (by omega) rfl q138 j37_1 (by rw [e145, f72])
                      | exact tR_s (by omega) (by omega) rfl q138 j37_1 (by rw [e145, f92])
                      | exact tR_s (by omega) (by omega) rfl q138 j37_1 (by rw [e145, f108])
                      | exact tR_3 (by omega) (by omega) rfl q128 e131 j37_1 e145
                      | (exfalso; omega)
                    refine lv_lstore (lv' := [(6, .long v145), (11, .int (nI s1)), (10, .int v54), (9, .int v48), (8, .int (nI s1)), (0, .ref mo), (1, .int w), (2, .int h), (3, .long p0), (5, .int how)]) hx hb dX10_turned_146 hl (by decide) rfl (fun ls hl => ?_)
                    refine lv_iinc (v := (nI (s1 + 1))) (lv' := [(8, .int (nI (s1 + 1))), (6, .long v145), (11, .int (nI s1)), (10, .int v54), (9, .int v48), (0, .ref mo), (1, .int w), (2, .int h), (3, .long p0), (5, .int how)]) hx hb dX10_turned_148 hl (k := 4) rfl (nI_1 _) (by decide) rfl (fun ls hl => ?_)
                    refine lv_goto (tgt := 37) hx hb dX10_turned_151 (by decide) ?_
                    exact ih_37 (s1 + 1) v145 (by omega) (hnx) (by omega) _ _ hP hS ls (lv_sub hl [0, 1, 5, 6, 7, 8, 9] rfl)
                · skip
                  have d99 := c99
                  rw [fa_eq] at d99
                  refine lv_iload hx hb dX10_turned_102 (lv_at hl 1 rfl) ?_
                  refine lv_iload_n hx hb dX10_turned_104 rfl (lv_at hl 6 rfl) ?_
                  refine lv_imul hx hb dX10_turned_105 ?_
                  refine lv_topi (fun v105 e105 => ?_)
                  refine lv_iload hx hb dX10_turned_106 (lv_at hl 0 rfl) ?_
                  refine lv_iadd hx hb dX10_turned_108 ?_
                  refine lv_topi (fun v108 e108 => ?_)
                  have f108 : v108 = nI (tP A9 B9 how.toInt (s1 % A9) (s1 / A9)) := by unfold tP; rw [if_neg (by omega), if_neg (by omega)]; exact t_p2 eh.symm f48 f54 e105 e108
                  refine lv_goto (tgt := 114) hx hb dX10_turned_109 (by decide) ?_
                  refine lv_istore (lv' := [(11, .int v108), (10, .int v54), (9, .int v48), (8, .int (nI s1)), (6, .long x6), (0, .ref mo), (1, .int w), (2, .int h), (3, .long p0), (5, .int how)]) hx hb dX10_turned_114 hl (by decide) rfl (fun ls hl => ?_)
                  refine lv_lload hx hb dX10_turned_116 (lv_at hl 4 rfl) ?_
                  refine lv_iload hx hb dX10_turned_118 (lv_at hl 9 rfl) ?_
                  refine lv_iconst (v := 3) hx hb dX10_turned_120 (by decide) ?_
                  refine lv_icmp_ne (tgt := 135) hx hb dX10_turned_121 (by decide) (fun c121 => ?_) (fun c121 => ?_)
                  · skip
                    have d121 := c121
                    rw [fa_eq] at d121
                    refine lv_lload_n hx hb dX10_turned_135 rfl (lv_at hl 8 rfl) ?_
                    refine lv_iload hx hb dX10_turned_136 (lv_at hl 3 rfl) ?_
                    refine m_pu (As := [.long p0, .int (nI s1)]) (rest := [.long x6]) ⟨hx, hb, hml, hown, hts⟩ (c_X10_one l p0 (nI s1) ) (va_cwS 2 hts gX10_turned_X10_one rfl rfl rfl (by decide +kernel) ⟨Nat.le_of_ble_eq_true rfl, Nat.le_of_ble_eq_true rfl⟩) hP rfl hl.1 rfl (Nat.le_of_ble_eq_true rfl) dX10_turned_138 ⟨Nat.le_of_ble_eq_true rfl, Nat.le_of_ble_eq_true rfl⟩ hS (fun r138 H locs q138 hP hS => ?_)
                    have i138 : r138.toInt = (r_one p0 (nI s1)).toInt := congrArg Int32.toInt q138
                    refine lv_i2l (v := r138.toInt64) hx hb dX10_turned_141 rfl ?_
                    refine lv_iload hx hb dX10_turned_142 (lv_at hl 0 rfl) ?_
                    refine lv_lshl (v := r138.toInt64 <<< (v108.toInt64 &&& 63)) hx hb dX10_turned_144 rfl ?_
                    refine lv_lor hx hb dX10_turned_145 ?_
                    refine lv_topl (fun v145 e145 => ?_)
                    have hnx : v145 = tR A9 B9 p0 how.toInt (s1 + 1) := by
                      first
                      | exact tR_s (by omega) (by omega) rfl q138 j37_1 (by rw [e145, f72])
                      | exact tR_s (by omega) (by omega) rfl q138 j37_1 (by rw [e145, f92])
                      | exact tR_s (by omega) (by omega) rfl q138 j37_1 (by rw [e145, f108])
                      | exact tR_3 (by omega) (by omega) rfl q128 e131 j37_1 e145
                      | (exfalso; omega)
                    refine lv_lstore (lv' := [(6, .long v145), (11, .int v108), (10, .int v54), (9, .int v48), (8, .int (nI s1)), (0, .ref mo), (1, .int w), (2, .int h), (3, .long p0), (5, .int how)]) hx hb dX10_turned_146 hl (by decide) rfl (fun ls hl => ?_)
                    refine lv_iinc (v := (nI (s1 + 1))) (lv' := [(8, .int (nI (s1 + 1))), (6, .long v145), (11, .int v108), (10, .int v54), (9, .int v48), (0, .ref mo), (1, .int w), (2, .int h), (3, .long p0), (5, .int how)]) hx hb dX10_turned_148 hl (k := 4) rfl (nI_1 _) (by decide) rfl (fun ls hl => ?_)
                    refine lv_goto (tgt := 37) hx hb dX10_turned_151 (by decide) ?_
                    exact ih_37 (s1 + 1) v145 (by omega) (hnx) (by omega) _ _ hP hS ls (lv_sub hl [0, 1, 5, 6, 7, 8, 9] rfl)
                  · skip
                    have d121 := c121
                    rw [fa_eq] at d121
                    refine lv_iconst (v := 1) hx hb dX10_turned_124 (by decide) ?_
                    refine lv_lload_n hx hb dX10_turned_125 rfl (lv_at hl 8 rfl) ?_
                    refine lv_iload hx hb dX10_turned_126 (lv_at hl 3 rfl) ?_
                    refine m_pu (As := [.long p0, .int (nI s1)]) (rest := [.int (1 : Int32), .long x6]) ⟨hx, hb, hml, hown, hts⟩ (c_X10_one l p0 (nI s1) ) (va_cwS 2 hts gX10_turned_X10_one rfl rfl rfl (by decide +kernel) ⟨Nat.le_of_ble_eq_true rfl, Nat.le_of_ble_eq_true rfl⟩) hP rfl hl.1 rfl (Nat.le_of_ble_eq_true rfl) dX10_turned_128 ⟨Nat.le_of_ble_eq_true rfl, Nat.le_of_ble_eq_true rfl⟩ hS (fun r128 H locs q128 hP hS => ?_)
                    have i128 : r128.toInt = (r_one p0 (nI s1)).toInt := congrArg Int32.toInt q128
                    refine lv_isub hx hb dX10_turned_131 ?_
                    refine lv_topi (fun v131 e131 => ?_)
                    refine lv_goto (tgt := 141) hx hb dX10_turned_132 (by decide) ?_
                    refine lv_i2l (v := v131.toInt64) hx hb dX10_turned_141 rfl ?_
                    refine lv_iload hx hb dX10_turned_142 (lv_at hl 0 rfl) ?_
                    refine lv_lshl (v := v131.toInt64 <<< (v108.toInt64 &&& 63)) hx hb dX10_turned_144 rfl ?_
                    refine lv_lor hx hb dX10_turned_145 ?_
                    refine lv_topl (fun v145 e145 => ?_)
                    have hnx : v145 = tR A9 B9 p0 how.toInt (s1 + 1) := by
                      first
                      | exact tR_s (by omega) (by omega) rfl q138 j37_1 (by rw [e145, f72])
                      | exact tR_s (by omega) (by omega) rfl q138 j37_1 (by rw [e145, f92])
                      | exact tR_s (by omega) (by omega) rfl q138 j37_1 (by rw [e145, f108])
                      | exact tR_3 (by omega) (by omega) rfl q128 e131 j37_1 e145
                      | (exfalso; omega)
                    refine lv_lstore (lv' := [(6, .long v145), (11, .int v108), (10, .int v54), (9, .int v48), (8, .int (nI s1)), (0, .ref mo), (1, .int w), (2, .int h), (3, .long p0), (5, .int how)]) hx hb dX10_turned_146 hl (by decide) rfl (fun ls hl => ?_)
                    refine lv_iinc (v := (nI (s1 + 1))) (lv' := [(8, .int (nI (s1 + 1))), (6, .long v145), (11, .int v108), (10, .int v54), (9, .int v48), (0, .ref mo), (1, .int w), (2, .int h), (3, .long p0), (5, .int how)]) hx hb dX10_turned_148 hl (k := 4) rfl (nI_1 _) (by decide) rfl (fun ls hl => ?_)
                    refine lv_goto (tgt := 37) hx hb dX10_turned_151 (by decide) ?_
                    exact ih_37 (s1 + 1) v145 (by omega) (hnx) (by omega) _ _ hP hS ls (lv_sub hl [0, 1, 5, 6, 7, 8, 9] rfl)
              · skip
                have d79 := c79
                rw [fa_eq] at d79
                refine lv_iload_n hx hb dX10_turned_82 rfl (lv_at hl 6 rfl) ?_
                refine lv_iconst (v := 1) hx hb dX10_turned_83 (by decide) ?_
                refine lv_isub hx hb dX10_turned_84 ?_
                refine lv_topi (fun v84 e84 => ?_)
                refine lv_iload hx hb dX10_turned_85 (lv_at hl 0 rfl) ?_
                refine lv_isub hx hb dX10_turned_87 ?_
                refine lv_topi (fun v87 e87 => ?_)
                refine lv_iload_n hx hb dX10_turned_88 rfl (lv_at hl 5 rfl) ?_
                refine lv_imul hx hb dX10_turned_89 ?_
                refine lv_topi (fun v89 e89 => ?_)
                refine lv_iload hx hb dX10_turned_90 (lv_at hl 1 rfl) ?_
                refine lv_iadd hx hb dX10_turned_92 ?_
                refine lv_topi (fun v92 e92 => ?_)
                have f92 : v92 = nI (tP A9 B9 how.toInt (s1 % A9) (s1 / A9)) := by unfold tP; rw [if_neg (by omega), if_pos (by omega)]; exact t_p1 ew.symm eh.symm (by omega) f48 f54 hdv e84 e87 e89 e92
                refine lv_goto (tgt := 114) hx hb dX10_turned_93 (by decide) ?_
                refine lv_istore (lv' := [(11, .int v92), (10, .int v54), (9, .int v48), (8, .int (nI s1)), (6, .long x6), (0, .ref mo), (1, .int w), (2, .int h), (3, .long p0), (5, .int how)]) hx hb dX10_turned_114 hl (by decide) rfl (fun ls hl => ?_)
                refine lv_lload hx hb dX10_turned_116 (lv_at hl 4 rfl) ?_
                refine lv_iload hx hb dX10_turned_118 (lv_at hl 9 rfl) ?_
                refine lv_iconst (v := 3) hx hb dX10_turned_120 (by decide) ?_
                refine lv_icmp_ne (tgt := 135) hx hb dX10_turned_121 (by decide) (fun c121 => ?_) (fun c121 => ?_)
                · skip
                  have d121 := c121
                  rw [fa_eq] at d121
                  refine lv_lload_n hx hb dX10_turned_135 rfl (lv_at hl 8 rfl) ?_
                  refine lv_iload hx hb dX10_turned_136 (lv_at hl 3 rfl) ?_
                  refine m_pu (As := [.long p0, .int (nI s1)]) (rest := [.long x6]) ⟨hx, hb, hml, hown, hts⟩ (c_X10_one l p0 (nI s1) ) (va_cwS 2 hts gX10_turned_X10_one rfl rfl rfl (by decide +kernel) ⟨Nat.le_of_ble_eq_true rfl, Nat.le_of_ble_eq_true rfl⟩) hP rfl hl.1 rfl (Nat.le_of_ble_eq_true rfl) dX10_turned_138 ⟨Nat.le_of_ble_eq_true rfl, Nat.le_of_ble_eq_true rfl⟩ hS (fun r138 H locs q138 hP hS => ?_)
                  have i138 : r138.toInt = (r_one p0 (nI s1)).toInt := congrArg Int32.toInt q138
                  refine lv_i2l (v := r138.toInt64) hx hb dX10_turned_141 rfl ?_
                  refine lv_iload hx hb dX10_turned_142 (lv_at hl 0 rfl) ?_
                  refine lv_lshl (v := r138.toInt64 <<< (v92.toInt64 &&& 63)) hx hb dX10_turned_144 rfl ?_
                  refine lv_lor hx hb dX10_turned_145 ?_
                  refine lv_topl (fun v145 e145 => ?_)
                  have hnx : v145 = tR A9 B9 p0 how.toInt (s1 + 1) := by
                    first
                    | exact tR_s (by omega) (by omega) rfl q138 j37_1 (by rw [e145, f72])
                    | exact tR_s (by omega) (by omega) rfl q138 j37_1 (by rw [e145, f92])
                    | exact tR_s (by omega) (by omega) rfl q138 j37_1 (by rw [e145, f108])
                    | exact tR_3 (by omega) (by omega) rfl q128 e131 j37_1 e145
                    | (exfalso; omega)
                  refine lv_lstore (lv' := [(6, .long v145), (11, .int v92), (10, .int v54), (9, .int v48), (8, .int (nI s1)), (0, .ref mo), (1, .int w), (2, .int h), (3, .long p0), (5, .int how)]) hx hb dX10_turned_146 hl (by decide) rfl (fun ls hl => ?_)
                  refine lv_iinc (v := (nI (s1 + 1))) (lv' := [(8, .int (nI (s1 + 1))), (6, .long v145), (11, .int v92), (10, .int v54), (9, .int v48), (0, .ref mo), (1, .int w), (2, .int h), (3, .long p0), (5, .int how)]) hx hb dX10_turned_148 hl (k := 4) rfl (nI_1 _) (by decide) rfl (fun ls hl => ?_)
                  refine lv_goto (tgt := 37) hx hb dX10_turned_151 (by decide) ?_
                  exact ih_37 (s1 + 1) v145 (by omega) (hnx) (by omega) _ _ hP hS ls (lv_sub hl [0, 1, 5, 6, 7, 8, 9] rfl)
                · skip
                  have d121 := c121
                  rw [fa_eq] at d121
                  refine lv_iconst (v := 1) hx hb dX10_turned_124 (by decide) ?_
                  refine lv_lload_n hx hb dX10_turned_125 rfl (lv_at hl 8 rfl) ?_
                  refine lv_iload hx hb dX10_turned_126 (lv_at hl 3 rfl) ?_
                  refine m_pu (As := [.long p0, .int (nI s1)]) (rest := [.int (1 : Int32), .long x6]) ⟨hx, hb, hml, hown, hts⟩ (c_X10_one l p0 (nI s1) ) (va_cwS 2 hts gX10_turned_X10_one rfl rfl rfl (by decide +kernel) ⟨Nat.le_of_ble_eq_true rfl, Nat.le_of_ble_eq_true rfl⟩) hP rfl hl.1 rfl (Nat.le_of_ble_eq_true rfl) dX10_turned_128 ⟨Nat.le_of_ble_eq_true rfl, Nat.le_of_ble_eq_true rfl⟩ hS (fun r128 H locs q128 hP hS => ?_)
                  have i128 : r128.toInt = (r_one p0 (nI s1)).toInt := congrArg Int32.toInt q128
                  refine lv_isub hx hb dX10_turned_131 ?_
                  refine lv_topi (fun v131 e131 => ?_)
                  refine lv_goto (tgt := 141) hx hb dX10_turned_132 (by decide) ?_
                  refine lv_i2l (v := v131.toInt64) hx hb dX10_turned_141 rfl ?_
                  refine lv_iload hx hb dX10_turned_142 (lv_at hl 0 rfl) ?_
                  refine lv_lshl (v := v131.toInt64 <<< (v92.toInt64 &&& 63)) hx hb dX10_turned_144 rfl ?_
                  refine lv_lor hx hb dX10_turned_145 ?_
                  refine lv_topl (fun v145 e145 => ?_)
                  have hnx : v145 = tR A9 B9 p0 how.toInt (s1 + 1) := by
                    first
                    | exact tR_s (by omega) (by omega) rfl q138 j37_1 (by rw [e145, f72])
                    | exact tR_s (by omega) (by omega) rfl q138 j37_1 (by rw [e145, f92])
                    | exact tR_s (by omega) (by omega) rfl q138 j37_1 (by rw [e145, f108])
                    | exact tR_3 (by omega) (by omega) rfl q128 e131 j37_1 e145
                    | (exfalso; omega)
                  refine lv_lstore (lv' := [(6, .long v145), (11, .int v92), (10, .int v54), (9, .int v48), (8, .int (nI s1)), (0, .ref mo), (1, .int w), (2, .int h), (3, .long p0), (5, .int how)]) hx hb dX10_turned_146 hl (by decide) rfl (fun ls hl => ?_)
                  refine lv_iinc (v := (nI (s1 + 1))) (lv' := [(8, .int (nI (s1 + 1))), (6, .long v145), (11, .int v92), (10, .int v54), (9, .int v48), (0, .ref mo), (1, .int w), (2, .int h), (3, .long p0), (5, .int how)]) hx hb dX10_turned_148 hl (k := 4) rfl (nI_1 _) (by decide) rfl (fun ls hl => ?_)
                  refine lv_goto (tgt := 37) hx hb dX10_turned_151 (by decide) ?_
                  exact ih_37 (s1 + 1) v145 (by omega) (hnx) (by omega) _ _ hP hS ls (lv_sub hl [0, 1, 5, 6, 7, 8, 9] rfl)
            · skip
              have d59 := c59
              rw [fa_eq] at d59
              refine lv_iload hx hb dX10_turned_62 (lv_at hl 1 rfl) ?_
              refine lv_iload_n hx hb dX10_turned_64 rfl (lv_at hl 6 rfl) ?_
              refine lv_imul hx hb dX10_turned_65 ?_
              refine lv_topi (fun v65 e65 => ?_)
              refine lv_iload_n hx hb dX10_turned_66 rfl (lv_at hl 6 rfl) ?_
              refine lv_iadd hx hb dX10_turned_67 ?_
              refine lv_topi (fun v67 e67 => ?_)
              refine lv_iconst (v := 1) hx hb dX10_turned_68 (by decide) ?_
              refine lv_isub hx hb dX10_turned_69 ?_
              refine lv_topi (fun v69 e69 => ?_)
              refine lv_iload hx hb dX10_turned_70 (lv_at hl 0 rfl) ?_
              refine lv_isub hx hb dX10_turned_72 ?_
              refine lv_topi (fun v72 e72 => ?_)
              have f72 : v72 = nI (tP A9 B9 how.toInt (s1 % A9) (s1 / A9)) := by unfold tP; rw [if_pos (by omega)]; exact t_p0 ew.symm eh.symm (by omega) f48 f54 hdv e65 e67 e69 e72
              refine lv_goto (tgt := 114) hx hb dX10_turned_73 (by decide) ?_
              refine lv_istore (lv' := [(11, .int v72), (10, .int v54), (9, .int v48), (8, .int (nI s1)), (6, .long x6), (0, .ref mo), (1, .int w), (2, .int h), (3, .long p0), (5, .int how)]) hx hb dX10_turned_114 hl (by decide) rfl (fun ls hl => ?_)
              refine lv_lload hx hb dX10_turned_116 (lv_at hl 4 rfl) ?_
              refine lv_iload hx hb dX10_turned_118 (lv_at hl 9 rfl) ?_
              refine lv_iconst (v := 3) hx hb dX10_turned_120 (by decide) ?_
              refine lv_icmp_ne (tgt := 135) hx hb dX10_turned_121 (by decide) (fun c121 => ?_) (fun c121 => ?_)
              · skip
                have d121 := c121
                rw [fa_eq] at d121
                refine lv_lload_n hx hb dX10_turned_135 rfl (lv_at hl 8 rfl) ?_
                refine lv_iload hx hb dX10_turned_136 (lv_at hl 3 rfl) ?_
                refine m_pu (As := [.long p0, .int (nI s1)]) (rest := [.long x6]) ⟨hx, hb, hml, hown, hts⟩ (c_X10_one l p0 (nI s1) ) (va_cwS 2 hts gX10_turned_X10_one rfl rfl rfl (by decide +kernel) ⟨Nat.le_of_ble_eq_true rfl, Nat.le_of_ble_eq_true rfl⟩) hP rfl hl.1 rfl (Nat.le_of_ble_eq_true rfl) dX10_turned_138 ⟨Nat.le_of_ble_eq_true rfl, Nat.le_of_ble_eq_true rfl⟩ hS (fun r138 H locs q138 hP hS => ?_)
                have i138 : r138.toInt = (r_one p0 (nI s1)).toInt := congrArg Int32.toInt q138
                refine lv_i2l (v := r138.toInt64) hx hb dX10_turned_141 rfl ?_
                refine lv_iload hx hb dX10_turned_142 (lv_at hl 0 rfl) ?_
                refine lv_lshl (v := r138.toInt64 <<< (v72.toInt64 &&& 63)) hx hb dX10_turned_144 rfl ?_
                refine lv_lor hx hb dX10_turned_145 ?_
                refine lv_topl (fun v145 e145 => ?_)
                have hnx : v145 = tR A9 B9 p0 how.toInt (s1 + 1) := by
                  first
                  | exact tR_s (by omega) (by omega) rfl q138 j37_1 (by rw [e145, f72])
                  | exact tR_s (by omega) (by omega) rfl q138 j37_1 (by rw [e145, f92])
                  | exact tR_s (by omega) (by omega) rfl q138 j37_1 (by rw [e145, f108])
                  | exact tR_3 (by omega) (by omega) rfl q128 e131 j37_1 e145
                  | (exfalso; omega)
                refine lv_lstore (lv' := [(6, .long v145), (11, .int v72), (10, .int v54), (9, .int v48), (8, .int (nI s1)), (0, .ref mo), (1, .int w), (2, .int h), (3, .long p0), (5, .int how)]) hx hb dX10_turned_146 hl (by decide) rfl (fun ls hl => ?_)
                refine lv_iinc (v := (nI (s1 + 1))) (lv' := [(8, .int (nI (s1 + 1))), (6, .long v145), (11, .int v72), (10, .int v54), (9, .int v48), (0, .ref mo), (1, .int w), (2, .int h), (3, .long p0), (5, .int how)]) hx hb dX10_turned_148 hl (k := 4) rfl (nI_1 _) (by decide) rfl (fun ls hl => ?_)
                refine lv_goto (tgt := 37) hx hb dX10_turned_151 (by decide) ?_
                exact ih_37 (s1 + 1) v145 (by omega) (hnx) (by omega) _ _ hP hS ls (lv_sub hl [0, 1, 5, 6, 7, 8, 9] rfl)
              · skip
                have d121 := c121
                rw [fa_eq] at d121
                refine lv_iconst (v := 1) hx hb dX10_turned_124 (by decide) ?_
                refine lv_lload_n hx hb dX10_turned_125 rfl (lv_at hl 8 rfl) ?_
                refine lv_iload hx hb dX10_turned_126 (lv_at hl 3 rfl) ?_
                refine m_pu (As := [.long p0, .int (nI s1)]) (rest := [.int (1 : Int32), .long x6]) ⟨hx, hb, hml, hown, hts⟩ (c_X10_one l p0 (nI s1) ) (va_cwS 2 hts gX10_turned_X10_one rfl rfl rfl (by decide +kernel) ⟨Nat.le_of_ble_eq_true rfl, Nat.le_of_ble_eq_true rfl⟩) hP rfl hl.1 rfl (Nat.le_of_ble_eq_true rfl) dX10_turned_128 ⟨Nat.le_of_ble_eq_true rfl, Nat.le_of_ble_eq_true rfl⟩ hS (fun r128 H locs q128 hP hS => ?_)
                have i128 : r128.toInt = (r_one p0 (nI s1)).toInt := congrArg Int32.toInt q128
                refine lv_isub hx hb dX10_turned_131 ?_
                refine lv_topi (fun v131 e131 => ?_)
                refine lv_goto (tgt := 141) hx hb dX10_turned_132 (by decide) ?_
                refine lv_i2l (v := v131.toInt64) hx hb dX10_turned_141 rfl ?_
                refine lv_iload hx hb dX10_turned_142 (lv_at hl 0 rfl) ?_
                refine lv_lshl (v := v131.toInt64 <<< (v72.toInt64 &&& 63)) hx hb dX10_turned_144 rfl ?_
                refine lv_lor hx hb dX10_turned_145 ?_
                refine lv_topl (fun v145 e145 => ?_)
                have hnx : v145 = tR A9 B9 p0 how.toInt (s1 + 1) := by
                  first
                  | exact tR_s (by omega) (by omega) rfl q138 j37_1 (by rw [e145, f72])
                  | exact tR_s (by omega) (by omega) rfl q138 j37_1 (by rw [e145, f92])
                  | exact tR_s (by omega) (by omega) rfl q138 j37_1 (by rw [e145, f108])
                  | exact tR_3 (by omega) (by omega) rfl q128 e131 j37_1 e145
                  | (exfalso; omega)
                refine lv_lstore (lv' := [(6, .long v145), (11, .int v72), (10, .int v54), (9, .int v48), (8, .int (nI s1)), (0, .ref mo), (1, .int w), (2, .int h), (3, .long p0), (5, .int how)]) hx hb dX10_turned_146 hl (by decide) rfl (fun ls hl => ?_)
                refine lv_iinc (v := (nI (s1 + 1))) (lv' := [(8, .int (nI (s1 + 1))), (6, .long v145), (11, .int v72), (10, .int v54), (9, .int v48), (0, .ref mo), (1, .int w), (2, .int h), (3, .long p0), (5, .int how)]) hx hb dX10_turned_148 hl (k := 4) rfl (nI_1 _) (by decide) rfl (fun ls hl => ?_)
                refine lv_goto (tgt := 37) hx hb dX10_turned_151 (by decide) ?_
                exact ih_37 (s1 + 1) v145 (by omega) (hnx) (by omega) _ _ hP hS ls (lv_sub hl [0, 1, 5, 6, 7, 8, 9] rfl)
      exact loop_37 (A9 * B9 + 1) 0 (0 : Int64) (by omega) (tR_0 _ _ _ _) (by omega) _ _ hP hS ls (lv_sub hl [0, 1, 2, 3, 4, 5, 6] rfl)
    · skip
      have b24 := bo_f q21 c24
      refine lv_ldc2 hx hb hown (hts (.constantLong RX10 185 (-1)) (by decide +kernel)) dX10_turned_27 ?_
      exact W.lret (v := (-1 : Int64)) hx hb hr (fun t ht hW => ⟨⟨_, ((upd f 0 (0 : Int32)), g, r, q), rfl, ⟨rfl, (Or.inr ⟨(fun z9 => by first | exact goodP_no b11 z9.1 | exact b24 z9.2), rfl⟩)⟩, by unfold mB; rw [ht]; exact hP⟩, hS.F ht⟩) hS.2.2 dX10_turned_30

def bt (x : Int32) (i : Nat) : Bool := x.toBitVec.getLsbD i
theorem b_or (x y : Int32) (i : Nat) : bt (x ||| y) i = (bt x i || bt y i) := by unfold bt; rw [Int32.toBitVec_or, BitVec.getLsbD_or]
theorem b_and (x y : Int32) (i : Nat) : bt (x &&& y) i = (bt x i && bt y i) := by unfold bt; rw [Int32.toBitVec_and, BitVec.getLsbD_and]
theorem b_xor (x y : Int32) (i : Nat) : bt (x ^^^ y) i = (bt x i ^^ bt y i) := by unfold bt; rw [Int32.toBitVec_xor, BitVec.getLsbD_xor]
theorem b_ext {x y : Int32} (h : ∀ i, i < 32 → bt x i = bt y i) : x = y := Int32.toBitVec_inj.mp (BitVec.eq_of_getLsbD_eq (fun i hi => h i hi))
theorem b_0 (i : Nat) : bt 0 i = false := BitVec.getLsbD_zero
theorem b_m1 : ∀ i, i < 32 → bt (-1) i = true := by decide +kernel
theorem b_l2i (x : Int64) {i : Nat} (hi : i < 32) : bt x.toInt32 i = lb x i := by
  unfold bt lb
  rw [Int64.toBitVec_toInt32, BitVec.getLsbD_signExtend]
  simp [hi, show i < 64 by omega]
theorem b_msk : ∀ w, w < 7 → ∀ i, i < 32 → bt (nI (2 ^ w) - 1) i = decide (i < w) := by decide +kernel
/-- the runs of ones in a row of k squares, and its last square -/
def eL (b : Nat → Bool) : Nat → Bool
  | 0 => false
  | k + 1 => b k
def eB (b : Nat → Bool) : Nat → Nat
  | 0 => 0
  | k + 1 => eB b k + (if b k = true ∧ eL b k = false then 1 else 0)
theorem eB_b (b : Nat → Bool) (k : Nat) : eB b k ≤ k := by
  induction k with
  | zero => exact Nat.le_refl _
  | succ k ih => simp only [eB]; split <;> omega
theorem eB_mono (b : Nat → Bool) {j k : Nat} (h : j ≤ k) : eB b j ≤ eB b k := by
  induction k with
  | zero => have : j = 0 := by omega
            rw [this]; exact Nat.le_refl _
  | succ k ih =>
    by_cases e : j = k + 1
    · rw [e]; exact Nat.le_refl _
    · have := ih (by omega); simp only [eB]; omega
theorem eB_ge (b : Nat → Bool) {j k : Nat} (hj : j < k) (hb : b j = true) : 1 ≤ eB b k := by
  induction k with
  | zero => omega
  | succ k ih =>
    by_cases e : j = k
    · subst e
      simp only [eB]
      cases j with
      | zero => simp [eL, hb]
      | succ j =>
        by_cases h2 : b j = true
        · have h3 : 1 ≤ eB b (j + 1) := by
            clear ih hj
            induction j with
            | zero => simp [eB, eL, h2]
            | succ j ih2 =>
              by_cases h4 : b j = true
              · have := ih2 h2 h4
                have := eB_mono b (show j + 1 ≤ j + 1 + 1 by omega); omega
              · simp [eB, eL, h2, h4]
          omega
        · simp [eL, hb, h2]
    · have := ih (by omega); simp only [eB]; omega
theorem eB_no (b : Nat → Bool) (k : Nat) (h : ∀ j, j < k → b j = false) : eB b k = 0 := by
  induction k with
  | zero => rfl
  | succ k ih => simp only [eB]; rw [ih (fun j hj => h j (by omega)), if_neg (by rw [h k (by omega)]; simp)]
theorem eB_st {b : Nat → Bool} {i : Nat} {z x10 x9 v : Int32} (f : z = if b i then 1 else 0) (j : x10 = if eL b i then 1 else 0) (hx : x9 = nI (eB b i)) (hv : (z = 1 ∧ x10 = 0 ∧ v = x9 + 1) ∨ (¬ (z = 1 ∧ x10 = 0) ∧ v = x9 + 0)) : v = nI (eB b (i + 1)) := by
  show v = nI (eB b i + (if b i = true ∧ eL b i = false then 1 else 0))
  rcases hv with ⟨h1, h2, h3⟩ | ⟨h1, h2⟩
  · have a1 : b i = true := by
      cases hb : b i
      · rw [hb] at f; exact absurd (h1.symm.trans f) (by decide)
      · rfl
    have a2 : eL b i = false := by
      cases hb : eL b i
      · rfl
      · rw [hb] at j; exact absurd (h2.symm.trans j) (by decide)
    rw [if_pos ⟨a1, a2⟩, h3, hx]
    exact nI_1 _
  · rw [if_neg (fun z9 => h1 ⟨by rw [f, z9.1]; rfl, by rw [j, z9.2]; rfl⟩), h2, hx]
    exact nI_add _ 0
/-- the square x of the row y -/
def rB (w : Nat) (p : Int64) (y x : Nat) : Bool := lb p (y * w + x)
def rowsW (w h : Nat) (p : Int64) : Prop := ∀ y, y < h → eB (rB w p y) w < 2
def colsW (w h : Nat) (p : Int64) : Prop := ∀ x, x < w → eB (fun y => rB w p y x) h < 2
/-- a row as a number -/
def isRow (w : Nat) (b : Nat → Bool) (v : Int32) : Prop := ∀ i, i < 32 → bt v i = (decide (i < w) && b i)
theorem row_n {w : Nat} {b : Nat → Bool} {v : Int32} (hw : w ≤ 6) (h : isRow w b v) : ∃ n, n < 2 ^ w ∧ v = nI n := by
  refine ⟨v.toBitVec.toNat, ?_, ?_⟩
  · apply Nat.lt_of_not_le
    intro hge
    have h1 : v.toBitVec.toNat = v.toBitVec.toNat % 2 ^ w := by
      apply Nat.eq_of_testBit_eq
      intro i
      rw [Nat.testBit_mod_two_pow]
      by_cases hi : i < 32
      · have := h i hi
        unfold bt at this
        rw [BitVec.getLsbD] at this
        rw [this]
        by_cases hiw : i < w
        · simp [hiw]
        · simp [hiw]
      · have : v.toBitVec.toNat.testBit i = false := Nat.testBit_lt_two_pow (Nat.lt_of_lt_of_le v.toBitVec.isLt (Nat.pow_le_pow_right (by decide) (by omega)))
        rw [this, Bool.and_false]
    have := Nat.mod_lt v.toBitVec.toNat (Nat.two_pow_pos w)
    omega
  · apply Int32.toBitVec_inj.mp
    show _ = BitVec.ofNat 32 _
    simp
theorem eB_cg {b c : Nat → Bool} {k : Nat} (h : ∀ j, j < k → b j = c j) : eB b k = eB c k ∧ (∀ j, j ≤ k → eL b j = eL c j) := by
  induction k with
  | zero => exact ⟨rfl, fun j hj => by have : j = 0 := by omega
                                       rw [this]; rfl⟩
  | succ k ih =>
    obtain ⟨h1, h2⟩ := ih (fun j hj => h j (by omega))
    refine ⟨?_, fun j hj => ?_⟩
    · simp only [eB]
      rw [h1, h2 k (Nat.le_refl _), h k (by omega)]
    · cases j with
      | zero => rfl
      | succ j => simp only [eL]; exact h j (by omega)
set_option maxRecDepth 100000 in
theorem row_all : ∀ w, w < 7 → ∀ n, n < 2 ^ w → (((nI n &&& (nI n + (nI n &&& -(nI n)))) = 0) = (eB (fun i => bt (nI n) i) w < 2)) := by
  intro w hw
  have h : ∀ w, w < 7 → ∀ n, n < 2 ^ w → (decide ((nI n &&& (nI n + (nI n &&& -(nI n)))) = 0) = decide (eB (fun i => bt (nI n) i) w < 2)) := by decide +kernel
  intro n hn
  exact decide_eq_decide.mp (h w hw n hn) |> propext
theorem row_ok {w : Nat} {b : Nat → Bool} {v v1 v2 v3 v4 : Int32} (hw : w ≤ 6) (h : isRow w b v) (e1 : v1 = -v) (e2 : v2 = v &&& v1) (e3 : v3 = v + v2) (e4 : v4 = v &&& v3) : v4 = 0 ↔ eB b w < 2 := by
  obtain ⟨n, hn, rfl⟩ := row_n hw h
  have h1 := row_all w (by omega) n hn
  have h2 : eB (fun i => bt (nI n) i) w = eB b w := (eB_cg (fun j hj => by show bt (nI n) j = b j; rw [h j (by omega), decide_eq_true hj, Bool.true_and])).1
  rw [e4, e3, e2, e1, h1, h2]
theorem isRow_of {w : Nat} (hw : w < 7) {y : Nat} (hy : y < 6) {p : Int64} {v1 v2 v3 : Int32} {q : Int64} (e1 : v1 = nI y * nI w) (hq : q = (p.toUInt64 >>> (v1.toInt64.toUInt64 &&& Int64.toUInt64 63)).toInt64) (e2 : v2 = nI (2 ^ w) - 1) (e3 : v3 = q.toInt32 &&& v2) : isRow w (rB w p y) v3 := by
  intro i hi
  have hm : y * w ≤ 5 * 6 := Nat.mul_le_mul (by omega) (by omega)
  rw [e3, b_and, b_l2i _ hi, hq, e1, pk_mul, lb_ushr _ (by omega), e2, b_msk w hw i hi, Bool.and_comm]
  rfl
/-- columns, row by row: what has begun, what has ended -/
def cBeg (w : Nat) (p : Int64) (k : Nat) (v : Int32) : Prop := ∀ i, i < 32 → bt v i = (decide (i < w) && decide (∃ y, y < k ∧ rB w p y i = true))
def cEnd (w : Nat) (p : Int64) (k : Nat) (v : Int32) : Prop := ∀ i, i < 32 → bt v i = (decide (i < w) && decide ((∃ y, y < k ∧ rB w p y i = true) ∧ eL (fun y => rB w p y i) k = false))
def cGood (w : Nat) (p : Int64) (k : Nat) : Prop := ∀ i, i < w → eB (fun y => rB w p y i) k < 2
theorem c_0 (w : Nat) (p : Int64) : cBeg w p 0 0 ∧ cEnd w p 0 0 ∧ cGood w p 0 := by
  refine ⟨fun i hi => ?_, fun i hi => ?_, fun i hi => by simp [eB]⟩
  · rw [b_0, decide_eq_false (show ¬ ∃ y, y < 0 ∧ rB w p y i = true from fun ⟨y, h, _⟩ => absurd h (Nat.not_lt_zero _)), Bool.and_false]
  · rw [b_0, decide_eq_false (show ¬ ((∃ y, y < 0 ∧ rB w p y i = true) ∧ eL (fun y => rB w p y i) 0 = false) from fun ⟨⟨y, h, _⟩, _⟩ => absurd h (Nat.not_lt_zero _)), Bool.and_false]
theorem c_beg {w k : Nat} {p : Int64} {v row v2 : Int32} (h : cBeg w p k v) (hr : isRow w (rB w p k) row) (e : v2 = v ||| row) : cBeg w p (k + 1) v2 := by
  intro i hi
  rw [e, b_or, h i hi, hr i hi]
  by_cases hw : i < w
  · rw [decide_eq_true hw, Bool.true_and, Bool.true_and, Bool.true_and]
    cases hb : rB w p k i
    · rw [Bool.or_false]
      congr 1
      apply propext
      exact ⟨fun ⟨y, h1, h2⟩ => ⟨y, by omega, h2⟩, fun ⟨y, h1, h2⟩ => ⟨y, by
        by_cases e : y = k
        · rw [e, hb] at h2; cases h2
        · omega, h2⟩⟩
    · rw [Bool.or_true, decide_eq_true ⟨k, by omega, hb⟩]
  · simp [hw]
theorem c_end {w k : Nat} {p : Int64} {v row v2 v3 : Int32} (h : cBeg w p (k + 1) v) (hr : isRow w (rB w p k) row) (e2 : v2 = row ^^^ (-1)) (e3 : v3 = v &&& v2) : cEnd w p (k + 1) v3 := by
  intro i hi
  rw [e3, b_and, h i hi, e2, b_xor, hr i hi, b_m1 i hi]
  by_cases hw : i < w
  · rw [decide_eq_true hw, Bool.true_and, Bool.true_and, Bool.true_and]
    show _ = decide (_ ∧ rB w p k i = false)
    by_cases hb : rB w p k i = true
    · simp [hb]
    · have hb2 : rB w p k i = false := by simpa using hb
      simp [hb2]
  · simp [hw]
theorem c_no {w k : Nat} {p : Int64} {v row z : Int32} (hE : cEnd w p k v) (hr : isRow w (rB w p k) row) (hw : w ≤ 6) (e : z = row &&& v) (hz : ¬ z = 0) {h : Nat} (hk : k < h) : ¬ colsW w h p := by
  intro hc
  apply hz
  rw [e]
  apply b_ext
  intro i hi
  rw [b_and, hr i hi, hE i hi, b_0]
  by_cases hiw : i < w
  · rw [decide_eq_true hiw, Bool.true_and, Bool.true_and]
    cases hb : rB w p k i
    · rfl
    · rw [Bool.true_and]
      apply decide_eq_false
      rintro ⟨⟨y, hy, hyb⟩, hl⟩
      have h1 := eB_ge (fun y => rB w p y i) hy hyb
      have h2 : eB (fun y => rB w p y i) (k + 1) = eB (fun y => rB w p y i) k + 1 := by
        show eB (fun y => rB w p y i) k + (if rB w p k i = true ∧ eL (fun y => rB w p y i) k = false then 1 else 0) = _
        rw [if_pos ⟨hb, hl⟩]
      have h3 := eB_mono (fun y => rB w p y i) (show k + 1 ≤ h by omega)
      have h4 := hc i hiw
      omega
  · simp [hiw]
theorem c_go {w k : Nat} {p : Int64} {v row z : Int32} (hg : cGood w p k) (hE : cEnd w p k v) (hr : isRow w (rB w p k) row) (hw : w ≤ 6) (e : z = row &&& v) (hz : z = 0) : cGood w p (k + 1) := by
  intro i hi
  have h0 := hg i hi
  show eB (fun y => rB w p y i) k + (if rB w p k i = true ∧ eL (fun y => rB w p y i) k = false then 1 else 0) < 2
  split
  · rename_i hc
    have h1 : bt z i = false := by rw [hz, b_0]
    rw [e, b_and, hr i (by omega), hE i (by omega), decide_eq_true hi, Bool.true_and, Bool.true_and, hc.1, Bool.true_and] at h1
    have h2 := of_decide_eq_false h1
    have h3 : eB (fun y => rB w p y i) k = 0 := eB_no _ _ (fun j hj => by
      cases hb : rB w p j i
      · rfl
      · exact absurd ⟨⟨j, hj, hb⟩, hc.2⟩ h2)
    omega
  · omega
def evA (w h : Int32) (p : Int64) (col : Int32) (x : Int32) : Prop := (goodP w h p ∧ ((x = 1 ∧ (if col = 0 then rowsW w.toNatClampNeg h.toNatClampNeg p else colsW w.toNatClampNeg h.toNatClampNeg p)) ∨ (x = 0 ∧ ¬ (if col = 0 then rowsW w.toNatClampNeg h.toNatClampNeg p else colsW w.toNatClampNeg h.toNatClampNeg p)))) ∨ (¬ goodP w h p ∧ x = -1)
theorem evA_eq {w h : Int32} {p : Int64} {col x y : Int32} (hx : evA w h p col x) (hy : evA w h p col y) : x = y := by
  rcases hx with ⟨a, ⟨b, c⟩ | ⟨b, c⟩⟩ | ⟨a, c⟩ <;> rcases hy with ⟨d, ⟨e, f⟩ | ⟨e, f⟩⟩ | ⟨d, f⟩
  · rw [b, e]
  · exact absurd c f
  · exact absurd a d
  · exact absurd f c
  · rw [b, e]
  · exact absurd a d
  · exact absurd d a
  · exact absurd d a
  · rw [c, f]
/-- the reference: a line's squares -/
def eS (w : Nat) (p : Int64) (col : Int32) (l k : Nat) : Bool := if col = 0 then rB w p l k else rB w p k l
def eMany (w h : Nat) (col : Int32) : Nat := if col = 0 then w else h
def eLin (w h : Nat) (col : Int32) : Nat := if col = 0 then h else w
theorem e_all {w h : Nat} {p : Int64} {col : Int32} : (∀ l, l < eLin w h col → eB (eS w p col l) (eMany w h col) < 2) ↔ (if col = 0 then rowsW w h p else colsW w h p) := by
  unfold eLin eMany
  by_cases hc : col = 0
  · rw [if_pos hc, if_pos hc, if_pos hc]
    unfold rowsW
    constructor
    · intro h9 y hy; have := h9 y hy; rwa [(eB_cg (c := rB w p y) (fun j _ => by unfold eS; rw [if_pos hc])).1] at this
    · intro h9 y hy; have := h9 y hy; rwa [(eB_cg (b := eS w p col y) (c := rB w p y) (fun j _ => by unfold eS; rw [if_pos hc])).1]
  · rw [if_neg hc, if_neg hc, if_neg hc]
    unfold colsW
    constructor
    · intro h9 y hy; have := h9 y hy; rwa [(eB_cg (c := fun z => rB w p z y) (fun j _ => by unfold eS; rw [if_neg hc])).1] at this
    · intro h9 y hy; have := h9 y hy; rwa [(eB_cg (b := eS w p col y) (c := fun z => rB w p z y) (fun j _ => by unfold eS; rw [if_neg hc])).1]
set_option maxHeartbeats 4000000 in
set_option maxRecDepth 100000 in
theorem c_X0_rowOf_x (l : Launch) (D : va_G) (cy : Nat → ClassId) (A : Nat → Prop) (G : cG) (ws : va_W) (o : Nat) (p0 : Int64) (y : Nat) {w h : Nat} (hD : va_D A ws) (hT : cT cy G ws) (hG_o : G o = some (2, w, h)) (hy1 : y < h) : Ci l D cy A yX0_rowOf wsX0_rowOf ({ frames := 0, cells := 0, slots := 0, locals := 0 }) 0 0 ws [.ref o, .long p0, .int (nI y)] (fun r0 u => u = (G, ws) ∧ (isRow w (rB w p0 y) r0)) := by
  refine Met.ofW (cc := cX0_rowOf) (maxL := 4) (ret := (some .int)) (by decide) rfl ?_
  intro p e s m args below meth c s₁ B hml hv
  obtain ⟨rfl, hP, hK, hA, hV⟩ := hv
  have hx := B.exec
  have hb := B.bytes
  have hr := B.returns
  have hts := atoms_spec (ws := wsX0_rowOf) B.pre
  have hown : s.vm.findClass RX0 = some m.cls := findClass_of_methodNamed B.named
  have hlocks := B.notSynchronized
  have hS : va_S A s.heap s.heap [] := va_S.rf
  have hl := lv_entry ([.ref o, .long p0, .int (nI y)]) (n := 4) (Nat.le_of_ble_eq_true rfl)
  rw [lg_entry_eq]
  generalize (lg_sl ([.ref o, .long p0, .int (nI y)]) ++ List.replicate (4 - (lg_sl ([.ref o, .long p0, .int (nI y)])).length) Slot.unset).toArray = ls at hl ⊢
  have hl : lv_has ls 4 [(0, .ref o), (1, .long p0), (3, .int (nI y))] := hl
  have k_0 : (0 : Int32).toInt = 0 := by decide
  have k_1 : (1 : Int32).toInt = 1 := by decide
  have hb9 := c_hb hT hG_o
  refine lv_lload_n hx hb dX0_rowOf_0 rfl (lv_at hl 1 rfl) ?_
  refine lv_iload_n hx hb dX0_rowOf_1 rfl (lv_at hl 2 rfl) ?_
  refine lv_aload_n hx hb dX0_rowOf_2 rfl (lv_at hl 0 rfl) ?_
  obtain ⟨_, hM_o, hb_o, l_o, f_o, r_o, rfl, hG_l_o, hG_f_o, hG_r_o⟩ := hT _ _ hG_o
  refine t_get (v := .int (nI w)) (C := RX0) (T := TX0) (N := 8) hx hb hts (by decide +kernel) hown hK hP hM_o rfl 0 (by decide) (hts (.fieldLink RX0 13 "ShadowBench$Board" "wide" "I") (by decide +kernel)) (fun _ h9 => h9) rfl dX0_rowOf_3 ?_
  have i_w_o : (nI w).toInt = _ := nI_toInt (by omega)
  refine lv_imul hx hb dX0_rowOf_6 ?_
  refine lv_topi (fun v6 e6 => ?_)
  refine lv_lushr (v := (p0.toUInt64 >>> (v6.toInt64.toUInt64 &&& Int64.toUInt64 63)).toInt64) hx hb dX0_rowOf_7 rfl ?_
  refine lv_l2i (v := (((p0.toUInt64 >>> (v6.toInt64.toUInt64 &&& Int64.toUInt64 63)).toInt64)).toInt32) hx hb dX0_rowOf_8 rfl ?_
  refine lv_aload_n hx hb dX0_rowOf_9 rfl (lv_at hl 0 rfl) ?_
  refine t_get (v := .int (nI (2 ^ w))) (C := RX0) (T := TX0) (N := 8) hx hb hts (by decide +kernel) hown hK hP hM_o rfl 3 (by decide) (hts (.fieldLink RX0 23 "ShadowBench$Board" "rowNumbers" "I") (by decide +kernel)) (fun _ h9 => h9) rfl dX0_rowOf_10 ?_
  have m_p_o := cb_pow hb_o
  have i_p_o : (nI (2 ^ w)).toInt = _ := nI_toInt (by omega)
  refine lv_iconst (v := 1) hx hb dX0_rowOf_13 (by decide) ?_
  refine lv_isub hx hb dX0_rowOf_14 ?_
  refine lv_topi (fun v14 e14 => ?_)
  refine lv_iand hx hb dX0_rowOf_15 ?_
  refine lv_topi (fun v15 e15 => ?_)
  exact W.iret (v := v15) hx hb hr (fun t ht hW => ⟨⟨_, (G, ws), rfl, ⟨rfl, (isRow_of (by omega) (by omega) e6 rfl e14 e15)⟩, by show va_P D vwCl ws t.heap; rw [ht]; exact hP, hD, hT⟩, hS.F ht⟩) hS.2.2 dX0_rowOf_16
set_option maxHeartbeats 4000000 in
set_option maxRecDepth 100000 in
theorem c_X0_rowsAreWhole_x (l : Launch) (D : va_G) (cy : Nat → ClassId) (A : Nat → Prop) (G : cG) (ws : va_W) (o : Nat) (p0 : Int64) {w h : Nat} (hD : va_D A ws) (hT : cT cy G ws) (hG_o : G o = some (2, w, h))  : Ci l D cy A yX0_rowsAreWhole wsX0_rowsAreWhole ({ frames := 1, cells := 0, slots := 0, locals := 23 }) 0 0 ws [.ref o, .long p0] (fun r0 u => u = (G, ws) ∧ (Bo r0 (rowsW w h p0))) := by
  refine Met.ofW (cc := cX0_rowsAreWhole) (maxL := 5) (ret := (some .boolean)) (by decide) rfl ?_
  intro p e s m args below meth c s₁ B hml hv
  obtain ⟨rfl, hP, hK, hA, hV⟩ := hv
  have hx := B.exec
  have hb := B.bytes
  have hr := B.returns
  have hts := atoms_spec (ws := wsX0_rowsAreWhole) B.pre
  have hown : s.vm.findClass RX0 = some m.cls := findClass_of_methodNamed B.named
  have hlocks := B.notSynchronized
  have hS : va_S A s.heap s.heap [] := va_S.rf
  have hl := lv_entry ([.ref o, .long p0]) (n := 5) (Nat.le_of_ble_eq_true rfl)
  rw [lg_entry_eq]
  generalize (lg_sl ([.ref o, .long p0]) ++ List.replicate (5 - (lg_sl ([.ref o, .long p0])).length) Slot.unset).toArray = ls at hl ⊢
  have hl : lv_has ls 5 [(0, .ref o), (1, .long p0)] := hl
  have k_0 : (0 : Int32).toInt = 0 := by decide
  have k_1 : (1 : Int32).toInt = 1 := by decide
  have hb9 := c_hb hT hG_o
  refine lv_iconst (v := 0) hx hb dX0_rowsAreWhole_0 (by decide) ?_
  refine lv_istore_n (lv' := [(3, .int (0 : Int32)), (0, .ref o), (1, .long p0)]) hx hb dX0_rowsAreWhole_1 rfl hl (by decide) rfl (fun ls hl => ?_)
  have loop_2 : ∀ (n : Nat) (k : Nat), (k ≤ h) → (∀ y, y < k → eB (rB w p0 y) w < 2) → h - k < n → ∀ (H : Heap) (locs : List Loc), va_P D vwCl ws H → va_S A s.heap H locs → ∀ (ls : Array Slot), lv_has ls 5 [(3, .int (nI k)), (0, .ref o), (1, .long p0)] → W p l e (headSpec wsX0_rowsAreWhole ({ frames := 1, cells := 0, slots := 0, locals := 23 })).room s m #[Value.ref o, Value.long p0] below meth c H locs 0 0 (MQ below (va_Qi (fun r0 u => u = (G, ws) ∧ (Bo r0 (rowsW w h p0))) (cB D cy A) A) #[Value.ref o, Value.long p0] s 0 0 A) (F0 m 2 ls []) := by
    intro n
    induction n with
    | zero => intro k j2_0 j2_1 hn; exact absurd hn (Nat.not_lt_zero _)
    | succ n ih_2 =>
      intro k j2_0 j2_1 hn_2 H locs hP hS  ls hl
      have ik : (nI k).toInt = (k : Int) := nI_toInt (by omega)
      refine lv_iload_n hx hb dX0_rowsAreWhole_2 rfl (lv_at hl 0 rfl) ?_
      refine lv_aload_n hx hb dX0_rowsAreWhole_3 rfl (lv_at hl 1 rfl) ?_
      obtain ⟨_, hM_o, hb_o, l_o, f_o, r_o, rfl, hG_l_o, hG_f_o, hG_r_o⟩ := hT _ _ hG_o
      refine t_get (v := .int (nI h)) (C := RX0) (T := TX0) (N := 8) hx hb hts (by decide +kernel) hown hK hP hM_o rfl 1 (by decide) (hts (.fieldLink RX0 17 "ShadowBench$Board" "high" "I") (by decide +kernel)) (fun _ h9 => h9) rfl dX0_rowsAreWhole_4 ?_
      have i_h_o : (nI h).toInt = _ := nI_toInt (by omega)
      refine lv_icmp_ge (tgt := 41) hx hb dX0_rowsAreWhole_7 (by decide) (fun c7 => ?_) (fun c7 => ?_)
      · skip
        have d7 := c7
        rw [fa_le] at d7
        refine lv_iconst (v := 1) hx hb dX0_rowsAreWhole_41 (by decide) ?_
        exact W.zret (v := (1 : Int32)) hx hb hr (by decide) (fun t ht hW => ⟨⟨_, (G, ws), rfl, ⟨rfl, Or.inl ⟨rfl, (fun y9 hy9 => j2_1 y9 (by omega))⟩⟩, by show va_P D vwCl ws t.heap; rw [ht]; exact hP, hD, hT⟩, hS.F ht⟩) hS.2.2 dX0_rowsAreWhole_42
      · skip
        have d7 := c7
        rw [fa_le] at d7
        refine lv_aload_n hx hb dX0_rowsAreWhole_10 rfl (lv_at hl 1 rfl) ?_
        refine lv_lload_n hx hb dX0_rowsAreWhole_11 rfl (lv_at hl 2 rfl) ?_
        refine lv_iload_n hx hb dX0_rowsAreWhole_12 rfl (lv_at hl 0 rfl) ?_
        refine t_calli (va_runV (g := F0 m 13 ls ([.int (nI k), .long p0, .ref o])) (As := [.long p0, .int (nI k)]) (rest := []) ⟨hx, hb, hml, hown, hts⟩ (c_X0_rowOf_x l D cy A G ws o p0 k hD hT hG_o (by omega)) (cwV 2 hts gX0_rowsAreWhole_X0_rowOf rfl rfl rfl (by decide +kernel) ⟨Nat.le_of_ble_eq_true rfl, Nat.le_of_ble_eq_true rfl⟩) (c_preV hM_o rfl hP hK hA hS hV) rfl rfl hl.1 rfl (lv_room (Nat.le_of_ble_eq_true rfl)) dX0_rowsAreWhole_13 ⟨Nat.le_of_ble_eq_true rfl, Nat.le_of_ble_eq_true rfl⟩) hS (fun r13 u H locs q13 hP9 hD9 hT9 hS => ?_)
        obtain ⟨rfl, q13⟩ := q13
        have hP : va_P D vwCl ws H := hP9
        refine lv_istore (lv' := [(4, .int r13), (3, .int (nI k)), (0, .ref o), (1, .long p0)]) hx hb dX0_rowsAreWhole_16 hl (by decide) rfl (fun ls hl => ?_)
        refine lv_iload hx hb dX0_rowsAreWhole_18 (lv_at hl 0 rfl) ?_
        refine lv_iload hx hb dX0_rowsAreWhole_20 (lv_at hl 0 rfl) ?_
        refine lv_iload hx hb dX0_rowsAreWhole_22 (lv_at hl 0 rfl) ?_
        refine lv_iload hx hb dX0_rowsAreWhole_24 (lv_at hl 0 rfl) ?_
        refine lv_ineg hx hb dX0_rowsAreWhole_26 ?_
        refine lv_topi (fun v26 e26 => ?_)
        refine lv_iand hx hb dX0_rowsAreWhole_27 ?_
        refine lv_topi (fun v27 e27 => ?_)
        refine lv_iadd hx hb dX0_rowsAreWhole_28 ?_
        refine lv_topi (fun v28 e28 => ?_)
        refine lv_iand hx hb dX0_rowsAreWhole_29 ?_
        refine lv_topi (fun v29 e29 => ?_)
        have hro := row_ok (by omega) q13 e26 e27 e28 e29
        refine lv_if_eq (tgt := 35) hx hb dX0_rowsAreWhole_30 (by decide) (fun c30 => ?_) (fun c30 => ?_)
        · skip
          have d30 := c30
          rw [fa_eq] at d30
          refine lv_iinc (v := (nI (k + 1))) (lv' := [(3, .int (nI (k + 1))), (4, .int r13), (0, .ref o), (1, .long p0)]) hx hb dX0_rowsAreWhole_35 hl (k := 1) rfl (nI_1 _) (by decide) rfl (fun ls hl => ?_)
          refine lv_goto (tgt := 2) hx hb dX0_rowsAreWhole_38 (by decide) ?_
          exact ih_2 (k + 1) (by omega) (fun y hy => by
            by_cases e9 : y = k
            · rw [e9]; exact hro.mp c30
            · exact j2_1 y (by omega)) (by omega) _ _ hP hS  ls (lv_sub hl [0, 2, 3] rfl)
        · skip
          have d30 := c30
          rw [fa_eq] at d30
          refine lv_iconst (v := 0) hx hb dX0_rowsAreWhole_33 (by decide) ?_
          exact W.zret (v := (0 : Int32)) hx hb hr (by decide) (fun t ht hW => ⟨⟨_, (G, ws), rfl, ⟨rfl, Or.inr ⟨rfl, (fun z9 => c30 (hro.mpr (z9 k (by omega))))⟩⟩, by show va_P D vwCl ws t.heap; rw [ht]; exact hP, hD, hT⟩, hS.F ht⟩) hS.2.2 dX0_rowsAreWhole_34
  exact loop_2 (h + 1) 0 (by omega) (fun y hy => absurd hy (Nat.not_lt_zero _)) (by omega) _ _ hP hS  ls (lv_sub hl [0, 1, 2] rfl)
set_option maxHeartbeats 4000000 in
set_option maxRecDepth 100000 in
theorem c_X0_columnsAreWhole_x (l : Launch) (D : va_G) (cy : Nat → ClassId) (A : Nat → Prop) (G : cG) (ws : va_W) (o : Nat) (p0 : Int64) {w h : Nat} (hD : va_D A ws) (hT : cT cy G ws) (hG_o : G o = some (2, w, h))  : Ci l D cy A yX0_columnsAreWhole wsX0_columnsAreWhole ({ frames := 1, cells := 0, slots := 0, locals := 23 }) 0 0 ws [.ref o, .long p0] (fun r0 u => u = (G, ws) ∧ (Bo r0 (colsW w h p0))) := by
  refine Met.ofW (cc := cX0_columnsAreWhole) (maxL := 7) (ret := (some .boolean)) (by decide) rfl ?_
  intro p e s m args below meth c s₁ B hml hv
  obtain ⟨rfl, hP, hK, hA, hV⟩ := hv
  have hx := B.exec
  have hb := B.bytes
  have hr := B.returns
  have hts := atoms_spec (ws := wsX0_columnsAreWhole) B.pre
  have hown : s.vm.findClass RX0 = some m.cls := findClass_of_methodNamed B.named
  have hlocks := B.notSynchronized
  have hS : va_S A s.heap s.heap [] := va_S.rf
  have hl := lv_entry ([.ref o, .long p0]) (n := 7) (Nat.le_of_ble_eq_true rfl)
  rw [lg_entry_eq]
  generalize (lg_sl ([.ref o, .long p0]) ++ List.replicate (7 - (lg_sl ([.ref o, .long p0])).length) Slot.unset).toArray = ls at hl ⊢
  have hl : lv_has ls 7 [(0, .ref o), (1, .long p0)] := hl
  have k_m1 : (-1 : Int32).toInt = -1 := by decide
  have k_0 : (0 : Int32).toInt = 0 := by decide
  have k_1 : (1 : Int32).toInt = 1 := by decide
  have hb9 := c_hb hT hG_o
  refine lv_iconst (v := 0) hx hb dX0_columnsAreWhole_0 (by decide) ?_
  refine lv_istore_n (lv' := [(3, .int (0 : Int32)), (0, .ref o), (1, .long p0)]) hx hb dX0_columnsAreWhole_1 rfl hl (by decide) rfl (fun ls hl => ?_)
  refine lv_iconst (v := 0) hx hb dX0_columnsAreWhole_2 (by decide) ?_
  refine lv_istore (lv' := [(4, .int (0 : Int32)), (3, .int (0 : Int32)), (0, .ref o), (1, .long p0)]) hx hb dX0_columnsAreWhole_3 hl (by decide) rfl (fun ls hl => ?_)
  refine lv_iconst (v := 0) hx hb dX0_columnsAreWhole_5 (by decide) ?_
  refine lv_istore (lv' := [(5, .int (0 : Int32)), (4, .int (0 : Int32)), (3, .int (0 : Int32)), (0, .ref o), (1, .long p0)]) hx hb dX0_columnsAreWhole_6 hl (by decide) rfl (fun ls hl => ?_)
  have loop_8 : ∀ (n : Nat) (k : Nat) (x4 : Int32) (x3 : Int32), (k ≤ h) → (cBeg w p0 k x3) → (cEnd w p0 k x4) → (cGood w p0 k) → h - k < n → ∀ (H : Heap) (locs : List Loc), va_P D vwCl ws H → va_S A s.heap H locs → ∀ (ls : Array Slot), lv_has ls 7 [(5, .int (nI k)), (4, .int x4), (3, .int x3), (0, .ref o), (1, .long p0)] → W p l e (headSpec wsX0_columnsAreWhole ({ frames := 1, cells := 0, slots := 0, locals := 23 })).room s m #[Value.ref o, Value.long p0] below meth c H locs 0 0 (MQ below (va_Qi (fun r0 u => u = (G, ws) ∧ (Bo r0 (colsW w h p0))) (cB D cy A) A) #[Value.ref o, Value.long p0] s 0 0 A) (F0 m 8 ls []) := by
    intro n
    induction n with
    | zero => intro k x4 x3 j8_0 j8_1 j8_2 j8_3 hn; exact absurd hn (Nat.not_lt_zero _)
    | succ n ih_8 =>
      intro k x4 x3 j8_0 j8_1 j8_2 j8_3 hn_8 H locs hP hS  ls hl
      have ik : (nI k).toInt = (k : Int) := nI_toInt (by omega)
      refine lv_iload hx hb dX0_columnsAreWhole_8 (lv_at hl 0 rfl) ?_
      refine lv_aload_n hx hb dX0_columnsAreWhole_10 rfl (lv_at hl 3 rfl) ?_
      obtain ⟨_, hM_o, hb_o, l_o, f_o, r_o, rfl, hG_l_o, hG_f_o, hG_r_o⟩ := hT _ _ hG_o
      refine t_get (v := .int (nI h)) (C := RX0) (T := TX0) (N := 8) hx hb hts (by decide +kernel) hown hK hP hM_o rfl 1 (by decide) (hts (.fieldLink RX0 17 "ShadowBench$Board" "high" "I") (by decide +kernel)) (fun _ h9 => h9) rfl dX0_columnsAreWhole_11 ?_
      have i_h_o : (nI h).toInt = _ := nI_toInt (by omega)
      refine lv_icmp_ge (tgt := 55) hx hb dX0_columnsAreWhole_14 (by decide) (fun c14 => ?_) (fun c14 => ?_)
      · skip
        have d14 := c14
        rw [fa_le] at d14
        refine lv_iconst (v := 1) hx hb dX0_columnsAreWhole_55 (by decide) ?_
        exact W.zret (v := (1 : Int32)) hx hb hr (by decide) (fun t ht hW => ⟨⟨_, (G, ws), rfl, ⟨rfl, Or.inl ⟨rfl, (by obtain rfl : k = h := (by omega); exact j8_3)⟩⟩, by show va_P D vwCl ws t.heap; rw [ht]; exact hP, hD, hT⟩, hS.F ht⟩) hS.2.2 dX0_columnsAreWhole_56
      · skip
        have d14 := c14
        rw [fa_le] at d14
        refine lv_aload_n hx hb dX0_columnsAreWhole_17 rfl (lv_at hl 3 rfl) ?_
        refine lv_lload_n hx hb dX0_columnsAreWhole_18 rfl (lv_at hl 4 rfl) ?_
        refine lv_iload hx hb dX0_columnsAreWhole_19 (lv_at hl 0 rfl) ?_
        refine t_calli (va_runV (g := F0 m 21 ls ([.int (nI k), .long p0, .ref o])) (As := [.long p0, .int (nI k)]) (rest := []) ⟨hx, hb, hml, hown, hts⟩ (c_X0_rowOf_x l D cy A G ws o p0 k hD hT hG_o (by omega)) (cwV 2 hts gX0_columnsAreWhole_X0_rowOf rfl rfl rfl (by decide +kernel) ⟨Nat.le_of_ble_eq_true rfl, Nat.le_of_ble_eq_true rfl⟩) (c_preV hM_o rfl hP hK hA hS hV) rfl rfl hl.1 rfl (lv_room (Nat.le_of_ble_eq_true rfl)) dX0_columnsAreWhole_21 ⟨Nat.le_of_ble_eq_true rfl, Nat.le_of_ble_eq_true rfl⟩) hS (fun r21 u H locs q21 hP9 hD9 hT9 hS => ?_)
        obtain ⟨rfl, q21⟩ := q21
        have hP : va_P D vwCl ws H := hP9
        refine lv_istore (lv' := [(6, .int r21), (5, .int (nI k)), (4, .int x4), (3, .int x3), (0, .ref o), (1, .long p0)]) hx hb dX0_columnsAreWhole_24 hl (by decide) rfl (fun ls hl => ?_)
        refine lv_iload hx hb dX0_columnsAreWhole_26 (lv_at hl 0 rfl) ?_
        refine lv_iload hx hb dX0_columnsAreWhole_28 (lv_at hl 2 rfl) ?_
        refine lv_iand hx hb dX0_columnsAreWhole_30 ?_
        refine lv_topi (fun v30 e30 => ?_)
        refine lv_if_eq (tgt := 36) hx hb dX0_columnsAreWhole_31 (by decide) (fun c31 => ?_) (fun c31 => ?_)
        · skip
          have d31 := c31
          rw [fa_eq] at d31
          refine lv_iload_n hx hb dX0_columnsAreWhole_36 rfl (lv_at hl 3 rfl) ?_
          refine lv_iload hx hb dX0_columnsAreWhole_37 (lv_at hl 0 rfl) ?_
          refine lv_ior hx hb dX0_columnsAreWhole_39 ?_
          refine lv_topi (fun v39 e39 => ?_)
          refine lv_istore_n (lv' := [(3, .int v39), (6, .int r21), (5, .int (nI k)), (4, .int x4), (0, .ref o), (1, .long p0)]) hx hb dX0_columnsAreWhole_40 rfl hl (by decide) rfl (fun ls hl => ?_)
          refine lv_iload_n hx hb dX0_columnsAreWhole_41 rfl (lv_at hl 0 rfl) ?_
          refine lv_iload hx hb dX0_columnsAreWhole_42 (lv_at hl 1 rfl) ?_
          refine lv_iconst (v := (-1)) hx hb dX0_columnsAreWhole_44 (by decide) ?_
          refine lv_ixor hx hb dX0_columnsAreWhole_45 ?_
          refine lv_topi (fun v45 e45 => ?_)
          refine lv_iand hx hb dX0_columnsAreWhole_46 ?_
          refine lv_topi (fun v46 e46 => ?_)
          have hbg := c_beg j8_1 q21 e39
          have hen := c_end hbg q21 e45 e46
          have hgo := c_go j8_3 j8_2 q21 (by omega) e30 c31
          refine lv_istore (lv' := [(4, .int v46), (3, .int v39), (6, .int r21), (5, .int (nI k)), (0, .ref o), (1, .long p0)]) hx hb dX0_columnsAreWhole_47 hl (by decide) rfl (fun ls hl => ?_)
          refine lv_iinc (v := (nI (k + 1))) (lv' := [(5, .int (nI (k + 1))), (4, .int v46), (3, .int v39), (6, .int r21), (0, .ref o), (1, .long p0)]) hx hb dX0_columnsAreWhole_49 hl (k := 3) rfl (nI_1 _) (by decide) rfl (fun ls hl => ?_)
          refine lv_goto (tgt := 8) hx hb dX0_columnsAreWhole_52 (by decide) ?_
          exact ih_8 (k + 1) v46 v39 (by omega) (hbg) (hen) (hgo) (by omega) _ _ hP hS  ls (lv_sub hl [0, 1, 2, 4, 5] rfl)
        · skip
          have d31 := c31
          rw [fa_eq] at d31
          refine lv_iconst (v := 0) hx hb dX0_columnsAreWhole_34 (by decide) ?_
          exact W.zret (v := (0 : Int32)) hx hb hr (by decide) (fun t ht hW => ⟨⟨_, (G, ws), rfl, ⟨rfl, Or.inr ⟨rfl, (c_no j8_2 q21 (by omega) e30 c31 (by omega))⟩⟩, by show va_P D vwCl ws t.heap; rw [ht]; exact hP, hD, hT⟩, hS.F ht⟩) hS.2.2 dX0_columnsAreWhole_35
  exact loop_8 (h + 1) 0 (0 : Int32) (0 : Int32) (by omega) ((c_0 w p0).1) ((c_0 w p0).2.1) ((c_0 w p0).2.2) (by omega) _ _ hP hS  ls (lv_sub hl [0, 1, 2, 3, 4] rfl)
set_option maxHeartbeats 4000000 in
set_option maxRecDepth 100000 in
theorem c_X9_even_x (l : Launch) (D : va_G) (cy : Nat → ClassId) (A : Nat → Prop) (G : cG) (ws : va_W) (o : Nat) (wide : Int32) (high : Int32) (p0 : Int64) (col : Int32)  (hD : va_D A ws) (hT : cT cy G ws) (hG_o : G o = some (7, 0, 0))  : Ci l D cy A yX9_even wsX9_even ({ frames := 5, cells := 4, slots := 502, locals := 116 }) 4 502 ws [.ref o, .int wide, .int high, .long p0, .int col] (fun r0 u => cX none (chs [1, 8]) G ws u.1 u.2 ∧ (evA wide high p0 col r0)) := by
  refine Met.ofW (cc := cX9_even) (maxL := 8) (ret := (some .int)) (by decide) rfl ?_
  intro p e s m args below meth c s₁ B hml hv
  obtain ⟨rfl, hP, hK, hA, hV⟩ := hv
  have hx := B.exec
  have hb := B.bytes
  have hr := B.returns
  have hts := atoms_spec (ws := wsX9_even) B.pre
  have hown : s.vm.findClass RX9 = some m.cls := findClass_of_methodNamed B.named
  have hlocks := B.notSynchronized
  have hS : va_S A s.heap s.heap [] := va_S.rf
  have hX : cX none (chs [1, 8]) G ws G ws := cX.rf
  have hl := lv_entry ([.ref o, .int wide, .int high, .long p0, .int col]) (n := 8) (Nat.le_of_ble_eq_true rfl)
  rw [lg_entry_eq]
  generalize (lg_sl ([.ref o, .int wide, .int high, .long p0, .int col]) ++ List.replicate (8 - (lg_sl ([.ref o, .int wide, .int high, .long p0, .int col])).length) Slot.unset).toArray = ls at hl ⊢
  have hl : lv_has ls 8 [(0, .ref o), (1, .int wide), (2, .int high), (3, .long p0), (5, .int col)] := hl
  have k_m1 : (-1 : Int32).toInt = -1 := by decide
  have k_0 : (0 : Int32).toInt = 0 := by decide
  have k_1 : (1 : Int32).toInt = 1 := by decide
  refine lv_aload_n hx hb dX9_even_0 rfl (lv_at hl 0 rfl) ?_
  refine lv_iload_n hx hb dX9_even_1 rfl (lv_at hl 1 rfl) ?_
  refine lv_iload_n hx hb dX9_even_2 rfl (lv_at hl 2 rfl) ?_
  obtain ⟨_, hM_o, bs_o, js_o, sh_o, wk_o, ll_o, jc_o, lc_o, mo_o, lb_o, rfl, hjc_o, hlc_o, hG_bs_o, hG_js_o, hG_sh_o, hG_wk_o, hmo_o, hG_ll_o, hlb_o⟩ := hT _ _ hG_o
  refine t_calla (va_runV (g := F0 m 3 ls ([.int high, .int wide, .ref o])) (As := [.int wide, .int high]) (rest := []) ⟨hx, hb, hml, hown, hts⟩ (c_X9_boardOf_x l D cy A G ws o wide high hD hT hG_o ) (cwV 2 hts gX9_even_X9_boardOf rfl rfl rfl (by decide +kernel) ⟨Nat.le_of_ble_eq_true rfl, Nat.le_of_ble_eq_true rfl⟩) (c_preV hM_o rfl hP hK hA hS hV) rfl rfl hl.1 rfl (lv_room (Nat.le_of_ble_eq_true rfl)) dX9_even_3 ⟨Nat.le_of_ble_eq_true rfl, Nat.le_of_ble_eq_true rfl⟩) hS (fun r3 u H locs q3 hP9 hD9 hT9 hS => ?_)
  obtain ⟨G3, w3⟩ := u
  obtain ⟨hX9, q3⟩ := q3
  have hX9 : cX none (chs [1, 8]) G ws G3 w3 := hX9
  have hP : va_P D vwCl w3 H := hP9
  have hD : va_D A w3 := hD9
  have hT : cT cy G3 w3 := hT9
  have hM_o := hX9.2.1 _ _ (cP.no hG_o rfl) hM_o
  have hG_o := hX9.1 _ _ hG_o
  have hG_bs_o := hX9.1 _ _ hG_bs_o
  have hG_js_o := hX9.1 _ _ hG_js_o
  have hG_sh_o := hX9.1 _ _ hG_sh_o
  have hG_wk_o := hX9.1 _ _ hG_wk_o
  have hG_ll_o := hX9.1 _ _ hG_ll_o
  have hX := hX.tr hX9
  rcases r3 with _ | x3
  · skip
    have vn3 := q3.2.1 rfl
    refine lv_astoreN (lv' := [(6, .null), (0, .ref o), (1, .int wide), (2, .int high), (3, .long p0), (5, .int col)]) hx hb dX9_even_6 hl (by decide) rfl (fun ls hl => ?_)
    refine lv_aloadN hx hb dX9_even_8 (lv_at hl 0 rfl) ?_
    refine lv_ifnullN (tgt := 22) hx hb dX9_even_10 (by decide) ?_
    refine lv_iconst (v := (-1)) hx hb dX9_even_22 (by decide) ?_
    refine W.widen (k := 4) (n := 502) (Nat.le_of_ble_eq_true rfl) (Nat.le_of_ble_eq_true rfl) ?_
    exact W.iret (v := ((-1) : Int32)) hx hb hr (fun t ht hW => ⟨⟨_, (G3, w3), rfl, ⟨hX, (Or.inr ⟨(fun z9 => by first | exact vn3 z9.1 | exact b19 z9.2), rfl⟩)⟩, by show va_P D vwCl w3 t.heap; rw [ht]; exact hP, hD, hT⟩, hS.F ht⟩) hS.2.2 dX9_even_23
  · skip
    have hG_x3 := q3.1 x3 rfl
    have vb3 := q3.2.2 x3 rfl
    refine lv_astore (lv' := [(6, .ref x3), (0, .ref o), (1, .int wide), (2, .int high), (3, .long p0), (5, .int col)]) hx hb dX9_even_6 hl (by decide) rfl (fun ls hl => ?_)
    refine lv_aload hx hb dX9_even_8 (lv_at hl 0 rfl) ?_
    refine lv_ifnull hx hb dX9_even_10 ?_
    refine lv_aload hx hb dX9_even_13 (lv_at hl 0 rfl) ?_
    refine lv_lload_n hx hb dX9_even_15 rfl (lv_at hl 4 rfl) ?_
    obtain ⟨_, hM_x3, hb_x3, l_x3, f_x3, r_x3, rfl, hG_l_x3, hG_f_x3, hG_r_x3⟩ := hT _ _ hG_x3
    refine t_calli (va_runV (g := F0 m 16 ls ([.long p0, .ref x3])) (As := [.long p0]) (rest := []) ⟨hx, hb, hml, hown, hts⟩ (c_X0_isPicture_x l D cy A G3 w3 x3 p0 hD hT hG_x3 ) (cwV 1 hts gX9_even_X0_isPicture rfl rfl rfl (by decide +kernel) ⟨Nat.le_of_ble_eq_true rfl, Nat.le_of_ble_eq_true rfl⟩) (c_preV hM_x3 rfl hP hK hA hS hV) rfl rfl hl.1 rfl (lv_room (Nat.le_of_ble_eq_true rfl)) dX9_even_16 ⟨Nat.le_of_ble_eq_true rfl, Nat.le_of_ble_eq_true rfl⟩) hS (fun r16 u H locs q16 hP9 hD9 hT9 hS => ?_)
    obtain ⟨rfl, q16⟩ := q16
    have hP : va_P D vwCl w3 H := hP9
    refine lv_if_ne (tgt := 24) hx hb dX9_even_19 (by decide) (fun c19 => ?_) (fun c19 => ?_)
    · skip
      have b19 := bo_t q16 c19
      refine lv_iload hx hb dX9_even_24 (lv_at hl 5 rfl) ?_
      refine lv_if_eq (tgt := 38) hx hb dX9_even_26 (by decide) (fun c26 => ?_) (fun c26 => ?_)
      · skip
        have d26 := c26
        rw [fa_eq] at d26
        refine lv_aload hx hb dX9_even_38 (lv_at hl 0 rfl) ?_
        refine lv_lload_n hx hb dX9_even_40 rfl (lv_at hl 4 rfl) ?_
        refine t_calli (va_runV (g := F0 m 41 ls ([.long p0, .ref x3])) (As := [.long p0]) (rest := []) ⟨hx, hb, hml, hown, hts⟩ (c_X0_rowsAreWhole_x l D cy A G3 w3 x3 p0 hD hT hG_x3 ) (cwV 1 hts gX9_even_X0_rowsAreWhole rfl rfl rfl (by decide +kernel) ⟨Nat.le_of_ble_eq_true rfl, Nat.le_of_ble_eq_true rfl⟩) (c_preV hM_x3 rfl hP hK hA hS hV) rfl rfl hl.1 rfl (lv_room (Nat.le_of_ble_eq_true rfl)) dX9_even_41 ⟨Nat.le_of_ble_eq_true rfl, Nat.le_of_ble_eq_true rfl⟩) hS (fun r41 u H locs q41 hP9 hD9 hT9 hS => ?_)
        obtain ⟨rfl, q41⟩ := q41
        have hP : va_P D vwCl w3 H := hP9
        refine lv_istore (lv' := [(7, .int r41), (6, .ref x3), (0, .ref o), (1, .int wide), (2, .int high), (3, .long p0), (5, .int col)]) hx hb dX9_even_44 hl (by decide) rfl (fun ls hl => ?_)
        refine lv_iload hx hb dX9_even_46 (lv_at hl 0 rfl) ?_
        refine lv_if_eq (tgt := 55) hx hb dX9_even_48 (by decide) (fun c48 => ?_) (fun c48 => ?_)
        · skip
          have b48 := bo_f q41 c48
          refine lv_iconst (v := 0) hx hb dX9_even_55 (by decide) ?_
          refine W.widen (k := 4) (n := 502) (Nat.le_of_ble_eq_true rfl) (Nat.le_of_ble_eq_true rfl) ?_
          exact W.iret (v := (0 : Int32)) hx hb hr (fun t ht hW => ⟨⟨_, (G3, w3), rfl, ⟨hX, (Or.inl ⟨⟨vb3, b19⟩, Or.inr ⟨rfl, (by first | (rw [if_neg c26]; exact b48) | (rw [if_pos c26]; exact b48))⟩⟩)⟩, by show va_P D vwCl w3 t.heap; rw [ht]; exact hP, hD, hT⟩, hS.F ht⟩) hS.2.2 dX9_even_56
        · skip
          have b48 := bo_t q41 c48
          refine lv_iconst (v := 1) hx hb dX9_even_51 (by decide) ?_
          refine lv_goto (tgt := 56) hx hb dX9_even_52 (by decide) ?_
          refine W.widen (k := 4) (n := 502) (Nat.le_of_ble_eq_true rfl) (Nat.le_of_ble_eq_true rfl) ?_
          exact W.iret (v := (1 : Int32)) hx hb hr (fun t ht hW => ⟨⟨_, (G3, w3), rfl, ⟨hX, (Or.inl ⟨⟨vb3, b19⟩, Or.inl ⟨rfl, (by first | (rw [if_neg c26]; exact b48) | (rw [if_pos c26]; exact b48))⟩⟩)⟩, by show va_P D vwCl w3 t.heap; rw [ht]; exact hP, hD, hT⟩, hS.F ht⟩) hS.2.2 dX9_even_56
      · skip
        have d26 := c26
        rw [fa_eq] at d26
        refine lv_aload hx hb dX9_even_29 (lv_at hl 0 rfl) ?_
        refine lv_lload_n hx hb dX9_even_31 rfl (lv_at hl 4 rfl) ?_
        refine t_calli (va_runV (g := F0 m 32 ls ([.long p0, .ref x3])) (As := [.long p0]) (rest := []) ⟨hx, hb, hml, hown, hts⟩ (c_X0_columnsAreWhole_x l D cy A G3 w3 x3 p0 hD hT hG_x3 ) (cwV 1 hts gX9_even_X0_columnsAreWhole rfl rfl rfl (by decide +kernel) ⟨Nat.le_of_ble_eq_true rfl, Nat.le_of_ble_eq_true rfl⟩) (c_preV hM_x3 rfl hP hK hA hS hV) rfl rfl hl.1 rfl (lv_room (Nat.le_of_ble_eq_true rfl)) dX9_even_32 ⟨Nat.le_of_ble_eq_true rfl, Nat.le_of_ble_eq_true rfl⟩) hS (fun r32 u H locs q32 hP9 hD9 hT9 hS => ?_)
        obtain ⟨rfl, q32⟩ := q32
        have hP : va_P D vwCl w3 H := hP9
        refine lv_goto (tgt := 44) hx hb dX9_even_35 (by decide) ?_
        refine lv_istore (lv' := [(7, .int r32), (6, .ref x3), (0, .ref o), (1, .int wide), (2, .int high), (3, .long p0), (5, .int col)]) hx hb dX9_even_44 hl (by decide) rfl (fun ls hl => ?_)
        refine lv_iload hx hb dX9_even_46 (lv_at hl 0 rfl) ?_
        refine lv_if_eq (tgt := 55) hx hb dX9_even_48 (by decide) (fun c48 => ?_) (fun c48 => ?_)
        · skip
          have b48 := bo_f q32 c48
          refine lv_iconst (v := 0) hx hb dX9_even_55 (by decide) ?_
          refine W.widen (k := 4) (n := 502) (Nat.le_of_ble_eq_true rfl) (Nat.le_of_ble_eq_true rfl) ?_
          exact W.iret (v := (0 : Int32)) hx hb hr (fun t ht hW => ⟨⟨_, (G3, w3), rfl, ⟨hX, (Or.inl ⟨⟨vb3, b19⟩, Or.inr ⟨rfl, (by first | (rw [if_neg c26]; exact b48) | (rw [if_pos c26]; exact b48))⟩⟩)⟩, by show va_P D vwCl w3 t.heap; rw [ht]; exact hP, hD, hT⟩, hS.F ht⟩) hS.2.2 dX9_even_56
        · skip
          have b48 := bo_t q32 c48
          refine lv_iconst (v := 1) hx hb dX9_even_51 (by decide) ?_
          refine lv_goto (tgt := 56) hx hb dX9_even_52 (by decide) ?_
          refine W.widen (k := 4) (n := 502) (Nat.le_of_ble_eq_true rfl) (Nat.le_of_ble_eq_true rfl) ?_
          exact W.iret (v := (1 : Int32)) hx hb hr (fun t ht hW => ⟨⟨_, (G3, w3), rfl, ⟨hX, (Or.inl ⟨⟨vb3, b19⟩, Or.inl ⟨rfl, (by first | (rw [if_neg c26]; exact b48) | (rw [if_pos c26]; exact b48))⟩⟩)⟩, by show va_P D vwCl w3 t.heap; rw [ht]; exact hP, hD, hT⟩, hS.F ht⟩) hS.2.2 dX9_even_56
    · skip
      have b19 := bo_f q16 c19
      refine lv_iconst (v := (-1)) hx hb dX9_even_22 (by decide) ?_
      refine W.widen (k := 4) (n := 502) (Nat.le_of_ble_eq_true rfl) (Nat.le_of_ble_eq_true rfl) ?_
      exact W.iret (v := ((-1) : Int32)) hx hb hr (fun t ht hW => ⟨⟨_, (G3, w3), rfl, ⟨hX, (Or.inr ⟨(fun z9 => by first | exact vn3 z9.1 | exact b19 z9.2), rfl⟩)⟩, by show va_P D vwCl w3 t.heap; rw [ht]; exact hP, hD, hT⟩, hS.F ht⟩) hS.2.2 dX9_even_23
set_option maxHeartbeats 4000000 in
set_option maxRecDepth 100000 in
theorem c_X10_isEven_x (l : Launch) (w : Int32) (h : Int32) (p0 : Int64) (col : Int32) (hw : 1 ≤ w.toInt ∧ w.toInt ≤ 6) (hh : 1 ≤ h.toInt ∧ h.toInt ≤ 6) : Pu l yX10_isEven wsX10_isEven ({ frames := 1, cells := 0, slots := 0, locals := 22 }) [.int w, .int h, .long p0, .int col] (fun r => Bo r (if col = 0 then rowsW w.toNatClampNeg h.toNatClampNeg p0 else colsW w.toNatClampNeg h.toNatClampNeg p0)) := by
  refine Met.ofW (cc := cX10_isEven) (maxL := 13) (ret := (some .boolean)) (by decide) rfl ?_
  intro p e s m args below meth c s₁ B hml hv
  obtain ⟨rfl, -⟩ := hv
  have hx := B.exec
  have hb := B.bytes
  have hr := B.returns
  have hts := atoms_spec (ws := wsX10_isEven) B.pre
  have hown : s.vm.findClass RX10 = some m.cls := findClass_of_methodNamed B.named
  have hlocks := B.notSynchronized
  have hS : va_S (fun _ => False) s.heap s.heap [] := va_S.rf
  have hl := lv_entry ([.int w, .int h, .long p0, .int col]) (n := 13) (Nat.le_of_ble_eq_true rfl)
  rw [lg_entry_eq]
  generalize (lg_sl ([.int w, .int h, .long p0, .int col]) ++ List.replicate (13 - (lg_sl ([.int w, .int h, .long p0, .int col])).length) Slot.unset).toArray = ls at hl ⊢
  have hl : lv_has ls 13 [(0, .int w), (1, .int h), (2, .long p0), (4, .int col)] := hl
  have hS0 := hS
  have k_0 : (0 : Int32).toInt = 0 := by decide
  have k_1 : (1 : Int32).toInt = 1 := by decide
  have k_2 : (2 : Int32).toInt = 2 := by decide
  obtain ⟨ha, hb9, h36, hwh⟩ := wh36 hw hh
  have ew := cl_nI (w := w) (by omega)
  have eh := cl_nI (w := h) (by omega)
  obtain ⟨A9, hA9⟩ : ∃ z, z = w.toNatClampNeg := ⟨_, rfl⟩
  obtain ⟨B9, hB9⟩ : ∃ z, z = h.toNatClampNeg := ⟨_, rfl⟩
  rw [← hA9] at ha h36 hwh ew
  rw [← hB9] at hb9 h36 hwh eh
  have aw : w.toInt = (A9 : Int) := by rw [← ew]; exact nI_toInt (by omega)
  have ah : h.toInt = (B9 : Int) := by rw [← eh]; exact nI_toInt (by omega)
  refine lv_iload hx hb dX10_isEven_0 (lv_at hl 3 rfl) ?_
  refine lv_if_eq (tgt := 9) hx hb dX10_isEven_2 (by decide) (fun c2 => ?_) (fun c2 => ?_)
  · skip
    have d2 := c2
    rw [fa_eq] at d2
    refine lv_iload_n hx hb dX10_isEven_9 rfl (lv_at hl 1 rfl) ?_
    refine lv_istore (lv' := [(5, .int h), (0, .int w), (1, .int h), (2, .long p0), (4, .int col)]) hx hb dX10_isEven_10 hl (by decide) rfl (fun ls hl => ?_)
    refine lv_iload hx hb dX10_isEven_12 (lv_at hl 4 rfl) ?_
    refine lv_if_eq (tgt := 21) hx hb dX10_isEven_14 (by decide) (fun c14 => ?_) (fun c14 => ?_)
    · skip
      have d14 := c14
      rw [fa_eq] at d14
      refine lv_iload_n hx hb dX10_isEven_21 rfl (lv_at hl 1 rfl) ?_
      refine lv_istore (lv' := [(6, .int w), (5, .int h), (0, .int w), (1, .int h), (2, .long p0), (4, .int col)]) hx hb dX10_isEven_22 hl (by decide) rfl (fun ls hl => ?_)
      first | have hE : eLin A9 B9 col = B9 ∧ eMany A9 B9 col = A9 := (by unfold eLin eMany; rw [if_pos c2, if_pos c2]; exact ⟨rfl, rfl⟩) | have hE : eLin A9 B9 col = A9 ∧ eMany A9 B9 col = B9 := (by unfold eLin eMany; rw [if_neg c2, if_neg c2]; exact ⟨rfl, rfl⟩)
      refine lv_iconst (v := 1) hx hb dX10_isEven_24 (by decide) ?_
      refine lv_istore (lv' := [(7, .int (1 : Int32)), (6, .int w), (5, .int h), (0, .int w), (1, .int h), (2, .long p0), (4, .int col)]) hx hb dX10_isEven_25 hl (by decide) rfl (fun ls hl => ?_)
      refine lv_iconst (v := 0) hx hb dX10_isEven_27 (by decide) ?_
      refine lv_istore (lv' := [(8, .int (0 : Int32)), (7, .int (1 : Int32)), (6, .int w), (5, .int h), (0, .int w), (1, .int h), (2, .long p0), (4, .int col)]) hx hb dX10_isEven_28 hl (by decide) rfl (fun ls hl => ?_)
      have loop_30 : ∀ (n : Nat) (k : Nat) (x7 : Int32), (k ≤ eLin A9 B9 col) → ((x7 = 1 ∧ ∀ l, l < k → eB (eS A9 p0 col l) (eMany A9 B9 col) < 2) ∨ (x7 = 0 ∧ ¬ ∀ l, l < k → eB (eS A9 p0 col l) (eMany A9 B9 col) < 2)) → 7 - k < n → ∀ (H : Heap) (locs : List Loc), va_S (fun _ => False) s.heap H locs → ∀ (ls : Array Slot), lv_has ls 13 [(8, .int (nI k)), (7, .int x7), (6, .int w), (5, .int h), (0, .int w), (1, .int h), (2, .long p0), (4, .int col)] → W p l e (headSpec wsX10_isEven ({ frames := 1, cells := 0, slots := 0, locals := 22 })).room s m #[Value.int w, Value.int h, Value.long p0, Value.int col] below meth c H locs 0 0 (MQ below (va_Qi (fun r (_ : Unit) => Bo r (if col = 0 then rowsW w.toNatClampNeg h.toNatClampNeg p0 else colsW w.toNatClampNeg h.toNatClampNeg p0)) (fun _ _ => True) (fun _ => False)) #[Value.int w, Value.int h, Value.long p0, Value.int col] s 0 0 (fun _ => False)) (F0 m 30 ls []) := by
        intro n
        induction n with
        | zero => intro k x7 j30_0 j30_1 hn; exact absurd hn (Nat.not_lt_zero _)
        | succ n ih_30 =>
          intro k x7 j30_0 j30_1 hn_30 H locs hS ls hl
          have hlk : k ≤ 6 := by omega
          have ik : (nI k).toInt = (k : Int) := nI_toInt (by omega)
          refine lv_iload hx hb dX10_isEven_30 (lv_at hl 0 rfl) ?_
          refine lv_iload hx hb dX10_isEven_32 (lv_at hl 3 rfl) ?_
          refine lv_icmp_ge (tgt := 136) hx hb dX10_isEven_34 (by decide) (fun c34 => ?_) (fun c34 => ?_)
          · skip
            have d34 := c34
            rw [fa_le] at d34
            refine lv_iload hx hb dX10_isEven_136 (lv_at hl 1 rfl) ?_
            exact W.zret (v := x7) hx hb hr (by first | decide | (rcases j30_1 with ⟨z, _⟩ | ⟨z, _⟩ <;> rw [z] <;> rfl)) (fun t ht hW => ⟨⟨_, (), rfl, (by rw [← hA9, ← hB9]; have z9 : k = eLin A9 B9 col := (by omega); subst z9; rcases j30_1 with ⟨z, y⟩ | ⟨z, y⟩; exact Or.inl ⟨z, e_all.mp y⟩; exact Or.inr ⟨z, fun u => y (e_all.mpr u)⟩), trivial⟩, hS.F ht⟩) hS.2.2 dX10_isEven_138
          · skip
            have d34 := c34
            rw [fa_le] at d34
            refine lv_iconst (v := 0) hx hb dX10_isEven_37 (by decide) ?_
            refine lv_istore (lv' := [(9, .int (0 : Int32)), (8, .int (nI k)), (7, .int x7), (6, .int w), (5, .int h), (0, .int w), (1, .int h), (2, .long p0), (4, .int col)]) hx hb dX10_isEven_38 hl (by decide) rfl (fun ls hl => ?_)
            refine lv_iconst (v := 0) hx hb dX10_isEven_40 (by decide) ?_
            refine lv_istore (lv' := [(10, .int (0 : Int32)), (9, .int (0 : Int32)), (8, .int (nI k)), (7, .int x7), (6, .int w), (5, .int h), (0, .int w), (1, .int h), (2, .long p0), (4, .int col)]) hx hb dX10_isEven_41 hl (by decide) rfl (fun ls hl => ?_)
            refine lv_iconst (v := 0) hx hb dX10_isEven_43 (by decide) ?_
            refine lv_istore (lv' := [(11, .int (0 : Int32)), (10, .int (0 : Int32)), (9, .int (0 : Int32)), (8, .int (nI k)), (7, .int x7), (6, .int w), (5, .int h), (0, .int w), (1, .int h), (2, .long p0), (4, .int col)]) hx hb dX10_isEven_44 hl (by decide) rfl (fun ls hl => ?_)
            have loop_46 : ∀ (n : Nat) (i : Nat) (x10 : Int32) (x9 : Int32), (i ≤ eMany A9 B9 col) → (x9 = nI (eB (eS A9 p0 col k) i)) → (x10 = if eL (eS A9 p0 col k) i then 1 else 0) → 7 - i < n → ∀ (H : Heap) (locs : List Loc), va_S (fun _ => False) s.heap H locs → ∀ (ls : Array Slot), lv_has ls 13 [(11, .int (nI i)), (10, .int x10), (9, .int x9), (8, .int (nI k)), (7, .int x7), (6, .int w), (5, .int h), (0, .int w), (1, .int h), (2, .long p0), (4, .int col)] → W p l e (headSpec wsX10_isEven ({ frames := 1, cells := 0, slots := 0, locals := 22 })).room s m #[Value.int w, Value.int h, Value.long p0, Value.int col] below meth c H locs 0 0 (MQ below (va_Qi (fun r (_ : Unit) => Bo r (if col = 0 then rowsW w.toNatClampNeg h.toNatClampNeg p0 else colsW w.toNatClampNeg h.toNatClampNeg p0)) (fun _ _ => True) (fun _ => False)) #[Value.int w, Value.int h, Value.long p0, Value.int col] s 0 0 (fun _ => False)) (F0 m 46 ls []) := by
              intro n
              induction n with
              | zero => intro i x10 x9 j46_0 j46_1 j46_2 hn; exact absurd hn (Nat.not_lt_zero _)
              | succ n ih_46 =>
                intro i x10 x9 j46_0 j46_1 j46_2 hn_46 H locs hS ls hl
                have hli : i ≤ 6 := by omega
                have ii : (nI i).toInt = (i : Int) := nI_toInt (by omega)
                refine lv_iload hx hb dX10_isEven_46 (lv_at hl 0 rfl) ?_
                refine lv_iload hx hb dX10_isEven_48 (lv_at hl 5 rfl) ?_
                refine lv_icmp_ge (tgt := 112) hx hb dX10_isEven_50 (by decide) (fun c50 => ?_) (fun c50 => ?_)
                · skip
                  have d50 := c50
                  rw [fa_le] at d50
                  have him : i = eMany A9 B9 col := by omega
                  have ibe : x9.toInt = (eB (eS A9 p0 col k) (eMany A9 B9 col) : Int) := by rw [j46_1, ← him]; exact nI_toInt (by have := eB_b (eS A9 p0 col k) i; omega)
                  refine lv_iload hx hb dX10_isEven_112 (lv_at hl 4 rfl) ?_
                  refine lv_if_eq (tgt := 127) hx hb dX10_isEven_114 (by decide) (fun c114 => ?_) (fun c114 => ?_)
                  · skip
                    have d114 := c114
                    rw [fa_eq] at d114
                    refine lv_iconst (v := 0) hx hb dX10_isEven_127 (by decide) ?_
                    refine lv_istore (lv' := [(7, .int (0 : Int32)), (11, .int (nI i)), (10, .int x10), (9, .int x9), (8, .int (nI k)), (6, .int w), (5, .int h), (0, .int w), (1, .int h), (2, .long p0), (4, .int col)]) hx hb dX10_isEven_128 hl (by decide) rfl (fun ls hl => ?_)
                    refine lv_iinc (v := (nI (k + 1))) (lv' := [(8, .int (nI (k + 1))), (7, .int (0 : Int32)), (11, .int (nI i)), (10, .int x10), (9, .int x9), (6, .int w), (5, .int h), (0, .int w), (1, .int h), (2, .long p0), (4, .int col)]) hx hb dX10_isEven_130 hl (k := 4) rfl (nI_1 _) (by decide) rfl (fun ls hl => ?_)
                    refine lv_goto (tgt := 30) hx hb dX10_isEven_133 (by decide) ?_
                    exact ih_30 (k + 1) (0 : Int32) (by omega) (by
            first
            | exact Or.inl ⟨rfl, fun l hl => by
                by_cases e9 : l = k
                · rw [e9]; omega
                · rcases j30_1 with ⟨_, y⟩ | ⟨z, _⟩
                  · exact y l (by omega)
                  · exact absurd z c114⟩
            | exact Or.inr ⟨rfl, fun u => by have := u k (by omega); omega⟩
            | exact Or.inr ⟨rfl, fun u => by rcases j30_1 with ⟨z, _⟩ | ⟨_, y⟩; exact absurd (z.symm.trans c114) (by decide); exact y (fun l hl => u l (by omega))⟩) (by omega) _ _ hS ls (lv_sub hl [0, 1, 5, 6, 7, 8, 9, 10] rfl)
                  · skip
                    have d114 := c114
                    rw [fa_eq] at d114
                    refine lv_iload hx hb dX10_isEven_117 (lv_at hl 2 rfl) ?_
                    refine lv_iconst (v := 2) hx hb dX10_isEven_119 (by decide) ?_
                    refine lv_icmp_ge (tgt := 127) hx hb dX10_isEven_120 (by decide) (fun c120 => ?_) (fun c120 => ?_)
                    · skip
                      have d120 := c120
                      rw [fa_le] at d120
                      refine lv_iconst (v := 0) hx hb dX10_isEven_127 (by decide) ?_
                      refine lv_istore (lv' := [(7, .int (0 : Int32)), (11, .int (nI i)), (10, .int x10), (9, .int x9), (8, .int (nI k)), (6, .int w), (5, .int h), (0, .int w), (1, .int h), (2, .long p0), (4, .int col)]) hx hb dX10_isEven_128 hl (by decide) rfl (fun ls hl => ?_)
                      refine lv_iinc (v := (nI (k + 1))) (lv' := [(8, .int (nI (k + 1))), (7, .int (0 : Int32)), (11, .int (nI i)), (10, .int x10), (9, .int x9), (6, .int w), (5, .int h), (0, .int w), (1, .int h), (2, .long p0), (4, .int col)]) hx hb dX10_isEven_130 hl (k := 4) rfl (nI_1 _) (by decide) rfl (fun ls hl => ?_)
                      refine lv_goto (tgt := 30) hx hb dX10_isEven_133 (by decide) ?_
                      exact ih_30 (k + 1) (0 : Int32) (by omega) (by
            first
            | exact Or.inl ⟨rfl, fun l hl => by
                by_cases e9 : l = k
                · rw [e9]; omega
                · rcases j30_1 with ⟨_, y⟩ | ⟨z, _⟩
                  · exact y l (by omega)
                  · exact absurd z c114⟩
            | exact Or.inr ⟨rfl, fun u => by have := u k (by omega); omega⟩
            | exact Or.inr ⟨rfl, fun u => by rcases j30_1 with ⟨z, _⟩ | ⟨_, y⟩; exact absurd (z.symm.trans c114) (by decide); exact y (fun l hl => u l (by omega))⟩) (by omega) _ _ hS ls (lv_sub hl [0, 1, 5, 6, 7, 8, 9, 10] rfl)
                    · skip
                      have d120 := c120
                      rw [fa_le] at d120
                      refine lv_iconst (v := 1) hx hb dX10_isEven_123 (by decide) ?_
                      refine lv_goto (tgt := 128) hx hb dX10_isEven_124 (by decide) ?_
                      refine lv_istore (lv' := [(7, .int (1 : Int32)), (11, .int (nI i)), (10, .int x10), (9, .int x9), (8, .int (nI k)), (6, .int w), (5, .int h), (0, .int w), (1, .int h), (2, .long p0), (4, .int col)]) hx hb dX10_isEven_128 hl (by decide) rfl (fun ls hl => ?_)
                      refine lv_iinc (v := (nI (k + 1))) (lv' := [(8, .int (nI (k + 1))), (7, .int (1 : Int32)), (11, .int (nI i)), (10, .int x10), (9, .int x9), (6, .int w), (5, .int h), (0, .int w), (1, .int h), (2, .long p0), (4, .int col)]) hx hb dX10_isEven_130 hl (k := 4) rfl (nI_1 _) (by decide) rfl (fun ls hl => ?_)
                      refine lv_goto (tgt := 30) hx hb dX10_isEven_133 (by decide) ?_
                      exact ih_30 (k + 1) (1 : Int32) (by omega) (by
            first
            | exact Or.inl ⟨rfl, fun l hl => by
                by_cases e9 : l = k
                · rw [e9]; omega
                · rcases j30_1 with ⟨_, y⟩ | ⟨z, _⟩
                  · exact y l (by omega)
                  · exact absurd z c114⟩
            | exact Or.inr ⟨rfl, fun u => by have := u k (by omega); omega⟩
            | exact Or.inr ⟨rfl, fun u => by rcases j30_1 with ⟨z, _⟩ | ⟨_, y⟩; exact absurd (z.symm.trans c114) (by decide); exact y (fun l hl => u l (by omega))⟩) (by omega) _ _ hS ls (lv_sub hl [0, 1, 5, 6, 7, 8, 9, 10] rfl)
                · skip
                  have d50 := c50
                  rw [fa_le] at d50
                  refine lv_lload_n hx hb dX10_isEven_53 rfl (lv_at hl 9 rfl) ?_
                  refine lv_iload hx hb dX10_isEven_54 (lv_at hl 10 rfl) ?_
                  refine lv_if_eq (tgt := 69) hx hb dX10_isEven_56 (by decide) (fun c56 => ?_) (fun c56 => ?_)
                  · skip
                    have d56 := c56
                    rw [fa_eq] at d56
                    refine lv_iload hx hb dX10_isEven_69 (lv_at hl 3 rfl) ?_
                    refine lv_iload_n hx hb dX10_isEven_71 rfl (lv_at hl 7 rfl) ?_
                    refine lv_imul hx hb dX10_isEven_72 ?_
                    refine lv_topi (fun v72 e72 => ?_)
                    refine lv_iload hx hb dX10_isEven_73 (lv_at hl 0 rfl) ?_
                    refine lv_iadd hx hb dX10_isEven_75 ?_
                    refine lv_topi (fun v75 e75 => ?_)
                    refine pu_call (As := [.long p0, .int v75]) (rest := []) ⟨hx, hb, hml, hown, hts⟩ (c_X10_one l p0 v75 ) (va_cwS 2 hts gX10_isEven_X10_one rfl rfl rfl (by decide +kernel) ⟨Nat.le_of_ble_eq_true rfl, Nat.le_of_ble_eq_true rfl⟩) rfl hl.1 rfl (Nat.le_of_ble_eq_true rfl) dX10_isEven_76 ⟨Nat.le_of_ble_eq_true rfl, Nat.le_of_ble_eq_true rfl⟩ hS (fun r76 H locs q76 hS => ?_)
                    have i76 : r76.toInt = (r_one p0 v75).toInt := congrArg Int32.toInt q76
                    have f76 : r76 = if eS A9 p0 col k i then 1 else 0 := by
                      have hkm : k * A9 ≤ 6 * 6 ∧ i * A9 ≤ 6 * 6 := ⟨Nat.mul_le_mul (by omega) (by omega), Nat.mul_le_mul (by omega) (by omega)⟩
                      rw [q76]
                      unfold eS rB
                      first
                      | (rw [if_neg c56, e65, e62, ← ew, pk_mul, nI_add]; exact one_lb p0 (by omega))
                      | (rw [if_pos c56, e75, e72, ← ew, pk_mul, nI_add]; exact one_lb p0 (by omega))
                    refine lv_istore (lv' := [(12, .int r76), (11, .int (nI i)), (10, .int x10), (9, .int x9), (8, .int (nI k)), (7, .int x7), (6, .int w), (5, .int h), (0, .int w), (1, .int h), (2, .long p0), (4, .int col)]) hx hb dX10_isEven_79 hl (by decide) rfl (fun ls hl => ?_)
                    refine lv_iload hx hb dX10_isEven_81 (lv_at hl 3 rfl) ?_
                    refine lv_iload hx hb dX10_isEven_83 (lv_at hl 0 rfl) ?_
                    refine lv_iconst (v := 1) hx hb dX10_isEven_85 (by decide) ?_
                    refine lv_icmp_ne (tgt := 98) hx hb dX10_isEven_86 (by decide) (fun c86 => ?_) (fun c86 => ?_)
                    · skip
                      have d86 := c86
                      rw [fa_eq] at d86
                      refine lv_iconst (v := 0) hx hb dX10_isEven_98 (by decide) ?_
                      refine lv_iadd hx hb dX10_isEven_99 ?_
                      refine lv_topi (fun v99 e99 => ?_)
                      refine lv_istore (lv' := [(9, .int v99), (12, .int r76), (11, .int (nI i)), (10, .int x10), (8, .int (nI k)), (7, .int x7), (6, .int w), (5, .int h), (0, .int w), (1, .int h), (2, .long p0), (4, .int col)]) hx hb dX10_isEven_100 hl (by decide) rfl (fun ls hl => ?_)
                      have hbg := eB_st f76 j46_2 j46_1 (by first | exact Or.inl ⟨c86, c91, e99⟩ | exact Or.inr ⟨fun z => c86 z.1, e99⟩ | exact Or.inr ⟨fun z => c91 z.2, e99⟩)
                      refine lv_iload hx hb dX10_isEven_102 (lv_at hl 1 rfl) ?_
                      refine lv_istore (lv' := [(10, .int r76), (9, .int v99), (12, .int r76), (11, .int (nI i)), (8, .int (nI k)), (7, .int x7), (6, .int w), (5, .int h), (0, .int w), (1, .int h), (2, .long p0), (4, .int col)]) hx hb dX10_isEven_104 hl (by decide) rfl (fun ls hl => ?_)
                      refine lv_iinc (v := (nI (i + 1))) (lv' := [(11, .int (nI (i + 1))), (10, .int r76), (9, .int v99), (12, .int r76), (8, .int (nI k)), (7, .int x7), (6, .int w), (5, .int h), (0, .int w), (1, .int h), (2, .long p0), (4, .int col)]) hx hb dX10_isEven_106 hl (k := 3) rfl (nI_1 _) (by decide) rfl (fun ls hl => ?_)
                      refine lv_goto (tgt := 46) hx hb dX10_isEven_109 (by decide) ?_
                      exact ih_46 (i + 1) r76 v99 (by omega) (hbg) (f76) (by omega) _ _ hS ls (lv_sub hl [0, 1, 2, 4, 5, 6, 7, 8, 9, 10, 11] rfl)
                    · skip
                      have d86 := c86
                      rw [fa_eq] at d86
                      refine lv_iload hx hb dX10_isEven_89 (lv_at hl 2 rfl) ?_
                      refine lv_if_ne (tgt := 98) hx hb dX10_isEven_91 (by decide) (fun c91 => ?_) (fun c91 => ?_)
                      · skip
                        have d91 := c91
                        rw [fa_eq] at d91
                        refine lv_iconst (v := 0) hx hb dX10_isEven_98 (by decide) ?_
                        refine lv_iadd hx hb dX10_isEven_99 ?_
                        refine lv_topi (fun v99 e99 => ?_)
                        refine lv_istore (lv' := [(9, .int v99), (12, .int r76), (11, .int (nI i)), (10, .int x10), (8, .int (nI k)), (7, .int x7), (6, .int w), (5, .int h), (0, .int w), (1, .int h), (2, .long p0), (4, .int col)]) hx hb dX10_isEven_100 hl (by decide) rfl (fun ls hl => ?_)
                        have hbg := eB_st f76 j46_2 j46_1 (by first | exact Or.inl ⟨c86, c91, e99⟩ | exact Or.inr ⟨fun z => c86 z.1, e99⟩ | exact Or.inr ⟨fun z => c91 z.2, e99⟩)
                        refine lv_iload hx hb dX10_isEven_102 (lv_at hl 1 rfl) ?_
                        refine lv_istore (lv' := [(10, .int r76), (9, .int v99), (12, .int r76), (11, .int (nI i)), (8, .int (nI k)), (7, .int x7), (6, .int w), (5, .int h), (0, .int w), (1, .int h), (2, .long p0), (4, .int col)]) hx hb dX10_isEven_104 hl (by decide) rfl (fun ls hl => ?_)
                        refine lv_iinc (v := (nI (i + 1))) (lv' := [(11, .int (nI (i + 1))), (10, .int r76), (9, .int v99), (12, .int r76), (8, .int (nI k)), (7, .int x7), (6, .int w), (5, .int h), (0, .int w), (1, .int h), (2, .long p0), (4, .int col)]) hx hb dX10_isEven_106 hl (k := 3) rfl (nI_1 _) (by decide) rfl (fun ls hl => ?_)
                        refine lv_goto (tgt := 46) hx hb dX10_isEven_109 (by decide) ?_
                        exact ih_46 (i + 1) r76 v99 (by omega) (hbg) (f76) (by omega) _ _ hS ls (lv_sub hl [0, 1, 2, 4, 5, 6, 7, 8, 9, 10, 11] rfl)
                      · skip
                        have d91 := c91
                        rw [fa_eq] at d91
                        refine lv_iconst (v := 1) hx hb dX10_isEven_94 (by decide) ?_
                        refine lv_goto (tgt := 99) hx hb dX10_isEven_95 (by decide) ?_
                        refine lv_iadd hx hb dX10_isEven_99 ?_
                        refine lv_topi (fun v99 e99 => ?_)
                        refine lv_istore (lv' := [(9, .int v99), (12, .int r76), (11, .int (nI i)), (10, .int x10), (8, .int (nI k)), (7, .int x7), (6, .int w), (5, .int h), (0, .int w), (1, .int h), (2, .long p0), (4, .int col)]) hx hb dX10_isEven_100 hl (by decide) rfl (fun ls hl => ?_)
                        have hbg := eB_st f76 j46_2 j46_1 (by first | exact Or.inl ⟨c86, c91, e99⟩ | exact Or.inr ⟨fun z => c86 z.1, e99⟩ | exact Or.inr ⟨fun z => c91 z.2, e99⟩)
                        refine lv_iload hx hb dX10_isEven_102 (lv_at hl 1 rfl) ?_
                        refine lv_istore (lv' := [(10, .int r76), (9, .int v99), (12, .int r76), (11, .int (nI i)), (8, .int (nI k)), (7, .int x7), (6, .int w), (5, .int h), (0, .int w), (1, .int h), (2, .long p0), (4, .int col)]) hx hb dX10_isEven_104 hl (by decide) rfl (fun ls hl => ?_)
                        refine lv_iinc (v := (nI (i + 1))) (lv' := [(11, .int (nI (i + 1))), (10, .int r76), (9, .int v99), (12, .int r76), (8, .int (nI k)), (7, .int x7), (6, .int w), (5, .int h), (0, .int w), (1, .int h), (2, .long p0), (4, .int col)]) hx hb dX10_isEven_106 hl (k := 3) rfl (nI_1 _) (by decide) rfl (fun ls hl => ?_)
                        refine lv_goto (tgt := 46) hx hb dX10_isEven_109 (by decide) ?_
                        exact ih_46 (i + 1) r76 v99 (by omega) (hbg) (f76) (by omega) _ _ hS ls (lv_sub hl [0, 1, 2, 4, 5, 6, 7, 8, 9, 10, 11] rfl)
                  · first | exact absurd c56 c14 | exact absurd c14 c56
            exact loop_46 (7 + 1) 0 (0 : Int32) (0 : Int32) (by omega) (rfl) (rfl) (by omega) _ _ hS ls (lv_sub hl [0, 1, 2, 3, 4, 5, 6, 7, 8, 9, 10] rfl)
      exact loop_30 (7 + 1) 0 (1 : Int32) (by omega) (Or.inl ⟨rfl, fun l hl => absurd hl (Nat.not_lt_zero _)⟩) (by omega) _ _ hS ls (lv_sub hl [0, 1, 2, 3, 4, 5, 6, 7] rfl)
    · first | exact absurd c14 c2 | exact absurd c2 c14
  · skip
    have d2 := c2
    rw [fa_eq] at d2
    refine lv_iload_n hx hb dX10_isEven_5 rfl (lv_at hl 0 rfl) ?_
    refine lv_goto (tgt := 10) hx hb dX10_isEven_6 (by decide) ?_
    refine lv_istore (lv' := [(5, .int w), (0, .int w), (1, .int h), (2, .long p0), (4, .int col)]) hx hb dX10_isEven_10 hl (by decide) rfl (fun ls hl => ?_)
    refine lv_iload hx hb dX10_isEven_12 (lv_at hl 4 rfl) ?_
    refine lv_if_eq (tgt := 21) hx hb dX10_isEven_14 (by decide) (fun c14 => ?_) (fun c14 => ?_)
    · first | exact absurd c14 c2 | exact absurd c2 c14
    · skip
      have d14 := c14
      rw [fa_eq] at d14
      refine lv_iload_n hx hb dX10_isEven_17 rfl (lv_at hl 2 rfl) ?_
      refine lv_goto (tgt := 22) hx hb dX10_isEven_18 (by decide) ?_
      refine lv_istore (lv' := [(6, .int h), (5, .int w), (0, .int w), (1, .int h), (2, .long p0), (4, .int col)]) hx hb dX10_isEven_22 hl (by decide) rfl (fun ls hl => ?_)
      first | have hE : eLin A9 B9 col = B9 ∧ eMany A9 B9 col = A9 := (by unfold eLin eMany; rw [if_pos c2, if_pos c2]; exact ⟨rfl, rfl⟩) | have hE : eLin A9 B9 col = A9 ∧ eMany A9 B9 col = B9 := (by unfold eLin eMany; rw [if_neg c2, if_neg c2]; exact ⟨rfl, rfl⟩)
      refine lv_iconst (v := 1) hx hb dX10_isEven_24 (by decide) ?_
      refine lv_istore (lv' := [(7, .int (1 : Int32)), (6, .int h), (5, .int w), (0, .int w), (1, .int h), (2, .long p0), (4, .int col)]) hx hb dX10_isEven_25 hl (by decide) rfl (fun ls hl => ?_)
      refine lv_iconst (v := 0) hx hb dX10_isEven_27 (by decide) ?_
      refine lv_istore (lv' := [(8, .int (0 : Int32)), (7, .int (1 : Int32)), (6, .int h), (5, .int w), (0, .int w), (1, .int h), (2, .long p0), (4, .int col)]) hx hb dX10_isEven_28 hl (by decide) rfl (fun ls hl => ?_)
      have loop_30 : ∀ (n : Nat) (k : Nat) (x7 : Int32), (k ≤ eLin A9 B9 col) → ((x7 = 1 ∧ ∀ l, l < k → eB (eS A9 p0 col l) (eMany A9 B9 col) < 2) ∨ (x7 = 0 ∧ ¬ ∀ l, l < k → eB (eS A9 p0 col l) (eMany A9 B9 col) < 2)) → 7 - k < n → ∀ (H : Heap) (locs : List Loc), va_S (fun _ => False) s.heap H locs → ∀ (ls : Array Slot), lv_has ls 13 [(8, .int (nI k)), (7, .int x7), (6, .int h), (5, .int w), (0, .int w), (1, .int h), (2, .long p0), (4, .int col)] → W p l e (headSpec wsX10_isEven ({ frames := 1, cells := 0, slots := 0, locals := 22 })).room s m #[Value.int w, Value.int h, Value.long p0, Value.int col] below meth c H locs 0 0 (MQ below (va_Qi (fun r (_ : Unit) => Bo r (if col = 0 then rowsW w.toNatClampNeg h.toNatClampNeg p0 else colsW w.toNatClampNeg h.toNatClampNeg p0)) (fun _ _ => True) (fun _ => False)) #[Value.int w, Value.int h, Value.long p0, Value.int col] s 0 0 (fun _ => False)) (F0 m 30 ls []) := by
        intro n
        induction n with
        | zero => intro k x7 j30_0 j30_1 hn; exact absurd hn (Nat.not_lt_zero _)
        | succ n ih_30 =>
          intro k x7 j30_0 j30_1 hn_30 H locs hS ls hl
          have hlk : k ≤ 6 := by omega
          have ik : (nI k).toInt = (k : Int) := nI_toInt (by omega)
          refine lv_iload hx hb dX10_isEven_30 (lv_at hl 0 rfl) ?_
          refine lv_iload hx hb dX10_isEven_32 (lv_at hl 3 rfl) ?_
          refine lv_icmp_ge (tgt := 136) hx hb dX10_isEven_34 (by decide) (fun c34 => ?_) (fun c34 => ?_)
          · skip
            have d34 := c34
            rw [fa_le] at d34
            refine lv_iload hx hb dX10_isEven_136 (lv_at hl 1 rfl) ?_
            exact W.zret (v := x7) hx hb hr (by first | decide | (rcases j30_1 with ⟨z, _⟩ | ⟨z, _⟩ <;> rw [z] <;> rfl)) (fun t ht hW => ⟨⟨_, (), rfl, (by rw [← hA9, ← hB9]; have z9 : k = eLin A9 B9 col := (by omega); subst z9; rcases j30_1 with ⟨z, y⟩ | ⟨z, y⟩; exact Or.inl ⟨z, e_all.mp y⟩; exact Or.inr ⟨z, fun u => y (e_all.mpr u)⟩), trivial⟩, hS.F ht⟩) hS.2.2 dX10_isEven_138
          · skip
            have d34 := c34
            rw [fa_le] at d34
            refine lv_iconst (v := 0) hx hb dX10_isEven_37 (by decide) ?_
            refine lv_istore (lv' := [(9, .int (0 : Int32)), (8, .int (nI k)), (7, .int x7), (6, .int h), (5, .int w), (0, .int w), (1, .int h), (2, .long p0), (4, .int col)]) hx hb dX10_isEven_38 hl (by decide) rfl (fun ls hl => ?_)
            refine lv_iconst (v := 0) hx hb dX10_isEven_40 (by decide) ?_
            refine lv_istore (lv' := [(10, .int (0 : Int32)), (9, .int (0 : Int32)), (8, .int (nI k)), (7, .int x7), (6, .int h), (5, .int w), (0, .int w), (1, .int h), (2, .long p0), (4, .int col)]) hx hb dX10_isEven_41 hl (by decide) rfl (fun ls hl => ?_)
            refine lv_iconst (v := 0) hx hb dX10_isEven_43 (by decide) ?_
            refine lv_istore (lv' := [(11, .int (0 : Int32)), (10, .int (0 : Int32)), (9, .int (0 : Int32)), (8, .int (nI k)), (7, .int x7), (6, .int h), (5, .int w), (0, .int w), (1, .int h), (2, .long p0), (4, .int col)]) hx hb dX10_isEven_44 hl (by decide) rfl (fun ls hl => ?_)
            have loop_46 : ∀ (n : Nat) (i : Nat) (x10 : Int32) (x9 : Int32), (i ≤ eMany A9 B9 col) → (x9 = nI (eB (eS A9 p0 col k) i)) → (x10 = if eL (eS A9 p0 col k) i then 1 else 0) → 7 - i < n → ∀ (H : Heap) (locs : List Loc), va_S (fun _ => False) s.heap H locs → ∀ (ls : Array Slot), lv_has ls 13 [(11, .int (nI i)), (10, .int x10), (9, .int x9), (8, .int (nI k)), (7, .int x7), (6, .int h), (5, .int w), (0, .int w), (1, .int h), (2, .long p0), (4, .int col)] → W p l e (headSpec wsX10_isEven ({ frames := 1, cells := 0, slots := 0, locals := 22 })).room s m #[Value.int w, Value.int h, Value.long p0, Value.int col] below meth c H locs 0 0 (MQ below (va_Qi (fun r (_ : Unit) => Bo r (if col = 0 then rowsW w.toNatClampNeg h.toNatClampNeg p0 else colsW w.toNatClampNeg h.toNatClampNeg p0)) (fun _ _ => True) (fun _ => False)) #[Value.int w, Value.int h, Value.long p0, Value.int col] s 0 0 (fun _ => False)) (F0 m 46 ls []) := by
              intro n
              induction n with
              | zero => intro i x10 x9 j46_0 j46_1 j46_2 hn; exact absurd hn (Nat.not_lt_zero _)
              | succ n ih_46 =>
                intro i x10 x9 j46_0 j46_1 j46_2 hn_46 H locs hS ls hl
                have hli : i ≤ 6 := by omega
                have ii : (nI i).toInt = (i : Int) := nI_toInt (by omega)
                refine lv_iload hx hb dX10_isEven_46 (lv_at hl 0 rfl) ?_
                refine lv_iload hx hb dX10_isEven_48 (lv_at hl 5 rfl) ?_
                refine lv_icmp_ge (tgt := 112) hx hb dX10_isEven_50 (by decide) (fun c50 => ?_) (fun c50 => ?_)
                · skip
                  have d50 := c50
                  rw [fa_le] at d50
                  have him : i = eMany A9 B9 col := by omega
                  have ibe : x9.toInt = (eB (eS A9 p0 col k) (eMany A9 B9 col) : Int) := by rw [j46_1, ← him]; exact nI_toInt (by have := eB_b (eS A9 p0 col k) i; omega)
                  refine lv_iload hx hb dX10_isEven_112 (lv_at hl 4 rfl) ?_
                  refine lv_if_eq (tgt := 127) hx hb dX10_isEven_114 (by decide) (fun c114 => ?_) (fun c114 => ?_)
                  · skip
                    have d114 := c114
                    rw [fa_eq] at d114
                    refine lv_iconst (v := 0) hx hb dX10_isEven_127 (by decide) ?_
                    refine lv_istore (lv' := [(7, .int (0 : Int32)), (11, .int (nI i)), (10, .int x10), (9, .int x9), (8, .int (nI k)), (6, .int h), (5, .int w), (0, .int w), (1, .int h), (2, .long p0), (4, .int col)]) hx hb dX10_isEven_128 hl (by decide) rfl (fun ls hl => ?_)
                    refine lv_iinc (v := (nI (k + 1))) (lv' := [(8, .int (nI (k + 1))), (7, .int (0 : Int32)), (11, .int (nI i)), (10, .int x10), (9, .int x9), (6, .int h), (5, .int w), (0, .int w), (1, .int h), (2, .long p0), (4, .int col)]) hx hb dX10_isEven_130 hl (k := 4) rfl (nI_1 _) (by decide) rfl (fun ls hl => ?_)
                    refine lv_goto (tgt := 30) hx hb dX10_isEven_133 (by decide) ?_
                    exact ih_30 (k + 1) (0 : Int32) (by omega) (by
            first
            | exact Or.inl ⟨rfl, fun l hl => by
                by_cases e9 : l = k
                · rw [e9]; omega
                · rcases j30_1 with ⟨_, y⟩ | ⟨z, _⟩
                  · exact y l (by omega)
                  · exact absurd z c114⟩
            | exact Or.inr ⟨rfl, fun u => by have := u k (by omega); omega⟩
            | exact Or.inr ⟨rfl, fun u => by rcases j30_1 with ⟨z, _⟩ | ⟨_, y⟩; exact absurd (z.symm.trans c114) (by decide); exact y (fun l hl => u l (by omega))⟩) (by omega) _ _ hS ls (lv_sub hl [0, 1, 5, 6, 7, 8, 9, 10] rfl)
                  · skip
                    have d114 := c114
                    rw [fa_eq] at d114
                    refine lv_iload hx hb dX10_isEven_117 (lv_at hl 2 rfl) ?_
                    refine lv_iconst (v := 2) hx hb dX10_isEven_119 (by decide) ?_
                    refine lv_icmp_ge (tgt := 127) hx hb dX10_isEven_120 (by decide) (fun c120 => ?_) (fun c120 => ?_)
                    · skip
                      have d120 := c120
                      rw [fa_le] at d120
                      refine lv_iconst (v := 0) hx hb dX10_isEven_127 (by decide) ?_
                      refine lv_istore (lv' := [(7, .int (0 : Int32)), (11, .int (nI i)), (10, .int x10), (9, .int x9), (8, .int (nI k)), (6, .int h), (5, .int w), (0, .int w), (1, .int h), (2, .long p0), (4, .int col)]) hx hb dX10_isEven_128 hl (by decide) rfl (fun ls hl => ?_)
                      refine lv_iinc (v := (nI (k + 1))) (lv' := [(8, .int (nI (k + 1))), (7, .int (0 : Int32)), (11, .int (nI i)), (10, .int x10), (9, .int x9), (6, .int h), (5, .int w), (0, .int w), (1, .int h), (2, .long p0), (4, .int col)]) hx hb dX10_isEven_130 hl (k := 4) rfl (nI_1 _) (by decide) rfl (fun ls hl => ?_)
                      refine lv_goto (tgt := 30) hx hb dX10_isEven_133 (by decide) ?_
                      exact ih_30 (k + 1) (0 : Int32) (by omega) (by
            first
            | exact Or.inl ⟨rfl, fun l hl => by
                by_cases e9 : l = k
                · rw [e9]; omega
                · rcases j30_1 with ⟨_, y⟩ | ⟨z, _⟩
                  · exact y l (by omega)
                  · exact absurd z c114⟩
            | exact Or.inr ⟨rfl, fun u => by have := u k (by omega); omega⟩
            | exact Or.inr ⟨rfl, fun u => by rcases j30_1 with ⟨z, _⟩ | ⟨_, y⟩; exact absurd (z.symm.trans c114) (by decide); exact y (fun l hl => u l (by omega))⟩) (by omega) _ _ hS ls (lv_sub hl [0, 1, 5, 6, 7, 8, 9, 10] rfl)
                    · skip
                      have d120 := c120
                      rw [fa_le] at d120
                      refine lv_iconst (v := 1) hx hb dX10_isEven_123 (by decide) ?_
                      refine lv_goto (tgt := 128) hx hb dX10_isEven_124 (by decide) ?_
                      refine lv_istore (lv' := [(7, .int (1 : Int32)), (11, .int (nI i)), (10, .int x10), (9, .int x9), (8, .int (nI k)), (6, .int h), (5, .int w), (0, .int w), (1, .int h), (2, .long p0), (4, .int col)]) hx hb dX10_isEven_128 hl (by decide) rfl (fun ls hl => ?_)
                      refine lv_iinc (v := (nI (k + 1))) (lv' := [(8, .int (nI (k + 1))), (7, .int (1 : Int32)), (11, .int (nI i)), (10, .int x10), (9, .int x9), (6, .int h), (5, .int w), (0, .int w), (1, .int h), (2, .long p0), (4, .int col)]) hx hb dX10_isEven_130 hl (k := 4) rfl (nI_1 _) (by decide) rfl (fun ls hl => ?_)
                      refine lv_goto (tgt := 30) hx hb dX10_isEven_133 (by decide) ?_
                      exact ih_30 (k + 1) (1 : Int32) (by omega) (by
            first
            | exact Or.inl ⟨rfl, fun l hl => by
                by_cases e9 : l = k
                · rw [e9]; omega
                · rcases j30_1 with ⟨_, y⟩ | ⟨z, _⟩
                  · exact y l (by omega)
                  · exact absurd z c114⟩
            | exact Or.inr ⟨rfl, fun u => by have := u k (by omega); omega⟩
            | exact Or.inr ⟨rfl, fun u => by rcases j30_1 with ⟨z, _⟩ | ⟨_, y⟩; exact absurd (z.symm.trans c114) (by decide); exact y (fun l hl => u l (by omega))⟩) (by omega) _ _ hS ls (lv_sub hl [0, 1, 5, 6, 7, 8, 9, 10] rfl)
                · skip
                  have d50 := c50
                  rw [fa_le] at d50
                  refine lv_lload_n hx hb dX10_isEven_53 rfl (lv_at hl 9 rfl) ?_
                  refine lv_iload hx hb dX10_isEven_54 (lv_at hl 10 rfl) ?_
                  refine lv_if_eq (tgt := 69) hx hb dX10_isEven_56 (by decide) (fun c56 => ?_) (fun c56 => ?_)
                  · first | exact absurd c56 c14 | exact absurd c14 c56
                  · skip
                    have d56 := c56
                    rw [fa_eq] at d56
                    refine lv_iload hx hb dX10_isEven_59 (lv_at hl 0 rfl) ?_
                    refine lv_iload_n hx hb dX10_isEven_61 rfl (lv_at hl 7 rfl) ?_
                    refine lv_imul hx hb dX10_isEven_62 ?_
                    refine lv_topi (fun v62 e62 => ?_)
                    refine lv_iload hx hb dX10_isEven_63 (lv_at hl 3 rfl) ?_
                    refine lv_iadd hx hb dX10_isEven_65 ?_
                    refine lv_topi (fun v65 e65 => ?_)
                    refine lv_goto (tgt := 76) hx hb dX10_isEven_66 (by decide) ?_
                    refine pu_call (As := [.long p0, .int v65]) (rest := []) ⟨hx, hb, hml, hown, hts⟩ (c_X10_one l p0 v65 ) (va_cwS 2 hts gX10_isEven_X10_one rfl rfl rfl (by decide +kernel) ⟨Nat.le_of_ble_eq_true rfl, Nat.le_of_ble_eq_true rfl⟩) rfl hl.1 rfl (Nat.le_of_ble_eq_true rfl) dX10_isEven_76 ⟨Nat.le_of_ble_eq_true rfl, Nat.le_of_ble_eq_true rfl⟩ hS (fun r76 H locs q76 hS => ?_)
                    have i76 : r76.toInt = (r_one p0 v65).toInt := congrArg Int32.toInt q76
                    have f76 : r76 = if eS A9 p0 col k i then 1 else 0 := by
                      have hkm : k * A9 ≤ 6 * 6 ∧ i * A9 ≤ 6 * 6 := ⟨Nat.mul_le_mul (by omega) (by omega), Nat.mul_le_mul (by omega) (by omega)⟩
                      rw [q76]
                      unfold eS rB
                      first
                      | (rw [if_neg c56, e65, e62, ← ew, pk_mul, nI_add]; exact one_lb p0 (by omega))
                      | (rw [if_pos c56, e75, e72, ← ew, pk_mul, nI_add]; exact one_lb p0 (by omega))
                    refine lv_istore (lv' := [(12, .int r76), (11, .int (nI i)), (10, .int x10), (9, .int x9), (8, .int (nI k)), (7, .int x7), (6, .int h), (5, .int w), (0, .int w), (1, .int h), (2, .long p0), (4, .int col)]) hx hb dX10_isEven_79 hl (by decide) rfl (fun ls hl => ?_)
                    refine lv_iload hx hb dX10_isEven_81 (lv_at hl 3 rfl) ?_
                    refine lv_iload hx hb dX10_isEven_83 (lv_at hl 0 rfl) ?_
                    refine lv_iconst (v := 1) hx hb dX10_isEven_85 (by decide) ?_
                    refine lv_icmp_ne (tgt := 98) hx hb dX10_isEven_86 (by decide) (fun c86 => ?_) (fun c86 => ?_)
                    · skip
                      have d86 := c86
                      rw [fa_eq] at d86
                      refine lv_iconst (v := 0) hx hb dX10_isEven_98 (by decide) ?_
                      refine lv_iadd hx hb dX10_isEven_99 ?_
                      refine lv_topi (fun v99 e99 => ?_)
                      refine lv_istore (lv' := [(9, .int v99), (12, .int r76), (11, .int (nI i)), (10, .int x10), (8, .int (nI k)), (7, .int x7), (6, .int h), (5, .int w), (0, .int w), (1, .int h), (2, .long p0), (4, .int col)]) hx hb dX10_isEven_100 hl (by decide) rfl (fun ls hl => ?_)
                      have hbg := eB_st f76 j46_2 j46_1 (by first | exact Or.inl ⟨c86, c91, e99⟩ | exact Or.inr ⟨fun z => c86 z.1, e99⟩ | exact Or.inr ⟨fun z => c91 z.2, e99⟩)
                      refine lv_iload hx hb dX10_isEven_102 (lv_at hl 1 rfl) ?_
                      refine lv_istore (lv' := [(10, .int r76), (9, .int v99), (12, .int r76), (11, .int (nI i)), (8, .int (nI k)), (7, .int x7), (6, .int h), (5, .int w), (0, .int w), (1, .int h), (2, .long p0), (4, .int col)]) hx hb dX10_isEven_104 hl (by decide) rfl (fun ls hl => ?_)
                      refine lv_iinc (v := (nI (i + 1))) (lv' := [(11, .int (nI (i + 1))), (10, .int r76), (9, .int v99), (12, .int r76), (8, .int (nI k)), (7, .int x7), (6, .int h), (5, .int w), (0, .int w), (1, .int h), (2, .long p0), (4, .int col)]) hx hb dX10_isEven_106 hl (k := 3) rfl (nI_1 _) (by decide) rfl (fun ls hl => ?_)
                      refine lv_goto (tgt := 46) hx hb dX10_isEven_109 (by decide) ?_
                      exact ih_46 (i + 1) r76 v99 (by omega) (hbg) (f76) (by omega) _ _ hS ls (lv_sub hl [0, 1, 2, 4, 5, 6, 7, 8, 9, 10, 11] rfl)
                    · skip
                      have d86 := c86
                      rw [fa_eq] at d86
                      refine lv_iload hx hb dX10_isEven_89 (lv_at hl 2 rfl) ?_
                      refine lv_if_ne (tgt := 98) hx hb dX10_isEven_91 (by decide) (fun c91 => ?_) (fun c91 => ?_)
                      · skip
                        have d91 := c91
                        rw [fa_eq] at d91
                        refine lv_iconst (v := 0) hx hb dX10_isEven_98 (by decide) ?_
                        refine lv_iadd hx hb dX10_isEven_99 ?_
                        refine lv_topi (fun v99 e99 => ?_)
                        refine lv_istore (lv' := [(9, .int v99), (12, .int r76), (11, .int (nI i)), (10, .int x10), (8, .int (nI k)), (7, .int x7), (6, .int h), (5, .int w), (0, .int w), (1, .int h), (2, .long p0), (4, .int col)]) hx hb dX10_isEven_100 hl (by decide) rfl (fun ls hl => ?_)
                        have hbg := eB_st f76 j46_2 j46_1 (by first | exact Or.inl ⟨c86, c91, e99⟩ | exact Or.inr ⟨fun z => c86 z.1, e99⟩ | exact Or.inr ⟨fun z => c91 z.2, e99⟩)
                        refine lv_iload hx hb dX10_isEven_102 (lv_at hl 1 rfl) ?_
                        refine lv_istore (lv' := [(10, .int r76), (9, .int v99), (12, .int r76), (11, .int (nI i)), (8, .int (nI k)), (7, .int x7), (6, .int h), (5, .int w), (0, .int w), (1, .int h), (2, .long p0), (4, .int col)]) hx hb dX10_isEven_104 hl (by decide) rfl (fun ls hl => ?_)
                        refine lv_iinc (v := (nI (i + 1))) (lv' := [(11, .int (nI (i + 1))), (10, .int r76), (9, .int v99), (12, .int r76), (8, .int (nI k)), (7, .int x7), (6, .int h), (5, .int w), (0, .int w), (1, .int h), (2, .long p0), (4, .int col)]) hx hb dX10_isEven_106 hl (k := 3) rfl (nI_1 _) (by decide) rfl (fun ls hl => ?_)
                        refine lv_goto (tgt := 46) hx hb dX10_isEven_109 (by decide) ?_
                        exact ih_46 (i + 1) r76 v99 (by omega) (hbg) (f76) (by omega) _ _ hS ls (lv_sub hl [0, 1, 2, 4, 5, 6, 7, 8, 9, 10, 11] rfl)
                      · skip
                        have d91 := c91
                        rw [fa_eq] at d91
                        refine lv_iconst (v := 1) hx hb dX10_isEven_94 (by decide) ?_
                        refine lv_goto (tgt := 99) hx hb dX10_isEven_95 (by decide) ?_
                        refine lv_iadd hx hb dX10_isEven_99 ?_
                        refine lv_topi (fun v99 e99 => ?_)
                        refine lv_istore (lv' := [(9, .int v99), (12, .int r76), (11, .int (nI i)), (10, .int x10), (8, .int (nI k)), (7, .int x7), (6, .int h), (5, .int w), (0, .int w), (1, .int h), (2, .long p0), (4, .int col)]) hx hb dX10_isEven_100 hl (by decide) rfl (fun ls hl => ?_)
                        have hbg := eB_st f76 j46_2 j46_1 (by first | exact Or.inl ⟨c86, c91, e99⟩ | exact Or.inr ⟨fun z => c86 z.1, e99⟩ | exact Or.inr ⟨fun z => c91 z.2, e99⟩)
                        refine lv_iload hx hb dX10_isEven_102 (lv_at hl 1 rfl) ?_
                        refine lv_istore (lv' := [(10, .int r76), (9, .int v99), (12, .int r76), (11, .int (nI i)), (8, .int (nI k)), (7, .int x7), (6, .int h), (5, .int w), (0, .int w), (1, .int h), (2, .long p0), (4, .int col)]) hx hb dX10_isEven_104 hl (by decide) rfl (fun ls hl => ?_)
                        refine lv_iinc (v := (nI (i + 1))) (lv' := [(11, .int (nI (i + 1))), (10, .int r76), (9, .int v99), (12, .int r76), (8, .int (nI k)), (7, .int x7), (6, .int h), (5, .int w), (0, .int w), (1, .int h), (2, .long p0), (4, .int col)]) hx hb dX10_isEven_106 hl (k := 3) rfl (nI_1 _) (by decide) rfl (fun ls hl => ?_)
                        refine lv_goto (tgt := 46) hx hb dX10_isEven_109 (by decide) ?_
                        exact ih_46 (i + 1) r76 v99 (by omega) (hbg) (f76) (by omega) _ _ hS ls (lv_sub hl [0, 1, 2, 4, 5, 6, 7, 8, 9, 10, 11] rfl)
            exact loop_46 (7 + 1) 0 (0 : Int32) (0 : Int32) (by omega) (rfl) (rfl) (by omega) _ _ hS ls (lv_sub hl [0, 1, 2, 3, 4, 5, 6, 7, 8, 9, 10] rfl)
      exact loop_30 (7 + 1) 0 (1 : Int32) (by omega) (Or.inl ⟨rfl, fun l hl => absurd hl (Nat.not_lt_zero _)⟩) (by omega) _ _ hS ls (lv_sub hl [0, 1, 2, 3, 4, 5, 6, 7] rfl)

set_option maxHeartbeats 4000000 in
set_option maxRecDepth 100000 in
theorem c_X10_even_x (l : Launch) (D : va_G) (cy : Nat → ClassId) (mo : Nat) (a : Nat → Nat) (f : Nat → Int32) (g : Nat → Int64) (r : Nat → Nat → Int32) (q : Nat → Nat → Int64) (w : Int32) (h : Int32) (p0 : Int64) (col : Int32) (hD : DM cy mo a)  : Mi l D cy mo a yX10_even wsX10_even ({ frames := 3, cells := 0, slots := 0, locals := 69 }) f g r q [.int w, .int h, .long p0, .int col] (fun r0 u => u = ((upd f 0 (0 : Int32)), g, r, q) ∧ (evA w h p0 col r0)) := by
  refine Met.ofW (cc := cX10_even) (maxL := 6) (ret := (some .int)) (by decide) rfl ?_
  intro p e s m args below meth c s₁ B hml hv
  obtain ⟨rfl, hP, hK⟩ := hv
  have hx := B.exec
  have hb := B.bytes
  have hr := B.returns
  have hts := atoms_spec (ws := wsX10_even) B.pre
  have hin : ∀ w ∈ u_ws RX10 TX10 35, w ∈ wsX10_even := by decide +kernel
  have hown : s.vm.findClass RX10 = some m.cls := findClass_of_methodNamed B.named
  have hlocks := B.notSynchronized
  have hS : va_S (AM mo a) s.heap s.heap [] := va_S.rf
  have hl := lv_entry ([.ref mo, .int w, .int h, .long p0, .int col]) (n := 6) (Nat.le_of_ble_eq_true rfl)
  rw [lg_entry_eq]
  generalize (lg_sl ([.ref mo, .int w, .int h, .long p0, .int col]) ++ List.replicate (6 - (lg_sl ([.ref mo, .int w, .int h, .long p0, .int col])).length) Slot.unset).toArray = ls at hl ⊢
  have hl : lv_has ls 6 [(0, .ref mo), (1, .int w), (2, .int h), (3, .long p0), (5, .int col)] := hl
  have k_m1 : (-1 : Int32).toInt = -1 := by decide
  have k_0 : (0 : Int32).toInt = 0 := by decide
  have k_1 : (1 : Int32).toInt = 1 := by decide
  refine lv_aload_n hx hb dX10_even_0 rfl (lv_at hl 0 rfl) ?_
  refine lv_iconst (v := 0) hx hb dX10_even_1 (by decide) ?_
  refine m_put (v := .int (0 : Int32)) (ty := .int) hx hb hts hin hown hK hP hD hS 0 (by decide) rfl (hts (.fieldLink RX10 79 "ShadowBenchModel" "thrown" "I") (by decide +kernel)) rfl (by decide +kernel) rfl rfl (upd f 0 (0 : Int32)) g rfl dX10_even_2 (fun H locs hP hS => ?_)
  refine lv_iload_n hx hb dX10_even_5 rfl (lv_at hl 1 rfl) ?_
  refine lv_iload_n hx hb dX10_even_6 rfl (lv_at hl 2 rfl) ?_
  refine lv_lload_n hx hb dX10_even_7 rfl (lv_at hl 3 rfl) ?_
  refine m_pu (As := [.int w, .int h, .long p0]) (rest := []) ⟨hx, hb, hml, hown, hts⟩ (c_X10_isPicture l w h p0 ) (va_cwS 3 hts gX10_even_X10_isPicture rfl rfl rfl (by decide +kernel) ⟨Nat.le_of_ble_eq_true rfl, Nat.le_of_ble_eq_true rfl⟩) hP rfl hl.1 rfl (Nat.le_of_ble_eq_true rfl) dX10_even_8 ⟨Nat.le_of_ble_eq_true rfl, Nat.le_of_ble_eq_true rfl⟩ hS (fun r8 H locs q8 hP hS => ?_)
  refine lv_if_ne (tgt := 18) hx hb dX10_even_11 (by decide) (fun c11 => ?_) (fun c11 => ?_)
  · skip
    have b11 := bo_t q8 c11
    refine lv_iload_n hx hb dX10_even_18 rfl (lv_at hl 1 rfl) ?_
    refine lv_iload_n hx hb dX10_even_19 rfl (lv_at hl 2 rfl) ?_
    refine lv_lload_n hx hb dX10_even_20 rfl (lv_at hl 3 rfl) ?_
    refine lv_iload hx hb dX10_even_21 (lv_at hl 4 rfl) ?_
    refine m_pu (As := [.int w, .int h, .long p0, .int col]) (rest := []) ⟨hx, hb, hml, hown, hts⟩ (c_X10_isEven_x l w h p0 col b11.1.1 b11.1.2) (va_cwS 4 hts gX10_even_X10_isEven rfl rfl rfl (by decide +kernel) ⟨Nat.le_of_ble_eq_true rfl, Nat.le_of_ble_eq_true rfl⟩) hP rfl hl.1 rfl (Nat.le_of_ble_eq_true rfl) dX10_even_23 ⟨Nat.le_of_ble_eq_true rfl, Nat.le_of_ble_eq_true rfl⟩ hS (fun r23 H locs q23 hP hS => ?_)
    refine lv_if_eq (tgt := 33) hx hb dX10_even_26 (by decide) (fun c26 => ?_) (fun c26 => ?_)
    · skip
      have b26 := bo_f q23 c26
      refine lv_iconst (v := 0) hx hb dX10_even_33 (by decide) ?_
      exact W.iret (v := (0 : Int32)) hx hb hr (fun t ht hW => ⟨⟨_, ((upd f 0 (0 : Int32)), g, r, q), rfl, ⟨rfl, (Or.inl ⟨goodP_of b11, Or.inr ⟨rfl, b26⟩⟩)⟩, by unfold mB; rw [ht]; exact hP⟩, hS.F ht⟩) hS.2.2 dX10_even_34
    · skip
      have b26 := bo_t q23 c26
      refine lv_iconst (v := 1) hx hb dX10_even_29 (by decide) ?_
      refine lv_goto (tgt := 34) hx hb dX10_even_30 (by decide) ?_
      exact W.iret (v := (1 : Int32)) hx hb hr (fun t ht hW => ⟨⟨_, ((upd f 0 (0 : Int32)), g, r, q), rfl, ⟨rfl, (Or.inl ⟨goodP_of b11, Or.inl ⟨rfl, b26⟩⟩)⟩, by unfold mB; rw [ht]; exact hP⟩, hS.F ht⟩) hS.2.2 dX10_even_34
  · skip
    have b11 := bo_f q8 c11
    refine lv_iconst (v := (-1)) hx hb dX10_even_14 (by decide) ?_
    refine lv_goto (tgt := 34) hx hb dX10_even_15 (by decide) ?_
    exact W.iret (v := ((-1) : Int32)) hx hb hr (fun t ht hW => ⟨⟨_, ((upd f 0 (0 : Int32)), g, r, q), rfl, ⟨rfl, (Or.inr ⟨goodP_no b11, rfl⟩)⟩, by unfold mB; rw [ht]; exact hP⟩, hS.F ht⟩) hS.2.2 dX10_even_34
/-! counting ones: java.lang.Long.bitCount, java.lang.Integer.bitCount -/
def bs (f : Nat → Bool) : Nat → Nat
  | 0 => 0
  | k + 1 => bs f k + (f k).toNat
theorem bs_le (f : Nat → Bool) (k : Nat) : bs f k ≤ k := by
  induction k with
  | zero => exact Nat.le_refl _
  | succ k ih => simp only [bs]; cases f k <;> simp only [Bool.toNat_true, Bool.toNat_false] <;> omega
theorem bs_cg {f g : Nat → Bool} {k : Nat} (h : ∀ i, i < k → f i = g i) : bs f k = bs g k := by
  induction k with
  | zero => rfl
  | succ k ih => simp only [bs]; rw [ih (fun i hi => h i (by omega)), h k (by omega)]
theorem bs_add (f : Nat → Bool) (a b : Nat) : bs f (a + b) = bs f a + bs (fun i => f (a + i)) b := by
  induction b with
  | zero => rfl
  | succ b ih => show bs f (a + b) + (f (a + b)).toNat = bs f a + (bs (fun i => f (a + i)) b + (f (a + b)).toNat); omega
def pc8 (b : Nat) : Nat := bs (fun i => b.testBit i) 8
def dg : Nat → Nat → Nat
  | 0, _ => 0
  | k + 1, n => 256 * dg k (n / 256) + pc8 (n % 256)
def m85 : Nat → Nat
  | 0 => 0
  | k + 1 => 256 * m85 k + 85
def m51 : Nat → Nat
  | 0 => 0
  | k + 1 => 256 * m51 k + 51
def m15 : Nat → Nat
  | 0 => 0
  | k + 1 => 256 * m15 k + 15
theorem and256 {a m : Nat} {c d : Nat} (hc : c < 256) (hd : d < 256) : (256 * a + c) &&& (256 * m + d) = 256 * (a &&& m) + (c &&& d) := by
  have h1 : ((256 * a + c) &&& (256 * m + d)) / 2 ^ 8 = a &&& m := by
    rw [Nat.and_div_two_pow]
    rw [show (256 * a + c) / 2 ^ 8 = a by omega, show (256 * m + d) / 2 ^ 8 = m by omega]
  have h2 : ((256 * a + c) &&& (256 * m + d)) % 2 ^ 8 = c &&& d := by
    rw [Nat.and_mod_two_pow]
    rw [show (256 * a + c) % 2 ^ 8 = c by omega, show (256 * m + d) % 2 ^ 8 = d by omega]
  generalize (256 * a + c) &&& (256 * m + d) = z at *
  omega
set_option maxRecDepth 100000 in
theorem byte1 : ∀ b, b < 256 → (b / 2 &&& 85) ≤ b ∧ (∀ r, r < 2 → (128 * r + b / 2) &&& 85 = b / 2 &&& 85) := by decide +kernel
set_option maxRecDepth 100000 in
theorem byte2 : ∀ c, c < 256 → (∀ r, r < 4 → (64 * r + c / 4) &&& 51 = c / 4 &&& 51) := by decide +kernel
set_option maxRecDepth 100000 in
theorem byte3 : ∀ b, b < 256 → ((b - (b / 2 &&& 85) &&& 51) + ((b - (b / 2 &&& 85)) / 4 &&& 51)) ≤ 68 ∧ ((b - (b / 2 &&& 85) &&& 51) + ((b - (b / 2 &&& 85)) / 4 &&& 51)) % 16 ≤ 4 ∧ (∀ r, r < 5 → (((b - (b / 2 &&& 85) &&& 51) + ((b - (b / 2 &&& 85)) / 4 &&& 51)) + 16 * r + ((b - (b / 2 &&& 85) &&& 51) + ((b - (b / 2 &&& 85)) / 4 &&& 51)) / 16) &&& 15 = pc8 b) := by decide +kernel
def x1 (k n : Nat) : Nat := n - (n / 2 &&& m85 k)
def x2 (k n : Nat) : Nat := (x1 k n &&& m51 k) + (x1 k n / 4 &&& m51 k)
def x3 (k n : Nat) : Nat := (x2 k n + x2 k n / 16) &&& m15 k
theorem x_all (k : Nat) : ∀ n, n < 256 ^ k → (n / 2 &&& m85 k) ≤ n ∧ x2 k n < 256 ^ k ∧ x2 k n + x2 k n / 16 < 256 ^ k ∧ x2 k n % 16 ≤ 4 ∧ x3 k n = dg k n := by
  induction k with
  | zero =>
    intro n hn
    have : n = 0 := by simp at hn; omega
    subst this
    decide
  | succ k ih =>
    intro n hn
    obtain ⟨y, b, hb, rfl⟩ : ∃ y b, b < 256 ∧ n = 256 * y + b := ⟨n / 256, n % 256, by omega, by omega⟩
    have hp : 256 ^ (k + 1) = 256 * 256 ^ k := by rw [Nat.pow_succ, Nat.mul_comm]
    rw [hp] at hn ⊢
    have hy : y < 256 ^ k := by omega
    obtain ⟨h1, h2, h3, h4, h5⟩ := ih y hy
    obtain ⟨b1, b2⟩ := byte1 b hb
    obtain ⟨c1, c2, c3⟩ := byte3 b hb
    have e1 : (256 * y + b) / 2 &&& m85 (k + 1) = 256 * (y / 2 &&& m85 k) + (b / 2 &&& 85) := by
      show _ &&& (256 * m85 k + 85) = _
      rw [show (256 * y + b) / 2 = 256 * (y / 2) + (128 * (y % 2) + b / 2) by omega, and256 (by omega) (by omega), b2 (y % 2) (by omega)]
    have e2 : x1 (k + 1) (256 * y + b) = 256 * x1 k y + (b - (b / 2 &&& 85)) := by unfold x1; rw [e1]; omega
    have hc : b - (b / 2 &&& 85) < 256 := by omega
    obtain ⟨c, hcc⟩ : ∃ c, c = b - (b / 2 &&& 85) := ⟨_, rfl⟩
    rw [← hcc] at e2 hc c1 c2 c3
    have d2 := byte2 c hc
    obtain ⟨z, hz⟩ : ∃ z, z = x1 k y := ⟨_, rfl⟩
    have e3 : x2 (k + 1) (256 * y + b) = 256 * x2 k y + ((c &&& 51) + (c / 4 &&& 51)) := by
      unfold x2
      rw [e2, ← hz]
      show ((256 * z + c) &&& (256 * m51 k + 51)) + ((256 * z + c) / 4 &&& (256 * m51 k + 51)) = _
      rw [show (256 * z + c) / 4 = 256 * (z / 4) + (64 * (z % 4) + c / 4) by omega, and256 hc (by omega), and256 (by omega) (by omega), d2 (z % 4) (by omega)]
      omega
    obtain ⟨d, hd⟩ : ∃ d, d = (c &&& 51) + (c / 4 &&& 51) := ⟨_, rfl⟩
    rw [← hd] at e3 c1 c2 c3
    obtain ⟨u, hu⟩ : ∃ u, u = x2 k y := ⟨_, rfl⟩
    rw [← hu] at e3 h2 h3 h4
    have e4 : x2 (k + 1) (256 * y + b) + x2 (k + 1) (256 * y + b) / 16 = 256 * (u + u / 16) + (d + 16 * (u % 16) + d / 16) := by rw [e3]; omega
    refine ⟨by rw [e1]; omega, by rw [e3]; omega, by rw [e4]; omega, by rw [e3]; omega, ?_⟩
    unfold x3
    rw [e4]
    show (256 * (u + u / 16) + (d + 16 * (u % 16) + d / 16)) &&& (256 * m15 k + 15) = 256 * dg k ((256 * y + b) / 256) + pc8 ((256 * y + b) % 256)
    rw [and256 (by omega) (by omega), c3 (u % 16) (by omega), show (256 * y + b) / 256 = y by omega, show (256 * y + b) % 256 = b by omega, ← h5]
    unfold x3
    rw [← hu]
theorem pc8_le (b : Nat) : pc8 b ≤ 8 := bs_le _ 8
theorem pc8_bs (n j : Nat) : pc8 (n / 2 ^ j % 256) = bs (fun i => n.testBit (j + i)) 8 := by
  unfold pc8
  apply bs_cg
  intro i hi
  rw [show (256 : Nat) = 2 ^ 8 from rfl, Nat.testBit_mod_two_pow, decide_eq_true hi, Bool.true_and, Nat.testBit_div_two_pow, Nat.add_comm]
theorem dg8 (n : Nat) : ∃ p0 p1 p2 p3 p4 p5 p6 p7 : Nat, (p0 ≤ 8 ∧ p1 ≤ 8 ∧ p2 ≤ 8 ∧ p3 ≤ 8 ∧ p4 ≤ 8 ∧ p5 ≤ 8 ∧ p6 ≤ 8 ∧ p7 ≤ 8) ∧ dg 8 n = p0 + 256 * (p1 + 256 * (p2 + 256 * (p3 + 256 * (p4 + 256 * (p5 + 256 * (p6 + 256 * p7)))))) ∧ bs (fun i => n.testBit i) 64 = p0 + p1 + p2 + p3 + p4 + p5 + p6 + p7 := by
  refine ⟨pc8 (n / 2 ^ 0 % 256), pc8 (n / 2 ^ 8 % 256), pc8 (n / 2 ^ 16 % 256), pc8 (n / 2 ^ 24 % 256), pc8 (n / 2 ^ 32 % 256), pc8 (n / 2 ^ 40 % 256), pc8 (n / 2 ^ 48 % 256), pc8 (n / 2 ^ 56 % 256), ⟨pc8_le _, pc8_le _, pc8_le _, pc8_le _, pc8_le _, pc8_le _, pc8_le _, pc8_le _⟩, ?_, ?_⟩
  · simp only [dg, Nat.div_div_eq_div_mul]
    simp only [show n / 2 ^ 0 = n by omega, show (2 : Nat) ^ 8 = 256 from rfl, show (2 : Nat) ^ 16 = 256 * 256 from rfl, show (2 : Nat) ^ 24 = 256 * 256 * 256 from rfl, show (2 : Nat) ^ 32 = 256 * 256 * 256 * 256 from rfl, show (2 : Nat) ^ 40 = 256 * 256 * 256 * 256 * 256 from rfl, show (2 : Nat) ^ 48 = 256 * 256 * 256 * 256 * 256 * 256 from rfl, show (2 : Nat) ^ 56 = 256 * 256 * 256 * 256 * 256 * 256 * 256 from rfl]
    omega
  · rw [pc8_bs, pc8_bs, pc8_bs, pc8_bs, pc8_bs, pc8_bs, pc8_bs, pc8_bs]
    rw [show (64 : Nat) = 56 + 8 from rfl, bs_add, show (56 : Nat) = 48 + 8 from rfl, bs_add _ 48 8, show (48 : Nat) = 40 + 8 from rfl, bs_add _ 40 8, show (40 : Nat) = 32 + 8 from rfl, bs_add _ 32 8, show (32 : Nat) = 24 + 8 from rfl, bs_add _ 24 8, show (24 : Nat) = 16 + 8 from rfl, bs_add _ 16 8, show (16 : Nat) = 8 + 8 from rfl, bs_add _ 8 8]
    simp only [Nat.zero_add]
theorem dg4 (n : Nat) : ∃ p0 p1 p2 p3 : Nat, (p0 ≤ 8 ∧ p1 ≤ 8 ∧ p2 ≤ 8 ∧ p3 ≤ 8) ∧ dg 4 n = p0 + 256 * (p1 + 256 * (p2 + 256 * p3)) ∧ bs (fun i => n.testBit i) 32 = p0 + p1 + p2 + p3 := by
  refine ⟨pc8 (n / 2 ^ 0 % 256), pc8 (n / 2 ^ 8 % 256), pc8 (n / 2 ^ 16 % 256), pc8 (n / 2 ^ 24 % 256), ⟨pc8_le _, pc8_le _, pc8_le _, pc8_le _⟩, ?_, ?_⟩
  · simp only [dg, Nat.div_div_eq_div_mul]
    simp only [show n / 2 ^ 0 = n by omega, show (2 : Nat) ^ 8 = 256 from rfl, show (2 : Nat) ^ 16 = 256 * 256 from rfl, show (2 : Nat) ^ 24 = 256 * 256 * 256 from rfl]
    omega
  · rw [pc8_bs, pc8_bs, pc8_bs, pc8_bs]
    rw [show (32 : Nat) = 24 + 8 from rfl, bs_add _ 24 8, show (24 : Nat) = 16 + 8 from rfl, bs_add _ 16 8, show (16 : Nat) = 8 + 8 from rfl, bs_add _ 8 8]
    simp only [Nat.zero_add]
theorem y_of (x : Int64) : x = lN x.toBitVec.toNat := Int64.toBitVec_inj.mp (by show _ = BitVec.ofNat 64 _; simp)
theorem y_tn {n : Nat} (h : n < 2 ^ 64) : (lN n).toBitVec.toNat = n := by show (BitVec.ofNat 64 n).toNat = n; rw [BitVec.toNat_ofNat, Nat.mod_eq_of_lt h]
theorem y_and {a b : Nat} (ha : a < 2 ^ 64) (hb : b < 2 ^ 64) : lN a &&& lN b = lN (a &&& b) := by
  apply Int64.toBitVec_inj.mp
  apply BitVec.eq_of_toNat_eq
  rw [Int64.toBitVec_and, BitVec.toNat_and, y_tn ha, y_tn hb, y_tn (Nat.and_lt_two_pow _ hb)]
theorem y_cu : ∀ k, k < 64 → ((nI k).toInt64.toUInt64 &&& Int64.toUInt64 63).toNat % 64 = k := by decide +kernel
theorem y_shr {n : Nat} (k : Nat) (hn : n < 2 ^ 64) (hk : k < 64) : ((lN n).toUInt64 >>> ((nI k).toInt64.toUInt64 &&& Int64.toUInt64 63)).toInt64 = lN (n / 2 ^ k) := by
  apply Int64.toBitVec_inj.mp
  apply BitVec.eq_of_toNat_eq
  show ((lN n).toUInt64 >>> ((nI k).toInt64.toUInt64 &&& Int64.toUInt64 63)).toNat = _
  rw [UInt64.toNat_shiftRight, y_cu k hk, Nat.shiftRight_eq_div_pow, y_tn (Nat.lt_of_le_of_lt (Nat.div_le_self _ _) hn)]
  show (lN n).toBitVec.toNat / 2 ^ k = _
  rw [y_tn hn]
theorem lb_tb (x : Int64) (i : Nat) : lb x i = x.toBitVec.toNat.testBit i := rfl
theorem m85_8 : m85 8 = 6148914691236517205 := by decide +kernel
theorem m51_8 : m51 8 = 3689348814741910323 := by decide +kernel
theorem m15_8 : m15 8 = 1085102592571150095 := by decide +kernel
theorem k85 : (6148914691236517205 : Int64) = lN 6148914691236517205 := rfl
theorem k51 : (3689348814741910323 : Int64) = lN 3689348814741910323 := rfl
theorem k15 : (1085102592571150095 : Int64) = lN 1085102592571150095 := rfl
theorem x_8 {n : Nat} (hn : n < 18446744073709551616) : (n / 2 &&& 6148914691236517205) ≤ n ∧ x2 8 n < 18446744073709551616 ∧ x2 8 n + x2 8 n / 16 < 18446744073709551616 ∧ x3 8 n = dg 8 n := by
  have h := x_all 8 n (by rw [show (256 : Nat) ^ 8 = 18446744073709551616 from by decide +kernel]; exact hn)
  rw [show (256 : Nat) ^ 8 = 18446744073709551616 from by decide +kernel, m85_8] at h
  exact ⟨h.1, h.2.1, h.2.2.1, h.2.2.2.2⟩
theorem sum_8 {p0 p1 p2 p3 p4 p5 p6 p7 d m1 m2 m3 : Nat} (hb : p0 ≤ 8 ∧ p1 ≤ 8 ∧ p2 ≤ 8 ∧ p3 ≤ 8 ∧ p4 ≤ 8 ∧ p5 ≤ 8 ∧ p6 ≤ 8 ∧ p7 ≤ 8) (hd : d = p0 + 256 * (p1 + 256 * (p2 + 256 * (p3 + 256 * (p4 + 256 * (p5 + 256 * (p6 + 256 * p7))))))) (hm1 : m1 = d + d / 256) (hm2 : m2 = m1 + m1 / 65536) (hm3 : m3 = m2 + m2 / 4294967296) : m1 < 18446744073709551616 ∧ m2 < 18446744073709551616 ∧ m3 % 128 = p0 + p1 + p2 + p3 + p4 + p5 + p6 + p7 := by
  have a1 : d / 256 = p1 + 256 * (p2 + 256 * (p3 + 256 * (p4 + 256 * (p5 + 256 * (p6 + 256 * p7))))) := by omega
  have a2 : m1 / 65536 = (p2 + p3) + 256 * ((p3 + p4) + 256 * ((p4 + p5) + 256 * ((p5 + p6) + 256 * ((p6 + p7) + 256 * p7)))) := by
    rw [hm1, a1, hd]; clear hm1 hm2 hm3 a1 hd; omega
  have a3 : m2 = (p0 + p1 + p2 + p3) + 256 * ((p1 + p2 + p3 + p4) + 256 * ((p2 + p3 + p4 + p5) + 256 * (p3 + p4 + p5 + p6))) + 4294967296 * ((p4 + p5 + p6 + p7) + 256 * ((p5 + p6 + p7) + 256 * ((p6 + p7) + 256 * p7))) := by
    rw [hm2, a2, hm1, a1, hd]; clear hm1 hm2 hm3 a1 a2 hd; omega
  have a4 : m2 / 4294967296 = (p4 + p5 + p6 + p7) + 256 * ((p5 + p6 + p7) + 256 * ((p6 + p7) + 256 * p7)) := by
    rw [a3]; clear hm1 hm2 hm3 a1 a2 a3 hd; omega
  refine ⟨?_, ?_, ?_⟩
  · rw [hm1, a1, hd]; clear hm1 hm2 hm3 a1 a2 a3 a4 hd; omega
  · rw [a3]; clear hm1 hm2 hm3 a1 a2 a3 a4 hd; omega
  · rw [hm3, a4, a3]; clear hm1 hm2 hm3 a1 a2 a3 a4 hd; omega
theorem and127 (m : Nat) : nI m &&& 127 = nI (m % 128) := by
  have e1 : nI m &&& 127 = nI ((nI m).toBitVec.toNat % 2 ^ 7) := pk_and _ 7 (by decide)
  have e2 : (nI m).toBitVec.toNat = m % 2 ^ 32 := by show (BitVec.ofNat 32 m).toNat = _; rw [BitVec.toNat_ofNat]
  rw [e2] at e1
  rw [show m % 128 = m % 2 ^ 32 % 2 ^ 7 by omega]
  exact e1
theorem bc_long {p v7 v8 v14 v21 v22 v28 v32 v39 v46 v53 : Int64} {r : Int32}
    (e7 : v7 = (p.toUInt64 >>> ((1 : Int32).toInt64.toUInt64 &&& Int64.toUInt64 63)).toInt64 &&& (6148914691236517205 : Int64)) (e8 : v8 = p - v7)
    (e14 : v14 = v8 &&& (3689348814741910323 : Int64)) (e21 : v21 = (v8.toUInt64 >>> ((2 : Int32).toInt64.toUInt64 &&& Int64.toUInt64 63)).toInt64 &&& (3689348814741910323 : Int64)) (e22 : v22 = v14 + v21)
    (e28 : v28 = v22 + (v22.toUInt64 >>> ((4 : Int32).toInt64.toUInt64 &&& Int64.toUInt64 63)).toInt64) (e32 : v32 = v28 &&& (1085102592571150095 : Int64))
    (e39 : v39 = v32 + (v32.toUInt64 >>> ((8 : Int32).toInt64.toUInt64 &&& Int64.toUInt64 63)).toInt64) (e46 : v46 = v39 + (v39.toUInt64 >>> ((16 : Int32).toInt64.toUInt64 &&& Int64.toUInt64 63)).toInt64)
    (e53 : v53 = v46 + (v46.toUInt64 >>> ((32 : Int32).toInt64.toUInt64 &&& Int64.toUInt64 63)).toInt64) (er : r = v53.toInt32 &&& 127) : r = nI (bs (lb p) 64) := by
  obtain ⟨n, hn⟩ : ∃ n, n = p.toBitVec.toNat := ⟨_, rfl⟩
  have hp : p = lN n := by rw [hn]; exact y_of p
  have hlt : n < 2 ^ 64 := by rw [hn]; exact p.toBitVec.isLt
  obtain ⟨a1, a2, a3, a5⟩ := x_8 (n := n) (by omega)
  have f7 : v7 = lN (n / 2 &&& 6148914691236517205) := by
    rw [e7, hp, show (1 : Int32) = nI 1 from rfl, y_shr 1 hlt (by decide), k85, Nat.pow_one]
    exact y_and (by omega) (by omega)
  have f8 : v8 = lN (x1 8 n) := by rw [e8, f7, hp, lN_sub a1]; unfold x1; rw [m85_8]
  have b1 : x1 8 n < 2 ^ 64 := Nat.lt_of_le_of_lt (Nat.sub_le _ _) hlt
  have f14 : v14 = lN (x1 8 n &&& m51 8) := by rw [e14, f8, k51, m51_8]; exact y_and b1 (by omega)
  have f21 : v21 = lN (x1 8 n / 4 &&& m51 8) := by
    rw [e21, f8, show (2 : Int32) = nI 2 from rfl, y_shr 2 b1 (by decide), k51, m51_8]
    exact y_and (Nat.lt_of_le_of_lt (Nat.div_le_self _ _) b1) (by omega)
  have f22 : v22 = lN (x2 8 n) := by rw [e22, f14, f21]; exact lN_add _ _
  have b2 : x2 8 n < 2 ^ 64 := a2
  have f28 : v28 = lN (x2 8 n + x2 8 n / 16) := by rw [e28, f22, show (4 : Int32) = nI 4 from rfl, y_shr 4 b2 (by decide)]; exact lN_add _ _
  have f32 : v32 = lN (dg 8 n) := by
    rw [e32, f28, k15, ← a5]
    unfold x3
    rw [m15_8]
    exact y_and a3 (by omega)
  obtain ⟨p0, p1, p2, p3, p4, p5, p6, p7, hb, hd, hs⟩ := dg8 n
  generalize dg 8 n = d at *
  obtain ⟨m1, hm1⟩ : ∃ z, z = d + d / 256 := ⟨_, rfl⟩
  obtain ⟨m2, hm2⟩ : ∃ z, z = m1 + m1 / 65536 := ⟨_, rfl⟩
  obtain ⟨m3, hm3⟩ : ∃ z, z = m2 + m2 / 4294967296 := ⟨_, rfl⟩
  obtain ⟨c2, c3, hmod⟩ := sum_8 hb hd hm1 hm2 hm3
  have c1 : d < 18446744073709551616 := by omega
  have f39 : v39 = lN m1 := by rw [e39, f32, show (8 : Int32) = nI 8 from rfl, y_shr 8 c1 (by decide), hm1]; exact lN_add _ _
  have f46 : v46 = lN m2 := by rw [e46, f39, show (16 : Int32) = nI 16 from rfl, y_shr 16 c2 (by decide), hm2]; exact lN_add _ _
  have f53 : v53 = lN m3 := by rw [e53, f46, show (32 : Int32) = nI 32 from rfl, y_shr 32 c3 (by decide), hm3]; exact lN_add _ _
  rw [er, f53, lN_i, and127, hmod, ← hs]
  congr 1
  apply bs_cg
  intro i _
  rw [lb_tb, hn]

theorem bs_z {f : Nat → Bool} {k : Nat} (h : ∀ i, i < k → f i = false) : bs f k = 0 := by
  induction k with
  | zero => rfl
  | succ k ih => simp only [bs]; rw [ih (fun i hi => h i (by omega)), h k (by omega)]; rfl
def shN (w h : Nat) (p : Int64) (way line : Nat) : Nat := bs (fun s => decide (lnT h way (s % w) (s / w) = line) && lb p s) (w * h)
theorem lb_bLN {w h way line s : Nat} (hb : 1 ≤ w ∧ w ≤ 6 ∧ 1 ≤ h ∧ h ≤ 6) (hw : way < 4) (hl : line < 11) (hs : s < 64) : ∀ n, n ≤ 4 * (w * h) → lb (bLN w h n (way * 11 + line)) s = decide (4 * s + way < n ∧ lnT h way (s % w) (s / w) = line) := by
  have h36 : w * h ≤ 6 * 6 := Nat.mul_le_mul (by omega) (by omega)
  intro n
  induction n with
  | zero =>
    intro _
    show lb (0 : Int64) s = _
    rw [lb_0, decide_eq_false (by omega)]
  | succ n ih =>
    intro hn
    have i1 := ih (by omega)
    have hxy : n / 4 < w * h := by omega
    have hx : n / 4 % w < w := Nat.mod_lt _ (by omega)
    have hy : n / 4 / w < h := Nat.div_lt_of_lt_mul hxy
    have hL := lnT_b (way := n % 4) hb hx hy
    simp only [bLN, vp_updL]
    by_cases e : way * 11 + line = n % 4 * 11 + lnT h (n % 4) (n / 4 % w) (n / 4 / w)
    · rw [if_pos e, ← e, lb_or, i1, lb_l1 (by omega) hs]
      have ew : n % 4 = way := by omega
      have el : lnT h (n % 4) (n / 4 % w) (n / 4 / w) = line := by omega
      by_cases es : s = n / 4
      · rw [decide_eq_true es, Bool.or_true]
        symm
        apply decide_eq_true
        refine ⟨by omega, ?_⟩
        rw [es, ← ew]
        exact el
      · rw [decide_eq_false es, Bool.or_false]
        apply decide_eq_decide.mpr
        constructor
        · rintro ⟨a, b⟩; exact ⟨by omega, b⟩
        · rintro ⟨a, b⟩; exact ⟨by omega, b⟩
    · rw [if_neg e, i1]
      apply decide_eq_decide.mpr
      constructor
      · rintro ⟨a, b⟩; exact ⟨by omega, b⟩
      · rintro ⟨a, b⟩
        refine ⟨?_, b⟩
        by_cases e2 : 4 * s + way = n
        · exfalso
          apply e
          have e3 : n % 4 = way := by omega
          have e4 : n / 4 = s := by omega
          rw [e3, e4, b]
        · omega
theorem sh_cls {w h way line : Nat} (hb : 1 ≤ w ∧ w ≤ 6 ∧ 1 ≤ h ∧ h ≤ 6) (hw : way < 4) (hl : line < 11) (p : Int64) : bs (lb (p &&& bLn w h (way * 11 + line))) 64 = shN w h p way line := by
  have h36 : w * h ≤ 6 * 6 := Nat.mul_le_mul (by omega) (by omega)
  have h1 : ∀ s, s < 64 → lb (p &&& bLn w h (way * 11 + line)) s = (lb p s && decide (4 * s + way < 4 * (w * h) ∧ lnT h way (s % w) (s / w) = line)) := fun s hs => by
    rw [lb_and]
    unfold bLn
    rw [lb_bLN hb hw hl hs _ (Nat.le_refl _)]
  rw [bs_cg h1, show (64 : Nat) = w * h + (64 - w * h) by omega, bs_add, bs_z (k := 64 - w * h) (fun i hi => by rw [decide_eq_false (by omega), Bool.and_false]), Nat.add_zero]
  unfold shN
  apply bs_cg
  intro s hs
  rw [Bool.and_comm]
  congr 1
  apply decide_eq_decide.mpr
  exact ⟨fun z => z.2, fun z => ⟨by omega, z⟩⟩
def lnC (w h way : Nat) : Nat := if way = 0 then h else if way = 1 then w else w + h - 1
theorem lnC_b {w h : Nat} (hb : 1 ≤ w ∧ w ≤ 6 ∧ 1 ≤ h ∧ h ≤ 6) (way : Nat) : lnC w h way ≤ 11 := by
  unfold lnC
  split
  · omega
  · split <;> omega
theorem cLn {w h : Nat} (hb : 1 ≤ w ∧ w ≤ 6 ∧ 1 ≤ h ∧ h ≤ 6) {way : Int32} (hw : 0 ≤ way.toInt) : (cLines w h way).toInt = (lnC w h way.toNatClampNeg : Int) := by
  have e := m_cl (x := way) hw
  unfold cLines lnC
  by_cases h0 : way.toInt = 0
  · have n0 : way.toNatClampNeg = 0 := by omega
    rw [if_pos h0, if_pos n0]; exact nI_toInt (by omega)
  · have n0 : ¬ way.toNatClampNeg = 0 := by omega
    rw [if_neg h0, if_neg n0]
    by_cases h1 : way.toInt = 1
    · have n1 : way.toNatClampNeg = 1 := by omega
      rw [if_pos h1, if_pos n1]; exact nI_toInt (by omega)
    · have n1 : ¬ way.toNatClampNeg = 1 := by omega
      rw [if_neg h1, if_neg n1]; exact nI_toInt (by omega)
theorem way_is {way : Int32} (h0 : 0 ≤ way.toInt) {c : Int32} {k : Nat} (hc : c.toInt = (k : Int)) : way = c ↔ way.toNatClampNeg = k := by
  have e := m_cl (x := way) h0
  constructor
  · intro z; subst z; omega
  · intro z; exact Int32.toInt_inj.mp (by omega)
theorem rLn {w h : Int32} (hw : 1 ≤ w.toInt ∧ w.toInt ≤ 6) (hh : 1 ≤ h.toInt ∧ h.toInt ≤ 6) {way : Int32} (h0 : 0 ≤ way.toInt) : (r_lines w h way).toInt = (lnC w.toNatClampNeg h.toNatClampNeg way.toNatClampNeg : Int) := by
  have e1 := m_cl (x := w) (by omega)
  have e2 := m_cl (x := h) (by omega)
  have k1 : (1 : Int32).toInt = 1 := rfl
  have a1 : (w + h).toInt = w.toInt + h.toInt := fb_addI (by omega) (by omega)
  have a2 : (w + h - 1).toInt = w.toInt + h.toInt - 1 := by rw [fb_subI (by omega) (by omega), a1]; rfl
  have w0 := way_is h0 (c := 0) (k := 0) rfl
  have w1 := way_is h0 (c := 1) (k := 1) rfl
  unfold r_lines lnC
  by_cases c0 : way = 0
  · rw [if_pos c0, if_pos (w0.mp c0)]; omega
  · have n0 : ¬ way.toNatClampNeg = 0 := fun z => c0 (w0.mpr z)
    rw [if_neg c0, if_neg n0]
    by_cases c1 : way = 1
    · rw [if_pos c1, if_pos (w1.mp c1)]; omega
    · have n1 : ¬ way.toNatClampNeg = 1 := fun z => c1 (w1.mpr z)
      rw [if_neg c1, if_neg n1]; omega
theorem r_lineN {b x y : Nat} {way : Int32} (hw : 0 ≤ way.toInt ∧ way.toInt ≤ 3) (hb : b ≤ 6) (hx : x < 6) (hy : y < b) : r_line (nI b) way (nI x) (nI y) = nI (lnT b way.toNatClampNeg x y) := by
  have w0 := way_is hw.1 (c := 0) (k := 0) rfl
  have w1 := way_is hw.1 (c := 1) (k := 1) rfl
  have w2 := way_is hw.1 (c := 2) (k := 2) rfl
  have k1 : (1 : Int32).toInt = 1 := rfl
  unfold r_line lnT
  by_cases c0 : way = 0
  · rw [if_pos c0, if_pos (w0.mp c0)]
  · have n0 : ¬ way.toNatClampNeg = 0 := fun z => c0 (w0.mpr z)
    rw [if_neg c0, if_neg n0]
    by_cases c1 : way = 1
    · rw [if_pos c1, if_pos (w1.mp c1)]
    · have n1 : ¬ way.toNatClampNeg = 1 := fun z => c1 (w1.mpr z)
      rw [if_neg c1, if_neg n1]
      by_cases c2 : way = 2
      · rw [if_pos c2, if_pos (w2.mp c2)]
        have a1 : (nI x - nI y).toInt = (x : Int) - y := pk_sub_toInt (by omega) (by omega)
        have ab : (nI b).toInt = (b : Int) := nI_toInt (by omega)
        have a2 : (nI x - nI y + nI b).toInt = (x : Int) - y + b := by rw [fb_addI (by omega) (by omega), a1, ab]
        apply Int32.toInt_inj.mp
        rw [fb_subI (by omega) (by omega), a2, nI_toInt (by omega)]
        omega
      · have n2 : ¬ way.toNatClampNeg = 2 := fun z => c2 (w2.mpr z)
        rw [if_neg c2, if_neg n2]
        exact nI_add _ _
theorem r_shN {w h way line : Int32} {p : Int64} (hw : 1 ≤ w.toInt ∧ w.toInt ≤ 6) (hh : 1 ≤ h.toInt ∧ h.toInt ≤ 6) (hy : 0 ≤ way.toInt ∧ way.toInt ≤ 3) (hl : 0 ≤ line.toInt) : ∀ n, n ≤ w.toNatClampNeg * h.toNatClampNeg → r_sh w h p way line n = nI (bs (fun s => decide (lnT h.toNatClampNeg way.toNatClampNeg (s % w.toNatClampNeg) (s / w.toNatClampNeg) = line.toNatClampNeg) && lb p s) n) := by
  obtain ⟨ha, hb, h36, -⟩ := wh36 hw hh
  have ew := cl_nI (w := w) (by omega)
  have eh := cl_nI (w := h) (by omega)
  have el := cl_nI (w := line) hl
  generalize w.toNatClampNeg = a at *
  generalize h.toNatClampNeg = b at *
  subst ew
  subst eh
  intro n
  induction n with
  | zero => intro _; rfl
  | succ n ih =>
    intro hn
    have hx : n % a < a := Nat.mod_lt _ (by omega)
    have hd : n / a < b := Nat.div_lt_of_lt_mul (by omega)
    have hT : lnT b way.toNatClampNeg (n % a) (n / a) < 11 := lnT_b (w := a) ⟨by omega, by omega, by omega, by omega⟩ hx hd
    have hcl : line.toNatClampNeg < 2 ^ 31 := by
      have := m_cl (x := line) hl
      have := Int32.toInt_lt line
      omega
    simp only [r_sh, bs]
    rw [ih (by omega), pk_rem (by omega) (by omega) (by omega), pk_div (by omega) (by omega) (by omega), r_lineN hy (by omega) (by omega) hd]
    by_cases c : lnT b way.toNatClampNeg (n % a) (n / a) = line.toNatClampNeg
    · rw [if_pos (by rw [c]; exact el), decide_eq_true c, Bool.true_and, one_lb p (by omega)]
      cases lb p n
      · exact nI_add _ 0
      · exact nI_1 _
    · rw [if_neg (fun z => c ((nI_eq (by omega) hcl).mp (z.trans el.symm))), decide_eq_false c, Bool.false_and]
      exact nI_add _ 0
theorem r_shS {w h way line : Int32} {p : Int64} (hw : 1 ≤ w.toInt ∧ w.toInt ≤ 6) (hh : 1 ≤ h.toInt ∧ h.toInt ≤ 6) (hy : 0 ≤ way.toInt ∧ way.toInt ≤ 3) (hl : 0 ≤ line.toInt) {r : Int32} (hr : r = r_sh w h p way line (w.toInt * h.toInt).toNat) : r = nI (shN w.toNatClampNeg h.toNatClampNeg p way.toNatClampNeg line.toNatClampNeg) := by
  obtain ⟨_, _, _, e⟩ := wh36 hw hh
  rw [hr, ← e, Int.toNat_natCast, r_shN hw hh hy hl _ (Nat.le_refl _)]
  rfl
def okL (w h : Nat) (way line : Int32) : Prop := (0 ≤ way.toInt ∧ way.toInt ≤ 3) ∧ 0 ≤ line.toInt ∧ line.toInt < (lnC w h way.toNatClampNeg : Int)
def shA (w h : Int32) (p : Int64) (way line : Int32) (x : Int32) : Prop := ((goodP w h p ∧ okL w.toNatClampNeg h.toNatClampNeg way line) ∧ x = nI (shN w.toNatClampNeg h.toNatClampNeg p way.toNatClampNeg line.toNatClampNeg)) ∨ (¬ (goodP w h p ∧ okL w.toNatClampNeg h.toNatClampNeg way line) ∧ x = -1)
theorem shA_eq {w h : Int32} {p : Int64} {way line x y : Int32} (hx : shA w h p way line x) (hy : shA w h p way line y) : x = y := by
  rcases hx with ⟨a, c⟩ | ⟨a, c⟩ <;> rcases hy with ⟨d, f⟩ | ⟨d, f⟩
  · rw [c, f]
  · exact absurd a d
  · exact absurd d a
  · rw [c, f]
def alike (w h : Nat) (p q : Int64) (way : Nat) : Prop := ∀ l, l < lnC w h way → shN w h p way l = shN w h q way l
def unl (w h : Nat) (p q : Int64) (set : Int32) (k : Nat) : Prop := gB set k = 1 ∧ ¬ alike w h p q k
def fstW (P : Nat → Prop) (no x : Int32) : Prop := (∃ k, k < 4 ∧ x = nI k ∧ P k ∧ ∀ j, j < k → ¬ P j) ∨ (x = no ∧ ∀ j, j < 4 → ¬ P j)
theorem fstW_eq {P : Nat → Prop} {no x y : Int32} (hx : fstW P no x) (hy : fstW P no y) : x = y := by
  rcases hx with ⟨k, a, b, c, d⟩ | ⟨a, b⟩ <;> rcases hy with ⟨k2, a2, b2, c2, d2⟩ | ⟨a2, b2⟩
  · have e : k = k2 := by
      rcases Nat.lt_trichotomy k k2 with h | h | h
      · exact absurd c (d2 k h)
      · exact h
      · exact absurd c2 (d k2 h)
    rw [b, b2, e]
  · exact absurd c (b2 k a)
  · exact absurd c2 (b k2 a2)
  · rw [a, a2]
def paA (w h : Int32) (p q : Int64) (ways x : Int32) : Prop := ((goodP w h p ∧ goodP w h q ∧ 0 ≤ ways.toInt ∧ ways.toInt ≤ 15) ∧ fstW (unl w.toNatClampNeg h.toNatClampNeg p q ways) (-2) x) ∨ (¬ (goodP w h p ∧ goodP w h q ∧ 0 ≤ ways.toInt ∧ ways.toInt ≤ 15) ∧ x = -1)
theorem paA_eq {w h : Int32} {p q : Int64} {ways x y : Int32} (hx : paA w h p q ways x) (hy : paA w h p q ways y) : x = y := by
  rcases hx with ⟨a, c⟩ | ⟨a, c⟩ <;> rcases hy with ⟨d, f⟩ | ⟨d, f⟩
  · exact fstW_eq c f
  · exact absurd a d
  · exact absurd d a
  · rw [c, f]
set_option maxHeartbeats 4000000 in
set_option maxRecDepth 100000 in
theorem c_J13_x (l : Launch) (p0 : Int64)  : Pu l yJ13_bitCount_95d88 wsJ13_bitCount_95d88 ({ frames := 0, cells := 0, slots := 0, locals := 0 }) [.long p0] (fun r => r = nI (bs (lb p0) 64)) := by
  refine Met.ofW (cc := cJ13_bitCount_95d88) (maxL := 2) (ret := (some .int)) (by decide) rfl ?_
  intro p e s m args below meth c s₁ B hml hv
  obtain ⟨rfl, -⟩ := hv
  have hx := B.exec
  have hb := B.bytes
  have hr := B.returns
  have hts := atoms_spec (ws := wsJ13_bitCount_95d88) B.pre
  have hown : s.vm.findClass RJ13 = some m.cls := findClass_of_methodNamed B.named
  have hlocks := B.notSynchronized
  have hS : va_S (fun _ => False) s.heap s.heap [] := va_S.rf
  have hl := lv_entry ([.long p0]) (n := 2) (Nat.le_of_ble_eq_true rfl)
  rw [lg_entry_eq]
  generalize (lg_sl ([.long p0]) ++ List.replicate (2 - (lg_sl ([.long p0])).length) Slot.unset).toArray = ls at hl ⊢
  have hl : lv_has ls 2 [(0, .long p0)] := hl
  have hS0 := hS
  have k_0 : (0 : Int32).toInt = 0 := by decide
  have k_1 : (1 : Int32).toInt = 1 := by decide
  have k_2 : (2 : Int32).toInt = 2 := by decide
  have k_4 : (4 : Int32).toInt = 4 := by decide
  have k_8 : (8 : Int32).toInt = 8 := by decide
  have k_16 : (16 : Int32).toInt = 16 := by decide
  have k_32 : (32 : Int32).toInt = 32 := by decide
  have k_127 : (127 : Int32).toInt = 127 := by decide
  have k_1085102592571150095L : (1085102592571150095 : Int64).toInt = 1085102592571150095 := by decide
  have k_3689348814741910323L : (3689348814741910323 : Int64).toInt = 3689348814741910323 := by decide
  have k_6148914691236517205L : (6148914691236517205 : Int64).toInt = 6148914691236517205 := by decide
  refine lv_lload_n hx hb dJ13_bitCount_95d88_0 rfl (lv_at hl 0 rfl) ?_
  refine lv_lload_n hx hb dJ13_bitCount_95d88_1 rfl (lv_at hl 0 rfl) ?_
  refine lv_iconst (v := 1) hx hb dJ13_bitCount_95d88_2 (by decide) ?_
  refine lv_lushr (v := (p0.toUInt64 >>> ((1 : Int32).toInt64.toUInt64 &&& Int64.toUInt64 63)).toInt64) hx hb dJ13_bitCount_95d88_3 rfl ?_
  refine lv_ldc2 hx hb hown (hts (.constantLong RJ13 314 (6148914691236517205)) (by decide +kernel)) dJ13_bitCount_95d88_4 ?_
  refine lv_land hx hb dJ13_bitCount_95d88_7 ?_
  refine lv_topl (fun v7 e7 => ?_)
  refine lv_lsub hx hb dJ13_bitCount_95d88_8 ?_
  refine lv_topl (fun v8 e8 => ?_)
  refine lv_lstore_n (lv' := [(0, .long v8)]) hx hb dJ13_bitCount_95d88_9 rfl hl (by decide) rfl (fun ls hl => ?_)
  refine lv_lload_n hx hb dJ13_bitCount_95d88_10 rfl (lv_at hl 0 rfl) ?_
  refine lv_ldc2 hx hb hown (hts (.constantLong RJ13 316 (3689348814741910323)) (by decide +kernel)) dJ13_bitCount_95d88_11 ?_
  refine lv_land hx hb dJ13_bitCount_95d88_14 ?_
  refine lv_topl (fun v14 e14 => ?_)
  refine lv_lload_n hx hb dJ13_bitCount_95d88_15 rfl (lv_at hl 0 rfl) ?_
  refine lv_iconst (v := 2) hx hb dJ13_bitCount_95d88_16 (by decide) ?_
  refine lv_lushr (v := (v8.toUInt64 >>> ((2 : Int32).toInt64.toUInt64 &&& Int64.toUInt64 63)).toInt64) hx hb dJ13_bitCount_95d88_17 rfl ?_
  refine lv_ldc2 hx hb hown (hts (.constantLong RJ13 316 (3689348814741910323)) (by decide +kernel)) dJ13_bitCount_95d88_18 ?_
  refine lv_land hx hb dJ13_bitCount_95d88_21 ?_
  refine lv_topl (fun v21 e21 => ?_)
  refine lv_ladd hx hb dJ13_bitCount_95d88_22 ?_
  refine lv_topl (fun v22 e22 => ?_)
  refine lv_lstore_n (lv' := [(0, .long v22)]) hx hb dJ13_bitCount_95d88_23 rfl hl (by decide) rfl (fun ls hl => ?_)
  refine lv_lload_n hx hb dJ13_bitCount_95d88_24 rfl (lv_at hl 0 rfl) ?_
  refine lv_lload_n hx hb dJ13_bitCount_95d88_25 rfl (lv_at hl 0 rfl) ?_
  refine lv_iconst (v := 4) hx hb dJ13_bitCount_95d88_26 (by decide) ?_
  refine lv_lushr (v := (v22.toUInt64 >>> ((4 : Int32).toInt64.toUInt64 &&& Int64.toUInt64 63)).toInt64) hx hb dJ13_bitCount_95d88_27 rfl ?_
  refine lv_ladd hx hb dJ13_bitCount_95d88_28 ?_
  refine lv_topl (fun v28 e28 => ?_)
  refine lv_ldc2 hx hb hown (hts (.constantLong RJ13 318 (1085102592571150095)) (by decide +kernel)) dJ13_bitCount_95d88_29 ?_
  refine lv_land hx hb dJ13_bitCount_95d88_32 ?_
  refine lv_topl (fun v32 e32 => ?_)
  refine lv_lstore_n (lv' := [(0, .long v32)]) hx hb dJ13_bitCount_95d88_33 rfl hl (by decide) rfl (fun ls hl => ?_)
  refine lv_lload_n hx hb dJ13_bitCount_95d88_34 rfl (lv_at hl 0 rfl) ?_
  refine lv_lload_n hx hb dJ13_bitCount_95d88_35 rfl (lv_at hl 0 rfl) ?_
  refine lv_bipush (v := 8) hx hb dJ13_bitCount_95d88_36 (by decide) ?_
  refine lv_lushr (v := (v32.toUInt64 >>> ((8 : Int32).toInt64.toUInt64 &&& Int64.toUInt64 63)).toInt64) hx hb dJ13_bitCount_95d88_38 rfl ?_
  refine lv_ladd hx hb dJ13_bitCount_95d88_39 ?_
  refine lv_topl (fun v39 e39 => ?_)
  refine lv_lstore_n (lv' := [(0, .long v39)]) hx hb dJ13_bitCount_95d88_40 rfl hl (by decide) rfl (fun ls hl => ?_)
  refine lv_lload_n hx hb dJ13_bitCount_95d88_41 rfl (lv_at hl 0 rfl) ?_
  refine lv_lload_n hx hb dJ13_bitCount_95d88_42 rfl (lv_at hl 0 rfl) ?_
  refine lv_bipush (v := 16) hx hb dJ13_bitCount_95d88_43 (by decide) ?_
  refine lv_lushr (v := (v39.toUInt64 >>> ((16 : Int32).toInt64.toUInt64 &&& Int64.toUInt64 63)).toInt64) hx hb dJ13_bitCount_95d88_45 rfl ?_
  refine lv_ladd hx hb dJ13_bitCount_95d88_46 ?_
  refine lv_topl (fun v46 e46 => ?_)
  refine lv_lstore_n (lv' := [(0, .long v46)]) hx hb dJ13_bitCount_95d88_47 rfl hl (by decide) rfl (fun ls hl => ?_)
  refine lv_lload_n hx hb dJ13_bitCount_95d88_48 rfl (lv_at hl 0 rfl) ?_
  refine lv_lload_n hx hb dJ13_bitCount_95d88_49 rfl (lv_at hl 0 rfl) ?_
  refine lv_bipush (v := 32) hx hb dJ13_bitCount_95d88_50 (by decide) ?_
  refine lv_lushr (v := (v46.toUInt64 >>> ((32 : Int32).toInt64.toUInt64 &&& Int64.toUInt64 63)).toInt64) hx hb dJ13_bitCount_95d88_52 rfl ?_
  refine lv_ladd hx hb dJ13_bitCount_95d88_53 ?_
  refine lv_topl (fun v53 e53 => ?_)
  refine lv_lstore_n (lv' := [(0, .long v53)]) hx hb dJ13_bitCount_95d88_54 rfl hl (by decide) rfl (fun ls hl => ?_)
  refine lv_lload_n hx hb dJ13_bitCount_95d88_55 rfl (lv_at hl 0 rfl) ?_
  refine lv_l2i (v := v53.toInt32) hx hb dJ13_bitCount_95d88_56 rfl ?_
  refine lv_bipush (v := 127) hx hb dJ13_bitCount_95d88_57 (by decide) ?_
  refine lv_iand hx hb dJ13_bitCount_95d88_59 ?_
  refine lv_topi (fun v59 e59 => ?_)
  exact W.iret (v := v59) hx hb hr (fun t ht hW => ⟨⟨_, (), rfl, (bc_long e7 e8 e14 e21 e22 e28 e32 e39 e46 e53 e59), trivial⟩, hS.F ht⟩) hS.2.2 dJ13_bitCount_95d88_60
set_option maxHeartbeats 4000000 in
set_option maxRecDepth 100000 in
theorem c_X0_onesOfLine_x (l : Launch) (D : va_G) (cy : Nat → ClassId) (A : Nat → Prop) (G : cG) (ws : va_W) (o : Nat) (way : Int32) (line : Int32) (p0 : Int64) {w h : Nat} (hD : va_D A ws) (hT : cT cy G ws) (hG_o : G o = some (2, w, h)) (hw1 : 0 ≤ way.toInt ∧ way.toInt ≤ 3) (hl1 : 0 ≤ line.toInt ∧ line.toInt < 11) : Ci l D cy A yX0_onesOfLine wsX0_onesOfLine ({ frames := 1, cells := 0, slots := 0, locals := 21 }) 0 0 ws [.ref o, .int way, .int line, .long p0] (fun r0 u => u = (G, ws) ∧ (r0 = nI (shN w h p0 way.toNatClampNeg line.toNatClampNeg))) := by
  refine Met.ofW (cc := cX0_onesOfLine) (maxL := 6) (ret := (some .int)) (by decide) rfl ?_
  intro p e s m args below meth c s₁ B hml hv
  obtain ⟨rfl, hP, hK, hA, hV⟩ := hv
  have hx := B.exec
  have hb := B.bytes
  have hr := B.returns
  have hts := atoms_spec (ws := wsX0_onesOfLine) B.pre
  have hown : s.vm.findClass RX0 = some m.cls := findClass_of_methodNamed B.named
  have hlocks := B.notSynchronized
  have hS : va_S A s.heap s.heap [] := va_S.rf
  have hl := lv_entry ([.ref o, .int way, .int line, .long p0]) (n := 6) (Nat.le_of_ble_eq_true rfl)
  rw [lg_entry_eq]
  generalize (lg_sl ([.ref o, .int way, .int line, .long p0]) ++ List.replicate (6 - (lg_sl ([.ref o, .int way, .int line, .long p0])).length) Slot.unset).toArray = ls at hl ⊢
  have hl : lv_has ls 6 [(0, .ref o), (1, .int way), (2, .int line), (3, .long p0)] := hl
  have k_0 : (0 : Int32).toInt = 0 := by decide
  have k_11 : (11 : Int32).toInt = 11 := by decide
  have hb9 := c_hb hT hG_o
  refine lv_iload_n hx hb dX0_onesOfLine_0 rfl (lv_at hl 1 rfl) ?_
  refine lv_bipush (v := 11) hx hb dX0_onesOfLine_1 (by decide) ?_
  refine lv_imul hx hb dX0_onesOfLine_3 ?_
  refine lv_topi (fun v3 e3 => ?_)
  have i3 : v3.toInt = way.toInt * 11 := by rw [e3]; exact mulcR rfl (by omega) (by omega)
  refine lv_iload_n hx hb dX0_onesOfLine_4 rfl (lv_at hl 2 rfl) ?_
  refine lv_iadd hx hb dX0_onesOfLine_5 ?_
  refine lv_topi (fun v5 e5 => ?_)
  have i5 : v5.toInt = v3.toInt + line.toInt := by rw [e5]; exact fb_addI (by omega) (by omega)
  refine lv_istore (lv' := [(5, .int v5), (0, .ref o), (1, .int way), (2, .int line), (3, .long p0)]) hx hb dX0_onesOfLine_6 hl (by decide) rfl (fun ls hl => ?_)
  have cw := m_cl (x := way) hw1.1
  have cl := m_cl (x := line) hl1.1
  have cp := m_cl (x := v5) (by omega)
  have f5 : v5.toNatClampNeg = way.toNatClampNeg * 11 + line.toNatClampNeg := by omega
  refine lv_iload hx hb dX0_onesOfLine_8 (lv_at hl 0 rfl) ?_
  refine lv_if_lt (tgt := 38) hx hb dX0_onesOfLine_10 (by decide) (fun c10 => ?_) (fun c10 => ?_)
  · skip
    have d10 := c10
    rw [fa_lt] at d10
    refine lv_iconst (v := 0) hx hb dX0_onesOfLine_38 (by decide) ?_
    exact W.iret (v := (0 : Int32)) hx hb hr (fun t ht hW => ⟨⟨_, (G, ws), rfl, ⟨rfl, (by exfalso; omega)⟩, by show va_P D vwCl ws t.heap; rw [ht]; exact hP, hD, hT⟩, hS.F ht⟩) hS.2.2 dX0_onesOfLine_39
  · skip
    have d10 := c10
    rw [fa_lt] at d10
    refine lv_iload hx hb dX0_onesOfLine_13 (lv_at hl 0 rfl) ?_
    refine lv_aload_n hx hb dX0_onesOfLine_15 rfl (lv_at hl 1 rfl) ?_
    obtain ⟨_, hM_o, hb_o, l_o, f_o, r_o, rfl, hG_l_o, hG_f_o, hG_r_o⟩ := hT _ _ hG_o
    refine t_get (v := .ref l_o) (C := RX0) (T := TX0) (N := 8) hx hb hts (by decide +kernel) hown hK hP hM_o rfl 5 (by decide) (hts (.fieldLink RX0 9 "ShadowBench$Board" "lines" "[J") (by decide +kernel)) (fun _ h9 => h9) rfl dX0_onesOfLine_16 ?_
    refine t_alen11 hx hb hK hP hT hG_l_o dX0_onesOfLine_19 ?_
    have i19 : (nI 44).toInt = 44 := nI_toInt (by omega)
    refine lv_icmp_ge (tgt := 38) hx hb dX0_onesOfLine_20 (by decide) (fun c20 => ?_) (fun c20 => ?_)
    · skip
      have d20 := c20
      rw [fa_le] at d20
      refine lv_iconst (v := 0) hx hb dX0_onesOfLine_38 (by decide) ?_
      exact W.iret (v := (0 : Int32)) hx hb hr (fun t ht hW => ⟨⟨_, (G, ws), rfl, ⟨rfl, (by exfalso; omega)⟩, by show va_P D vwCl ws t.heap; rw [ht]; exact hP, hD, hT⟩, hS.F ht⟩) hS.2.2 dX0_onesOfLine_39
    · skip
      have d20 := c20
      rw [fa_le] at d20
      refine lv_lload_n hx hb dX0_onesOfLine_23 rfl (lv_at hl 4 rfl) ?_
      refine lv_aload_n hx hb dX0_onesOfLine_24 rfl (lv_at hl 1 rfl) ?_
      refine t_get (v := .ref l_o) (C := RX0) (T := TX0) (N := 8) hx hb hts (by decide +kernel) hown hK hP hM_o rfl 5 (by decide) (hts (.fieldLink RX0 9 "ShadowBench$Board" "lines" "[J") (by decide +kernel)) (fun _ h9 => h9) rfl dX0_onesOfLine_25 ?_
      refine lv_iload hx hb dX0_onesOfLine_28 (lv_at hl 0 rfl) ?_
      refine t_lald11 hx hb hK hP hT hG_l_o (vp_in_iff.mpr ⟨by omega, by omega⟩) dX0_onesOfLine_30 ?_
      refine lv_topl (fun v30 e30 => ?_)
      refine lv_land hx hb dX0_onesOfLine_31 ?_
      refine lv_topl (fun v31 e31 => ?_)
      refine t_pu (As := [.long v31]) (rest := []) ⟨hx, hb, hml, hown, hts⟩ (c_J13_x l v31 ) (va_cwS 1 hts gX0_onesOfLine_J13_bitCount_95d88 rfl rfl rfl (by decide +kernel) ⟨Nat.le_of_ble_eq_true rfl, Nat.le_of_ble_eq_true rfl⟩) hP rfl hl.1 rfl (Nat.le_of_ble_eq_true rfl) dX0_onesOfLine_32 ⟨Nat.le_of_ble_eq_true rfl, Nat.le_of_ble_eq_true rfl⟩ hS (fun r32 H locs q32 hP hS => ?_)
      refine lv_goto (tgt := 39) hx hb dX0_onesOfLine_35 (by decide) ?_
      exact W.iret (v := r32) hx hb hr (fun t ht hW => ⟨⟨_, (G, ws), rfl, ⟨rfl, (by rw [q32, e31, e30, f5, sh_cls hb9 (by omega) (by omega)])⟩, by show va_P D vwCl ws t.heap; rw [ht]; exact hP, hD, hT⟩, hS.F ht⟩) hS.2.2 dX0_onesOfLine_39
set_option maxHeartbeats 4000000 in
set_option maxRecDepth 100000 in
theorem c_X0_hasUnlikeLine_x (l : Launch) (D : va_G) (cy : Nat → ClassId) (A : Nat → Prop) (G : cG) (ws : va_W) (o : Nat) (p0 : Int64) (p1 : Int64) (way : Nat) {w h : Nat} (hD : va_D A ws) (hT : cT cy G ws) (hG_o : G o = some (2, w, h)) (hw1 : way < 4) : Ci l D cy A yX0_hasUnlikeLine wsX0_hasUnlikeLine ({ frames := 2, cells := 0, slots := 0, locals := 46 }) 0 0 ws [.ref o, .long p0, .long p1, .int (nI way)] (fun r0 u => u = (G, ws) ∧ (Bo r0 (¬ alike w h p0 p1 way))) := by
  refine Met.ofW (cc := cX0_hasUnlikeLine) (maxL := 7) (ret := (some .boolean)) (by decide) rfl ?_
  intro p e s m args below meth c s₁ B hml hv
  obtain ⟨rfl, hP, hK, hA, hV⟩ := hv
  have hx := B.exec
  have hb := B.bytes
  have hr := B.returns
  have hts := atoms_spec (ws := wsX0_hasUnlikeLine) B.pre
  have hown : s.vm.findClass RX0 = some m.cls := findClass_of_methodNamed B.named
  have hlocks := B.notSynchronized
  have hS : va_S A s.heap s.heap [] := va_S.rf
  have hl := lv_entry ([.ref o, .long p0, .long p1, .int (nI way)]) (n := 7) (Nat.le_of_ble_eq_true rfl)
  rw [lg_entry_eq]
  generalize (lg_sl ([.ref o, .long p0, .long p1, .int (nI way)]) ++ List.replicate (7 - (lg_sl ([.ref o, .long p0, .long p1, .int (nI way)])).length) Slot.unset).toArray = ls at hl ⊢
  have hl : lv_has ls 7 [(0, .ref o), (1, .long p0), (3, .long p1), (5, .int (nI way))] := hl
  have k_0 : (0 : Int32).toInt = 0 := by decide
  have k_1 : (1 : Int32).toInt = 1 := by decide
  have hb9 := c_hb hT hG_o
  have iw : (nI way).toInt = (way : Int) := nI_toInt (by omega)
  have cw : (nI way).toNatClampNeg = way := nI_clamp (by omega)
  have lb9 := lnC_b hb9 way
  refine lv_iconst (v := 0) hx hb dX0_hasUnlikeLine_0 (by decide) ?_
  refine lv_istore (lv' := [(6, .int (0 : Int32)), (0, .ref o), (1, .long p0), (3, .long p1), (5, .int (nI way))]) hx hb dX0_hasUnlikeLine_1 hl (by decide) rfl (fun ls hl => ?_)
  have loop_3 : ∀ (n : Nat) (k : Nat), (k ≤ 11) → (∀ l, l < k → shN w h p0 way l = shN w h p1 way l) → 11 - k < n → ∀ (H : Heap) (locs : List Loc), va_P D vwCl ws H → va_S A s.heap H locs → ∀ (ls : Array Slot), lv_has ls 7 [(6, .int (nI k)), (0, .ref o), (1, .long p0), (3, .long p1), (5, .int (nI way))] → W p l e (headSpec wsX0_hasUnlikeLine ({ frames := 2, cells := 0, slots := 0, locals := 46 })).room s m #[Value.ref o, Value.long p0, Value.long p1, Value.int (nI way)] below meth c H locs 0 0 (MQ below (va_Qi (fun r0 u => u = (G, ws) ∧ (Bo r0 (¬ alike w h p0 p1 way))) (cB D cy A) A) #[Value.ref o, Value.long p0, Value.long p1, Value.int (nI way)] s 0 0 A) (F0 m 3 ls []) := by
    intro n
    induction n with
    | zero => intro k j3_0 j3_1 hn; exact absurd hn (Nat.not_lt_zero _)
    | succ n ih_3 =>
      intro k j3_0 j3_1 hn_3 H locs hP hS  ls hl
      have ik : (nI k).toInt = (k : Int) := nI_toInt (by omega)
      refine lv_iload hx hb dX0_hasUnlikeLine_3 (lv_at hl 0 rfl) ?_
      refine lv_aload_n hx hb dX0_hasUnlikeLine_5 rfl (lv_at hl 1 rfl) ?_
      refine lv_iload hx hb dX0_hasUnlikeLine_6 (lv_at hl 4 rfl) ?_
      obtain ⟨_, hM_o, hb_o, l_o, f_o, r_o, rfl, hG_l_o, hG_f_o, hG_r_o⟩ := hT _ _ hG_o
      refine t_calli (va_runV (g := F0 m 8 ls ([.int (nI way), .ref o, .int (nI k)])) (As := [.int (nI way)]) (rest := [.int (nI k)]) ⟨hx, hb, hml, hown, hts⟩ (c_X0_lineCount l D cy A G ws o (nI way) hD hT hG_o ) (cwV 1 hts gX0_hasUnlikeLine_X0_lineCount rfl rfl rfl (by decide +kernel) ⟨Nat.le_of_ble_eq_true rfl, Nat.le_of_ble_eq_true rfl⟩) (c_preV hM_o rfl hP hK hA hS hV) rfl rfl hl.1 rfl (lv_room (Nat.le_of_ble_eq_true rfl)) dX0_hasUnlikeLine_8 ⟨Nat.le_of_ble_eq_true rfl, Nat.le_of_ble_eq_true rfl⟩) hS (fun r8 u H locs q8 hP9 hD9 hT9 hS => ?_)
      obtain ⟨rfl, q8⟩ := q8
      have hP : va_P D vwCl ws H := hP9
      have z8 : r8.toInt = (lnC w h way : Int) := by rw [q8, cLn hb9 (by omega), cw]
      refine lv_icmp_ge (tgt := 43) hx hb dX0_hasUnlikeLine_11 (by decide) (fun c11 => ?_) (fun c11 => ?_)
      · skip
        have d11 := c11
        rw [fa_le] at d11
        refine lv_iconst (v := 0) hx hb dX0_hasUnlikeLine_43 (by decide) ?_
        exact W.zret (v := (0 : Int32)) hx hb hr (by decide) (fun t ht hW => ⟨⟨_, (G, ws), rfl, ⟨rfl, Or.inr ⟨rfl, (fun z9 => z9 (fun l9 h9 => j3_1 l9 (by omega)))⟩⟩, by show va_P D vwCl ws t.heap; rw [ht]; exact hP, hD, hT⟩, hS.F ht⟩) hS.2.2 dX0_hasUnlikeLine_44
      · skip
        have d11 := c11
        rw [fa_le] at d11
        refine lv_aload_n hx hb dX0_hasUnlikeLine_14 rfl (lv_at hl 1 rfl) ?_
        refine lv_iload hx hb dX0_hasUnlikeLine_15 (lv_at hl 4 rfl) ?_
        refine lv_iload hx hb dX0_hasUnlikeLine_17 (lv_at hl 0 rfl) ?_
        refine lv_lload_n hx hb dX0_hasUnlikeLine_19 rfl (lv_at hl 2 rfl) ?_
        refine t_calli (va_runV (g := F0 m 20 ls ([.long p0, .int (nI k), .int (nI way), .ref o])) (As := [.int (nI way), .int (nI k), .long p0]) (rest := []) ⟨hx, hb, hml, hown, hts⟩ (c_X0_onesOfLine_x l D cy A G ws o (nI way) (nI k) p0 hD hT hG_o (by omega) (by omega)) (cwV 3 hts gX0_hasUnlikeLine_X0_onesOfLine rfl rfl rfl (by decide +kernel) ⟨Nat.le_of_ble_eq_true rfl, Nat.le_of_ble_eq_true rfl⟩) (c_preV hM_o rfl hP hK hA hS hV) rfl rfl hl.1 rfl (lv_room (Nat.le_of_ble_eq_true rfl)) dX0_hasUnlikeLine_20 ⟨Nat.le_of_ble_eq_true rfl, Nat.le_of_ble_eq_true rfl⟩) hS (fun r20 u H locs q20 hP9 hD9 hT9 hS => ?_)
        obtain ⟨rfl, q20⟩ := q20
        have hP : va_P D vwCl ws H := hP9
        refine lv_aload_n hx hb dX0_hasUnlikeLine_23 rfl (lv_at hl 1 rfl) ?_
        refine lv_iload hx hb dX0_hasUnlikeLine_24 (lv_at hl 4 rfl) ?_
        refine lv_iload hx hb dX0_hasUnlikeLine_26 (lv_at hl 0 rfl) ?_
        refine lv_lload_n hx hb dX0_hasUnlikeLine_28 rfl (lv_at hl 3 rfl) ?_
        refine t_calli (va_runV (g := F0 m 29 ls ([.long p1, .int (nI k), .int (nI way), .ref o, .int r20])) (As := [.int (nI way), .int (nI k), .long p1]) (rest := [.int r20]) ⟨hx, hb, hml, hown, hts⟩ (c_X0_onesOfLine_x l D cy A G ws o (nI way) (nI k) p1 hD hT hG_o (by omega) (by omega)) (cwV 3 hts gX0_hasUnlikeLine_X0_onesOfLine rfl rfl rfl (by decide +kernel) ⟨Nat.le_of_ble_eq_true rfl, Nat.le_of_ble_eq_true rfl⟩) (c_preV hM_o rfl hP hK hA hS hV) rfl rfl hl.1 rfl (lv_room (Nat.le_of_ble_eq_true rfl)) dX0_hasUnlikeLine_29 ⟨Nat.le_of_ble_eq_true rfl, Nat.le_of_ble_eq_true rfl⟩) hS (fun r29 u H locs q29 hP9 hD9 hT9 hS => ?_)
        obtain ⟨rfl, q29⟩ := q29
        have hP : va_P D vwCl ws H := hP9
        have ck9 : (nI k).toNatClampNeg = k := nI_clamp (by omega)
        rw [cw, ck9] at q20 q29
        have b20 := bs_le (fun s => decide (lnT h way (s % w) (s / w) = k) && lb p0 s) (w * h)
        have b29 := bs_le (fun s => decide (lnT h way (s % w) (s / w) = k) && lb p1 s) (w * h)
        have m9 := cb_mul hb9
        have eq9 : r20 = r29 ↔ shN w h p0 way k = shN w h p1 way k := by rw [q20, q29]; exact nI_eq (by unfold shN; omega) (by unfold shN; omega)
        refine lv_icmp_eq (tgt := 37) hx hb dX0_hasUnlikeLine_32 (by decide) (fun c32 => ?_) (fun c32 => ?_)
        · skip
          have d32 := c32
          rw [fa_eq] at d32
          refine lv_iinc (v := (nI (k + 1))) (lv' := [(6, .int (nI (k + 1))), (0, .ref o), (1, .long p0), (3, .long p1), (5, .int (nI way))]) hx hb dX0_hasUnlikeLine_37 hl (k := 0) rfl (nI_1 _) (by decide) rfl (fun ls hl => ?_)
          refine lv_goto (tgt := 3) hx hb dX0_hasUnlikeLine_40 (by decide) ?_
          exact ih_3 (k + 1) (by omega) (fun l hl => by
            by_cases e9 : l = k
            · rw [e9]; exact eq9.mp c32
            · exact j3_1 l (by omega)) (by omega) _ _ hP hS  ls (lv_sub hl [0, 1, 2, 3, 4] rfl)
        · skip
          have d32 := c32
          rw [fa_eq] at d32
          refine lv_iconst (v := 1) hx hb dX0_hasUnlikeLine_35 (by decide) ?_
          exact W.zret (v := (1 : Int32)) hx hb hr (by decide) (fun t ht hW => ⟨⟨_, (G, ws), rfl, ⟨rfl, Or.inl ⟨rfl, (fun z9 => c32 (eq9.mpr (z9 k (by omega))))⟩⟩, by show va_P D vwCl ws t.heap; rw [ht]; exact hP, hD, hT⟩, hS.F ht⟩) hS.2.2 dX0_hasUnlikeLine_36
  exact loop_3 (11 + 1) 0 (by omega) (fun l hl => absurd hl (Nat.not_lt_zero _)) (by omega) _ _ hP hS  ls (lv_sub hl [0, 1, 2, 3, 4] rfl)
set_option maxHeartbeats 4000000 in
set_option maxRecDepth 100000 in
theorem c_X0_firstUnlikeWay_x (l : Launch) (D : va_G) (cy : Nat → ClassId) (A : Nat → Prop) (G : cG) (ws : va_W) (o : Nat) (p0 : Int64) (p1 : Int64) (set : Int32) {w h : Nat} (hD : va_D A ws) (hT : cT cy G ws) (hG_o : G o = some (2, w, h))  : Ci l D cy A yX0_firstUnlikeWay wsX0_firstUnlikeWay ({ frames := 3, cells := 0, slots := 0, locals := 72 }) 0 0 ws [.ref o, .long p0, .long p1, .int set] (fun r0 u => u = (G, ws) ∧ (fstW (unl w h p0 p1 set) (-1) r0)) := by
  refine Met.ofW (cc := cX0_firstUnlikeWay) (maxL := 7) (ret := (some .int)) (by decide) rfl ?_
  intro p e s m args below meth c s₁ B hml hv
  obtain ⟨rfl, hP, hK, hA, hV⟩ := hv
  have hx := B.exec
  have hb := B.bytes
  have hr := B.returns
  have hts := atoms_spec (ws := wsX0_firstUnlikeWay) B.pre
  have hown : s.vm.findClass RX0 = some m.cls := findClass_of_methodNamed B.named
  have hlocks := B.notSynchronized
  have hS : va_S A s.heap s.heap [] := va_S.rf
  have hl := lv_entry ([.ref o, .long p0, .long p1, .int set]) (n := 7) (Nat.le_of_ble_eq_true rfl)
  rw [lg_entry_eq]
  generalize (lg_sl ([.ref o, .long p0, .long p1, .int set]) ++ List.replicate (7 - (lg_sl ([.ref o, .long p0, .long p1, .int set])).length) Slot.unset).toArray = ls at hl ⊢
  have hl : lv_has ls 7 [(0, .ref o), (1, .long p0), (3, .long p1), (5, .int set)] := hl
  have k_m1 : (-1 : Int32).toInt = -1 := by decide
  have k_0 : (0 : Int32).toInt = 0 := by decide
  have k_1 : (1 : Int32).toInt = 1 := by decide
  have k_4 : (4 : Int32).toInt = 4 := by decide
  refine lv_iconst (v := 0) hx hb dX0_firstUnlikeWay_0 (by decide) ?_
  refine lv_istore (lv' := [(6, .int (0 : Int32)), (0, .ref o), (1, .long p0), (3, .long p1), (5, .int set)]) hx hb dX0_firstUnlikeWay_1 hl (by decide) rfl (fun ls hl => ?_)
  have loop_3 : ∀ (n : Nat) (k : Nat), (k ≤ 4) → (∀ j, j < k → ¬ unl w h p0 p1 set j) → 4 - k < n → ∀ (H : Heap) (locs : List Loc), va_P D vwCl ws H → va_S A s.heap H locs → ∀ (ls : Array Slot), lv_has ls 7 [(6, .int (nI k)), (0, .ref o), (1, .long p0), (3, .long p1), (5, .int set)] → W p l e (headSpec wsX0_firstUnlikeWay ({ frames := 3, cells := 0, slots := 0, locals := 72 })).room s m #[Value.ref o, Value.long p0, Value.long p1, Value.int set] below meth c H locs 0 0 (MQ below (va_Qi (fun r0 u => u = (G, ws) ∧ (fstW (unl w h p0 p1 set) (-1) r0)) (cB D cy A) A) #[Value.ref o, Value.long p0, Value.long p1, Value.int set] s 0 0 A) (F0 m 3 ls []) := by
    intro n
    induction n with
    | zero => intro k j3_0 j3_1 hn; exact absurd hn (Nat.not_lt_zero _)
    | succ n ih_3 =>
      intro k j3_0 j3_1 hn_3 H locs hP hS  ls hl
      have ik : (nI k).toInt = (k : Int) := nI_toInt (by omega)
      refine lv_iload hx hb dX0_firstUnlikeWay_3 (lv_at hl 0 rfl) ?_
      refine lv_iconst (v := 4) hx hb dX0_firstUnlikeWay_5 (by decide) ?_
      refine lv_icmp_ge (tgt := 40) hx hb dX0_firstUnlikeWay_6 (by decide) (fun c6 => ?_) (fun c6 => ?_)
      · skip
        have d6 := c6
        rw [fa_le] at d6
        refine lv_iconst (v := (-1)) hx hb dX0_firstUnlikeWay_40 (by decide) ?_
        exact W.iret (v := ((-1) : Int32)) hx hb hr (fun t ht hW => ⟨⟨_, (G, ws), rfl, ⟨rfl, (Or.inr ⟨rfl, fun j9 h9 => j3_1 j9 (by omega)⟩)⟩, by show va_P D vwCl ws t.heap; rw [ht]; exact hP, hD, hT⟩, hS.F ht⟩) hS.2.2 dX0_firstUnlikeWay_41
      · skip
        have d6 := c6
        rw [fa_le] at d6
        refine lv_iload hx hb dX0_firstUnlikeWay_9 (lv_at hl 4 rfl) ?_
        refine lv_iload hx hb dX0_firstUnlikeWay_11 (lv_at hl 0 rfl) ?_
        refine lv_ishr hx hb dX0_firstUnlikeWay_13 ?_
        refine lv_topi (fun v13 e13 => ?_)
        refine lv_iconst (v := 1) hx hb dX0_firstUnlikeWay_14 (by decide) ?_
        refine lv_iand hx hb dX0_firstUnlikeWay_15 ?_
        refine lv_topi (fun v15 e15 => ?_)
        refine lv_iconst (v := 1) hx hb dX0_firstUnlikeWay_16 (by decide) ?_
        have hB : gB set k = v15 := by rw [e15, e13]; rfl
        refine lv_icmp_ne (tgt := 34) hx hb dX0_firstUnlikeWay_17 (by decide) (fun c17 => ?_) (fun c17 => ?_)
        · skip
          have d17 := c17
          rw [fa_eq] at d17
          refine lv_iinc (v := (nI (k + 1))) (lv' := [(6, .int (nI (k + 1))), (0, .ref o), (1, .long p0), (3, .long p1), (5, .int set)]) hx hb dX0_firstUnlikeWay_34 hl (k := 0) rfl (nI_1 _) (by decide) rfl (fun ls hl => ?_)
          refine lv_goto (tgt := 3) hx hb dX0_firstUnlikeWay_37 (by decide) ?_
          exact ih_3 (k + 1) (by omega) (fun j hj => by
            by_cases e9 : j = k
            · rw [e9]; first | exact fun z9 => c17 (hB.symm.trans z9.1) | exact fun z9 => b28 z9.2
            · exact j3_1 j (by omega)) (by omega) _ _ hP hS  ls (lv_sub hl [0, 1, 2, 3, 4] rfl)
        · skip
          have d17 := c17
          rw [fa_eq] at d17
          refine lv_aload_n hx hb dX0_firstUnlikeWay_20 rfl (lv_at hl 1 rfl) ?_
          refine lv_lload_n hx hb dX0_firstUnlikeWay_21 rfl (lv_at hl 2 rfl) ?_
          refine lv_lload_n hx hb dX0_firstUnlikeWay_22 rfl (lv_at hl 3 rfl) ?_
          refine lv_iload hx hb dX0_firstUnlikeWay_23 (lv_at hl 0 rfl) ?_
          obtain ⟨_, hM_o, hb_o, l_o, f_o, r_o, rfl, hG_l_o, hG_f_o, hG_r_o⟩ := hT _ _ hG_o
          refine t_calli (va_runV (g := F0 m 25 ls ([.int (nI k), .long p1, .long p0, .ref o])) (As := [.long p0, .long p1, .int (nI k)]) (rest := []) ⟨hx, hb, hml, hown, hts⟩ (c_X0_hasUnlikeLine_x l D cy A G ws o p0 p1 k hD hT hG_o (by omega)) (cwV 3 hts gX0_firstUnlikeWay_X0_hasUnlikeLine rfl rfl rfl (by decide +kernel) ⟨Nat.le_of_ble_eq_true rfl, Nat.le_of_ble_eq_true rfl⟩) (c_preV hM_o rfl hP hK hA hS hV) rfl rfl hl.1 rfl (lv_room (Nat.le_of_ble_eq_true rfl)) dX0_firstUnlikeWay_25 ⟨Nat.le_of_ble_eq_true rfl, Nat.le_of_ble_eq_true rfl⟩) hS (fun r25 u H locs q25 hP9 hD9 hT9 hS => ?_)
          obtain ⟨rfl, q25⟩ := q25
          have hP : va_P D vwCl ws H := hP9
          refine lv_if_eq (tgt := 34) hx hb dX0_firstUnlikeWay_28 (by decide) (fun c28 => ?_) (fun c28 => ?_)
          · skip
            have b28 := bo_f q25 c28
            refine lv_iinc (v := (nI (k + 1))) (lv' := [(6, .int (nI (k + 1))), (0, .ref o), (1, .long p0), (3, .long p1), (5, .int set)]) hx hb dX0_firstUnlikeWay_34 hl (k := 0) rfl (nI_1 _) (by decide) rfl (fun ls hl => ?_)
            refine lv_goto (tgt := 3) hx hb dX0_firstUnlikeWay_37 (by decide) ?_
            exact ih_3 (k + 1) (by omega) (fun j hj => by
            by_cases e9 : j = k
            · rw [e9]; first | exact fun z9 => c17 (hB.symm.trans z9.1) | exact fun z9 => b28 z9.2
            · exact j3_1 j (by omega)) (by omega) _ _ hP hS  ls (lv_sub hl [0, 1, 2, 3, 4] rfl)
          · skip
            have b28 := bo_t q25 c28
            refine lv_iload hx hb dX0_firstUnlikeWay_31 (lv_at hl 0 rfl) ?_
            exact W.iret (v := (nI k)) hx hb hr (fun t ht hW => ⟨⟨_, (G, ws), rfl, ⟨rfl, (Or.inl ⟨k, (by omega), rfl, ⟨hB.trans c17, b28⟩, j3_1⟩)⟩, by show va_P D vwCl ws t.heap; rw [ht]; exact hP, hD, hT⟩, hS.F ht⟩) hS.2.2 dX0_firstUnlikeWay_33
  exact loop_3 (4 + 1) 0 (by omega) (fun j hj => absurd hj (Nat.not_lt_zero _)) (by omega) _ _ hP hS  ls (lv_sub hl [0, 1, 2, 3, 4] rfl)
set_option maxHeartbeats 4000000 in
set_option maxRecDepth 100000 in
theorem c_X9_shadow_x (l : Launch) (D : va_G) (cy : Nat → ClassId) (A : Nat → Prop) (G : cG) (ws : va_W) (o : Nat) (wide : Int32) (high : Int32) (p0 : Int64) (way : Int32) (line : Int32)  (hD : va_D A ws) (hT : cT cy G ws) (hG_o : G o = some (7, 0, 0))  : Ci l D cy A yX9_shadow wsX9_shadow ({ frames := 5, cells := 4, slots := 502, locals := 116 }) 4 502 ws [.ref o, .int wide, .int high, .long p0, .int way, .int line] (fun r0 u => cX none (chs [1, 8]) G ws u.1 u.2 ∧ (shA wide high p0 way line r0)) := by
  refine Met.ofW (cc := cX9_shadow) (maxL := 8) (ret := (some .int)) (by decide) rfl ?_
  intro p e s m args below meth c s₁ B hml hv
  obtain ⟨rfl, hP, hK, hA, hV⟩ := hv
  have hx := B.exec
  have hb := B.bytes
  have hr := B.returns
  have hts := atoms_spec (ws := wsX9_shadow) B.pre
  have hown : s.vm.findClass RX9 = some m.cls := findClass_of_methodNamed B.named
  have hlocks := B.notSynchronized
  have hS : va_S A s.heap s.heap [] := va_S.rf
  have hX : cX none (chs [1, 8]) G ws G ws := cX.rf
  have hl := lv_entry ([.ref o, .int wide, .int high, .long p0, .int way, .int line]) (n := 8) (Nat.le_of_ble_eq_true rfl)
  rw [lg_entry_eq]
  generalize (lg_sl ([.ref o, .int wide, .int high, .long p0, .int way, .int line]) ++ List.replicate (8 - (lg_sl ([.ref o, .int wide, .int high, .long p0, .int way, .int line])).length) Slot.unset).toArray = ls at hl ⊢
  have hl : lv_has ls 8 [(0, .ref o), (1, .int wide), (2, .int high), (3, .long p0), (5, .int way), (6, .int line)] := hl
  have k_m1 : (-1 : Int32).toInt = -1 := by decide
  have k_0 : (0 : Int32).toInt = 0 := by decide
  refine lv_aload_n hx hb dX9_shadow_0 rfl (lv_at hl 0 rfl) ?_
  refine lv_iload_n hx hb dX9_shadow_1 rfl (lv_at hl 1 rfl) ?_
  refine lv_iload_n hx hb dX9_shadow_2 rfl (lv_at hl 2 rfl) ?_
  obtain ⟨_, hM_o, bs_o, js_o, sh_o, wk_o, ll_o, jc_o, lc_o, mo_o, lb_o, rfl, hjc_o, hlc_o, hG_bs_o, hG_js_o, hG_sh_o, hG_wk_o, hmo_o, hG_ll_o, hlb_o⟩ := hT _ _ hG_o
  refine t_calla (va_runV (g := F0 m 3 ls ([.int high, .int wide, .ref o])) (As := [.int wide, .int high]) (rest := []) ⟨hx, hb, hml, hown, hts⟩ (c_X9_boardOf_x l D cy A G ws o wide high hD hT hG_o ) (cwV 2 hts gX9_shadow_X9_boardOf rfl rfl rfl (by decide +kernel) ⟨Nat.le_of_ble_eq_true rfl, Nat.le_of_ble_eq_true rfl⟩) (c_preV hM_o rfl hP hK hA hS hV) rfl rfl hl.1 rfl (lv_room (Nat.le_of_ble_eq_true rfl)) dX9_shadow_3 ⟨Nat.le_of_ble_eq_true rfl, Nat.le_of_ble_eq_true rfl⟩) hS (fun r3 u H locs q3 hP9 hD9 hT9 hS => ?_)
  obtain ⟨G3, w3⟩ := u
  obtain ⟨hX9, q3⟩ := q3
  have hX9 : cX none (chs [1, 8]) G ws G3 w3 := hX9
  have hP : va_P D vwCl w3 H := hP9
  have hD : va_D A w3 := hD9
  have hT : cT cy G3 w3 := hT9
  have hM_o := hX9.2.1 _ _ (cP.no hG_o rfl) hM_o
  have hG_o := hX9.1 _ _ hG_o
  have hG_bs_o := hX9.1 _ _ hG_bs_o
  have hG_js_o := hX9.1 _ _ hG_js_o
  have hG_sh_o := hX9.1 _ _ hG_sh_o
  have hG_wk_o := hX9.1 _ _ hG_wk_o
  have hG_ll_o := hX9.1 _ _ hG_ll_o
  have hX := hX.tr hX9
  rcases r3 with _ | x3
  · skip
    have vn3 := q3.2.1 rfl
    refine lv_astoreN (lv' := [(7, .null), (0, .ref o), (1, .int wide), (2, .int high), (3, .long p0), (5, .int way), (6, .int line)]) hx hb dX9_shadow_6 hl (by decide) rfl (fun ls hl => ?_)
    refine lv_aloadN hx hb dX9_shadow_8 (lv_at hl 0 rfl) ?_
    refine lv_ifnullN (tgt := 34) hx hb dX9_shadow_10 (by decide) ?_
    refine lv_iconst (v := (-1)) hx hb dX9_shadow_34 (by decide) ?_
    refine W.widen (k := 4) (n := 502) (Nat.le_of_ble_eq_true rfl) (Nat.le_of_ble_eq_true rfl) ?_
    exact W.iret (v := ((-1) : Int32)) hx hb hr (fun t ht hW => ⟨⟨_, (G3, w3), rfl, ⟨hX, (Or.inr ⟨(fun z9 => by first | exact vn3 z9.1.1 | exact b19 z9.1.2 | (have z8 := cL9 z9.2.1.1; have z7 := z9.2; unfold okL at z7; omega)), rfl⟩)⟩, by show va_P D vwCl w3 t.heap; rw [ht]; exact hP, hD, hT⟩, hS.F ht⟩) hS.2.2 dX9_shadow_35
  · skip
    have hG_x3 := q3.1 x3 rfl
    have vb3 := q3.2.2 x3 rfl
    refine lv_astore (lv' := [(7, .ref x3), (0, .ref o), (1, .int wide), (2, .int high), (3, .long p0), (5, .int way), (6, .int line)]) hx hb dX9_shadow_6 hl (by decide) rfl (fun ls hl => ?_)
    refine lv_aload hx hb dX9_shadow_8 (lv_at hl 0 rfl) ?_
    refine lv_ifnull hx hb dX9_shadow_10 ?_
    refine lv_aload hx hb dX9_shadow_13 (lv_at hl 0 rfl) ?_
    refine lv_lload_n hx hb dX9_shadow_15 rfl (lv_at hl 4 rfl) ?_
    obtain ⟨_, hM_x3, hb_x3, l_x3, f_x3, r_x3, rfl, hG_l_x3, hG_f_x3, hG_r_x3⟩ := hT _ _ hG_x3
    refine t_calli (va_runV (g := F0 m 16 ls ([.long p0, .ref x3])) (As := [.long p0]) (rest := []) ⟨hx, hb, hml, hown, hts⟩ (c_X0_isPicture_x l D cy A G3 w3 x3 p0 hD hT hG_x3 ) (cwV 1 hts gX9_shadow_X0_isPicture rfl rfl rfl (by decide +kernel) ⟨Nat.le_of_ble_eq_true rfl, Nat.le_of_ble_eq_true rfl⟩) (c_preV hM_x3 rfl hP hK hA hS hV) rfl rfl hl.1 rfl (lv_room (Nat.le_of_ble_eq_true rfl)) dX9_shadow_16 ⟨Nat.le_of_ble_eq_true rfl, Nat.le_of_ble_eq_true rfl⟩) hS (fun r16 u H locs q16 hP9 hD9 hT9 hS => ?_)
    obtain ⟨rfl, q16⟩ := q16
    have hP : va_P D vwCl w3 H := hP9
    refine lv_if_eq (tgt := 34) hx hb dX9_shadow_19 (by decide) (fun c19 => ?_) (fun c19 => ?_)
    · skip
      have b19 := bo_f q16 c19
      refine lv_iconst (v := (-1)) hx hb dX9_shadow_34 (by decide) ?_
      refine W.widen (k := 4) (n := 502) (Nat.le_of_ble_eq_true rfl) (Nat.le_of_ble_eq_true rfl) ?_
      exact W.iret (v := ((-1) : Int32)) hx hb hr (fun t ht hW => ⟨⟨_, (G3, w3), rfl, ⟨hX, (Or.inr ⟨(fun z9 => by first | exact vn3 z9.1.1 | exact b19 z9.1.2 | (have z8 := cL9 z9.2.1.1; have z7 := z9.2; unfold okL at z7; omega)), rfl⟩)⟩, by show va_P D vwCl w3 t.heap; rw [ht]; exact hP, hD, hT⟩, hS.F ht⟩) hS.2.2 dX9_shadow_35
    · skip
      have b19 := bo_t q16 c19
      have hb9 := c_hb hT hG_x3
      refine lv_aload hx hb dX9_shadow_22 (lv_at hl 0 rfl) ?_
      refine lv_iload hx hb dX9_shadow_24 (lv_at hl 5 rfl) ?_
      refine lv_iload hx hb dX9_shadow_26 (lv_at hl 6 rfl) ?_
      refine t_calli (va_runV (g := F0 m 28 ls ([.int line, .int way, .ref x3])) (As := [.int way, .int line]) (rest := []) ⟨hx, hb, hml, hown, hts⟩ (c_X0_isLine l D cy A G3 w3 x3 way line hD hT hG_x3 ) (cwV 2 hts gX9_shadow_X0_isLine rfl rfl rfl (by decide +kernel) ⟨Nat.le_of_ble_eq_true rfl, Nat.le_of_ble_eq_true rfl⟩) (c_preV hM_x3 rfl hP hK hA hS hV) rfl rfl hl.1 rfl (lv_room (Nat.le_of_ble_eq_true rfl)) dX9_shadow_28 ⟨Nat.le_of_ble_eq_true rfl, Nat.le_of_ble_eq_true rfl⟩) hS (fun r28 u H locs q28 hP9 hD9 hT9 hS => ?_)
      obtain ⟨rfl, q28⟩ := q28
      have hP : va_P D vwCl w3 H := hP9
      have cL9 := fun z9 : 0 ≤ way.toInt => cLn hb9 (way := way) z9
      refine lv_if_ne (tgt := 36) hx hb dX9_shadow_31 (by decide) (fun c31 => ?_) (fun c31 => ?_)
      · skip
        have b31 := bo_t q28 c31
        have cL8 := cL9 (by omega)
        refine lv_aload hx hb dX9_shadow_36 (lv_at hl 0 rfl) ?_
        refine lv_iload hx hb dX9_shadow_38 (lv_at hl 5 rfl) ?_
        refine lv_iload hx hb dX9_shadow_40 (lv_at hl 6 rfl) ?_
        refine lv_lload_n hx hb dX9_shadow_42 rfl (lv_at hl 4 rfl) ?_
        refine t_calli (va_runV (g := F0 m 43 ls ([.long p0, .int line, .int way, .ref x3])) (As := [.int way, .int line, .long p0]) (rest := []) ⟨hx, hb, hml, hown, hts⟩ (c_X0_onesOfLine_x l D cy A G3 w3 x3 way line p0 hD hT hG_x3 (by omega) (by have z9 := lnC_b hb9 way.toNatClampNeg; omega)) (cwV 3 hts gX9_shadow_X0_onesOfLine rfl rfl rfl (by decide +kernel) ⟨Nat.le_of_ble_eq_true rfl, Nat.le_of_ble_eq_true rfl⟩) (c_preV hM_x3 rfl hP hK hA hS hV) rfl rfl hl.1 rfl (lv_room (Nat.le_of_ble_eq_true rfl)) dX9_shadow_43 ⟨Nat.le_of_ble_eq_true rfl, Nat.le_of_ble_eq_true rfl⟩) hS (fun r43 u H locs q43 hP9 hD9 hT9 hS => ?_)
        obtain ⟨rfl, q43⟩ := q43
        have hP : va_P D vwCl w3 H := hP9
        refine W.widen (k := 4) (n := 502) (Nat.le_of_ble_eq_true rfl) (Nat.le_of_ble_eq_true rfl) ?_
        exact W.iret (v := r43) hx hb hr (fun t ht hW => ⟨⟨_, (G3, w3), rfl, ⟨hX, (Or.inl ⟨⟨⟨vb3, b19⟩, (by unfold okL; omega)⟩, q43⟩)⟩, by show va_P D vwCl w3 t.heap; rw [ht]; exact hP, hD, hT⟩, hS.F ht⟩) hS.2.2 dX9_shadow_46
      · skip
        have b31 := bo_f q28 c31
        refine lv_iconst (v := (-1)) hx hb dX9_shadow_34 (by decide) ?_
        refine W.widen (k := 4) (n := 502) (Nat.le_of_ble_eq_true rfl) (Nat.le_of_ble_eq_true rfl) ?_
        exact W.iret (v := ((-1) : Int32)) hx hb hr (fun t ht hW => ⟨⟨_, (G3, w3), rfl, ⟨hX, (Or.inr ⟨(fun z9 => by first | exact vn3 z9.1.1 | exact b19 z9.1.2 | (have z8 := cL9 z9.2.1.1; have z7 := z9.2; unfold okL at z7; omega)), rfl⟩)⟩, by show va_P D vwCl w3 t.heap; rw [ht]; exact hP, hD, hT⟩, hS.F ht⟩) hS.2.2 dX9_shadow_35
set_option maxHeartbeats 4000000 in
set_option maxRecDepth 100000 in
theorem c_X9_parts_x (l : Launch) (D : va_G) (cy : Nat → ClassId) (A : Nat → Prop) (G : cG) (ws : va_W) (o : Nat) (wide : Int32) (high : Int32) (p0 : Int64) (p1 : Int64) (ways : Int32)  (hD : va_D A ws) (hT : cT cy G ws) (hG_o : G o = some (7, 0, 0))  : Ci l D cy A yX9_parts wsX9_parts ({ frames := 5, cells := 4, slots := 502, locals := 116 }) 4 502 ws [.ref o, .int wide, .int high, .long p0, .long p1, .int ways] (fun r0 u => cX none (chs [1, 8]) G ws u.1 u.2 ∧ (paA wide high p0 p1 ways r0)) := by
  refine Met.ofW (cc := cX9_parts) (maxL := 10) (ret := (some .int)) (by decide) rfl ?_
  intro p e s m args below meth c s₁ B hml hv
  obtain ⟨rfl, hP, hK, hA, hV⟩ := hv
  have hx := B.exec
  have hb := B.bytes
  have hr := B.returns
  have hts := atoms_spec (ws := wsX9_parts) B.pre
  have hown : s.vm.findClass RX9 = some m.cls := findClass_of_methodNamed B.named
  have hlocks := B.notSynchronized
  have hS : va_S A s.heap s.heap [] := va_S.rf
  have hX : cX none (chs [1, 8]) G ws G ws := cX.rf
  have hl := lv_entry ([.ref o, .int wide, .int high, .long p0, .long p1, .int ways]) (n := 10) (Nat.le_of_ble_eq_true rfl)
  rw [lg_entry_eq]
  generalize (lg_sl ([.ref o, .int wide, .int high, .long p0, .long p1, .int ways]) ++ List.replicate (10 - (lg_sl ([.ref o, .int wide, .int high, .long p0, .long p1, .int ways])).length) Slot.unset).toArray = ls at hl ⊢
  have hl : lv_has ls 10 [(0, .ref o), (1, .int wide), (2, .int high), (3, .long p0), (5, .long p1), (7, .int ways)] := hl
  have k_m2 : (-2 : Int32).toInt = -2 := by decide
  have k_m1 : (-1 : Int32).toInt = -1 := by decide
  have k_0 : (0 : Int32).toInt = 0 := by decide
  have k_16 : (16 : Int32).toInt = 16 := by decide
  refine lv_aload_n hx hb dX9_parts_0 rfl (lv_at hl 0 rfl) ?_
  refine lv_iload_n hx hb dX9_parts_1 rfl (lv_at hl 1 rfl) ?_
  refine lv_iload_n hx hb dX9_parts_2 rfl (lv_at hl 2 rfl) ?_
  obtain ⟨_, hM_o, bs_o, js_o, sh_o, wk_o, ll_o, jc_o, lc_o, mo_o, lb_o, rfl, hjc_o, hlc_o, hG_bs_o, hG_js_o, hG_sh_o, hG_wk_o, hmo_o, hG_ll_o, hlb_o⟩ := hT _ _ hG_o
  refine t_calla (va_runV (g := F0 m 3 ls ([.int high, .int wide, .ref o])) (As := [.int wide, .int high]) (rest := []) ⟨hx, hb, hml, hown, hts⟩ (c_X9_boardOf_x l D cy A G ws o wide high hD hT hG_o ) (cwV 2 hts gX9_parts_X9_boardOf rfl rfl rfl (by decide +kernel) ⟨Nat.le_of_ble_eq_true rfl, Nat.le_of_ble_eq_true rfl⟩) (c_preV hM_o rfl hP hK hA hS hV) rfl rfl hl.1 rfl (lv_room (Nat.le_of_ble_eq_true rfl)) dX9_parts_3 ⟨Nat.le_of_ble_eq_true rfl, Nat.le_of_ble_eq_true rfl⟩) hS (fun r3 u H locs q3 hP9 hD9 hT9 hS => ?_)
  obtain ⟨G3, w3⟩ := u
  obtain ⟨hX9, q3⟩ := q3
  have hX9 : cX none (chs [1, 8]) G ws G3 w3 := hX9
  have hP : va_P D vwCl w3 H := hP9
  have hD : va_D A w3 := hD9
  have hT : cT cy G3 w3 := hT9
  have hM_o := hX9.2.1 _ _ (cP.no hG_o rfl) hM_o
  have hG_o := hX9.1 _ _ hG_o
  have hG_bs_o := hX9.1 _ _ hG_bs_o
  have hG_js_o := hX9.1 _ _ hG_js_o
  have hG_sh_o := hX9.1 _ _ hG_sh_o
  have hG_wk_o := hX9.1 _ _ hG_wk_o
  have hG_ll_o := hX9.1 _ _ hG_ll_o
  have hX := hX.tr hX9
  rcases r3 with _ | x3
  · skip
    have vn3 := q3.2.1 rfl
    refine lv_astoreN (lv' := [(8, .null), (0, .ref o), (1, .int wide), (2, .int high), (3, .long p0), (5, .long p1), (7, .int ways)]) hx hb dX9_parts_6 hl (by decide) rfl (fun ls hl => ?_)
    refine lv_aloadN hx hb dX9_parts_8 (lv_at hl 0 rfl) ?_
    refine lv_ifnullN (tgt := 44) hx hb dX9_parts_10 (by decide) ?_
    refine lv_iconst (v := (-1)) hx hb dX9_parts_44 (by decide) ?_
    refine W.widen (k := 4) (n := 502) (Nat.le_of_ble_eq_true rfl) (Nat.le_of_ble_eq_true rfl) ?_
    exact W.iret (v := ((-1) : Int32)) hx hb hr (fun t ht hW => ⟨⟨_, (G3, w3), rfl, ⟨hX, (Or.inr ⟨(fun z9 => by first | exact vn3 z9.1.1 | exact b19 z9.1.2 | exact b29 z9.2.1.2 | omega), rfl⟩)⟩, by show va_P D vwCl w3 t.heap; rw [ht]; exact hP, hD, hT⟩, hS.F ht⟩) hS.2.2 dX9_parts_45
  · skip
    have hG_x3 := q3.1 x3 rfl
    have vb3 := q3.2.2 x3 rfl
    refine lv_astore (lv' := [(8, .ref x3), (0, .ref o), (1, .int wide), (2, .int high), (3, .long p0), (5, .long p1), (7, .int ways)]) hx hb dX9_parts_6 hl (by decide) rfl (fun ls hl => ?_)
    refine lv_aload hx hb dX9_parts_8 (lv_at hl 0 rfl) ?_
    refine lv_ifnull hx hb dX9_parts_10 ?_
    refine lv_aload hx hb dX9_parts_13 (lv_at hl 0 rfl) ?_
    refine lv_lload_n hx hb dX9_parts_15 rfl (lv_at hl 4 rfl) ?_
    obtain ⟨_, hM_x3, hb_x3, l_x3, f_x3, r_x3, rfl, hG_l_x3, hG_f_x3, hG_r_x3⟩ := hT _ _ hG_x3
    refine t_calli (va_runV (g := F0 m 16 ls ([.long p0, .ref x3])) (As := [.long p0]) (rest := []) ⟨hx, hb, hml, hown, hts⟩ (c_X0_isPicture_x l D cy A G3 w3 x3 p0 hD hT hG_x3 ) (cwV 1 hts gX9_parts_X0_isPicture rfl rfl rfl (by decide +kernel) ⟨Nat.le_of_ble_eq_true rfl, Nat.le_of_ble_eq_true rfl⟩) (c_preV hM_x3 rfl hP hK hA hS hV) rfl rfl hl.1 rfl (lv_room (Nat.le_of_ble_eq_true rfl)) dX9_parts_16 ⟨Nat.le_of_ble_eq_true rfl, Nat.le_of_ble_eq_true rfl⟩) hS (fun r16 u H locs q16 hP9 hD9 hT9 hS => ?_)
    obtain ⟨rfl, q16⟩ := q16
    have hP : va_P D vwCl w3 H := hP9
    refine lv_if_eq (tgt := 44) hx hb dX9_parts_19 (by decide) (fun c19 => ?_) (fun c19 => ?_)
    · skip
      have b19 := bo_f q16 c19
      refine lv_iconst (v := (-1)) hx hb dX9_parts_44 (by decide) ?_
      refine W.widen (k := 4) (n := 502) (Nat.le_of_ble_eq_true rfl) (Nat.le_of_ble_eq_true rfl) ?_
      exact W.iret (v := ((-1) : Int32)) hx hb hr (fun t ht hW => ⟨⟨_, (G3, w3), rfl, ⟨hX, (Or.inr ⟨(fun z9 => by first | exact vn3 z9.1.1 | exact b19 z9.1.2 | exact b29 z9.2.1.2 | omega), rfl⟩)⟩, by show va_P D vwCl w3 t.heap; rw [ht]; exact hP, hD, hT⟩, hS.F ht⟩) hS.2.2 dX9_parts_45
    · skip
      have b19 := bo_t q16 c19
      refine lv_aload hx hb dX9_parts_22 (lv_at hl 0 rfl) ?_
      refine lv_lload hx hb dX9_parts_24 (lv_at hl 5 rfl) ?_
      refine t_calli (va_runV (g := F0 m 26 ls ([.long p1, .ref x3])) (As := [.long p1]) (rest := []) ⟨hx, hb, hml, hown, hts⟩ (c_X0_isPicture_x l D cy A G3 w3 x3 p1 hD hT hG_x3 ) (cwV 1 hts gX9_parts_X0_isPicture rfl rfl rfl (by decide +kernel) ⟨Nat.le_of_ble_eq_true rfl, Nat.le_of_ble_eq_true rfl⟩) (c_preV hM_x3 rfl hP hK hA hS hV) rfl rfl hl.1 rfl (lv_room (Nat.le_of_ble_eq_true rfl)) dX9_parts_26 ⟨Nat.le_of_ble_eq_true rfl, Nat.le_of_ble_eq_true rfl⟩) hS (fun r26 u H locs q26 hP9 hD9 hT9 hS => ?_)
      obtain ⟨rfl, q26⟩ := q26
      have hP : va_P D vwCl w3 H := hP9
      refine lv_if_eq (tgt := 44) hx hb dX9_parts_29 (by decide) (fun c29 => ?_) (fun c29 => ?_)
      · skip
        have b29 := bo_f q26 c29
        refine lv_iconst (v := (-1)) hx hb dX9_parts_44 (by decide) ?_
        refine W.widen (k := 4) (n := 502) (Nat.le_of_ble_eq_true rfl) (Nat.le_of_ble_eq_true rfl) ?_
        exact W.iret (v := ((-1) : Int32)) hx hb hr (fun t ht hW => ⟨⟨_, (G3, w3), rfl, ⟨hX, (Or.inr ⟨(fun z9 => by first | exact vn3 z9.1.1 | exact b19 z9.1.2 | exact b29 z9.2.1.2 | omega), rfl⟩)⟩, by show va_P D vwCl w3 t.heap; rw [ht]; exact hP, hD, hT⟩, hS.F ht⟩) hS.2.2 dX9_parts_45
      · skip
        have b29 := bo_t q26 c29
        refine lv_iload hx hb dX9_parts_32 (lv_at hl 6 rfl) ?_
        refine lv_if_lt (tgt := 44) hx hb dX9_parts_34 (by decide) (fun c34 => ?_) (fun c34 => ?_)
        · skip
          have d34 := c34
          rw [fa_lt] at d34
          refine lv_iconst (v := (-1)) hx hb dX9_parts_44 (by decide) ?_
          refine W.widen (k := 4) (n := 502) (Nat.le_of_ble_eq_true rfl) (Nat.le_of_ble_eq_true rfl) ?_
          exact W.iret (v := ((-1) : Int32)) hx hb hr (fun t ht hW => ⟨⟨_, (G3, w3), rfl, ⟨hX, (Or.inr ⟨(fun z9 => by first | exact vn3 z9.1.1 | exact b19 z9.1.2 | exact b29 z9.2.1.2 | omega), rfl⟩)⟩, by show va_P D vwCl w3 t.heap; rw [ht]; exact hP, hD, hT⟩, hS.F ht⟩) hS.2.2 dX9_parts_45
        · skip
          have d34 := c34
          rw [fa_lt] at d34
          refine lv_iload hx hb dX9_parts_37 (lv_at hl 6 rfl) ?_
          refine lv_bipush (v := 16) hx hb dX9_parts_39 (by decide) ?_
          refine lv_icmp_lt (tgt := 46) hx hb dX9_parts_41 (by decide) (fun c41 => ?_) (fun c41 => ?_)
          · skip
            have d41 := c41
            rw [fa_lt] at d41
            refine lv_aload hx hb dX9_parts_46 (lv_at hl 0 rfl) ?_
            refine lv_lload_n hx hb dX9_parts_48 rfl (lv_at hl 4 rfl) ?_
            refine lv_lload hx hb dX9_parts_49 (lv_at hl 5 rfl) ?_
            refine lv_iload hx hb dX9_parts_51 (lv_at hl 6 rfl) ?_
            refine t_calli (va_runV (g := F0 m 53 ls ([.int ways, .long p1, .long p0, .ref x3])) (As := [.long p0, .long p1, .int ways]) (rest := []) ⟨hx, hb, hml, hown, hts⟩ (c_X0_firstUnlikeWay_x l D cy A G3 w3 x3 p0 p1 ways hD hT hG_x3 ) (cwV 3 hts gX9_parts_X0_firstUnlikeWay rfl rfl rfl (by decide +kernel) ⟨Nat.le_of_ble_eq_true rfl, Nat.le_of_ble_eq_true rfl⟩) (c_preV hM_x3 rfl hP hK hA hS hV) rfl rfl hl.1 rfl (lv_room (Nat.le_of_ble_eq_true rfl)) dX9_parts_53 ⟨Nat.le_of_ble_eq_true rfl, Nat.le_of_ble_eq_true rfl⟩) hS (fun r53 u H locs q53 hP9 hD9 hT9 hS => ?_)
            obtain ⟨rfl, q53⟩ := q53
            have hP : va_P D vwCl w3 H := hP9
            refine lv_istore (lv' := [(9, .int r53), (8, .ref x3), (0, .ref o), (1, .int wide), (2, .int high), (3, .long p0), (5, .long p1), (7, .int ways)]) hx hb dX9_parts_56 hl (by decide) rfl (fun ls hl => ?_)
            refine lv_iload hx hb dX9_parts_58 (lv_at hl 0 rfl) ?_
            refine lv_if_ge (tgt := 68) hx hb dX9_parts_60 (by decide) (fun c60 => ?_) (fun c60 => ?_)
            · skip
              have d60 := c60
              rw [fa_le] at d60
              refine lv_iload hx hb dX9_parts_68 (lv_at hl 0 rfl) ?_
              refine W.widen (k := 4) (n := 502) (Nat.le_of_ble_eq_true rfl) (Nat.le_of_ble_eq_true rfl) ?_
              exact W.iret (v := r53) hx hb hr (fun t ht hW => ⟨⟨_, (G3, w3), rfl, ⟨hX, (Or.inl ⟨⟨⟨vb3, b19⟩, ⟨vb3, b29⟩, (by omega)⟩, (by rcases q53 with z9 | ⟨e9, z9⟩; exact Or.inl z9; (exfalso; rw [e9] at d60; have z8 : (-1 : Int32).toInt = -1 := rfl; omega))⟩)⟩, by show va_P D vwCl w3 t.heap; rw [ht]; exact hP, hD, hT⟩, hS.F ht⟩) hS.2.2 dX9_parts_70
            · skip
              have d60 := c60
              rw [fa_le] at d60
              refine lv_bipush (v := (-2)) hx hb dX9_parts_63 (by decide) ?_
              refine lv_goto (tgt := 70) hx hb dX9_parts_65 (by decide) ?_
              refine W.widen (k := 4) (n := 502) (Nat.le_of_ble_eq_true rfl) (Nat.le_of_ble_eq_true rfl) ?_
              exact W.iret (v := ((-2) : Int32)) hx hb hr (fun t ht hW => ⟨⟨_, (G3, w3), rfl, ⟨hX, (Or.inl ⟨⟨⟨vb3, b19⟩, ⟨vb3, b29⟩, (by omega)⟩, (by rcases q53 with ⟨k9, h9, e9, z9⟩ | ⟨e9, z9⟩; (exfalso; have z8 : (nI k9).toInt = (k9 : Int) := nI_toInt (by omega); rw [e9] at d60; omega); exact Or.inr ⟨rfl, z9⟩)⟩)⟩, by show va_P D vwCl w3 t.heap; rw [ht]; exact hP, hD, hT⟩, hS.F ht⟩) hS.2.2 dX9_parts_70
          · skip
            have d41 := c41
            rw [fa_lt] at d41
            refine lv_iconst (v := (-1)) hx hb dX9_parts_44 (by decide) ?_
            refine W.widen (k := 4) (n := 502) (Nat.le_of_ble_eq_true rfl) (Nat.le_of_ble_eq_true rfl) ?_
            exact W.iret (v := ((-1) : Int32)) hx hb hr (fun t ht hW => ⟨⟨_, (G3, w3), rfl, ⟨hX, (Or.inr ⟨(fun z9 => by first | exact vn3 z9.1.1 | exact b19 z9.1.2 | exact b29 z9.2.1.2 | omega), rfl⟩)⟩, by show va_P D vwCl w3 t.heap; rw [ht]; exact hP, hD, hT⟩, hS.F ht⟩) hS.2.2 dX9_parts_45
set_option maxHeartbeats 4000000 in
set_option maxRecDepth 100000 in
theorem c_X10_areAlike_x (l : Launch) (w : Int32) (h : Int32) (p0 : Int64) (q0 : Int64) (way : Int32) (hw : 1 ≤ w.toInt ∧ w.toInt ≤ 6) (hh : 1 ≤ h.toInt ∧ h.toInt ≤ 6) (hy : 0 ≤ way.toInt ∧ way.toInt ≤ 3) : Pu l yX10_areAlike wsX10_areAlike ({ frames := 2, cells := 0, slots := 0, locals := 50 }) [.int w, .int h, .long p0, .long q0, .int way] (fun r => Bo r (alike w.toNatClampNeg h.toNatClampNeg p0 q0 way.toNatClampNeg)) := by
  refine Met.ofW (cc := cX10_areAlike) (maxL := 9) (ret := (some .boolean)) (by decide) rfl ?_
  intro p e s m args below meth c s₁ B hml hv
  obtain ⟨rfl, -⟩ := hv
  have hx := B.exec
  have hb := B.bytes
  have hr := B.returns
  have hts := atoms_spec (ws := wsX10_areAlike) B.pre
  have hown : s.vm.findClass RX10 = some m.cls := findClass_of_methodNamed B.named
  have hlocks := B.notSynchronized
  have hS : va_S (fun _ => False) s.heap s.heap [] := va_S.rf
  have hl := lv_entry ([.int w, .int h, .long p0, .long q0, .int way]) (n := 9) (Nat.le_of_ble_eq_true rfl)
  rw [lg_entry_eq]
  generalize (lg_sl ([.int w, .int h, .long p0, .long q0, .int way]) ++ List.replicate (9 - (lg_sl ([.int w, .int h, .long p0, .long q0, .int way])).length) Slot.unset).toArray = ls at hl ⊢
  have hl : lv_has ls 9 [(0, .int w), (1, .int h), (2, .long p0), (4, .long q0), (6, .int way)] := hl
  have hS0 := hS
  have k_0 : (0 : Int32).toInt = 0 := by decide
  have k_1 : (1 : Int32).toInt = 1 := by decide
  have hlb := lines_lt hw hh way
  have hLn := rLn hw hh hy.1
  obtain ⟨hA9, hB9, h36, -⟩ := wh36 hw hh
  refine lv_iconst (v := 1) hx hb dX10_areAlike_0 (by decide) ?_
  refine lv_istore (lv' := [(7, .int (1 : Int32)), (0, .int w), (1, .int h), (2, .long p0), (4, .long q0), (6, .int way)]) hx hb dX10_areAlike_1 hl (by decide) rfl (fun ls hl => ?_)
  refine lv_iconst (v := 0) hx hb dX10_areAlike_3 (by decide) ?_
  refine lv_istore (lv' := [(8, .int (0 : Int32)), (7, .int (1 : Int32)), (0, .int w), (1, .int h), (2, .long p0), (4, .long q0), (6, .int way)]) hx hb dX10_areAlike_4 hl (by decide) rfl (fun ls hl => ?_)
  have loop_6 : ∀ (n : Nat) (k : Nat) (x7 : Int32), ((k : Int) ≤ (r_lines w h way).toInt) → ((x7 = 1 ∧ ∀ l, l < k → shN w.toNatClampNeg h.toNatClampNeg p0 way.toNatClampNeg l = shN w.toNatClampNeg h.toNatClampNeg q0 way.toNatClampNeg l) ∨ (x7 = 0 ∧ ¬ ∀ l, l < k → shN w.toNatClampNeg h.toNatClampNeg p0 way.toNatClampNeg l = shN w.toNatClampNeg h.toNatClampNeg q0 way.toNatClampNeg l)) → ((r_lines w h way).toInt - k).toNat < n → ∀ (H : Heap) (locs : List Loc), va_S (fun _ => False) s.heap H locs → ∀ (ls : Array Slot), lv_has ls 9 [(8, .int (nI k)), (7, .int x7), (0, .int w), (1, .int h), (2, .long p0), (4, .long q0), (6, .int way)] → W p l e (headSpec wsX10_areAlike ({ frames := 2, cells := 0, slots := 0, locals := 50 })).room s m #[Value.int w, Value.int h, Value.long p0, Value.long q0, Value.int way] below meth c H locs 0 0 (MQ below (va_Qi (fun r (_ : Unit) => Bo r (alike w.toNatClampNeg h.toNatClampNeg p0 q0 way.toNatClampNeg)) (fun _ _ => True) (fun _ => False)) #[Value.int w, Value.int h, Value.long p0, Value.long q0, Value.int way] s 0 0 (fun _ => False)) (F0 m 6 ls []) := by
    intro n
    induction n with
    | zero => intro k x7 j6_0 j6_1 hn; exact absurd hn (Nat.not_lt_zero _)
    | succ n ih_6 =>
      intro k x7 j6_0 j6_1 hn_6 H locs hS ls hl
      have ik : (nI k).toInt = (k : Int) := nI_toInt (by omega)
      refine lv_iload hx hb dX10_areAlike_6 (lv_at hl 0 rfl) ?_
      refine lv_iload_n hx hb dX10_areAlike_8 rfl (lv_at hl 2 rfl) ?_
      refine lv_iload_n hx hb dX10_areAlike_9 rfl (lv_at hl 3 rfl) ?_
      refine lv_iload hx hb dX10_areAlike_10 (lv_at hl 6 rfl) ?_
      refine pu_call (As := [.int w, .int h, .int way]) (rest := [.int (nI k)]) ⟨hx, hb, hml, hown, hts⟩ (c_X10_linesOf l w h way ) (va_cwS 3 hts gX10_areAlike_X10_linesOf rfl rfl rfl (by decide +kernel) ⟨Nat.le_of_ble_eq_true rfl, Nat.le_of_ble_eq_true rfl⟩) rfl hl.1 rfl (Nat.le_of_ble_eq_true rfl) dX10_areAlike_12 ⟨Nat.le_of_ble_eq_true rfl, Nat.le_of_ble_eq_true rfl⟩ hS (fun r12 H locs q12 hS => ?_)
      have i12 : r12.toInt = (r_lines w h way).toInt := congrArg Int32.toInt q12
      refine lv_icmp_ge (tgt := 60) hx hb dX10_areAlike_15 (by decide) (fun c15 => ?_) (fun c15 => ?_)
      · skip
        have d15 := c15
        rw [fa_le] at d15
        refine lv_iload hx hb dX10_areAlike_60 (lv_at hl 1 rfl) ?_
        exact W.zret (v := x7) hx hb hr (by rcases j6_1 with ⟨z, _⟩ | ⟨z, _⟩ <;> rw [z] <;> rfl) (fun t ht hW => ⟨⟨_, (), rfl, (by rcases j6_1 with ⟨z, y⟩ | ⟨z, y⟩; exact Or.inl ⟨z, fun l9 h9 => y l9 (by omega)⟩; exact Or.inr ⟨z, fun u => y (fun l9 h9 => u l9 (by omega))⟩), trivial⟩, hS.F ht⟩) hS.2.2 dX10_areAlike_62
      · skip
        have d15 := c15
        rw [fa_le] at d15
        refine lv_iload hx hb dX10_areAlike_18 (lv_at hl 1 rfl) ?_
        refine lv_if_eq (tgt := 51) hx hb dX10_areAlike_20 (by decide) (fun c20 => ?_) (fun c20 => ?_)
        · skip
          have d20 := c20
          rw [fa_eq] at d20
          refine lv_iconst (v := 0) hx hb dX10_areAlike_51 (by decide) ?_
          refine lv_istore (lv' := [(7, .int (0 : Int32)), (8, .int (nI k)), (0, .int w), (1, .int h), (2, .long p0), (4, .long q0), (6, .int way)]) hx hb dX10_areAlike_52 hl (by decide) rfl (fun ls hl => ?_)
          refine lv_iinc (v := (nI (k + 1))) (lv' := [(8, .int (nI (k + 1))), (7, .int (0 : Int32)), (0, .int w), (1, .int h), (2, .long p0), (4, .long q0), (6, .int way)]) hx hb dX10_areAlike_54 hl (k := 1) rfl (nI_1 _) (by decide) rfl (fun ls hl => ?_)
          refine lv_goto (tgt := 6) hx hb dX10_areAlike_57 (by decide) ?_
          exact ih_6 (k + 1) (0 : Int32) (by omega) (by
            first
            | exact Or.inl ⟨rfl, fun l hl => by
                by_cases e9 : l = k
                · rw [e9]; exact eq9.mp c44
                · rcases j6_1 with ⟨_, y⟩ | ⟨z, _⟩
                  · exact y l (by omega)
                  · exact absurd z c20⟩
            | exact Or.inr ⟨rfl, fun u => c44 (eq9.mpr (u k (by omega)))⟩
            | exact Or.inr ⟨rfl, fun u => by rcases j6_1 with ⟨z, _⟩ | ⟨_, y⟩; exact absurd (z.symm.trans c20) (by decide); exact y (fun l hl => u l (by omega))⟩) (by omega) _ _ hS ls (lv_sub hl [0, 1, 2, 3, 4, 5, 6] rfl)
        · skip
          have d20 := c20
          rw [fa_eq] at d20
          refine lv_iload_n hx hb dX10_areAlike_23 rfl (lv_at hl 2 rfl) ?_
          refine lv_iload_n hx hb dX10_areAlike_24 rfl (lv_at hl 3 rfl) ?_
          refine lv_lload_n hx hb dX10_areAlike_25 rfl (lv_at hl 4 rfl) ?_
          refine lv_iload hx hb dX10_areAlike_26 (lv_at hl 6 rfl) ?_
          refine lv_iload hx hb dX10_areAlike_28 (lv_at hl 0 rfl) ?_
          refine pu_call (As := [.int w, .int h, .long p0, .int way, .int (nI k)]) (rest := []) ⟨hx, hb, hml, hown, hts⟩ (c_X10_shadowOf l w h p0 way (nI k) hw hh) (va_cwS 5 hts gX10_areAlike_X10_shadowOf rfl rfl rfl (by decide +kernel) ⟨Nat.le_of_ble_eq_true rfl, Nat.le_of_ble_eq_true rfl⟩) rfl hl.1 rfl (Nat.le_of_ble_eq_true rfl) dX10_areAlike_30 ⟨Nat.le_of_ble_eq_true rfl, Nat.le_of_ble_eq_true rfl⟩ hS (fun r30 H locs q30 hS => ?_)
          refine lv_iload_n hx hb dX10_areAlike_33 rfl (lv_at hl 2 rfl) ?_
          refine lv_iload_n hx hb dX10_areAlike_34 rfl (lv_at hl 3 rfl) ?_
          refine lv_lload hx hb dX10_areAlike_35 (lv_at hl 5 rfl) ?_
          refine lv_iload hx hb dX10_areAlike_37 (lv_at hl 6 rfl) ?_
          refine lv_iload hx hb dX10_areAlike_39 (lv_at hl 0 rfl) ?_
          refine pu_call (As := [.int w, .int h, .long q0, .int way, .int (nI k)]) (rest := [.int r30]) ⟨hx, hb, hml, hown, hts⟩ (c_X10_shadowOf l w h q0 way (nI k) hw hh) (va_cwS 5 hts gX10_areAlike_X10_shadowOf rfl rfl rfl (by decide +kernel) ⟨Nat.le_of_ble_eq_true rfl, Nat.le_of_ble_eq_true rfl⟩) rfl hl.1 rfl (Nat.le_of_ble_eq_true rfl) dX10_areAlike_41 ⟨Nat.le_of_ble_eq_true rfl, Nat.le_of_ble_eq_true rfl⟩ hS (fun r41 H locs q41 hS => ?_)
          have ck9 : (nI k).toNatClampNeg = k := nI_clamp (by omega)
          have s30 := r_shS hw hh hy (by omega) q30
          have s41 := r_shS hw hh hy (by omega) q41
          rw [ck9] at s30 s41
          have b30 := bs_le (fun s => decide (lnT h.toNatClampNeg way.toNatClampNeg (s % w.toNatClampNeg) (s / w.toNatClampNeg) = k) && lb p0 s) (w.toNatClampNeg * h.toNatClampNeg)
          have b41 := bs_le (fun s => decide (lnT h.toNatClampNeg way.toNatClampNeg (s % w.toNatClampNeg) (s / w.toNatClampNeg) = k) && lb q0 s) (w.toNatClampNeg * h.toNatClampNeg)
          have eq9 : r30 = r41 ↔ shN w.toNatClampNeg h.toNatClampNeg p0 way.toNatClampNeg k = shN w.toNatClampNeg h.toNatClampNeg q0 way.toNatClampNeg k := by rw [s30, s41]; exact nI_eq (by unfold shN; omega) (by unfold shN; omega)
          refine lv_icmp_ne (tgt := 51) hx hb dX10_areAlike_44 (by decide) (fun c44 => ?_) (fun c44 => ?_)
          · skip
            have d44 := c44
            rw [fa_eq] at d44
            refine lv_iconst (v := 0) hx hb dX10_areAlike_51 (by decide) ?_
            refine lv_istore (lv' := [(7, .int (0 : Int32)), (8, .int (nI k)), (0, .int w), (1, .int h), (2, .long p0), (4, .long q0), (6, .int way)]) hx hb dX10_areAlike_52 hl (by decide) rfl (fun ls hl => ?_)
            refine lv_iinc (v := (nI (k + 1))) (lv' := [(8, .int (nI (k + 1))), (7, .int (0 : Int32)), (0, .int w), (1, .int h), (2, .long p0), (4, .long q0), (6, .int way)]) hx hb dX10_areAlike_54 hl (k := 1) rfl (nI_1 _) (by decide) rfl (fun ls hl => ?_)
            refine lv_goto (tgt := 6) hx hb dX10_areAlike_57 (by decide) ?_
            exact ih_6 (k + 1) (0 : Int32) (by omega) (by
            first
            | exact Or.inl ⟨rfl, fun l hl => by
                by_cases e9 : l = k
                · rw [e9]; exact eq9.mp c44
                · rcases j6_1 with ⟨_, y⟩ | ⟨z, _⟩
                  · exact y l (by omega)
                  · exact absurd z c20⟩
            | exact Or.inr ⟨rfl, fun u => c44 (eq9.mpr (u k (by omega)))⟩
            | exact Or.inr ⟨rfl, fun u => by rcases j6_1 with ⟨z, _⟩ | ⟨_, y⟩; exact absurd (z.symm.trans c20) (by decide); exact y (fun l hl => u l (by omega))⟩) (by omega) _ _ hS ls (lv_sub hl [0, 1, 2, 3, 4, 5, 6] rfl)
          · skip
            have d44 := c44
            rw [fa_eq] at d44
            refine lv_iconst (v := 1) hx hb dX10_areAlike_47 (by decide) ?_
            refine lv_goto (tgt := 52) hx hb dX10_areAlike_48 (by decide) ?_
            refine lv_istore (lv' := [(7, .int (1 : Int32)), (8, .int (nI k)), (0, .int w), (1, .int h), (2, .long p0), (4, .long q0), (6, .int way)]) hx hb dX10_areAlike_52 hl (by decide) rfl (fun ls hl => ?_)
            refine lv_iinc (v := (nI (k + 1))) (lv' := [(8, .int (nI (k + 1))), (7, .int (1 : Int32)), (0, .int w), (1, .int h), (2, .long p0), (4, .long q0), (6, .int way)]) hx hb dX10_areAlike_54 hl (k := 1) rfl (nI_1 _) (by decide) rfl (fun ls hl => ?_)
            refine lv_goto (tgt := 6) hx hb dX10_areAlike_57 (by decide) ?_
            exact ih_6 (k + 1) (1 : Int32) (by omega) (by
            first
            | exact Or.inl ⟨rfl, fun l hl => by
                by_cases e9 : l = k
                · rw [e9]; exact eq9.mp c44
                · rcases j6_1 with ⟨_, y⟩ | ⟨z, _⟩
                  · exact y l (by omega)
                  · exact absurd z c20⟩
            | exact Or.inr ⟨rfl, fun u => c44 (eq9.mpr (u k (by omega)))⟩
            | exact Or.inr ⟨rfl, fun u => by rcases j6_1 with ⟨z, _⟩ | ⟨_, y⟩; exact absurd (z.symm.trans c20) (by decide); exact y (fun l hl => u l (by omega))⟩) (by omega) _ _ hS ls (lv_sub hl [0, 1, 2, 3, 4, 5, 6] rfl)
  exact loop_6 ((r_lines w h way).toInt.toNat + 1) 0 (1 : Int32) (by omega) (Or.inl ⟨rfl, fun l hl => absurd hl (Nat.not_lt_zero _)⟩) (by omega) _ _ hS ls (lv_sub hl [0, 1, 2, 3, 4, 5, 6] rfl)

