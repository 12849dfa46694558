/-! arrays of references whose content is told -/
section CAR
variable {p : Program} {l : Launch} {e : Env} {R : Room} {s : State} {m : MethodId} {args : Array Value} {below : List Frame} {meth : Method} {c : Code} {H : Heap} {locs : List Loc} {cells slots : Nat} {Q : State → Prop}
variable {cc : ByteArray} {pc : Nat} {ls : Array Slot} {rest : List Value} {D : va_G} {cy : Nat → ClassId} {A : Nat → Prop} {ws : va_W} {G : cG} {H0 : Heap}
theorem t_aald8f (hx : p.tables.exec = Jvm.exec) (hb : c.code = cc) (hK : va_K D vwCl (cTy cy) s) (hP : va_P D vwCl ws H) {a n : Nat} {f : Nat → Option Nat} (hM : cIn ws a (.inl (cy 3, cqa n f))) (hf : ∀ i x, i < n → f i = some x → G x = some (2, i % 6 + 1, i / 6 + 1)) {i : Int32} (hin : vp_in i n) (hdg : decode cc pc = .ok (.aaload, 1))
    (kn : f i.toNatClampNeg = none → W p l e R s m args below meth c H locs cells slots Q (F0 m (pc + 1) ls (.null :: rest)))
    (ks : ∀ x, G x = some (2, i.toNatClampNeg % 6 + 1, i.toNatClampNeg / 6 + 1) → f i.toNatClampNeg = some x → W p l e R s m args below meth c H locs cells slots Q (F0 m (pc + 1) ls (.ref x :: rest))) : W p l e R s m args below meth c H locs cells slots Q (F0 m pc ls (.int i :: .ref a :: rest)) := by
  obtain ⟨q0, hq⟩ := hM
  have hlt : i.toNatClampNeg < n := Nat.not_le.mp fun q => hin (Or.inr q)
  refine va_aldq hx hb hK hP q0 3 hq rfl hin hdg ?_
  cases hv : f i.toNatClampNeg with
  | none => exact kn hv
  | some x => exact ks x (hf _ x hlt hv) hv
theorem t_aast8f (hx : p.tables.exec = Jvm.exec) (hb : c.code = cc) (hK : va_K D vwCl (cTy cy) s) (hP : va_P D vwCl ws H) (hD : va_D A ws) (hS : va_S A H0 H locs) (hT : cT cy G ws) {a n z v : Nat} (hg : G a = some (8, n, z)) {f : Nat → Option Nat} (hM : cIn ws a (.inl (cy 3, cqa n f))) (hf : ∀ i x, i < n → f i = some x → G x = some (2, i % 6 + 1, i / 6 + 1)) {i : Int32} (hv : G v = some (2, i.toNatClampNeg % 6 + 1, i.toNatClampNeg / 6 + 1)) (hin : vp_in i n) (hdg : decode cc pc = .ok (.aastore, 1))
    (kk : ∀ (H1 : Heap) (locs1 : List Loc) (ws1 : va_W), cF (fun b => b = a) ws ws1 → cIn ws1 a (.inl (cy 3, cqa n (va_up f i.toNatClampNeg (some v)))) → (∀ j x, j < n → va_up f i.toNatClampNeg (some v) j = some x → G x = some (2, j % 6 + 1, j / 6 + 1)) → va_P D vwCl ws1 H1 → va_D A ws1 → cT cy G ws1 → va_S A H0 H1 locs1 → W p l e R s m args below meth c H1 locs1 cells slots Q (F0 m (pc + 1) ls rest)) : W p l e R s m args below meth c H locs cells slots Q (F0 m pc ls (.ref v :: .int i :: .ref a :: rest)) := by
  obtain ⟨q0, hq⟩ := hM
  obtain ⟨_, ⟨qk, hqk⟩, hb0, b1, b2, b3, rfl, -⟩ := hT _ _ hv
  have hf1 : ∀ j x, j < n → va_up f i.toNatClampNeg (some v) j = some x → G x = some (2, j % 6 + 1, j / 6 + 1) := fun j x hj hx => c_upf (P := fun i x => G x = some (2, i % 6 + 1, i / 6 + 1)) hf hv hj hx
  exact va_astq (r := (RX0, TX0, 8)) hx hb hK hP hD hS q0 3 qk 0 hq rfl hqk rfl hin hdg (fun H1 locs1 k1 k2 k3 => kk H1 locs1 _ (cF.up (cUp.set hq) rfl) (cUp.set hq).1 hf1 k1 k2 (hT.up (cUp.set hq) hg ⟨_, rfl, hf1⟩) k3)
end CAR

def gB (set : Int32) (k : Nat) : Int32 := (set >>> (nI k &&& 31)) &&& 1
def gdx (k : Nat) : Int := if k = 1 then 0 else 1
def gdy (k : Nat) : Int := if k = 0 then 0 else 1
def gX (set : Int32) : Nat → Int
  | 0 => 0
  | k + 1 => if gB set k = 1 then gX set k + gdx k else gX set k
def gY (set : Int32) : Nat → Int
  | 0 => 0
  | k + 1 => if gB set k = 1 then gY set k + gdy k else gY set k
theorem gdx_b (k : Nat) : 0 ≤ gdx k ∧ gdx k ≤ 1 := by unfold gdx; split <;> omega
theorem gdy_b (k : Nat) : 0 ≤ gdy k ∧ gdy k ≤ 1 := by unfold gdy; split <;> omega
theorem gX_b (set : Int32) (k : Nat) : 0 ≤ gX set k ∧ gX set k ≤ k := by
  induction k with
  | zero => simp [gX]
  | succ k ih => have := gdx_b k; simp only [gX]; split <;> omega
theorem gY_b (set : Int32) (k : Nat) : 0 ≤ gY set k ∧ gY set k ≤ k := by
  induction k with
  | zero => simp [gY]
  | succ k ih => have := gdy_b k; simp only [gY]; split <;> omega
theorem gX_1 {set : Int32} {k : Nat} (h : gB set k = 1) : gX set (k + 1) = gX set k + gdx k := by simp only [gX]; rw [if_pos h]
theorem gX_0 {set : Int32} {k : Nat} (h : ¬ gB set k = 1) : gX set (k + 1) = gX set k := by simp only [gX]; rw [if_neg h]
theorem gY_1 {set : Int32} {k : Nat} (h : gB set k = 1) : gY set (k + 1) = gY set k + gdy k := by simp only [gY]; rw [if_pos h]
theorem gY_0 {set : Int32} {k : Nat} (h : ¬ gB set k = 1) : gY set (k + 1) = gY set k := by simp only [gY]; rw [if_neg h]
theorem g_ax {x : Nat → Int32} {i : Nat} {v w : Int32} (hi : i < 4) (hx : x 0 = 1 ∧ x 1 = 0 ∧ x 2 = 1 ∧ x 3 = 1) (e1 : v = x (nI i).toNatClampNeg) (e2 : w = if 0 ≤ v then v else 0 - v) : w.toInt = gdx i := by
  rw [nI_clamp (by omega)] at e1
  obtain ⟨h0, h1, h2, h3⟩ := hx
  have h : i = 0 ∨ i = 1 ∨ i = 2 ∨ i = 3 := by omega
  rcases h with rfl | rfl | rfl | rfl
  · rw [h0] at e1; subst e1; subst e2; decide
  · rw [h1] at e1; subst e1; subst e2; decide
  · rw [h2] at e1; subst e1; subst e2; decide
  · rw [h3] at e1; subst e1; subst e2; decide
theorem g_ay {x : Nat → Int32} {i : Nat} {v w : Int32} (hi : i < 4) (hx : x 0 = 0 ∧ x 1 = 1 ∧ x 2 = 1 ∧ x 3 = -1) (e1 : v = x (nI i).toNatClampNeg) (e2 : w = if 0 ≤ v then v else 0 - v) : w.toInt = gdy i := by
  rw [nI_clamp (by omega)] at e1
  obtain ⟨h0, h1, h2, h3⟩ := hx
  have h : i = 0 ∨ i = 1 ∨ i = 2 ∨ i = 3 := by omega
  rcases h with rfl | rfl | rfl | rfl
  · rw [h0] at e1; subst e1; subst e2; decide
  · rw [h1] at e1; subst e1; subst e2; decide
  · rw [h2] at e1; subst e1; subst e2; decide
  · rw [h3] at e1; subst e1; subst e2; decide
def gP (set w h : Int32) : Int := if gX set 4 < w.toInt ∧ gY set 4 < h.toInt then (w.toInt - gX set 4) * (h.toInt - gY set 4) else 0
def gA (set w h : Int32) : Int := if (1 ≤ set.toInt ∧ set.toInt ≤ 15) ∧ (1 ≤ w.toInt ∧ w.toInt ≤ 6) ∧ (1 ≤ h.toInt ∧ h.toInt ≤ 6) then gP set w h else -1
def gH (set w h : Int32) : Int := if 0 < gA set w h then 1 else gA set w h
theorem gA_no {set w h : Int32} (hn : ¬ ((1 ≤ set.toInt ∧ set.toInt ≤ 15) ∧ (1 ≤ w.toInt ∧ w.toInt ≤ 6) ∧ (1 ≤ h.toInt ∧ h.toInt ≤ 6))) : gA set w h = -1 := by unfold gA; rw [if_neg hn]
theorem gA_yes {set w h : Int32} (hn : (1 ≤ set.toInt ∧ set.toInt ≤ 15) ∧ (1 ≤ w.toInt ∧ w.toInt ≤ 6) ∧ (1 ≤ h.toInt ∧ h.toInt ≤ 6)) : gA set w h = gP set w h := by unfold gA; rw [if_pos hn]
theorem gP_pos {set w h : Int32} {x y : Int} (ex : x = w.toInt - gX set 4) (ey : y = h.toInt - gY set 4) (px : 0 < x) (py : 0 < y) : gP set w h = x * y := by unfold gP; rw [if_pos (by omega), ex, ey]
theorem gP_zero {set w h : Int32} (hn : ¬ (gX set 4 < w.toInt ∧ gY set 4 < h.toInt)) : gP set w h = 0 := by unfold gP; rw [if_neg hn]
theorem gP_b {set w h : Int32} (hw : 1 ≤ w.toInt ∧ w.toInt ≤ 6) (hh : 1 ≤ h.toInt ∧ h.toInt ≤ 6) : 0 ≤ gP set w h := by
  unfold gP
  split
  · exact Int.mul_nonneg (by omega) (by omega)
  · omega
set_option maxHeartbeats 4000000 in
set_option maxRecDepth 100000 in
theorem c_X9_boardOf_x (l : Launch) (D : va_G) (cy : Nat → ClassId) (A : Nat → Prop) (G : cG) (ws : va_W) (o : Nat) (wide : Int32) (high : Int32)  (hD : va_D A ws) (hT : cT cy G ws) (hG_o : G o = some (7, 0, 0))  : Ca l D cy A yX9_boardOf wsX9_boardOf ({ frames := 4, cells := 4, slots := 502, locals := 93 }) 4 502 ws [.ref o, .int wide, .int high] (fun r0 u => cX none (chs [1, 8]) G ws u.1 u.2 ∧ ((∀ x, r0 = some x → u.1 x = some (2, wide.toNatClampNeg, high.toNatClampNeg)) ∧ (r0 = none → ¬ ((1 ≤ wide.toInt ∧ wide.toInt ≤ 6) ∧ (1 ≤ high.toInt ∧ high.toInt ≤ 6))) ∧ ∀ x, r0 = some x → ((1 ≤ wide.toInt ∧ wide.toInt ≤ 6) ∧ (1 ≤ high.toInt ∧ high.toInt ≤ 6)))) := by
  refine Met.ofW (cc := cX9_boardOf) (maxL := 4) (ret := (some (.object "ShadowBench$Board"))) (by decide) rfl ?_
  intro p e s m args below meth c s₁ B hml hv
  obtain ⟨rfl, hP, hK, hA, hV⟩ := hv
  have hx := B.exec
  have hb := B.bytes
  have hr := B.returns
  have hts := atoms_spec (ws := wsX9_boardOf) B.pre
  have hown : s.vm.findClass RX9 = some m.cls := findClass_of_methodNamed B.named
  have hlocks := B.notSynchronized
  have hS : va_S A s.heap s.heap [] := va_S.rf
  have hX : cX none (chs [1, 8]) G ws G ws := cX.rf
  have hl := lv_entry ([.ref o, .int wide, .int high]) (n := 4) (Nat.le_of_ble_eq_true rfl)
  rw [lg_entry_eq]
  generalize (lg_sl ([.ref o, .int wide, .int high]) ++ List.replicate (4 - (lg_sl ([.ref o, .int wide, .int high])).length) Slot.unset).toArray = ls at hl ⊢
  have hl : lv_has ls 4 [(0, .ref o), (1, .int wide), (2, .int high)] := hl
  have k_0 : (0 : Int32).toInt = 0 := by decide
  have k_1 : (1 : Int32).toInt = 1 := by decide
  have k_6 : (6 : Int32).toInt = 6 := by decide
  refine lv_iload_n hx hb dX9_boardOf_0 rfl (lv_at hl 1 rfl) ?_
  refine lv_iconst (v := 1) hx hb dX9_boardOf_1 (by decide) ?_
  refine lv_icmp_lt (tgt := 22) hx hb dX9_boardOf_2 (by decide) (fun c2 => ?_) (fun c2 => ?_)
  · skip
    have d2 := c2
    rw [fa_lt] at d2
    refine lv_null hx hb dX9_boardOf_22 ?_
    refine W.widen (k := 4) (n := 502) (Nat.le_of_ble_eq_true rfl) (Nat.le_of_ble_eq_true rfl) ?_
    exact W.aret (v := .null) hx hb hr (Or.inl ⟨_, rfl⟩) (Or.inl rfl) (fun t ht hW => ⟨⟨none, (G, ws), rfl, ⟨hX, ⟨(fun _ z => nomatch z), (fun _ => by omega), (fun _ z => nomatch z)⟩⟩, by show va_P D vwCl ws t.heap; rw [ht]; exact hP, hD, hT⟩, hS.F ht⟩) hS.2.2 dX9_boardOf_23
  · skip
    have d2 := c2
    rw [fa_lt] at d2
    refine lv_iload_n hx hb dX9_boardOf_5 rfl (lv_at hl 1 rfl) ?_
    refine lv_bipush (v := 6) hx hb dX9_boardOf_6 (by decide) ?_
    refine lv_icmp_gt (tgt := 22) hx hb dX9_boardOf_8 (by decide) (fun c8 => ?_) (fun c8 => ?_)
    · skip
      have d8 := c8
      rw [fa_lt] at d8
      refine lv_null hx hb dX9_boardOf_22 ?_
      refine W.widen (k := 4) (n := 502) (Nat.le_of_ble_eq_true rfl) (Nat.le_of_ble_eq_true rfl) ?_
      exact W.aret (v := .null) hx hb hr (Or.inl ⟨_, rfl⟩) (Or.inl rfl) (fun t ht hW => ⟨⟨none, (G, ws), rfl, ⟨hX, ⟨(fun _ z => nomatch z), (fun _ => by omega), (fun _ z => nomatch z)⟩⟩, by show va_P D vwCl ws t.heap; rw [ht]; exact hP, hD, hT⟩, hS.F ht⟩) hS.2.2 dX9_boardOf_23
    · skip
      have d8 := c8
      rw [fa_lt] at d8
      refine lv_iload_n hx hb dX9_boardOf_11 rfl (lv_at hl 2 rfl) ?_
      refine lv_iconst (v := 1) hx hb dX9_boardOf_12 (by decide) ?_
      refine lv_icmp_lt (tgt := 22) hx hb dX9_boardOf_13 (by decide) (fun c13 => ?_) (fun c13 => ?_)
      · skip
        have d13 := c13
        rw [fa_lt] at d13
        refine lv_null hx hb dX9_boardOf_22 ?_
        refine W.widen (k := 4) (n := 502) (Nat.le_of_ble_eq_true rfl) (Nat.le_of_ble_eq_true rfl) ?_
        exact W.aret (v := .null) hx hb hr (Or.inl ⟨_, rfl⟩) (Or.inl rfl) (fun t ht hW => ⟨⟨none, (G, ws), rfl, ⟨hX, ⟨(fun _ z => nomatch z), (fun _ => by omega), (fun _ z => nomatch z)⟩⟩, by show va_P D vwCl ws t.heap; rw [ht]; exact hP, hD, hT⟩, hS.F ht⟩) hS.2.2 dX9_boardOf_23
      · skip
        have d13 := c13
        rw [fa_lt] at d13
        refine lv_iload_n hx hb dX9_boardOf_16 rfl (lv_at hl 2 rfl) ?_
        refine lv_bipush (v := 6) hx hb dX9_boardOf_17 (by decide) ?_
        refine lv_icmp_le (tgt := 24) hx hb dX9_boardOf_19 (by decide) (fun c19 => ?_) (fun c19 => ?_)
        · skip
          have d19 := c19
          rw [fa_le] at d19
          refine lv_iload_n hx hb dX9_boardOf_24 rfl (lv_at hl 2 rfl) ?_
          refine lv_iconst (v := 1) hx hb dX9_boardOf_25 (by decide) ?_
          refine lv_isub hx hb dX9_boardOf_26 ?_
          refine lv_topi (fun v26 e26 => ?_)
          have i26 : v26.toInt = high.toInt - (1 : Int32).toInt := by rw [e26]; exact fb_subI (by omega) (by omega)
          refine lv_bipush (v := 6) hx hb dX9_boardOf_27 (by decide) ?_
          refine lv_imul hx hb dX9_boardOf_29 ?_
          refine lv_topi (fun v29 e29 => ?_)
          have i29 : v29.toInt = v26.toInt * 6 := by rw [e29]; exact mulcR rfl (by omega) (by omega)
          refine lv_iload_n hx hb dX9_boardOf_30 rfl (lv_at hl 1 rfl) ?_
          refine lv_iadd hx hb dX9_boardOf_31 ?_
          refine lv_topi (fun v31 e31 => ?_)
          have i31 : v31.toInt = v29.toInt + wide.toInt := by rw [e31]; exact fb_addI (by omega) (by omega)
          refine lv_iconst (v := 1) hx hb dX9_boardOf_32 (by decide) ?_
          refine lv_isub hx hb dX9_boardOf_33 ?_
          refine lv_topi (fun v33 e33 => ?_)
          have i33 : v33.toInt = v31.toInt - (1 : Int32).toInt := by rw [e33]; exact fb_subI (by omega) (by omega)
          refine lv_istore_n (lv' := [(3, .int v33), (0, .ref o), (1, .int wide), (2, .int high)]) hx hb dX9_boardOf_34 rfl hl (by decide) rfl (fun ls hl => ?_)
          have e9 := m_cl (x := v33) (by omega)
          have f9 := m_cl (x := wide) (by omega)
          have g9 := m_cl (x := high) (by omega)
          have e1 : v33.toNatClampNeg % 6 + 1 = wide.toNatClampNeg := by omega
          have e2 : v33.toNatClampNeg / 6 + 1 = high.toNatClampNeg := by omega
          refine lv_aload_n hx hb dX9_boardOf_35 rfl (lv_at hl 1 rfl) ?_
          obtain ⟨_, hM_o, bs_o, js_o, sh_o, wk_o, ll_o, jc_o, lc_o, mo_o, lb_o, rfl, hjc_o, hlc_o, hG_bs_o, hG_js_o, hG_sh_o, hG_wk_o, hmo_o, hG_ll_o, hlb_o⟩ := hT _ _ hG_o
          refine t_get (v := .ref bs_o) (C := RX9) (T := TX9) (N := 9) hx hb hts (by decide +kernel) hown hK hP hM_o rfl 0 (by decide) (hts (.fieldLink RX9 9 "ShadowBench" "boards" "[LShadowBench$Board;") (by decide +kernel)) (fun _ h9 => h9) rfl dX9_boardOf_36 ?_
          refine lv_iload_n hx hb dX9_boardOf_39 rfl (lv_at hl 0 rfl) ?_
          obtain ⟨_, hM_bs_o, fa_bs_o, rfl, hf_bs_o⟩ := hT _ _ hG_bs_o
          refine t_aald8f hx hb hK hP hM_bs_o hf_bs_o (vp_in_iff.mpr ⟨by omega, by omega⟩) dX9_boardOf_40 (fun nf40 => ?_) (fun x40 hG_x40 nf40 => ?_)
          · skip
            refine lv_ifnonnullN hx hb dX9_boardOf_41 ?_
            refine lv_aload_n hx hb dX9_boardOf_44 rfl (lv_at hl 1 rfl) ?_
            refine t_get (v := .ref bs_o) (C := RX9) (T := TX9) (N := 9) hx hb hts (by decide +kernel) hown hK hP hM_o rfl 0 (by decide) (hts (.fieldLink RX9 9 "ShadowBench" "boards" "[LShadowBench$Board;") (by decide +kernel)) (fun _ h9 => h9) rfl dX9_boardOf_45 ?_
            refine lv_iload_n hx hb dX9_boardOf_48 rfl (lv_at hl 0 rfl) ?_
            refine t_new (C := RX0) (T := TX0) (N := 8) (ci := 0) (ty0 := tyX0) (fs := [.int 0, .int 0, .int 0, .int 0, .int 0, .null, .null, .null]) hx hb hts (by decide +kernel) tyX0_ok hown (hts (.classLink RX9 7 RX0) (by decide +kernel)) (hts (.instantiable RX0 8) (by decide +kernel)) (hts (.initialized RX0) (by decide +kernel)) hK hP hD hS hA hT rfl (by decide +kernel) (Nat.le_of_ble_eq_true rfl) (Nat.le_of_ble_eq_true rfl) dX9_boardOf_49 (fun q49 H w49 hM_q49 hO_q49 hF49 hX49 hk49 hP hD hT hS => ?_)
            have hN_q49 := hX.new0 hO_q49 hF49
            have hM_o := hk49 _ _ hM_o
            have hM_bs_o := hk49 _ _ hM_bs_o
            have hX := hX.tr (hX49 _ _)
            refine lv_dup hx hb dX9_boardOf_52 rfl ?_
            refine lv_iload_n hx hb dX9_boardOf_53 rfl (lv_at hl 2 rfl) ?_
            refine lv_iload_n hx hb dX9_boardOf_54 rfl (lv_at hl 3 rfl) ?_
            refine t_callv (va_runI (g := F0 m 55 ls ([.int high, .int wide, .ref q49, .ref q49, .int v33, .ref bs_o])) (As := [.int wide, .int high]) (rest := [.ref q49, .int v33, .ref bs_o]) (b := q49) ⟨hx, hb, hml, hown, hts⟩ (c_X0_init_i l D cy A G w49 q49 wide high hD hT hO_q49 hM_q49 (by omega)) (cwI 2 hts gX9_boardOf_X0_init rfl rfl rfl (hts (.initialized RX0) (by decide +kernel)) (hts (.methodLink RX9 290 yX0_init) (by decide +kernel)) (hts (.instanceMethod yX0_init) (by decide +kernel)) rfl (by decide +kernel) ⟨Nat.le_of_ble_eq_true rfl, Nat.le_of_ble_eq_true rfl⟩) (c_preS hP hK hA hS hV) rfl rfl hl.1 rfl (lv_room (Nat.le_of_ble_eq_true rfl)) dX9_boardOf_55 ⟨Nat.le_of_ble_eq_true rfl, Nat.le_of_ble_eq_true rfl⟩) hS (fun u H locs q55 hP9 hD9 hT9 hS => ?_)
            obtain ⟨G55, w55⟩ := u
            obtain ⟨hX9, q55⟩ := q55
            have hX9 : cX (some q49) (chs [1]) G w49 G55 w55 := hX9
            have hP : va_P D vwCl w55 H := hP9
            have hD : va_D A w55 := hD9
            have hT : cT cy G55 w55 := hT9
            have hM_o := hX9.2.1 _ _ (cP.no1 (Ne.symm (cne0 hO_q49 hG_o)) hG_o rfl) hM_o
            have hM_bs_o := hX9.2.1 _ _ (cP.no1 (Ne.symm (cne0 hO_q49 hG_bs_o)) hG_bs_o rfl) hM_bs_o
            have hG_o := hX9.1 _ _ hG_o
            have hG_bs_o := hX9.1 _ _ hG_bs_o
            have hG_js_o := hX9.1 _ _ hG_js_o
            have hG_sh_o := hX9.1 _ _ hG_sh_o
            have hG_wk_o := hX9.1 _ _ hG_wk_o
            have hG_ll_o := hX9.1 _ _ hG_ll_o
            have hf_bs_o := fun i9 x9 h9 z9 => hX9.1 _ _ (hf_bs_o i9 x9 h9 z9)
            have hG_q49 : G55 q49 = some (2, wide.toNatClampNeg, high.toNatClampNeg) := q55.1
            have q55 := q55.2
            have hX := hX.trN hN_q49 (hX9.wk (chs_sub (by decide)))
            refine t_aast8f hx hb hK hP hD hS hT hG_bs_o hM_bs_o hf_bs_o (by rw [e1, e2]; exact hG_q49) (vp_in_iff.mpr ⟨by omega, by omega⟩) dX9_boardOf_58 (fun H locs w58 hU58 hM9_bs_o hf9_bs_o hP hD hT hS => ?_)
            have hM_o := hU58 _ _ (cne hG_o hG_bs_o (show (7 : Nat) ≠ 8 by decide)) hM_o
            have hM_bs_o := hM9_bs_o
            have hf_bs_o := hf9_bs_o
            have hX := hX.tr (cX.uF hU58 (Or.inr ⟨_, hG_bs_o, rfl⟩))
            refine lv_aload_n hx hb dX9_boardOf_59 rfl (lv_at hl 1 rfl) ?_
            refine t_get (v := .ref bs_o) (C := RX9) (T := TX9) (N := 9) hx hb hts (by decide +kernel) hown hK hP hM_o rfl 0 (by decide) (hts (.fieldLink RX9 9 "ShadowBench" "boards" "[LShadowBench$Board;") (by decide +kernel)) (fun _ h9 => h9) rfl dX9_boardOf_60 ?_
            refine lv_iload_n hx hb dX9_boardOf_63 rfl (lv_at hl 0 rfl) ?_
            refine t_aald8f hx hb hK hP hM_bs_o hf_bs_o (vp_in_iff.mpr ⟨by omega, by omega⟩) dX9_boardOf_64 (fun nf64 => ?_) (fun x64 hG_x64 nf64 => ?_)
            · first | exact absurd (nf64.symm.trans nf40) (by simp) | (simp [va_up] at nf64)
            · skip
              refine W.widen (k := 4) (n := 502) (Nat.le_of_ble_eq_true rfl) (Nat.le_of_ble_eq_true rfl) ?_
              exact W.aret (v := .ref x64) hx hb hr (Or.inl ⟨_, rfl⟩) (Or.inr ⟨_, rfl⟩) (fun t ht hW => ⟨⟨(some x64), (G55, w58), rfl, ⟨hX, ⟨(fun _ z => Option.some.inj z ▸ (by rw [← e1, ← e2]; exact hG_x64)), (fun z => nomatch z), (fun _ _ => by omega)⟩⟩, by show va_P D vwCl w58 t.heap; rw [ht]; exact hP, hD, hT⟩, hS.F ht⟩) hS.2.2 dX9_boardOf_65
          · skip
            refine lv_ifnonnull (tgt := 59) hx hb dX9_boardOf_41 (by decide) ?_
            refine lv_aload_n hx hb dX9_boardOf_59 rfl (lv_at hl 1 rfl) ?_
            refine t_get (v := .ref bs_o) (C := RX9) (T := TX9) (N := 9) hx hb hts (by decide +kernel) hown hK hP hM_o rfl 0 (by decide) (hts (.fieldLink RX9 9 "ShadowBench" "boards" "[LShadowBench$Board;") (by decide +kernel)) (fun _ h9 => h9) rfl dX9_boardOf_60 ?_
            refine lv_iload_n hx hb dX9_boardOf_63 rfl (lv_at hl 0 rfl) ?_
            refine t_aald8f hx hb hK hP hM_bs_o hf_bs_o (vp_in_iff.mpr ⟨by omega, by omega⟩) dX9_boardOf_64 (fun nf64 => ?_) (fun x64 hG_x64 nf64 => ?_)
            · first | exact absurd (nf64.symm.trans nf40) (by simp) | (simp [va_up] at nf64)
            · skip
              refine W.widen (k := 4) (n := 502) (Nat.le_of_ble_eq_true rfl) (Nat.le_of_ble_eq_true rfl) ?_
              exact W.aret (v := .ref x64) hx hb hr (Or.inl ⟨_, rfl⟩) (Or.inr ⟨_, rfl⟩) (fun t ht hW => ⟨⟨(some x64), (G, ws), rfl, ⟨hX, ⟨(fun _ z => Option.some.inj z ▸ (by rw [← e1, ← e2]; exact hG_x64)), (fun z => nomatch z), (fun _ _ => by omega)⟩⟩, by show va_P D vwCl ws t.heap; rw [ht]; exact hP, hD, hT⟩, hS.F ht⟩) hS.2.2 dX9_boardOf_65
        · skip
          have d19 := c19
          rw [fa_le] at d19
          refine lv_null hx hb dX9_boardOf_22 ?_
          refine W.widen (k := 4) (n := 502) (Nat.le_of_ble_eq_true rfl) (Nat.le_of_ble_eq_true rfl) ?_
          exact W.aret (v := .null) hx hb hr (Or.inl ⟨_, rfl⟩) (Or.inl rfl) (fun t ht hW => ⟨⟨none, (G, ws), rfl, ⟨hX, ⟨(fun _ z => nomatch z), (fun _ => by omega), (fun _ z => nomatch z)⟩⟩, by show va_P D vwCl ws t.heap; rw [ht]; exact hP, hD, hT⟩, hS.F ht⟩) hS.2.2 dX9_boardOf_23
set_option maxHeartbeats 4000000 in
set_option maxRecDepth 100000 in
theorem c_X9_ghostPlaces_x (l : Launch) (D : va_G) (cy : Nat → ClassId) (A : Nat → Prop) (G : cG) (ws : va_W) (o : Nat) (set : Int32) (wide : Int32) (high : Int32)  (hD : va_D A ws) (hT : cT cy G ws) (hG_o : G o = some (7, 0, 0))  : Ei l D cy A yX9_ghostPlaces wsX9_ghostPlaces ({ frames := 5, cells := 4, slots := 502, locals := 116 }) 4 502 ws [.ref o, .int set, .int wide, .int high] (fun r0 u => cX none (chs [1, 8]) G ws u.1 u.2 ∧ (r0.toInt = gA set wide high)) := by
  refine Met.ofW (cc := cX9_ghostPlaces) (maxL := 7) (ret := (some .int)) (by decide) rfl ?_
  intro p e s m args below meth c s₁ B hml hv
  obtain ⟨rfl, ⟨hP, hK, hA, hV⟩, hZ⟩ := hv
  obtain ⟨tX, tY, xX, xY, ⟨zX1, zX2, zX5⟩, ⟨zY1, zY2, zY5⟩⟩ := id hZ
  have hx := B.exec
  have hb := B.bytes
  have hr := B.returns
  have hts := atoms_spec (ws := wsX9_ghostPlaces) B.pre
  have hown : s.vm.findClass RX9 = some m.cls := findClass_of_methodNamed B.named
  have hlocks := B.notSynchronized
  have hS : va_S A s.heap s.heap [] := va_S.rf
  have hX : cX none (chs [1, 8]) G ws G ws := cX.rf
  have hl := lv_entry ([.ref o, .int set, .int wide, .int high]) (n := 7) (Nat.le_of_ble_eq_true rfl)
  rw [lg_entry_eq]
  generalize (lg_sl ([.ref o, .int set, .int wide, .int high]) ++ List.replicate (7 - (lg_sl ([.ref o, .int set, .int wide, .int high])).length) Slot.unset).toArray = ls at hl ⊢
  have hl : lv_has ls 7 [(0, .ref o), (1, .int set), (2, .int wide), (3, .int high)] := hl
  have k_m1 : (-1 : Int32).toInt = -1 := by decide
  have k_0 : (0 : Int32).toInt = 0 := by decide
  have k_1 : (1 : Int32).toInt = 1 := by decide
  have k_4 : (4 : Int32).toInt = 4 := by decide
  refine lv_iload_n hx hb dX9_ghostPlaces_0 rfl (lv_at hl 1 rfl) ?_
  refine t_pu (As := [.int set]) (rest := []) ⟨hx, hb, hml, hown, hts⟩ (c_X9_isGhostSet l set ) (va_cwS 1 hts gX9_ghostPlaces_X9_isGhostSet rfl rfl rfl (by decide +kernel) ⟨Nat.le_of_ble_eq_true rfl, Nat.le_of_ble_eq_true rfl⟩) hP rfl hl.1 rfl (Nat.le_of_ble_eq_true rfl) dX9_ghostPlaces_1 ⟨Nat.le_of_ble_eq_true rfl, Nat.le_of_ble_eq_true rfl⟩ hS (fun r1 H locs q1 hP hS => ?_)
  refine lv_if_eq (tgt := 16) hx hb dX9_ghostPlaces_4 (by decide) (fun c4 => ?_) (fun c4 => ?_)
  · skip
    have b4 := bo_f q1 c4
    refine lv_iconst (v := (-1)) hx hb dX9_ghostPlaces_16 (by decide) ?_
    refine W.widen (k := 4) (n := 502) (Nat.le_of_ble_eq_true rfl) (Nat.le_of_ble_eq_true rfl) ?_
    exact W.iret (v := ((-1) : Int32)) hx hb hr (fun t ht hW => ⟨⟨_, (G, ws), rfl, ⟨hX, (by rw [gA_no (by omega)]; rfl)⟩, by show va_P D vwCl ws t.heap; rw [ht]; exact hP, hD, hT⟩, hS.F ht⟩) hS.2.2 dX9_ghostPlaces_17
  · skip
    have b4 := bo_t q1 c4
    refine lv_aload_n hx hb dX9_ghostPlaces_7 rfl (lv_at hl 0 rfl) ?_
    refine lv_iload_n hx hb dX9_ghostPlaces_8 rfl (lv_at hl 2 rfl) ?_
    refine lv_iload_n hx hb dX9_ghostPlaces_9 rfl (lv_at hl 3 rfl) ?_
    obtain ⟨_, hM_o, bs_o, js_o, sh_o, wk_o, ll_o, jc_o, lc_o, mo_o, lb_o, rfl, hjc_o, hlc_o, hG_bs_o, hG_js_o, hG_sh_o, hG_wk_o, hmo_o, hG_ll_o, hlb_o⟩ := hT _ _ hG_o
    refine t_calla (va_runV (g := F0 m 10 ls ([.int high, .int wide, .ref o])) (As := [.int wide, .int high]) (rest := []) ⟨hx, hb, hml, hown, hts⟩ (c_X9_boardOf_x l D cy A G ws o wide high hD hT hG_o ) (cwV 2 hts gX9_ghostPlaces_X9_boardOf rfl rfl rfl (by decide +kernel) ⟨Nat.le_of_ble_eq_true rfl, Nat.le_of_ble_eq_true rfl⟩) (c_preV hM_o rfl hP hK hA hS hV) rfl rfl hl.1 rfl (lv_room (Nat.le_of_ble_eq_true rfl)) dX9_ghostPlaces_10 ⟨Nat.le_of_ble_eq_true rfl, Nat.le_of_ble_eq_true rfl⟩) hS (fun r10 u H locs q10 hP9 hD9 hT9 hS => ?_)
    obtain ⟨G10, w10⟩ := u
    obtain ⟨hX9, q10⟩ := q10
    have hX9 : cX none (chs [1, 8]) G ws G10 w10 := hX9
    have hP : va_P D vwCl w10 H := hP9
    have hD : va_D A w10 := hD9
    have hT : cT cy G10 w10 := hT9
    have hM_o := hX9.2.1 _ _ (cP.no hG_o rfl) hM_o
    have hG_o := hX9.1 _ _ hG_o
    have hG_bs_o := hX9.1 _ _ hG_bs_o
    have hG_js_o := hX9.1 _ _ hG_js_o
    have hG_sh_o := hX9.1 _ _ hG_sh_o
    have hG_wk_o := hX9.1 _ _ hG_wk_o
    have hG_ll_o := hX9.1 _ _ hG_ll_o
    have hX := hX.tr hX9
    rcases r10 with _ | x10
    · skip
      have vn10 := q10.2.1 rfl
      refine lv_ifnonnullN hx hb dX9_ghostPlaces_13 ?_
      refine lv_iconst (v := (-1)) hx hb dX9_ghostPlaces_16 (by decide) ?_
      refine W.widen (k := 4) (n := 502) (Nat.le_of_ble_eq_true rfl) (Nat.le_of_ble_eq_true rfl) ?_
      exact W.iret (v := ((-1) : Int32)) hx hb hr (fun t ht hW => ⟨⟨_, (G10, w10), rfl, ⟨hX, (by rw [gA_no (by omega)]; rfl)⟩, by show va_P D vwCl w10 t.heap; rw [ht]; exact hP, hD, hT⟩, hS.F ht⟩) hS.2.2 dX9_ghostPlaces_17
    · skip
      have hG_x10 := q10.1 x10 rfl
      have vb10 := q10.2.2 x10 rfl
      refine lv_ifnonnull (tgt := 18) hx hb dX9_ghostPlaces_13 (by decide) ?_
      refine lv_iload_n hx hb dX9_ghostPlaces_18 rfl (lv_at hl 2 rfl) ?_
      refine lv_istore (lv' := [(4, .int wide), (0, .ref o), (1, .int set), (2, .int wide), (3, .int high)]) hx hb dX9_ghostPlaces_19 hl (by decide) rfl (fun ls hl => ?_)
      refine lv_iload_n hx hb dX9_ghostPlaces_21 rfl (lv_at hl 4 rfl) ?_
      refine lv_istore (lv' := [(5, .int high), (4, .int wide), (0, .ref o), (1, .int set), (2, .int wide), (3, .int high)]) hx hb dX9_ghostPlaces_22 hl (by decide) rfl (fun ls hl => ?_)
      refine lv_iconst (v := 0) hx hb dX9_ghostPlaces_24 (by decide) ?_
      refine lv_istore (lv' := [(6, .int (0 : Int32)), (5, .int high), (4, .int wide), (0, .ref o), (1, .int set), (2, .int wide), (3, .int high)]) hx hb dX9_ghostPlaces_25 hl (by decide) rfl (fun ls hl => ?_)
      have loop_27 : ∀ (n : Nat) (i : Nat) (x5 : Int32) (x4 : Int32), (i ≤ 4) → (x4.toInt = wide.toInt - gX set i) → (x5.toInt = high.toInt - gY set i) → 4 - i < n → ∀ (H : Heap) (locs : List Loc), va_P D vwCl w10 H → va_S A s.heap H locs → ∀ (ls : Array Slot), lv_has ls 7 [(6, .int (nI i)), (5, .int x5), (4, .int x4), (0, .ref o), (1, .int set), (2, .int wide), (3, .int high)] → W p l e (headSpec wsX9_ghostPlaces ({ frames := 5, cells := 4, slots := 502, locals := 116 })).room s m #[Value.ref o, Value.int set, Value.int wide, Value.int high] below meth c H locs 4 502 (MQ below (va_Qi (fun r0 u => cX none (chs [1, 8]) G ws u.1 u.2 ∧ (r0.toInt = gA set wide high)) (cB D cy A) A) #[Value.ref o, Value.int set, Value.int wide, Value.int high] s 4 502 A) (F0 m 27 ls []) := by
        intro n
        induction n with
        | zero => intro i x5 x4 j27_0 j27_1 j27_2 hn; exact absurd hn (Nat.not_lt_zero _)
        | succ n ih_27 =>
          intro i x5 x4 j27_0 j27_1 j27_2 hn_27 H locs hP hS  ls hl
          have ii : (nI i).toInt = (i : Int) := nI_toInt (by omega)
          have bx := gX_b set i
          have by9 := gY_b set i
          refine lv_iload hx hb dX9_ghostPlaces_27 (lv_at hl 0 rfl) ?_
          refine lv_iconst (v := 4) hx hb dX9_ghostPlaces_29 (by decide) ?_
          refine lv_icmp_ge (tgt := 77) hx hb dX9_ghostPlaces_30 (by decide) (fun c30 => ?_) (fun c30 => ?_)
          · skip
            have d30 := c30
            rw [fa_le] at d30
            obtain rfl : i = 4 := by omega
            refine lv_iload hx hb dX9_ghostPlaces_77 (lv_at hl 2 rfl) ?_
            refine lv_if_le (tgt := 95) hx hb dX9_ghostPlaces_79 (by decide) (fun c79 => ?_) (fun c79 => ?_)
            · skip
              have d79 := c79
              rw [fa_le] at d79
              refine lv_iconst (v := 0) hx hb dX9_ghostPlaces_95 (by decide) ?_
              refine W.widen (k := 4) (n := 502) (Nat.le_of_ble_eq_true rfl) (Nat.le_of_ble_eq_true rfl) ?_
              exact W.iret (v := (0 : Int32)) hx hb hr (fun t ht hW => ⟨⟨_, (G10, w10), rfl, ⟨hX, (by rw [gA_yes (by omega), gP_zero (by omega)]; rfl)⟩, by show va_P D vwCl w10 t.heap; rw [ht]; exact hP, hD, hT⟩, hS.F ht⟩) hS.2.2 dX9_ghostPlaces_96
            · skip
              have d79 := c79
              rw [fa_le] at d79
              refine lv_iload hx hb dX9_ghostPlaces_82 (lv_at hl 1 rfl) ?_
              refine lv_if_le (tgt := 95) hx hb dX9_ghostPlaces_84 (by decide) (fun c84 => ?_) (fun c84 => ?_)
              · skip
                have d84 := c84
                rw [fa_le] at d84
                refine lv_iconst (v := 0) hx hb dX9_ghostPlaces_95 (by decide) ?_
                refine W.widen (k := 4) (n := 502) (Nat.le_of_ble_eq_true rfl) (Nat.le_of_ble_eq_true rfl) ?_
                exact W.iret (v := (0 : Int32)) hx hb hr (fun t ht hW => ⟨⟨_, (G10, w10), rfl, ⟨hX, (by rw [gA_yes (by omega), gP_zero (by omega)]; rfl)⟩, by show va_P D vwCl w10 t.heap; rw [ht]; exact hP, hD, hT⟩, hS.F ht⟩) hS.2.2 dX9_ghostPlaces_96
              · skip
                have d84 := c84
                rw [fa_le] at d84
                refine lv_iload hx hb dX9_ghostPlaces_87 (lv_at hl 2 rfl) ?_
                refine lv_iload hx hb dX9_ghostPlaces_89 (lv_at hl 1 rfl) ?_
                have m91 := mul66 (w := x4) (h := x5) (by omega) (by omega)
                refine lv_imul hx hb dX9_ghostPlaces_91 ?_
                refine lv_topi (fun v91 e91 => ?_)
                have i91 : v91.toInt = x4.toInt * x5.toInt := by rw [e91]; exact fb_mulI (by omega) (by omega)
                refine lv_goto (tgt := 96) hx hb dX9_ghostPlaces_92 (by decide) ?_
                refine W.widen (k := 4) (n := 502) (Nat.le_of_ble_eq_true rfl) (Nat.le_of_ble_eq_true rfl) ?_
                exact W.iret (v := v91) hx hb hr (fun t ht hW => ⟨⟨_, (G10, w10), rfl, ⟨hX, (by rw [gA_yes (by omega), gP_pos j27_1 j27_2 (by omega) (by omega)]; exact i91)⟩, by show va_P D vwCl w10 t.heap; rw [ht]; exact hP, hD, hT⟩, hS.F ht⟩) hS.2.2 dX9_ghostPlaces_96
          · skip
            have d30 := c30
            rw [fa_le] at d30
            refine lv_iload_n hx hb dX9_ghostPlaces_33 rfl (lv_at hl 4 rfl) ?_
            refine lv_iload hx hb dX9_ghostPlaces_34 (lv_at hl 0 rfl) ?_
            refine lv_ishr hx hb dX9_ghostPlaces_36 ?_
            refine lv_topi (fun v36 e36 => ?_)
            refine lv_iconst (v := 1) hx hb dX9_ghostPlaces_37 (by decide) ?_
            refine lv_iand hx hb dX9_ghostPlaces_38 ?_
            refine lv_topi (fun v38 e38 => ?_)
            refine lv_iconst (v := 1) hx hb dX9_ghostPlaces_39 (by decide) ?_
            have hB : gB set i = v38 := by rw [e38, e36]; rfl
            refine lv_icmp_ne (tgt := 71) hx hb dX9_ghostPlaces_40 (by decide) (fun c40 => ?_) (fun c40 => ?_)
            · skip
              have d40 := c40
              rw [fa_eq] at d40
              first | have hx1 := gX_0 (set := set) (k := i) (fun z => c40 (hB.symm.trans z)) | skip
              first | have hy1 := gY_0 (set := set) (k := i) (fun z => c40 (hB.symm.trans z)) | skip
              refine lv_iinc (v := (nI (i + 1))) (lv' := [(6, .int (nI (i + 1))), (5, .int x5), (4, .int x4), (0, .ref o), (1, .int set), (2, .int wide), (3, .int high)]) hx hb dX9_ghostPlaces_71 hl (k := 0) rfl (nI_1 _) (by decide) rfl (fun ls hl => ?_)
              refine lv_goto (tgt := 27) hx hb dX9_ghostPlaces_74 (by decide) ?_
              exact ih_27 (i + 1) x5 x4 (by omega) (by omega) (by omega) (by omega) _ _ hP hS  ls (lv_sub hl [0, 1, 2, 3, 4, 5, 6] rfl)
            · skip
              have d40 := c40
              rw [fa_eq] at d40
              have hx1 := gX_1 (hB.trans c40)
              have hy1 := gY_1 (hB.trans c40)
              have dxb := gdx_b i
              have dyb := gdy_b i
              refine lv_iload hx hb dX9_ghostPlaces_43 (lv_at hl 2 rfl) ?_
              refine va_gets hx hb zX1 hS hown (hts (.fieldLink RX9 309 "ShadowBench$Board" "STEP_X" "[I") (by decide +kernel)) (fun _ h9 => h9) dX9_ghostPlaces_45 ?_
              refine lv_iload hx hb dX9_ghostPlaces_48 (lv_at hl 0 rfl) ?_
              refine va_ti hx hb zX2 hS (i := (nI i)) (vp_in_iff.mpr ⟨by omega, by omega⟩) (v := .int (xX (nI i).toNatClampNeg)) rfl dX9_ghostPlaces_50 ?_
              refine lv_topi (fun v50 e50 => ?_)
              refine va_mabs hx hb (by rw [hml]; exact hl.1.symm) hown (hts (.methodLink RX9 316 Lib.Math.abs.name) (by decide +kernel)) (hts (.static Lib.Math.abs.name) (by decide +kernel)) (hts (.initialized "java/lang/Math") (by decide +kernel)) (hts (.code Lib.Math.abs.name Lib.Math.abs.code 1 (some .int)) (by decide +kernel)) (Nat.le_of_ble_eq_true rfl) (Nat.le_of_ble_eq_true rfl) (Nat.le_of_ble_eq_true rfl) (Nat.le_of_ble_eq_true rfl) dX9_ghostPlaces_51 ?_
              refine lv_topi (fun v51 e51 => ?_)
              have a51 := g_ax (by omega) zX5 e50 e51
              refine lv_isub hx hb dX9_ghostPlaces_54 ?_
              refine lv_topi (fun v54 e54 => ?_)
              have i54 : v54.toInt = x4.toInt - v51.toInt := by rw [e54]; exact fb_subI (by omega) (by omega)
              refine lv_istore (lv' := [(4, .int v54), (6, .int (nI i)), (5, .int x5), (0, .ref o), (1, .int set), (2, .int wide), (3, .int high)]) hx hb dX9_ghostPlaces_55 hl (by decide) rfl (fun ls hl => ?_)
              refine lv_iload hx hb dX9_ghostPlaces_57 (lv_at hl 2 rfl) ?_
              refine va_gets hx hb zY1 hS hown (hts (.fieldLink RX9 313 "ShadowBench$Board" "STEP_Y" "[I") (by decide +kernel)) (fun _ h9 => h9) dX9_ghostPlaces_59 ?_
              refine lv_iload hx hb dX9_ghostPlaces_62 (lv_at hl 1 rfl) ?_
              refine va_ti hx hb zY2 hS (i := (nI i)) (vp_in_iff.mpr ⟨by omega, by omega⟩) (v := .int (xY (nI i).toNatClampNeg)) rfl dX9_ghostPlaces_64 ?_
              refine lv_topi (fun v64 e64 => ?_)
              refine va_mabs hx hb (by rw [hml]; exact hl.1.symm) hown (hts (.methodLink RX9 316 Lib.Math.abs.name) (by decide +kernel)) (hts (.static Lib.Math.abs.name) (by decide +kernel)) (hts (.initialized "java/lang/Math") (by decide +kernel)) (hts (.code Lib.Math.abs.name Lib.Math.abs.code 1 (some .int)) (by decide +kernel)) (Nat.le_of_ble_eq_true rfl) (Nat.le_of_ble_eq_true rfl) (Nat.le_of_ble_eq_true rfl) (Nat.le_of_ble_eq_true rfl) dX9_ghostPlaces_65 ?_
              refine lv_topi (fun v65 e65 => ?_)
              have a65 := g_ay (by omega) zY5 e64 e65
              refine lv_isub hx hb dX9_ghostPlaces_68 ?_
              refine lv_topi (fun v68 e68 => ?_)
              have i68 : v68.toInt = x5.toInt - v65.toInt := by rw [e68]; exact fb_subI (by omega) (by omega)
              refine lv_istore (lv' := [(5, .int v68), (4, .int v54), (6, .int (nI i)), (0, .ref o), (1, .int set), (2, .int wide), (3, .int high)]) hx hb dX9_ghostPlaces_69 hl (by decide) rfl (fun ls hl => ?_)
              first | have hx1 := gX_0 (set := set) (k := i) (fun z => c40 (hB.symm.trans z)) | skip
              first | have hy1 := gY_0 (set := set) (k := i) (fun z => c40 (hB.symm.trans z)) | skip
              refine lv_iinc (v := (nI (i + 1))) (lv' := [(6, .int (nI (i + 1))), (5, .int v68), (4, .int v54), (0, .ref o), (1, .int set), (2, .int wide), (3, .int high)]) hx hb dX9_ghostPlaces_71 hl (k := 2) rfl (nI_1 _) (by decide) rfl (fun ls hl => ?_)
              refine lv_goto (tgt := 27) hx hb dX9_ghostPlaces_74 (by decide) ?_
              exact ih_27 (i + 1) v68 v54 (by omega) (by omega) (by omega) (by omega) _ _ hP hS  ls (lv_sub hl [0, 1, 2, 3, 4, 5, 6] rfl)
      exact loop_27 (4 + 1) 0 high wide (by omega) (by simp [gX]) (by simp [gY]) (by omega) _ _ hP hS  ls (lv_sub hl [0, 1, 2, 3, 4, 5, 6] rfl)
set_option maxHeartbeats 4000000 in
set_option maxRecDepth 100000 in
theorem c_X9_haunts_x (l : Launch) (D : va_G) (cy : Nat → ClassId) (A : Nat → Prop) (G : cG) (ws : va_W) (o : Nat) (set : Int32) (wide : Int32) (high : Int32)  (hD : va_D A ws) (hT : cT cy G ws) (hG_o : G o = some (7, 0, 0))  : Ei l D cy A yX9_haunts wsX9_haunts ({ frames := 6, cells := 4, slots := 502, locals := 142 }) 4 502 ws [.ref o, .int set, .int wide, .int high] (fun r0 u => cX none (chs [1, 8]) G ws u.1 u.2 ∧ (r0.toInt = gH set wide high)) := by
  refine Met.ofW (cc := cX9_haunts) (maxL := 5) (ret := (some .int)) (by decide) rfl ?_
  intro p e s m args below meth c s₁ B hml hv
  obtain ⟨rfl, ⟨hP, hK, hA, hV⟩, hZ⟩ := hv
  obtain ⟨tX, tY, xX, xY, ⟨zX1, zX2, zX5⟩, ⟨zY1, zY2, zY5⟩⟩ := id hZ
  have hx := B.exec
  have hb := B.bytes
  have hr := B.returns
  have hts := atoms_spec (ws := wsX9_haunts) B.pre
  have hown : s.vm.findClass RX9 = some m.cls := findClass_of_methodNamed B.named
  have hlocks := B.notSynchronized
  have hS : va_S A s.heap s.heap [] := va_S.rf
  have hX : cX none (chs [1, 8]) G ws G ws := cX.rf
  have hl := lv_entry ([.ref o, .int set, .int wide, .int high]) (n := 5) (Nat.le_of_ble_eq_true rfl)
  rw [lg_entry_eq]
  generalize (lg_sl ([.ref o, .int set, .int wide, .int high]) ++ List.replicate (5 - (lg_sl ([.ref o, .int set, .int wide, .int high])).length) Slot.unset).toArray = ls at hl ⊢
  have hl : lv_has ls 5 [(0, .ref o), (1, .int set), (2, .int wide), (3, .int high)] := hl
  have k_0 : (0 : Int32).toInt = 0 := by decide
  have k_1 : (1 : Int32).toInt = 1 := by decide
  refine lv_aload_n hx hb dX9_haunts_0 rfl (lv_at hl 0 rfl) ?_
  refine lv_iload_n hx hb dX9_haunts_1 rfl (lv_at hl 1 rfl) ?_
  refine lv_iload_n hx hb dX9_haunts_2 rfl (lv_at hl 2 rfl) ?_
  refine lv_iload_n hx hb dX9_haunts_3 rfl (lv_at hl 3 rfl) ?_
  obtain ⟨_, hM_o, bs_o, js_o, sh_o, wk_o, ll_o, jc_o, lc_o, mo_o, lb_o, rfl, hjc_o, hlc_o, hG_bs_o, hG_js_o, hG_sh_o, hG_wk_o, hmo_o, hG_ll_o, hlb_o⟩ := hT _ _ hG_o
  refine t_calli (va_runV (g := F0 m 4 ls ([.int high, .int wide, .int set, .ref o])) (As := [.int set, .int wide, .int high]) (rest := []) ⟨hx, hb, hml, hown, hts⟩ (c_X9_ghostPlaces_x l D cy A G ws o set wide high hD hT hG_o ) (cwV 3 hts gX9_haunts_X9_ghostPlaces rfl rfl rfl (by decide +kernel) ⟨Nat.le_of_ble_eq_true rfl, Nat.le_of_ble_eq_true rfl⟩) (e_preV hM_o rfl hP hK hA hS hV hZ) rfl rfl hl.1 rfl (lv_room (Nat.le_of_ble_eq_true rfl)) dX9_haunts_4 ⟨Nat.le_of_ble_eq_true rfl, Nat.le_of_ble_eq_true rfl⟩) hS (fun r4 u H locs q4 hP9 hD9 hT9 hS => ?_)
  obtain ⟨G4, w4⟩ := u
  obtain ⟨hX9, q4⟩ := q4
  have hX9 : cX none (chs [1, 8]) G ws G4 w4 := hX9
  have hP : va_P D vwCl w4 H := hP9
  have hD : va_D A w4 := hD9
  have hT : cT cy G4 w4 := hT9
  have hM_o := hX9.2.1 _ _ (cP.no hG_o rfl) hM_o
  have hG_o := hX9.1 _ _ hG_o
  have hG_bs_o := hX9.1 _ _ hG_bs_o
  have hG_js_o := hX9.1 _ _ hG_js_o
  have hG_sh_o := hX9.1 _ _ hG_sh_o
  have hG_wk_o := hX9.1 _ _ hG_wk_o
  have hG_ll_o := hX9.1 _ _ hG_ll_o
  have hX := hX.tr hX9
  refine lv_istore (lv' := [(4, .int r4), (0, .ref o), (1, .int set), (2, .int wide), (3, .int high)]) hx hb dX9_haunts_7 hl (by decide) rfl (fun ls hl => ?_)
  refine lv_iload hx hb dX9_haunts_9 (lv_at hl 0 rfl) ?_
  refine lv_if_le (tgt := 18) hx hb dX9_haunts_11 (by decide) (fun c11 => ?_) (fun c11 => ?_)
  · skip
    have d11 := c11
    rw [fa_le] at d11
    refine lv_iload hx hb dX9_haunts_18 (lv_at hl 0 rfl) ?_
    refine W.widen (k := 4) (n := 502) (Nat.le_of_ble_eq_true rfl) (Nat.le_of_ble_eq_true rfl) ?_
    exact W.iret (v := r4) hx hb hr (fun t ht hW => ⟨⟨_, (G4, w4), rfl, ⟨hX, (by unfold gH; rw [if_neg (by omega)]; exact q4)⟩, by show va_P D vwCl w4 t.heap; rw [ht]; exact hP, hD, hT⟩, hS.F ht⟩) hS.2.2 dX9_haunts_20
  · skip
    have d11 := c11
    rw [fa_le] at d11
    refine lv_iconst (v := 1) hx hb dX9_haunts_14 (by decide) ?_
    refine lv_goto (tgt := 20) hx hb dX9_haunts_15 (by decide) ?_
    refine W.widen (k := 4) (n := 502) (Nat.le_of_ble_eq_true rfl) (Nat.le_of_ble_eq_true rfl) ?_
    exact W.iret (v := (1 : Int32)) hx hb hr (fun t ht hW => ⟨⟨_, (G4, w4), rfl, ⟨hX, (by unfold gH; rw [if_pos (by omega)]; rfl)⟩, by show va_P D vwCl w4 t.heap; rw [ht]; exact hP, hD, hT⟩, hS.F ht⟩) hS.2.2 dX9_haunts_20
set_option maxHeartbeats 4000000 in
set_option maxRecDepth 100000 in
theorem c_X9_ghosts_x (l : Launch) (D : va_G) (cy : Nat → ClassId) (A : Nat → Prop) (G : cG) (ws : va_W) (o : Nat) (set : Int32) (wide : Int32) (high : Int32)  (hD : va_D A ws) (hT : cT cy G ws) (hG_o : G o = some (7, 0, 0))  : Ei l D cy A yX9_ghosts wsX9_ghosts ({ frames := 6, cells := 4, slots := 502, locals := 142 }) 4 502 ws [.ref o, .int set, .int wide, .int high] (fun r0 u => cX none (chs [1, 8]) G ws u.1 u.2 ∧ (r0.toInt = gA set wide high)) := by
  refine Met.ofW (cc := cX9_ghosts) (maxL := 4) (ret := (some .int)) (by decide) rfl ?_
  intro p e s m args below meth c s₁ B hml hv
  obtain ⟨rfl, ⟨hP, hK, hA, hV⟩, hZ⟩ := hv
  obtain ⟨tX, tY, xX, xY, ⟨zX1, zX2, zX5⟩, ⟨zY1, zY2, zY5⟩⟩ := id hZ
  have hx := B.exec
  have hb := B.bytes
  have hr := B.returns
  have hts := atoms_spec (ws := wsX9_ghosts) B.pre
  have hown : s.vm.findClass RX9 = some m.cls := findClass_of_methodNamed B.named
  have hlocks := B.notSynchronized
  have hS : va_S A s.heap s.heap [] := va_S.rf
  have hX : cX none (chs [1, 8]) G ws G ws := cX.rf
  have hl := lv_entry ([.ref o, .int set, .int wide, .int high]) (n := 4) (Nat.le_of_ble_eq_true rfl)
  rw [lg_entry_eq]
  generalize (lg_sl ([.ref o, .int set, .int wide, .int high]) ++ List.replicate (4 - (lg_sl ([.ref o, .int set, .int wide, .int high])).length) Slot.unset).toArray = ls at hl ⊢
  have hl : lv_has ls 4 [(0, .ref o), (1, .int set), (2, .int wide), (3, .int high)] := hl
  have k_0 : (0 : Int32).toInt = 0 := by decide
  refine lv_aload_n hx hb dX9_ghosts_0 rfl (lv_at hl 0 rfl) ?_
  refine lv_iload_n hx hb dX9_ghosts_1 rfl (lv_at hl 1 rfl) ?_
  refine lv_iload_n hx hb dX9_ghosts_2 rfl (lv_at hl 2 rfl) ?_
  refine lv_iload_n hx hb dX9_ghosts_3 rfl (lv_at hl 3 rfl) ?_
  obtain ⟨_, hM_o, bs_o, js_o, sh_o, wk_o, ll_o, jc_o, lc_o, mo_o, lb_o, rfl, hjc_o, hlc_o, hG_bs_o, hG_js_o, hG_sh_o, hG_wk_o, hmo_o, hG_ll_o, hlb_o⟩ := hT _ _ hG_o
  refine t_calli (va_runV (g := F0 m 4 ls ([.int high, .int wide, .int set, .ref o])) (As := [.int set, .int wide, .int high]) (rest := []) ⟨hx, hb, hml, hown, hts⟩ (c_X9_ghostPlaces_x l D cy A G ws o set wide high hD hT hG_o ) (cwV 3 hts gX9_ghosts_X9_ghostPlaces rfl rfl rfl (by decide +kernel) ⟨Nat.le_of_ble_eq_true rfl, Nat.le_of_ble_eq_true rfl⟩) (e_preV hM_o rfl hP hK hA hS hV hZ) rfl rfl hl.1 rfl (lv_room (Nat.le_of_ble_eq_true rfl)) dX9_ghosts_4 ⟨Nat.le_of_ble_eq_true rfl, Nat.le_of_ble_eq_true rfl⟩) hS (fun r4 u H locs q4 hP9 hD9 hT9 hS => ?_)
  obtain ⟨G4, w4⟩ := u
  obtain ⟨hX9, q4⟩ := q4
  have hX9 : cX none (chs [1, 8]) G ws G4 w4 := hX9
  have hP : va_P D vwCl w4 H := hP9
  have hD : va_D A w4 := hD9
  have hT : cT cy G4 w4 := hT9
  have hM_o := hX9.2.1 _ _ (cP.no hG_o rfl) hM_o
  have hG_o := hX9.1 _ _ hG_o
  have hG_bs_o := hX9.1 _ _ hG_bs_o
  have hG_js_o := hX9.1 _ _ hG_js_o
  have hG_sh_o := hX9.1 _ _ hG_sh_o
  have hG_wk_o := hX9.1 _ _ hG_wk_o
  have hG_ll_o := hX9.1 _ _ hG_ll_o
  have hX := hX.tr hX9
  refine W.widen (k := 4) (n := 502) (Nat.le_of_ble_eq_true rfl) (Nat.le_of_ble_eq_true rfl) ?_
  exact W.iret (v := r4) hx hb hr (fun t ht hW => ⟨⟨_, (G4, w4), rfl, ⟨hX, q4⟩, by show va_P D vwCl w4 t.heap; rw [ht]; exact hP, hD, hT⟩, hS.F ht⟩) hS.2.2 dX9_ghosts_7
set_option maxHeartbeats 4000000 in
set_option maxRecDepth 100000 in
theorem c_X10_across_x (l : Launch) (way : Int32)  : Pu l yX10_across wsX10_across ({ frames := 0, cells := 0, slots := 0, locals := 0 }) [.int way] (fun r => r.toInt = (if way.toInt = 1 then 0 else 1)) := by
  refine Met.ofW (cc := cX10_across) (maxL := 1) (ret := (some .int)) (by decide) rfl ?_
  intro p e s m args below meth c s₁ B hml hv
  obtain ⟨rfl, -⟩ := hv
  have hx := B.exec
  have hb := B.bytes
  have hr := B.returns
  have hts := atoms_spec (ws := wsX10_across) B.pre
  have hown : s.vm.findClass RX10 = some m.cls := findClass_of_methodNamed B.named
  have hlocks := B.notSynchronized
  have hS : va_S (fun _ => False) s.heap s.heap [] := va_S.rf
  have hl := lv_entry ([.int way]) (n := 1) (Nat.le_of_ble_eq_true rfl)
  rw [lg_entry_eq]
  generalize (lg_sl ([.int way]) ++ List.replicate (1 - (lg_sl ([.int way])).length) Slot.unset).toArray = ls at hl ⊢
  have hl : lv_has ls 1 [(0, .int way)] := hl
  have hS0 := hS
  have k_0 : (0 : Int32).toInt = 0 := by decide
  have k_1 : (1 : Int32).toInt = 1 := by decide
  refine lv_iload_n hx hb dX10_across_0 rfl (lv_at hl 0 rfl) ?_
  refine lv_iconst (v := 1) hx hb dX10_across_1 (by decide) ?_
  refine lv_icmp_ne (tgt := 9) hx hb dX10_across_2 (by decide) (fun c2 => ?_) (fun c2 => ?_)
  · skip
    have d2 := c2
    rw [fa_eq] at d2
    refine lv_iconst (v := 1) hx hb dX10_across_9 (by decide) ?_
    exact W.iret (v := (1 : Int32)) hx hb hr (fun t ht hW => ⟨⟨_, (), rfl, (by first | (rw [if_pos (by omega)]; rfl) | (rw [if_neg (by omega)]; rfl)), trivial⟩, hS.F ht⟩) hS.2.2 dX10_across_10
  · skip
    have d2 := c2
    rw [fa_eq] at d2
    refine lv_iconst (v := 0) hx hb dX10_across_5 (by decide) ?_
    refine lv_goto (tgt := 10) hx hb dX10_across_6 (by decide) ?_
    exact W.iret (v := (0 : Int32)) hx hb hr (fun t ht hW => ⟨⟨_, (), rfl, (by first | (rw [if_pos (by omega)]; rfl) | (rw [if_neg (by omega)]; rfl)), trivial⟩, hS.F ht⟩) hS.2.2 dX10_across_10

set_option maxHeartbeats 4000000 in
set_option maxRecDepth 100000 in
theorem c_X10_placesOf_x (l : Launch) (D : va_G) (cy : Nat → ClassId) (mo : Nat) (a : Nat → Nat) (f : Nat → Int32) (g : Nat → Int64) (r : Nat → Nat → Int32) (q : Nat → Nat → Int64) (ways : Int32) (w : Int32) (h : Int32) (hD : DM cy mo a) (hw : 1 ≤ w.toInt ∧ w.toInt ≤ 6) (hh : 1 ≤ h.toInt ∧ h.toInt ≤ 6) : Mi l D cy mo a yX10_placesOf wsX10_placesOf ({ frames := 1, cells := 0, slots := 0, locals := 20 }) f g r q [.int ways, .int w, .int h] (fun r0 u => u = (f, g, r, q) ∧ (r0.toInt = gP ways w h)) := by
  refine Met.ofW (cc := cX10_placesOf) (maxL := 8) (ret := (some .int)) (by decide) rfl ?_
  intro p e s m args below meth c s₁ B hml hv
  obtain ⟨rfl, hP, hK⟩ := hv
  have hx := B.exec
  have hb := B.bytes
  have hr := B.returns
  have hts := atoms_spec (ws := wsX10_placesOf) B.pre
  skip
  have hown : s.vm.findClass RX10 = some m.cls := findClass_of_methodNamed B.named
  have hlocks := B.notSynchronized
  have hS : va_S (AM mo a) s.heap s.heap [] := va_S.rf
  have hl := lv_entry ([.ref mo, .int ways, .int w, .int h]) (n := 8) (Nat.le_of_ble_eq_true rfl)
  rw [lg_entry_eq]
  generalize (lg_sl ([.ref mo, .int ways, .int w, .int h]) ++ List.replicate (8 - (lg_sl ([.ref mo, .int ways, .int w, .int h])).length) Slot.unset).toArray = ls at hl ⊢
  have hl : lv_has ls 8 [(0, .ref mo), (1, .int ways), (2, .int w), (3, .int h)] := hl
  have k_0 : (0 : Int32).toInt = 0 := by decide
  have k_1 : (1 : Int32).toInt = 1 := by decide
  have k_4 : (4 : Int32).toInt = 4 := by decide
  refine lv_iconst (v := 1) hx hb dX10_placesOf_0 (by decide) ?_
  refine lv_istore (lv' := [(4, .int (1 : Int32)), (0, .ref mo), (1, .int ways), (2, .int w), (3, .int h)]) hx hb dX10_placesOf_1 hl (by decide) rfl (fun ls hl => ?_)
  refine lv_iconst (v := 1) hx hb dX10_placesOf_3 (by decide) ?_
  refine lv_istore (lv' := [(5, .int (1 : Int32)), (4, .int (1 : Int32)), (0, .ref mo), (1, .int ways), (2, .int w), (3, .int h)]) hx hb dX10_placesOf_4 hl (by decide) rfl (fun ls hl => ?_)
  refine lv_iconst (v := 0) hx hb dX10_placesOf_6 (by decide) ?_
  refine lv_istore (lv' := [(6, .int (0 : Int32)), (5, .int (1 : Int32)), (4, .int (1 : Int32)), (0, .ref mo), (1, .int ways), (2, .int w), (3, .int h)]) hx hb dX10_placesOf_7 hl (by decide) rfl (fun ls hl => ?_)
  have loop_9 : ∀ (n : Nat) (k : Nat) (x5 : Int32) (x4 : Int32), (k ≤ 4) → (x4.toInt = 1 + gX ways k) → (x5.toInt = 1 + gY ways k) → 4 - k < n → ∀ (H : Heap) (locs : List Loc), va_P D vwCl (WM cy mo a f g r q) H → va_S (AM mo a) s.heap H locs → ∀ (ls : Array Slot), lv_has ls 8 [(6, .int (nI k)), (5, .int x5), (4, .int x4), (0, .ref mo), (1, .int ways), (2, .int w), (3, .int h)] → W p l e (headSpec wsX10_placesOf ({ frames := 1, cells := 0, slots := 0, locals := 20 })).room s m #[Value.ref mo, Value.int ways, Value.int w, Value.int h] below meth c H locs 0 0 (MQ below (va_Qi (fun r0 u => u = (f, g, r, q) ∧ (r0.toInt = gP ways w h)) (mB D cy mo a) (AM mo a)) #[Value.ref mo, Value.int ways, Value.int w, Value.int h] s 0 0 (AM mo a)) (F0 m 9 ls []) := by
    intro n
    induction n with
    | zero => intro k x5 x4  j9_0 j9_1 j9_2 hn; exact absurd hn (Nat.not_lt_zero _)
    | succ n ih_9 =>
      intro k x5 x4  j9_0 j9_1 j9_2 hn_9 H locs hP hS ls hl
      have ik : (nI k).toInt = (k : Int) := nI_toInt (by omega)
      have bx := gX_b ways k
      have by9 := gY_b ways k
      refine lv_iload hx hb dX10_placesOf_9 (lv_at hl 0 rfl) ?_
      refine lv_iconst (v := 4) hx hb dX10_placesOf_11 (by decide) ?_
      refine lv_icmp_ge (tgt := 77) hx hb dX10_placesOf_12 (by decide) (fun c12 => ?_) (fun c12 => ?_)
      · skip
        have d12 := c12
        rw [fa_le] at d12
        obtain rfl : k = 4 := by omega
        refine lv_iload_n hx hb dX10_placesOf_77 rfl (lv_at hl 5 rfl) ?_
        refine lv_iload hx hb dX10_placesOf_78 (lv_at hl 2 rfl) ?_
        refine lv_icmp_lt (tgt := 89) hx hb dX10_placesOf_80 (by decide) (fun c80 => ?_) (fun c80 => ?_)
        · skip
          have d80 := c80
          rw [fa_lt] at d80
          refine lv_iconst (v := 0) hx hb dX10_placesOf_89 (by decide) ?_
          refine lv_goto (tgt := 106) hx hb dX10_placesOf_90 (by decide) ?_
          exact W.iret (v := (0 : Int32)) hx hb hr (fun t ht hW => ⟨⟨_, (f, g, r, q), rfl, ⟨rfl, (by rw [gP_zero (by omega)]; rfl)⟩, by unfold mB; rw [ht]; exact hP⟩, hS.F ht⟩) hS.2.2 dX10_placesOf_106
        · skip
          have d80 := c80
          rw [fa_lt] at d80
          refine lv_iload_n hx hb dX10_placesOf_83 rfl (lv_at hl 6 rfl) ?_
          refine lv_iload hx hb dX10_placesOf_84 (lv_at hl 1 rfl) ?_
          refine lv_icmp_ge (tgt := 93) hx hb dX10_placesOf_86 (by decide) (fun c86 => ?_) (fun c86 => ?_)
          · skip
            have d86 := c86
            rw [fa_le] at d86
            refine lv_iload_n hx hb dX10_placesOf_93 rfl (lv_at hl 5 rfl) ?_
            refine lv_iload hx hb dX10_placesOf_94 (lv_at hl 2 rfl) ?_
            refine lv_isub hx hb dX10_placesOf_96 ?_
            refine lv_topi (fun v96 e96 => ?_)
            have i96 : v96.toInt = w.toInt - x4.toInt := by rw [e96]; exact fb_subI (by omega) (by omega)
            refine lv_iconst (v := 1) hx hb dX10_placesOf_97 (by decide) ?_
            refine lv_iadd hx hb dX10_placesOf_98 ?_
            refine lv_topi (fun v98 e98 => ?_)
            have i98 : v98.toInt = v96.toInt + (1 : Int32).toInt := by rw [e98]; exact fb_addI (by omega) (by omega)
            refine lv_iload_n hx hb dX10_placesOf_99 rfl (lv_at hl 6 rfl) ?_
            refine lv_iload hx hb dX10_placesOf_100 (lv_at hl 1 rfl) ?_
            refine lv_isub hx hb dX10_placesOf_102 ?_
            refine lv_topi (fun v102 e102 => ?_)
            have i102 : v102.toInt = h.toInt - x5.toInt := by rw [e102]; exact fb_subI (by omega) (by omega)
            refine lv_iconst (v := 1) hx hb dX10_placesOf_103 (by decide) ?_
            refine lv_iadd hx hb dX10_placesOf_104 ?_
            refine lv_topi (fun v104 e104 => ?_)
            have i104 : v104.toInt = v102.toInt + (1 : Int32).toInt := by rw [e104]; exact fb_addI (by omega) (by omega)
            have m105 := mul66 (w := v98) (h := v104) (by omega) (by omega)
            refine lv_imul hx hb dX10_placesOf_105 ?_
            refine lv_topi (fun v105 e105 => ?_)
            have i105 : v105.toInt = v98.toInt * v104.toInt := by rw [e105]; exact fb_mulI (by omega) (by omega)
            exact W.iret (v := v105) hx hb hr (fun t ht hW => ⟨⟨_, (f, g, r, q), rfl, ⟨rfl, (by rw [gP_pos (x := v98.toInt) (y := v104.toInt) (by omega) (by omega) (by omega) (by omega)]; exact i105)⟩, by unfold mB; rw [ht]; exact hP⟩, hS.F ht⟩) hS.2.2 dX10_placesOf_106
          · skip
            have d86 := c86
            rw [fa_le] at d86
            refine lv_iconst (v := 0) hx hb dX10_placesOf_89 (by decide) ?_
            refine lv_goto (tgt := 106) hx hb dX10_placesOf_90 (by decide) ?_
            exact W.iret (v := (0 : Int32)) hx hb hr (fun t ht hW => ⟨⟨_, (f, g, r, q), rfl, ⟨rfl, (by rw [gP_zero (by omega)]; rfl)⟩, by unfold mB; rw [ht]; exact hP⟩, hS.F ht⟩) hS.2.2 dX10_placesOf_106
      · skip
        have d12 := c12
        rw [fa_le] at d12
        refine lv_iload_n hx hb dX10_placesOf_15 rfl (lv_at hl 4 rfl) ?_
        refine lv_iload hx hb dX10_placesOf_16 (lv_at hl 0 rfl) ?_
        refine lv_ishr hx hb dX10_placesOf_18 ?_
        refine lv_topi (fun v18 e18 => ?_)
        refine lv_iconst (v := 1) hx hb dX10_placesOf_19 (by decide) ?_
        refine lv_iand hx hb dX10_placesOf_20 ?_
        refine lv_topi (fun v20 e20 => ?_)
        refine lv_iconst (v := 1) hx hb dX10_placesOf_21 (by decide) ?_
        have hB : gB ways k = v20 := by rw [e20, e18]; rfl
        refine lv_icmp_ne (tgt := 29) hx hb dX10_placesOf_22 (by decide) (fun c22 => ?_) (fun c22 => ?_)
        · skip
          have d22 := c22
          rw [fa_eq] at d22
          have hx1 := gX_0 (set := ways) (k := k) (fun z => c22 (hB.symm.trans z))
          have hy1 := gY_0 (set := ways) (k := k) (fun z => c22 (hB.symm.trans z))
          refine lv_iconst (v := 0) hx hb dX10_placesOf_29 (by decide) ?_
          refine lv_istore (lv' := [(7, .int (0 : Int32)), (6, .int (nI k)), (5, .int x5), (4, .int x4), (0, .ref mo), (1, .int ways), (2, .int w), (3, .int h)]) hx hb dX10_placesOf_30 hl (by decide) rfl (fun ls hl => ?_)
          refine lv_iload hx hb dX10_placesOf_32 (lv_at hl 3 rfl) ?_
          refine lv_iload hx hb dX10_placesOf_34 (lv_at hl 0 rfl) ?_
          refine lv_if_eq (tgt := 47) hx hb dX10_placesOf_36 (by decide) (fun c36 => ?_) (fun c36 => ?_)
          · skip
            have d36 := c36
            rw [fa_eq] at d36
            refine lv_iconst (v := 0) hx hb dX10_placesOf_47 (by decide) ?_
            refine lv_iadd hx hb dX10_placesOf_48 ?_
            refine lv_topi (fun v48 e48 => ?_)
            have i48 : v48.toInt = x4.toInt + (0 : Int32).toInt := by rw [e48]; exact fb_addI (by omega) (by omega)
            refine lv_istore (lv' := [(4, .int v48), (7, .int (0 : Int32)), (6, .int (nI k)), (5, .int x5), (0, .ref mo), (1, .int ways), (2, .int w), (3, .int h)]) hx hb dX10_placesOf_49 hl (by decide) rfl (fun ls hl => ?_)
            refine lv_iload hx hb dX10_placesOf_51 (lv_at hl 3 rfl) ?_
            refine lv_iload hx hb dX10_placesOf_53 (lv_at hl 1 rfl) ?_
            refine lv_if_eq (tgt := 67) hx hb dX10_placesOf_55 (by decide) (fun c55 => ?_) (fun c55 => ?_)
            · skip
              have d55 := c55
              rw [fa_eq] at d55
              first | have a67 : gdy k = 0 := (by unfold gdy; rw [if_pos (by omega)]) | skip
              refine lv_iconst (v := 0) hx hb dX10_placesOf_67 (by decide) ?_
              refine lv_iadd hx hb dX10_placesOf_68 ?_
              refine lv_topi (fun v68 e68 => ?_)
              have i68 : v68.toInt = x5.toInt + (0 : Int32).toInt := by rw [e68]; exact fb_addI (by omega) (by omega)
              refine lv_istore (lv' := [(5, .int v68), (4, .int v48), (7, .int (0 : Int32)), (6, .int (nI k)), (0, .ref mo), (1, .int ways), (2, .int w), (3, .int h)]) hx hb dX10_placesOf_69 hl (by decide) rfl (fun ls hl => ?_)
              refine lv_iinc (v := (nI (k + 1))) (lv' := [(6, .int (nI (k + 1))), (5, .int v68), (4, .int v48), (7, .int (0 : Int32)), (0, .ref mo), (1, .int ways), (2, .int w), (3, .int h)]) hx hb dX10_placesOf_71 hl (k := 3) rfl (nI_1 _) (by decide) rfl (fun ls hl => ?_)
              refine lv_goto (tgt := 9) hx hb dX10_placesOf_74 (by decide) ?_
              exact ih_9 (k + 1) v68 v48 (by omega) (by omega) (by omega) (by omega) _ _ hP hS ls (lv_sub hl [0, 1, 2, 4, 5, 6, 7] rfl)
            · first | exact absurd c55 (by decide) | exact absurd (by decide) c55
          · first | exact absurd c36 (by decide) | exact absurd (by decide) c36
        · skip
          have d22 := c22
          rw [fa_eq] at d22
          have hx1 := gX_1 (hB.trans c22)
          have hy1 := gY_1 (hB.trans c22)
          have dxb := gdx_b k
          have dyb := gdy_b k
          refine lv_iconst (v := 1) hx hb dX10_placesOf_25 (by decide) ?_
          refine lv_goto (tgt := 30) hx hb dX10_placesOf_26 (by decide) ?_
          refine lv_istore (lv' := [(7, .int (1 : Int32)), (6, .int (nI k)), (5, .int x5), (4, .int x4), (0, .ref mo), (1, .int ways), (2, .int w), (3, .int h)]) hx hb dX10_placesOf_30 hl (by decide) rfl (fun ls hl => ?_)
          refine lv_iload hx hb dX10_placesOf_32 (lv_at hl 3 rfl) ?_
          refine lv_iload hx hb dX10_placesOf_34 (lv_at hl 0 rfl) ?_
          refine lv_if_eq (tgt := 47) hx hb dX10_placesOf_36 (by decide) (fun c36 => ?_) (fun c36 => ?_)
          · first | exact absurd c36 (by decide) | exact absurd (by decide) c36
          · skip
            have d36 := c36
            rw [fa_eq] at d36
            refine lv_iload hx hb dX10_placesOf_39 (lv_at hl 1 rfl) ?_
            refine m_pu (As := [.int (nI k)]) (rest := [.int x4]) ⟨hx, hb, hml, hown, hts⟩ (c_X10_across_x l (nI k) ) (va_cwS 1 hts gX10_placesOf_X10_across rfl rfl rfl (by decide +kernel) ⟨Nat.le_of_ble_eq_true rfl, Nat.le_of_ble_eq_true rfl⟩) hP rfl hl.1 rfl (Nat.le_of_ble_eq_true rfl) dX10_placesOf_41 ⟨Nat.le_of_ble_eq_true rfl, Nat.le_of_ble_eq_true rfl⟩ hS (fun r41 H locs q41 hP hS => ?_)
            have a41 : r41.toInt = gdx k := by rw [q41, ik]; unfold gdx; split <;> split <;> omega
            refine lv_goto (tgt := 48) hx hb dX10_placesOf_44 (by decide) ?_
            refine lv_iadd hx hb dX10_placesOf_48 ?_
            refine lv_topi (fun v48 e48 => ?_)
            have i48 : v48.toInt = x4.toInt + r41.toInt := by rw [e48]; exact fb_addI (by omega) (by omega)
            refine lv_istore (lv' := [(4, .int v48), (7, .int (1 : Int32)), (6, .int (nI k)), (5, .int x5), (0, .ref mo), (1, .int ways), (2, .int w), (3, .int h)]) hx hb dX10_placesOf_49 hl (by decide) rfl (fun ls hl => ?_)
            refine lv_iload hx hb dX10_placesOf_51 (lv_at hl 3 rfl) ?_
            refine lv_iload hx hb dX10_placesOf_53 (lv_at hl 1 rfl) ?_
            refine lv_if_eq (tgt := 67) hx hb dX10_placesOf_55 (by decide) (fun c55 => ?_) (fun c55 => ?_)
            · first | exact absurd c55 (by decide) | exact absurd (by decide) c55
            · skip
              have d55 := c55
              rw [fa_eq] at d55
              refine lv_iload hx hb dX10_placesOf_58 (lv_at hl 2 rfl) ?_
              refine lv_if_le (tgt := 67) hx hb dX10_placesOf_60 (by decide) (fun c60 => ?_) (fun c60 => ?_)
              · skip
                have d60 := c60
                rw [fa_le] at d60
                first | have a67 : gdy k = 0 := (by unfold gdy; rw [if_pos (by omega)]) | skip
                refine lv_iconst (v := 0) hx hb dX10_placesOf_67 (by decide) ?_
                refine lv_iadd hx hb dX10_placesOf_68 ?_
                refine lv_topi (fun v68 e68 => ?_)
                have i68 : v68.toInt = x5.toInt + (0 : Int32).toInt := by rw [e68]; exact fb_addI (by omega) (by omega)
                refine lv_istore (lv' := [(5, .int v68), (4, .int v48), (7, .int (1 : Int32)), (6, .int (nI k)), (0, .ref mo), (1, .int ways), (2, .int w), (3, .int h)]) hx hb dX10_placesOf_69 hl (by decide) rfl (fun ls hl => ?_)
                refine lv_iinc (v := (nI (k + 1))) (lv' := [(6, .int (nI (k + 1))), (5, .int v68), (4, .int v48), (7, .int (1 : Int32)), (0, .ref mo), (1, .int ways), (2, .int w), (3, .int h)]) hx hb dX10_placesOf_71 hl (k := 3) rfl (nI_1 _) (by decide) rfl (fun ls hl => ?_)
                refine lv_goto (tgt := 9) hx hb dX10_placesOf_74 (by decide) ?_
                exact ih_9 (k + 1) v68 v48 (by omega) (by omega) (by omega) (by omega) _ _ hP hS ls (lv_sub hl [0, 1, 2, 4, 5, 6, 7] rfl)
              · skip
                have d60 := c60
                rw [fa_le] at d60
                have a63 : gdy k = 1 := by unfold gdy; rw [if_neg (by omega)]
                refine lv_iconst (v := 1) hx hb dX10_placesOf_63 (by decide) ?_
                refine lv_goto (tgt := 68) hx hb dX10_placesOf_64 (by decide) ?_
                refine lv_iadd hx hb dX10_placesOf_68 ?_
                refine lv_topi (fun v68 e68 => ?_)
                have i68 : v68.toInt = x5.toInt + (1 : Int32).toInt := by rw [e68]; exact fb_addI (by omega) (by omega)
                refine lv_istore (lv' := [(5, .int v68), (4, .int v48), (7, .int (1 : Int32)), (6, .int (nI k)), (0, .ref mo), (1, .int ways), (2, .int w), (3, .int h)]) hx hb dX10_placesOf_69 hl (by decide) rfl (fun ls hl => ?_)
                refine lv_iinc (v := (nI (k + 1))) (lv' := [(6, .int (nI (k + 1))), (5, .int v68), (4, .int v48), (7, .int (1 : Int32)), (0, .ref mo), (1, .int ways), (2, .int w), (3, .int h)]) hx hb dX10_placesOf_71 hl (k := 3) rfl (nI_1 _) (by decide) rfl (fun ls hl => ?_)
                refine lv_goto (tgt := 9) hx hb dX10_placesOf_74 (by decide) ?_
                exact ih_9 (k + 1) v68 v48 (by omega) (by omega) (by omega) (by omega) _ _ hP hS ls (lv_sub hl [0, 1, 2, 4, 5, 6, 7] rfl)
  exact loop_9 (4 + 1) 0 (1 : Int32) (1 : Int32) (by omega) (by simp [gX]) (by simp [gY]) (by omega) _ _ hP hS ls (lv_sub hl [0, 1, 2, 3, 4, 5, 6] rfl)
set_option maxHeartbeats 4000000 in
set_option maxRecDepth 100000 in
theorem c_X10_haunts_x (l : Launch) (D : va_G) (cy : Nat → ClassId) (mo : Nat) (a : Nat → Nat) (f : Nat → Int32) (g : Nat → Int64) (r : Nat → Nat → Int32) (q : Nat → Nat → Int64) (ways : Int32) (w : Int32) (h : Int32) (hD : DM cy mo a)  : Mi l D cy mo a yX10_haunts wsX10_haunts ({ frames := 2, cells := 0, slots := 0, locals := 47 }) f g r q [.int ways, .int w, .int h] (fun r0 u => u = ((upd f 0 (0 : Int32)), g, r, q) ∧ (r0.toInt = gH ways w h)) := by
  refine Met.ofW (cc := cX10_haunts) (maxL := 4) (ret := (some .int)) (by decide) rfl ?_
  intro p e s m args below meth c s₁ B hml hv
  obtain ⟨rfl, hP, hK⟩ := hv
  have hx := B.exec
  have hb := B.bytes
  have hr := B.returns
  have hts := atoms_spec (ws := wsX10_haunts) B.pre
  have hin : ∀ w ∈ u_ws RX10 TX10 35, w ∈ wsX10_haunts := by decide +kernel
  have hown : s.vm.findClass RX10 = some m.cls := findClass_of_methodNamed B.named
  have hlocks := B.notSynchronized
  have hS : va_S (AM mo a) s.heap s.heap [] := va_S.rf
  have hl := lv_entry ([.ref mo, .int ways, .int w, .int h]) (n := 4) (Nat.le_of_ble_eq_true rfl)
  rw [lg_entry_eq]
  generalize (lg_sl ([.ref mo, .int ways, .int w, .int h]) ++ List.replicate (4 - (lg_sl ([.ref mo, .int ways, .int w, .int h])).length) Slot.unset).toArray = ls at hl ⊢
  have hl : lv_has ls 4 [(0, .ref mo), (1, .int ways), (2, .int w), (3, .int h)] := hl
  have k_m1 : (-1 : Int32).toInt = -1 := by decide
  have k_0 : (0 : Int32).toInt = 0 := by decide
  have k_1 : (1 : Int32).toInt = 1 := by decide
  have k_1L : (1 : Int64).toInt = 1 := by decide
  have k_15L : (15 : Int64).toInt = 15 := by decide
  refine lv_aload_n hx hb dX10_haunts_0 rfl (lv_at hl 0 rfl) ?_
  refine lv_iconst (v := 0) hx hb dX10_haunts_1 (by decide) ?_
  refine m_put (v := .int (0 : Int32)) (ty := .int) hx hb hts hin hown hK hP hD hS 0 (by decide) rfl (hts (.fieldLink RX10 79 "ShadowBenchModel" "thrown" "I") (by decide +kernel)) rfl (by decide +kernel) rfl rfl (upd f 0 (0 : Int32)) g rfl dX10_haunts_2 (fun H locs hP hS => ?_)
  refine lv_iload_n hx hb dX10_haunts_5 rfl (lv_at hl 1 rfl) ?_
  refine lv_i2l (v := ways.toInt64) hx hb dX10_haunts_6 rfl ?_
  refine lv_lconst (v := 1) hx hb dX10_haunts_7 (by decide) ?_
  refine lv_ldc2 hx hb hown (hts (.constantLong RX10 228 (15)) (by decide +kernel)) dX10_haunts_8 ?_
  refine m_pu (As := [.long (ways.toInt64), .long (1 : Int64), .long (15 : Int64)]) (rest := []) ⟨hx, hb, hml, hown, hts⟩ (c_X10_isIn l ways.toInt64 (1 : Int64) (15 : Int64) ) (va_cwS 3 hts gX10_haunts_X10_isIn rfl rfl rfl (by decide +kernel) ⟨Nat.le_of_ble_eq_true rfl, Nat.le_of_ble_eq_true rfl⟩) hP rfl hl.1 rfl (Nat.le_of_ble_eq_true rfl) dX10_haunts_11 ⟨Nat.le_of_ble_eq_true rfl, Nat.le_of_ble_eq_true rfl⟩ hS (fun r11 H locs q11 hP hS => ?_)
  have q11 := q11
  simp only [k64, show (0 : Int64).toInt = 0 from rfl, show (1 : Int64).toInt = 1 from rfl, show (2 : Int64).toInt = 2 from rfl, show (3 : Int64).toInt = 3 from rfl, show (6 : Int64).toInt = 6 from rfl] at q11
  refine lv_if_eq (tgt := 25) hx hb dX10_haunts_14 (by decide) (fun c14 => ?_) (fun c14 => ?_)
  · skip
    have b14 := bo_f q11 c14
    refine lv_iconst (v := (-1)) hx hb dX10_haunts_25 (by decide) ?_
    refine lv_goto (tgt := 44) hx hb dX10_haunts_26 (by decide) ?_
    exact W.iret (v := ((-1) : Int32)) hx hb hr (fun t ht hW => ⟨⟨_, ((upd f 0 (0 : Int32)), g, r, q), rfl, ⟨rfl, (by unfold gH; rw [gA_no (by omega)]; rfl)⟩, by unfold mB; rw [ht]; exact hP⟩, hS.F ht⟩) hS.2.2 dX10_haunts_44
  · skip
    have b14 := bo_t q11 c14
    refine lv_iload_n hx hb dX10_haunts_17 rfl (lv_at hl 2 rfl) ?_
    refine lv_iload_n hx hb dX10_haunts_18 rfl (lv_at hl 3 rfl) ?_
    refine m_pu (As := [.int w, .int h]) (rest := []) ⟨hx, hb, hml, hown, hts⟩ (c_X10_isBoard l w h ) (va_cwS 2 hts gX10_haunts_X10_isBoard rfl rfl rfl (by decide +kernel) ⟨Nat.le_of_ble_eq_true rfl, Nat.le_of_ble_eq_true rfl⟩) hP rfl hl.1 rfl (Nat.le_of_ble_eq_true rfl) dX10_haunts_19 ⟨Nat.le_of_ble_eq_true rfl, Nat.le_of_ble_eq_true rfl⟩ hS (fun r19 H locs q19 hP hS => ?_)
    refine lv_if_ne (tgt := 29) hx hb dX10_haunts_22 (by decide) (fun c22 => ?_) (fun c22 => ?_)
    · skip
      have b22 := bo_t q19 c22
      refine lv_aload_n hx hb dX10_haunts_29 rfl (lv_at hl 0 rfl) ?_
      refine lv_iload_n hx hb dX10_haunts_30 rfl (lv_at hl 1 rfl) ?_
      refine lv_iload_n hx hb dX10_haunts_31 rfl (lv_at hl 2 rfl) ?_
      refine lv_iload_n hx hb dX10_haunts_32 rfl (lv_at hl 3 rfl) ?_
      refine m_calli (As := [.int ways, .int w, .int h]) (rest := []) ⟨hx, hb, hml, hown, hts⟩ (c_X10_placesOf_x l D cy mo a (upd f 0 (0 : Int32)) g r q ways w h hD b22.1 b22.2) (cwV 3 hts gX10_haunts_X10_placesOf rfl rfl rfl (by decide +kernel) ⟨Nat.le_of_ble_eq_true rfl, Nat.le_of_ble_eq_true rfl⟩) hK hP rfl hl.1 rfl (Nat.le_of_ble_eq_true rfl) dX10_haunts_33 ⟨Nat.le_of_ble_eq_true rfl, Nat.le_of_ble_eq_true rfl⟩ hS (fun r33 u H locs q33 hP hS => ?_)
      obtain ⟨rfl, q33⟩ := q33
      have hP : va_P D vwCl (WM cy mo a (upd f 0 (0 : Int32)) g r q) H := hP
      have q33 : r33.toInt = gP ways w h := q33
      refine lv_if_le (tgt := 43) hx hb dX10_haunts_36 (by decide) (fun c36 => ?_) (fun c36 => ?_)
      · skip
        have d36 := c36
        rw [fa_le] at d36
        refine lv_iconst (v := 0) hx hb dX10_haunts_43 (by decide) ?_
        exact W.iret (v := (0 : Int32)) hx hb hr (fun t ht hW => ⟨⟨_, ((upd f 0 (0 : Int32)), g, r, q), rfl, ⟨rfl, (by have z9 := gP_b (set := ways) b22.1 b22.2; unfold gH; rw [gA_yes ⟨by omega, b22.1, b22.2⟩, if_neg (by omega)]; show (0 : Int) = _; omega)⟩, by unfold mB; rw [ht]; exact hP⟩, hS.F ht⟩) hS.2.2 dX10_haunts_44
      · skip
        have d36 := c36
        rw [fa_le] at d36
        refine lv_iconst (v := 1) hx hb dX10_haunts_39 (by decide) ?_
        refine lv_goto (tgt := 44) hx hb dX10_haunts_40 (by decide) ?_
        exact W.iret (v := (1 : Int32)) hx hb hr (fun t ht hW => ⟨⟨_, ((upd f 0 (0 : Int32)), g, r, q), rfl, ⟨rfl, (by unfold gH; rw [gA_yes ⟨by omega, b22.1, b22.2⟩, if_pos (by omega)]; rfl)⟩, by unfold mB; rw [ht]; exact hP⟩, hS.F ht⟩) hS.2.2 dX10_haunts_44
    · skip
      have b22 := bo_f q19 c22
      refine lv_iconst (v := (-1)) hx hb dX10_haunts_25 (by decide) ?_
      refine lv_goto (tgt := 44) hx hb dX10_haunts_26 (by decide) ?_
      exact W.iret (v := ((-1) : Int32)) hx hb hr (fun t ht hW => ⟨⟨_, ((upd f 0 (0 : Int32)), g, r, q), rfl, ⟨rfl, (by unfold gH; rw [gA_no (by omega)]; rfl)⟩, by unfold mB; rw [ht]; exact hP⟩, hS.F ht⟩) hS.2.2 dX10_haunts_44
set_option maxHeartbeats 4000000 in
set_option maxRecDepth 100000 in
theorem c_X10_ghosts_x (l : Launch) (D : va_G) (cy : Nat → ClassId) (mo : Nat) (a : Nat → Nat) (f : Nat → Int32) (g : Nat → Int64) (r : Nat → Nat → Int32) (q : Nat → Nat → Int64) (ways : Int32) (w : Int32) (h : Int32) (hD : DM cy mo a)  : Mi l D cy mo a yX10_ghosts wsX10_ghosts ({ frames := 2, cells := 0, slots := 0, locals := 47 }) f g r q [.int ways, .int w, .int h] (fun r0 u => u = ((upd f 0 (0 : Int32)), g, r, q) ∧ (r0.toInt = gA ways w h)) := by
  refine Met.ofW (cc := cX10_ghosts) (maxL := 4) (ret := (some .int)) (by decide) rfl ?_
  intro p e s m args below meth c s₁ B hml hv
  obtain ⟨rfl, hP, hK⟩ := hv
  have hx := B.exec
  have hb := B.bytes
  have hr := B.returns
  have hts := atoms_spec (ws := wsX10_ghosts) B.pre
  have hin : ∀ w ∈ u_ws RX10 TX10 35, w ∈ wsX10_ghosts := by decide +kernel
  have hown : s.vm.findClass RX10 = some m.cls := findClass_of_methodNamed B.named
  have hlocks := B.notSynchronized
  have hS : va_S (AM mo a) s.heap s.heap [] := va_S.rf
  have hl := lv_entry ([.ref mo, .int ways, .int w, .int h]) (n := 4) (Nat.le_of_ble_eq_true rfl)
  rw [lg_entry_eq]
  generalize (lg_sl ([.ref mo, .int ways, .int w, .int h]) ++ List.replicate (4 - (lg_sl ([.ref mo, .int ways, .int w, .int h])).length) Slot.unset).toArray = ls at hl ⊢
  have hl : lv_has ls 4 [(0, .ref mo), (1, .int ways), (2, .int w), (3, .int h)] := hl
  have k_m1 : (-1 : Int32).toInt = -1 := by decide
  have k_0 : (0 : Int32).toInt = 0 := by decide
  have k_1L : (1 : Int64).toInt = 1 := by decide
  have k_15L : (15 : Int64).toInt = 15 := by decide
  refine lv_aload_n hx hb dX10_ghosts_0 rfl (lv_at hl 0 rfl) ?_
  refine lv_iconst (v := 0) hx hb dX10_ghosts_1 (by decide) ?_
  refine m_put (v := .int (0 : Int32)) (ty := .int) hx hb hts hin hown hK hP hD hS 0 (by decide) rfl (hts (.fieldLink RX10 79 "ShadowBenchModel" "thrown" "I") (by decide +kernel)) rfl (by decide +kernel) rfl rfl (upd f 0 (0 : Int32)) g rfl dX10_ghosts_2 (fun H locs hP hS => ?_)
  refine lv_iload_n hx hb dX10_ghosts_5 rfl (lv_at hl 1 rfl) ?_
  refine lv_i2l (v := ways.toInt64) hx hb dX10_ghosts_6 rfl ?_
  refine lv_lconst (v := 1) hx hb dX10_ghosts_7 (by decide) ?_
  refine lv_ldc2 hx hb hown (hts (.constantLong RX10 228 (15)) (by decide +kernel)) dX10_ghosts_8 ?_
  refine m_pu (As := [.long (ways.toInt64), .long (1 : Int64), .long (15 : Int64)]) (rest := []) ⟨hx, hb, hml, hown, hts⟩ (c_X10_isIn l ways.toInt64 (1 : Int64) (15 : Int64) ) (va_cwS 3 hts gX10_ghosts_X10_isIn rfl rfl rfl (by decide +kernel) ⟨Nat.le_of_ble_eq_true rfl, Nat.le_of_ble_eq_true rfl⟩) hP rfl hl.1 rfl (Nat.le_of_ble_eq_true rfl) dX10_ghosts_11 ⟨Nat.le_of_ble_eq_true rfl, Nat.le_of_ble_eq_true rfl⟩ hS (fun r11 H locs q11 hP hS => ?_)
  have q11 := q11
  simp only [k64, show (0 : Int64).toInt = 0 from rfl, show (1 : Int64).toInt = 1 from rfl, show (2 : Int64).toInt = 2 from rfl, show (3 : Int64).toInt = 3 from rfl, show (6 : Int64).toInt = 6 from rfl] at q11
  refine lv_if_eq (tgt := 25) hx hb dX10_ghosts_14 (by decide) (fun c14 => ?_) (fun c14 => ?_)
  · skip
    have b14 := bo_f q11 c14
    refine lv_iconst (v := (-1)) hx hb dX10_ghosts_25 (by decide) ?_
    refine lv_goto (tgt := 36) hx hb dX10_ghosts_26 (by decide) ?_
    exact W.iret (v := ((-1) : Int32)) hx hb hr (fun t ht hW => ⟨⟨_, ((upd f 0 (0 : Int32)), g, r, q), rfl, ⟨rfl, (by rw [gA_no (by omega)]; rfl)⟩, by unfold mB; rw [ht]; exact hP⟩, hS.F ht⟩) hS.2.2 dX10_ghosts_36
  · skip
    have b14 := bo_t q11 c14
    refine lv_iload_n hx hb dX10_ghosts_17 rfl (lv_at hl 2 rfl) ?_
    refine lv_iload_n hx hb dX10_ghosts_18 rfl (lv_at hl 3 rfl) ?_
    refine m_pu (As := [.int w, .int h]) (rest := []) ⟨hx, hb, hml, hown, hts⟩ (c_X10_isBoard l w h ) (va_cwS 2 hts gX10_ghosts_X10_isBoard rfl rfl rfl (by decide +kernel) ⟨Nat.le_of_ble_eq_true rfl, Nat.le_of_ble_eq_true rfl⟩) hP rfl hl.1 rfl (Nat.le_of_ble_eq_true rfl) dX10_ghosts_19 ⟨Nat.le_of_ble_eq_true rfl, Nat.le_of_ble_eq_true rfl⟩ hS (fun r19 H locs q19 hP hS => ?_)
    refine lv_if_ne (tgt := 29) hx hb dX10_ghosts_22 (by decide) (fun c22 => ?_) (fun c22 => ?_)
    · skip
      have b22 := bo_t q19 c22
      refine lv_aload_n hx hb dX10_ghosts_29 rfl (lv_at hl 0 rfl) ?_
      refine lv_iload_n hx hb dX10_ghosts_30 rfl (lv_at hl 1 rfl) ?_
      refine lv_iload_n hx hb dX10_ghosts_31 rfl (lv_at hl 2 rfl) ?_
      refine lv_iload_n hx hb dX10_ghosts_32 rfl (lv_at hl 3 rfl) ?_
      refine m_calli (As := [.int ways, .int w, .int h]) (rest := []) ⟨hx, hb, hml, hown, hts⟩ (c_X10_placesOf_x l D cy mo a (upd f 0 (0 : Int32)) g r q ways w h hD b22.1 b22.2) (cwV 3 hts gX10_ghosts_X10_placesOf rfl rfl rfl (by decide +kernel) ⟨Nat.le_of_ble_eq_true rfl, Nat.le_of_ble_eq_true rfl⟩) hK hP rfl hl.1 rfl (Nat.le_of_ble_eq_true rfl) dX10_ghosts_33 ⟨Nat.le_of_ble_eq_true rfl, Nat.le_of_ble_eq_true rfl⟩ hS (fun r33 u H locs q33 hP hS => ?_)
      obtain ⟨rfl, q33⟩ := q33
      have hP : va_P D vwCl (WM cy mo a (upd f 0 (0 : Int32)) g r q) H := hP
      have q33 : r33.toInt = gP ways w h := q33
      exact W.iret (v := r33) hx hb hr (fun t ht hW => ⟨⟨_, ((upd f 0 (0 : Int32)), g, r, q), rfl, ⟨rfl, (by rw [gA_yes ⟨by omega, b22.1, b22.2⟩]; exact q33)⟩, by unfold mB; rw [ht]; exact hP⟩, hS.F ht⟩) hS.2.2 dX10_ghosts_36
    · skip
      have b22 := bo_f q19 c22
      refine lv_iconst (v := (-1)) hx hb dX10_ghosts_25 (by decide) ?_
      refine lv_goto (tgt := 36) hx hb dX10_ghosts_26 (by decide) ?_
      exact W.iret (v := ((-1) : Int32)) hx hb hr (fun t ht hW => ⟨⟨_, ((upd f 0 (0 : Int32)), g, r, q), rfl, ⟨rfl, (by rw [gA_no (by omega)]; rfl)⟩, by unfold mB; rw [ht]; exact hP⟩, hS.F ht⟩) hS.2.2 dX10_ghosts_36
