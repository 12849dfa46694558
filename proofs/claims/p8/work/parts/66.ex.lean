/-! arrays of references whose content is told -/
section CAR
variable {p : Program} {l : Launch} {e : Env} {R : Room} {s : State} {m : MethodId} {args : Array Value} {below : List Frame} {meth : Method} {c : Code} {H : Heap} {locs : List Loc} {cells slots : Nat} {Q : State → Prop}
variable {cc : ByteArray} {pc : Nat} {ls : Array Slot} {rest : List Value} {D : va_G} {cy : Nat → ClassId} {A : Nat → Prop} {ws : va_W} {G : cG} {H0 : Heap}
theorem t_aald8f (hx : p.tables.exec = Jvm.exec) (hb : c.code = cc) (hK : va_K D vwCl (cTy cy) s) (hP : va_P D vwCl ws H) {a n : Nat} {f : Nat → Option Nat} (hM : cIn ws a (.inl (cy 3, cqa n f))) (hf : ∀ i x, i < n → f i = some x → G x = some (2, i % 6 + 1, i / 6 + 1)) {i : Int32} (hin : vp_in i n) (hdg : decode cc pc = .ok (.aaload, 1))
    (kn : f i.toNatClampNeg = none → W p l e R s m args below meth c H locs cells slots Q (F0 m (pc + 1) ls (.null :: rest)))
    (ks : ∀ x, G x = some (2, i.toNatClampNeg % 6 + 1, i.toNatClampNeg / 6 + 1) → f i.toNatClampNeg = some x → W p l e R s m args below meth c H locs cells slots Q (F0 m (pc + 1) ls (.ref x :: rest))) : W p l e R s m args below meth c H locs cells slots Q (F0 m pc ls (.int i :: .ref a :: rest)) := by
  obtain ⟨q0, hq⟩ := hM
  have hlt : i.toNatClampNeg < n := Nat.not_le.mp fun q => hin (Or.inr q)
  refine va_aldq hx hb hK hP q0 3 hq rfl hin hdg ?_
  cases hv : f i.toNatClampNeg with
  | none => exact kn hv
  | some x => exact ks x (hf _ x hlt hv) hv
theorem t_aast8f (hx : p.tables.exec = Jvm.exec) (hb : c.code = cc) (hK : va_K D vwCl (cTy cy) s) (hP : va_P D vwCl ws H) (hD : va_D A ws) (hS : va_S A H0 H locs) (hT : cT cy G ws) {a n z v : Nat} (hg : G a = some (8, n, z)) {f : Nat → Option Nat} (hM : cIn ws a (.inl (cy 3, cqa n f))) (hf : ∀ i x, i < n → f i = some x → G x = some (2, i % 6 + 1, i / 6 + 1)) {i : Int32} (hv : G v = some (2, i.toNatClampNeg % 6 + 1, i.toNatClampNeg / 6 + 1)) (hin : vp_in i n) (hdg : decode cc pc = .ok (.aastore, 1))
    (kk : ∀ (H1 : Heap) (locs1 : List Loc) (ws1 : va_W), cF (fun b => b = a) ws ws1 → cIn ws1 a (.inl (cy 3, cqa n (va_up f i.toNatClampNeg (some v)))) → (∀ j x, j < n → va_up f i.toNatClampNeg (some v) j = some x → G x = some (2, j % 6 + 1, j / 6 + 1)) → va_P D vwCl ws1 H1 → va_D A ws1 → cT cy G ws1 → va_S A H0 H1 locs1 → W p l e R s m args below meth c H1 locs1 cells slots Q (F0 m (pc + 1) ls rest)) : W p l e R s m args below meth c H locs cells slots Q (F0 m pc ls (.ref v :: .int i :: .ref a :: rest)) := by
  obtain ⟨q0, hq⟩ := hM
  obtain ⟨_, ⟨qk, hqk⟩, hb0, b1, b2, b3, rfl, -⟩ := hT _ _ hv
  have hf1 : ∀ j x, j < n → va_up f i.toNatClampNeg (some v) j = some x → G x = some (2, j % 6 + 1, j / 6 + 1) := fun j x hj hx => c_upf (P := fun i x => G x = some (2, i % 6 + 1, i / 6 + 1)) hf hv hj hx
  exact va_astq (r := (RX0, TX0, 8)) hx hb hK hP hD hS q0 3 qk 0 hq rfl hqk rfl hin hdg (fun H1 locs1 k1 k2 k3 => kk H1 locs1 _ (cF.up (cUp.set hq) rfl) (cUp.set hq).1 hf1 k1 k2 (hT.up (cUp.set hq) hg ⟨_, rfl, hf1⟩) k3)
end CAR

def gB (set : Int32) (k : Nat) : Int32 := (set >>> (nI k &&& 31)) &&& 1
def gdx (k : Nat) : Int := if k = 1 then 0 else 1
def gdy (k : Nat) : Int := if k = 0 then 0 else 1
def gX (set : Int32) : Nat → Int
  | 0 => 0
  | k + 1 => if gB set k = 1 then gX set k + gdx k else gX set k
def gY (set : Int32) : Nat → Int
  | 0 => 0
  | k + 1 => if gB set k = 1 then gY set k + gdy k else gY set k
theorem gdx_b (k : Nat) : 0 ≤ gdx k ∧ gdx k ≤ 1 := by unfold gdx; split <;> omega
theorem gdy_b (k : Nat) : 0 ≤ gdy k ∧ gdy k ≤ 1 := by unfold gdy; split <;> omega
theorem gX_b (set : Int32) (k : Nat) : 0 ≤ gX set k ∧ gX set k ≤ k := by
  induction k with
  | zero => simp [gX]
  | succ k ih => have := gdx_b k; simp only [gX]; split <;> omega
theorem gY_b (set : Int32) (k : Nat) : 0 ≤ gY set k ∧ gY set k ≤ k := by
  induction k with
  | zero => simp [gY]
  | succ k ih => have := gdy_b k; simp only [gY]; split <;> omega
theorem gX_1 {set : Int32} {k : Nat} (h : gB set k = 1) : gX set (k + 1) = gX set k + gdx k := by simp only [gX]; rw [if_pos h]
theorem gX_0 {set : Int32} {k : Nat} (h : ¬ gB set k = 1) : gX set (k + 1) = gX set k := by simp only [gX]; rw [if_neg h]
theorem gY_1 {set : Int32} {k : Nat} (h : gB set k = 1) : gY set (k + 1) = gY set k + gdy k := by simp only [gY]; rw [if_pos h]
theorem gY_0 {set : Int32} {k : Nat} (h : ¬ gB set k = 1) : gY set (k + 1) = gY set k := by simp only [gY]; rw [if_neg h]
theorem g_ax {x : Nat → Int32} {i : Nat} {v w : Int32} (hi : i < 4) (hx : x 0 = 1 ∧ x 1 = 0 ∧ x 2 = 1 ∧ x 3 = 1) (e1 : v = x (nI i).toNatClampNeg) (e2 : w = if 0 ≤ v then v else 0 - v) : w.toInt = gdx i := by
  rw [nI_clamp (by omega)] at e1
  obtain ⟨h0, h1, h2, h3⟩ := hx
  have h : i = 0 ∨ i = 1 ∨ i = 2 ∨ i = 3 := by omega
  rcases h with rfl | rfl | rfl | rfl
  · rw [h0] at e1; subst e1; subst e2; decide
  · rw [h1] at e1; subst e1; subst e2; decide
  · rw [h2] at e1; subst e1; subst e2; decide
  · rw [h3] at e1; subst e1; subst e2; decide
theorem g_ay {x : Nat → Int32} {i : Nat} {v w : Int32} (hi : i < 4) (hx : x 0 = 0 ∧ x 1 = 1 ∧ x 2 = 1 ∧ x 3 = -1) (e1 : v = x (nI i).toNatClampNeg) (e2 : w = if 0 ≤ v then v else 0 - v) : w.toInt = gdy i := by
  rw [nI_clamp (by omega)] at e1
  obtain ⟨h0, h1, h2, h3⟩ := hx
  have h : i = 0 ∨ i = 1 ∨ i = 2 ∨ i = 3 := by omega
  rcases h with rfl | rfl | rfl | rfl
  · rw [h0] at e1; subst e1; subst e2; decide
  · rw [h1] at e1; subst e1; subst e2; decide
  · rw [h2] at e1; subst e1; subst e2; decide
  · rw [h3] at e1; subst e1; subst e2; decide
def gP (set w h : Int32) : Int := if gX set 4 < w.toInt ∧ gY set 4 < h.toInt then (w.toInt - gX set 4) * (h.toInt - gY set 4) else 0
def gA (set w h : Int32) : Int := if (1 ≤ set.toInt ∧ set.toInt ≤ 15) ∧ (1 ≤ w.toInt ∧ w.toInt ≤ 6) ∧ (1 ≤ h.toInt ∧ h.toInt ≤ 6) then gP set w h else -1
def gH (set w h : Int32) : Int := if 0 < gA set w h then 1 else gA set w h
theorem gA_no {set w h : Int32} (hn : ¬ ((1 ≤ set.toInt ∧ set.toInt ≤ 15) ∧ (1 ≤ w.toInt ∧ w.toInt ≤ 6) ∧ (1 ≤ h.toInt ∧ h.toInt ≤ 6))) : gA set w h = -1 := by unfold gA; rw [if_neg hn]
theorem gA_yes {set w h : Int32} (hn : (1 ≤ set.toInt ∧ set.toInt ≤ 15) ∧ (1 ≤ w.toInt ∧ w.toInt ≤ 6) ∧ (1 ≤ h.toInt ∧ h.toInt ≤ 6)) : gA set w h = gP set w h := by unfold gA; rw [if_pos hn]
theorem gP_pos {set w h : Int32} {x y : Int} (ex : x = w.toInt - gX set 4) (ey : y = h.toInt - gY set 4) (px : 0 < x) (py : 0 < y) : gP set w h = x * y := by unfold gP; rw [if_pos (by omega), ex, ey]
theorem gP_zero {set w h : Int32} (hn : ¬ (gX set 4 < w.toInt ∧ gY set 4 < h.toInt)) : gP set w h = 0 := by unfold gP; rw [if_neg hn]
theorem gP_b {set w h : Int32} (hw : 1 ≤ w.toInt ∧ w.toInt ≤ 6) (hh : 1 ≤ h.toInt ∧ h.toInt ≤ 6) : 0 ≤ gP set w h := by
  unfold gP
  split
  · exact Int.mul_nonneg (by omega) (by omega)
  · omega
set_option maxHeartbeats 4000000 in
set_option maxRecDepth 100000 in
theorem c_X9_boardOf_x (l : Launch) (D : va_G) (cy : Nat → ClassId) (A : Nat → Prop) (G : cG) (ws : va_W) (o : Nat) (wide : Int32) (high : Int32)  (hD : va_D A ws) (hT : cT cy G ws) (hG_o : G o = some (7, 0, 0))  : Ca l D cy A yX9_boardOf wsX9_boardOf ({ frames := 4, cells := 4, slots := 502, locals := 93 }) 4 502 ws [.ref o, .int wide, .int high] (fun r0 u => cX none (chs [1, 8]) G ws u.1 u.2 ∧ ((∀ x, r0 = some x → u.1 x = some (2, wide.toNatClampNeg, high.toNatClampNeg)) ∧ (r0 = none → ¬ ((1 ≤ wide.toInt ∧ wide.toInt ≤ 6) ∧ (1 ≤ high.toInt ∧ high.toInt ≤ 6))) ∧ ∀ x, r0 = some x → ((1 ≤ wide.toInt ∧ wide.toInt ≤ 6) ∧ (1 ≤ high.toInt ∧ high.toInt ≤ 6)))) := by
  refine Met.ofW (cc := cX9_boardOf) (maxL := 4) (ret := (some (.object "ShadowBench$Board"))) (by decide) rfl ?_
  intro p e s m args below meth c s₁ B hml hv
  obtain ⟨rfl, hP, hK, hA, hV⟩ := hv
  have hx := B.exec
  have hb := B.bytes
  have hr := B.returns
  have hts := atoms_spec (ws := wsX9_boardOf) B.pre
  have hown : s.vm.findClass RX9 = some m.cls := findClass_of_methodNamed B.named
  have hlocks := B.notSynchronized
  have hS : va_S A s.heap s.heap [] := va_S.rf
  have hX : cX none (chs [1, 8]) G ws G ws := cX.rf
  have hl := lv_entry ([.ref o, .int wide, .int high]) (n := 4) (Nat.le_of_ble_eq_true rfl)
  rw [lg_entry_eq]
  generalize (lg_sl ([.ref o, .int wide, .int high]) ++ List.replicate (4 - (lg_sl ([.ref o, .int wide, .int high])).length) Slot.unset).toArray = ls at hl ⊢
  have hl : lv_has ls 4 [(0, .ref o), (1, .int wide), (2, .int high)] := hl
  have k_0 : (0 : Int32).toInt = 0 := by decide
  have k_1 : (1 : Int32).toInt = 1 := by decide
  have k_6 : (6 : Int32).toInt = 6 := by decide
  refine lv_iload_n hx hb dX9_boardOf_0 rfl (lv_at hl 1 rfl) ?_
  refine lv_iconst (v := 1) hx hb dX9_boardOf_1 (by decide) ?_
  refine lv_icmp_lt (tgt := 22) hx hb dX9_boardOf_2 (by decide) (fun c2 => ?_) (fun c2 => ?_)
  · skip
    have d2 := c2
    rw [fa_lt] at d2
    refine lv_null hx hb dX9_boardOf_22 ?_
    refine W.widen (k := 4) (n := 502) (Nat.le_of_ble_eq_true rfl) (Nat.le_of_ble_eq_true rfl) ?_
    exact W.aret (v := .null) hx hb hr (Or.inl ⟨_, rfl⟩) (Or.inl rfl) (fun t ht hW => ⟨⟨none, (G, ws), rfl, ⟨hX, ⟨(fun _ z => nomatch z), (fun _ => by omega), (fun _ z => nomatch z)⟩⟩, by show va_P D vwCl ws t.heap; rw [ht]; exact hP, hD, hT⟩, hS.F ht⟩) hS.2.2 dX9_boardOf_23
  · skip
    have d2 := c2
    rw [fa_lt] at d2
    refine lv_iload_n hx hb dX9_boardOf_5 rfl (lv_at hl 1 rfl) ?_
    refine lv_bipush (v := 6) hx hb dX9_boardOf_6 (by decide) ?_
    refine lv_icmp_gt (tgt := 22) hx hb dX9_boardOf_8 (by decide) (fun c8 => ?_) (fun c8 => ?_)
    · skip
      have d8 := c8
      rw [fa_lt] at d8
      refine lv_null hx hb dX9_boardOf_22 ?_
      refine W.widen (k := 4) (n := 502) (Nat.le_of_ble_eq_true rfl) (Nat.le_of_ble_eq_true rfl) ?_
      exact W.aret (v := .null) hx hb hr (Or.inl ⟨_, rfl⟩) (Or.inl rfl) (fun t ht hW => ⟨⟨none, (G, ws), rfl, ⟨hX, ⟨(fun _ z => nomatch z), (fun _ => by omega), (fun _ z => nomatch z)⟩⟩, by show va_P D vwCl ws t.heap; rw [ht]; exact hP, hD, hT⟩, hS.F ht⟩) hS.2.2 dX9_boardOf_23
    · skip
      have d8 := c8
      rw [fa_lt] at d8
      refine lv_iload_n hx hb dX9_boardOf_11 rfl (lv_at hl 2 rfl) ?_
      refine lv_iconst (v := 1) hx hb dX9_boardOf_12 (by decide) ?_
      refine lv_icmp_lt (tgt := 22) hx hb dX9_boardOf_13 (by decide) (fun c13 => ?_) (fun c13 => ?_)
      · skip
        have d13 := c13
        rw [fa_lt] at d13
        refine lv_null hx hb dX9_boardOf_22 ?_
        refine W.widen (k := 4) (n := 502) (Nat.le_of_ble_eq_true rfl) (Nat.le_of_ble_eq_true rfl) ?_
        exact W.aret (v := .null) hx hb hr (Or.inl ⟨_, rfl⟩) (Or.inl rfl) (fun t ht hW => ⟨⟨none, (G, ws), rfl, ⟨hX, ⟨(fun _ z => nomatch z), (fun _ => by omega), (fun _ z => nomatch z)⟩⟩, by show va_P D vwCl ws t.heap; rw [ht]; exact hP, hD, hT⟩, hS.F ht⟩) hS.2.2 dX9_boardOf_23
      · skip
        have d13 := c13
        rw [fa_lt] at d13
        refine lv_iload_n hx hb dX9_boardOf_16 rfl (lv_at hl 2 rfl) ?_
        refine lv_bipush (v := 6) hx hb dX9_boardOf_17 (by decide) ?_
        refine lv_icmp_le (tgt := 24) hx hb dX9_boardOf_19 (by decide) (fun c19 => ?_) (fun c19 => ?_)
        · skip
          have d19 := c19
          rw [fa_le] at d19
          refine lv_iload_n hx hb dX9_boardOf_24 rfl (lv_at hl 2 rfl) ?_
          refine lv_iconst (v := 1) hx hb dX9_boardOf_25 (by decide) ?_
          refine lv_isub hx hb dX9_boardOf_26 ?_
          refine lv_topi (fun v26 e26 => ?_)
          have i26 : v26.toInt = high.toInt - (1 : Int32).toInt := by rw [e26]; exact fb_subI (by omega) (by omega)
          refine lv_bipush (v := 6) hx hb dX9_boardOf_27 (by decide) ?_
          refine lv_imul hx hb dX9_boardOf_29 ?_
          refine lv_topi (fun v29 e29 => ?_)
          have i29 : v29.toInt = v26.toInt * 6 := by rw [e29]; exact mulcR rfl (by omega) (by omega)
          refine lv_iload_n hx hb dX9_boardOf_30 rfl (lv_at hl 1 rfl) ?_
          refine lv_iadd hx hb dX9_boardOf_31 ?_
          refine lv_topi (fun v31 e31 => ?_)
          have i31 : v31.toInt = v29.toInt + wide.toInt := by rw [e31]; exact fb_addI (by omega) (by omega)
          refine lv_iconst (v := 1) hx hb dX9_boardOf_32 (by decide) ?_
          refine lv_isub hx hb dX9_boardOf_33 ?_
          refine lv_topi (fun v33 e33 => ?_)
          have i33 : v33.toInt = v31.toInt - (1 : Int32).toInt := by rw [e33]; exact fb_subI (by omega) (by omega)
          refine lv_istore_n (lv' := [(3, .int v33), (0, .ref o), (1, .int wide), (2, .int high)]) hx hb dX9_boardOf_34 rfl hl (by decide) rfl (fun ls hl => ?_)
          have e9 := m_cl (x := v33) (by omega)
          have f9 := m_cl (x := wide) (by omega)
          have g9 := m_cl (x := high) (by omega)
          have e1 : v33.toNatClampNeg % 6 + 1 = wide.toNatClampNeg := by omega
          have e2 : v33.toNatClampNeg / 6 + 1 = high.toNatClampNeg := by omega
          refine lv_aload_n hx hb dX9_boardOf_35 rfl (lv_at hl 1 rfl) ?_
          obtain ⟨_, hM_o, bs_o, js_o, sh_o, wk_o, ll_o, jc_o, lc_o, mo_o, lb_o, rfl, hjc_o, hlc_o, hG_bs_o, hG_js_o, hG_sh_o, hG_wk_o, hmo_o, hG_ll_o, hlb_o⟩ := hT _ _ hG_o
          refine t_get (v := .ref bs_o) (C := RX9) (T := TX9) (N := 9) hx hb hts (by decide +kernel) hown hK hP hM_o rfl 0 (by decide) (hts (.fieldLink RX9 9 "ShadowBench" "boards" "[LShadowBench$Board;") (by decide +kernel)) (fun _ h9 => h9) rfl dX9_boardOf_36 ?_
          refine lv_iload_n hx hb dX9_boardOf_39 rfl (lv_at hl 0 rfl) ?_
          obtain ⟨_, hM_bs_o, fa_bs_o, rfl, hf_bs_o⟩ := hT _ _ hG_bs_o
          refine t_aald8f hx hb hK hP hM_bs_o hf_bs_o (vp_in_iff.mpr ⟨by omega, by omega⟩) dX9_boardOf_40 (fun nf40 => ?_) (fun x40 hG_x40 nf40 => ?_)
          · skip
            refine lv_ifnonnullN hx hb dX9_boardOf_41 ?_
            refine lv_aload_n hx hb dX9_boardOf_44 rfl (lv_at hl 1 rfl) ?_
            refine t_get (v := .ref bs_o) (C := RX9) (T := TX9) (N := 9) hx hb hts (by decide +kernel) hown hK hP hM_o rfl 0 (by decide) (hts (.fieldLink RX9 9 "ShadowBench" "boards" "[LShadowBench$Board;") (by decide +kernel)) (fun _ h9 => h9) rfl dX9_boardOf_45 ?_
            refine lv_iload_n hx hb dX9_boardOf_48 rfl (lv_at hl 0 rfl) ?_
            refine t_new (C := RX0) (T := TX0) (N := 8) (ci := 0) (ty0 := tyX0) (fs := [.int 0, .int 0, .int 0, .int 0, .int 0, .null, .null, .null]) hx hb hts (by decide +kernel) tyX0_ok hown (hts (.classLink RX9 7 RX0) (by decide +kernel)) (hts (.instantiable RX0 8) (by decide +kernel)) (hts (.initialized RX0) (by decide +kernel)) hK hP hD hS hA hT rfl (by decide +kernel) (Nat.le_of_ble_eq_true rfl) (Nat.le_of_ble_eq_true rfl) dX9_boardOf_49 (fun q49 H w49 hM_q49 hO_q49 hF49 hX49 hk49 hP hD hT hS => ?_)
            have hN_q49 := hX.new0 hO_q49 hF49
            have hM_o := hk49 _ _ hM_o
            have hM_bs_o := hk49 _ _ hM_bs_o
            have hX := hX.tr (hX49 _ _)
            refine lv_dup hx hb dX9_boardOf_52 rfl ?_
            refine lv_iload_n hx hb dX9_boardOf_53 rfl (lv_at hl 2 rfl) ?_
            refine lv_iload_n hx hb dX9_boardOf_54 rfl (lv_at hl 3 rfl) ?_
            refine t_callv (va_runI (g := F0 m 55 ls ([.int high, .int wide, .ref q49, .ref q49, .int v33, .ref bs_o])) (As := [.int wide, .int high]) (rest := [.ref q49, .int v33, .ref bs_o]) (b := q49) ⟨hx, hb, hml, hown, hts⟩ (c_X0_init_i l D cy A G w49 q49 wide high hD hT hO_q49 hM_q49 (by omega)) (cwI 2 hts gX9_boardOf_X0_init rfl rfl rfl (hts (.initialized RX0) (by decide +kernel)) (hts (.methodLink RX9 290 yX0_init) (by decide +kernel)) (hts (.instanceMethod yX0_init) (by decide +kernel)) rfl (by decide +kernel) ⟨Nat.le_of_ble_eq_true rfl, Nat.le_of_ble_eq_true rfl⟩) (c_preS hP hK hA hS hV) rfl rfl hl.1 rfl (lv_room (Nat.le_of_ble_eq_true rfl)) dX9_boardOf_55 ⟨Nat.le_of_ble_eq_true rfl, Nat.le_of_ble_eq_true rfl⟩) hS (fun u H locs q55 hP9 hD9 hT9 hS => ?_)
            obtain ⟨G55, w55⟩ := u
            obtain ⟨hX9, q55⟩ := q55
            have hX9 : cX (some q49) (chs [1]) G w49 G55 w55 := hX9
            have hP : va_P D vwCl w55 H := hP9
            have hD : va_D A w55 := hD9
            have hT : cT cy G55 w55 := hT9
            have hM_o := hX9.2.1 _ _ (cP.no1 (Ne.symm (cne0 hO_q49 hG_o)) hG_o rfl) hM_o
            have hM_bs_o := hX9.2.1 _ _ (cP.no1 (Ne.symm (cne0 hO_q49 hG_bs_o)) hG_bs_o rfl) hM_bs_o
            have hG_o := hX9.1 _ _ hG_o
            have hG_bs_o := hX9.1 _ _ hG_bs_o
            have hG_js_o := hX9.1 _ _ hG_js_o
            have hG_sh_o := hX9.1 _ _ hG_sh_o
            have hG_wk_o := hX9.1 _ _ hG_wk_o
            have hG_ll_o := hX9.1 _ _ hG_ll_o
            have hf_bs_o := fun i9 x9 h9 z9 => hX9.1 _ _ (hf_bs_o i9 x9 h9 z9)
            have hG_q49 : G55 q49 = some (2, wide.toNatClampNeg, high.toNatClampNeg) := q55.1
            have q55 := q55.2
            have hX := hX.trN hN_q49 (hX9.wk (chs_sub (by decide)))
            refine t_aast8f hx hb hK hP hD hS hT hG_bs_o hM_bs_o hf_bs_o (by rw [e1, e2]; exact hG_q49) (vp_in_iff.mpr ⟨by omega, by omega⟩) dX9_boardOf_58 (fun H locs w58 hU58 hM9_bs_o hf9_bs_o hP hD hT hS => ?_)
            have hM_o := hU58 _ _ (cne hG_o hG_bs_o (show (7 : Nat) ≠ 8 by decide)) hM_o
            have hM_bs_o := hM9_bs_o
            have hf_bs_o := hf9_bs_o
            have hX := hX.tr (cX.uF hU58 (Or.inr ⟨_, hG_bs_o, rfl⟩))
            refine lv_aload_n hx hb dX9_boardOf_59 rfl (lv_at hl 1 rfl) ?_
            refine t_get (v := .ref bs_o) (C := RX9) (T := TX9) (N := 9) hx hb hts (by decide +kernel) hown hK hP hM_o rfl 0 (by decide) (hts (.fieldLink RX9 9 "ShadowBench" "boards" "[LShadowBench$Board;") (by decide +kernel)) (fun _ h9 => h9) rfl dX9_boardOf_60 ?_
            refine lv_iload_n hx hb dX9_boardOf_63 rfl (lv_at hl 0 rfl) ?_
            refine t_aald8f hx hb hK hP hM_bs_o hf_bs_o (vp_in_iff.mpr ⟨by omega, by omega⟩) dX9_boardOf_64 (fun nf64 => ?_) (fun x64 hG_x64 nf64 => ?_)
            · first | exact absurd (nf64.symm.trans nf40) (by simp) | (simp [va_up] at nf64)
            · skip
              refine W.widen (k := 4) (n := 502) (Nat.le_of_ble_eq_true rfl) (Nat.le_of_ble_eq_true rfl) ?_
              exact W.aret (v := .ref x64) hx hb hr (Or.inl ⟨_, rfl⟩) (Or.inr ⟨_, rfl⟩) (fun t ht hW => ⟨⟨(some x64), (G55, w58), rfl, ⟨hX, ⟨(fun _ z => Option.some.inj z ▸ (by rw [← e1, ← e2]; exact hG_x64)), (fun z => nomatch z), (fun _ _ => by omega)⟩⟩, by show va_P D vwCl w58 t.heap; rw [ht]; exact hP, hD, hT⟩, hS.F ht⟩) hS.2.2 dX9_boardOf_65
          · skip
            refine lv_ifnonnull (tgt := 59) hx hb dX9_boardOf_41 (by decide) ?_
            refine lv_aload_n hx hb dX9_boardOf_59 rfl (lv_at hl 1 rfl) ?_
            refine t_get (v := .ref bs_o) (C := RX9) (T := TX9) (N := 9) hx hb hts (by decide +kernel) hown hK hP hM_o rfl 0 (by decide) (hts (.fieldLink RX9 9 "ShadowBench" "boards" "[LShadowBench$Board;") (by decide +kernel)) (fun _ h9 => h9) rfl dX9_boardOf_60 ?_
            refine lv_iload_n hx hb dX9_boardOf_63 rfl (lv_at hl 0 rfl) ?_
            refine t_aald8f hx hb hK hP hM_bs_o hf_bs_o (vp_in_iff.mpr ⟨by omega, by omega⟩) dX9_boardOf_64 (fun nf64 => ?_) (fun x64 hG_x64 nf64 => ?_)
            · first | exact absurd (nf64.symm.trans nf40) (by simp) | (simp [va_up] at nf64)
            · skip
              refine W.widen (k := 4) (n := 502) (Nat.le_of_ble_eq_true rfl) (Nat.le_of_ble_eq_true rfl) ?_
              exact W.aret (v := .ref x64) hx hb hr (Or.inl ⟨_, rfl⟩) (Or.inr ⟨_, rfl⟩) (fun t ht hW => ⟨⟨(some x64), (G, ws), rfl, ⟨hX, ⟨(fun _ z => Option.some.inj z ▸ (by rw [← e1, ← e2]; exact hG_x64)), (fun z => nomatch z), (fun _ _ => by omega)⟩⟩, by show va_P D vwCl ws t.heap; rw [ht]; exact hP, hD, hT⟩, hS.F ht⟩) hS.2.2 dX9_boardOf_65
        · skip
          have d19 := c19
          rw [fa_le] at d19
          refine lv_null hx hb dX9_boardOf_22 ?_
          refine W.widen (k := 4) (n := 502) (Nat.le_of_ble_eq_true rfl) (Nat.le_of_ble_eq_true rfl) ?_
          exact W.aret (v := .null) hx hb hr (Or.inl ⟨_, rfl⟩) (Or.inl rfl) (fun t ht hW => ⟨⟨none, (G, ws), rfl, ⟨hX, ⟨(fun _ z => nomatch z), (fun _ => by omega), (fun _ z => nomatch z)⟩⟩, by show va_P D vwCl ws t.heap; rw [ht]; exact hP, hD, hT⟩, hS.F ht⟩) hS.2.2 dX9_boardOf_23
set_option maxHeartbeats 4000000 in
set_option maxRecDepth 100000 in
theorem c_X9_ghostPlaces_x (l : Launch) (D : va_G) (cy : Nat → ClassId) (A : Nat → Prop) (G : cG) (ws : va_W) (o : Nat) (set : Int32) (wide : Int32) (high : Int32)  (hD : va_D A ws) (hT : cT cy G ws) (hG_o : G o = some (7, 0, 0))  : Ei l D cy A yX9_ghostPlaces wsX9_ghostPlaces ({ frames := 5, cells := 4, slots := 502, locals := 116 }) 4 502 ws [.ref o, .int set, .int wide, .int high] (fun r0 u => cX none (chs [1, 8]) G ws u.1 u.2 ∧ (r0.toInt = gA set wide high)) := by
  refine Met.ofW (cc := cX9_ghostPlaces) (maxL := 7) (ret := (some .int)) (by decide) rfl ?_
  intro p e s m args below meth c s₁ B hml hv
  obtain ⟨rfl, ⟨hP, hK, hA, hV⟩, hZ⟩ := hv
  obtain ⟨tX, tY, xX, xY, ⟨zX1, zX2, zX5⟩, ⟨zY1, zY2, zY5⟩⟩ := id hZ
  have hx := B.exec
  have hb := B.bytes
  have hr := B.returns
  have hts := atoms_spec (ws := wsX9_ghostPlaces) B.pre
  have hown : s.vm.findClass RX9 = some m.cls := findClass_of_methodNamed B.named
  have hlocks := B.notSynchronized
  have hS : va_S A s.heap s.heap [] := va_S.rf
  have hX : cX none (chs [1, 8]) G ws G ws := cX.rf
  have hl := lv_entry ([.ref o, .int set, .int wide, .int high]) (n := 7) (Nat.le_of_ble_eq_true rfl)
  rw [lg_entry_eq]
  generalize (lg_sl ([.ref o, .int set, .int wide, .int high]) ++ List.replicate (7 - (lg_sl ([.ref o, .int set, .int wide, .int high])).length) Slot.unset).toArray = ls at hl ⊢
  have hl : lv_has ls 7 [(0, .ref o), (1, .int set), (2, .int wide), (3, .int high)] := hl
  have k_m1 : (-1 : Int32).toInt = -1 := by decide
  have k_0 : (0 : Int32).toInt = 0 := by decide
  have k_1 : (1 : Int32).toInt = 1 := by decide
  have k_4 : (4 : Int32).toInt = 4 := by decide
  refine lv_iload_n hx hb dX9_ghostPlaces_0 rfl (lv_at hl 1 rfl) ?_
  refine t_pu (As := [.int set]) (rest := []) ⟨hx, hb, hml, hown, hts⟩ (c_X9_isGhostSet l set ) (va_cwS 1 hts gX9_ghostPlaces_X9_isGhostSet rfl rfl rfl (by decide +kernel) ⟨Nat.le_of_ble_eq_true rfl, Nat.le_of_ble_eq_true rfl⟩) hP rfl hl.1 rfl (Nat.le_of_ble_eq_true rfl) dX9_ghostPlaces_1 ⟨Nat.le_of_ble_eq_true rfl, Nat.le_of_ble_eq_true rfl⟩ hS (fun r1 H locs q1 hP hS => ?_)
  refine lv_if_eq (tgt := 16) hx hb dX9_ghostPlaces_4 (by decide) (fun c4 => ?_) (fun c4 => ?_)
  · skip
    have b4 := bo_f q1 c4
    refine lv_iconst (v := (-1)) hx hb dX9_ghostPlaces_16 (by decide) ?_
    refine W.widen (k := 4) (n := 502) (Nat.le_of_ble_eq_true rfl) (Nat.le_of_ble_eq_true rfl) ?_
    exact W.iret (v := ((-1) : Int32)) hx hb hr (fun t ht hW => ⟨⟨_, (G, ws), rfl, ⟨hX, (by rw [gA_no (by omega)]; rfl)⟩, by show va_P D vwCl ws t.heap; rw [ht]; exact hP, hD, hT⟩, hS.F ht⟩) hS.2.2 dX9_ghostPlaces_17
  · skip
    have b4 := bo_t q1 c4
    refine lv_aload_n hx hb dX9_ghostPlaces_7 rfl (lv_at hl 0 rfl) ?_
    refine lv_iload_n hx hb dX9_ghostPlaces_8 rfl (lv_at hl 2 rfl) ?_
    refine lv_iload_n hx hb dX9_ghostPlaces_9 rfl (lv_at hl 3 rfl) ?_
    obtain ⟨_, hM_o, bs_o, js_o, sh_o, wk_o, ll_o, jc_o, lc_o, mo_o, lb_o, rfl, hjc_o, hlc_o, hG_bs_o, hG_js_o, hG_sh_o, hG_wk_o, hmo_o, hG_ll_o, hlb_o⟩ := hT _ _ hG_o
    refine t_calla (va_runV (g := F0 m 10 ls ([.int high, .int wide, .ref o])) (As := [.int wide, .int high]) (rest := []) ⟨hx, hb, hml, hown, hts⟩ (c_X9_boardOf_x l D cy A G ws o wide high hD hT hG_o ) (cwV 2 hts gX9_ghostPlaces_X9_boardOf rfl rfl rfl (by decide +kernel) ⟨Nat.le_of_ble_eq_true rfl, Nat.le_of_ble_eq_true rfl⟩) (c_preV hM_o rfl hP hK hA hS hV) rfl rfl hl.1 rfl (lv_room (Nat.le_of_ble_eq_true rfl)) dX9_ghostPlaces_10 ⟨Nat.le_of_ble_eq_true rfl, Nat.le_of_ble_eq_true rfl⟩) hS (fun r10 u H locs q10 hP9 hD9 hT9 hS => ?_)
    obtain ⟨G10, w10⟩ := u
    obtain ⟨hX9, q10⟩ := q10
    have hX9 : cX none (chs [1, 8]) G ws G10 w10 := hX9
    have hP : va_P D vwCl w10 H := hP9
    have hD : va_D A w10 := hD9
    have hT : cT cy G10 w10 := hT9
    have hM_o := hX9.2.1 _ _ (cP.no hG_o rfl) hM_o
    have hG_o := hX9.1 _ _ hG_o
    have hG_bs_o := hX9.1 _ _ hG_bs_o
    have hG_js_o := hX9.1 _ _ hG_js_o
    have hG_sh_o := hX9.1 _ _ hG_sh_o
    have hG_wk_o := hX9.1 _ _ hG_wk_o
    have hG_ll_o := hX9.1 _ _ hG_ll_o
    have hX := hX.tr hX9
    rcases r10 with _ | x10
    · skip
      have vn10 := q10.2.1 rfl
      refine lv_ifnonnullN hx hb dX9_ghostPlaces_13 ?_
      refine lv_iconst (v := (-1)) hx hb dX9_ghostPlaces_16 (by decide) ?_
      refine W.widen (k := 4) (n := 502) (Nat.le_of_ble_eq_true rfl) (Nat.le_of_ble_eq_true rfl) ?_
      exact W.iret (v := ((-1) : Int32)) hx hb hr (fun t ht hW => ⟨⟨_, (G10, w10), rfl, ⟨hX, (by rw [gA_no (by omega)]; rfl)⟩, by show va_P D vwCl w10 t.heap; rw [ht]; exact hP, hD, hT⟩, hS.F ht⟩) hS.2.2 dX9_ghostPlaces_17
    · skip
      have hG_x10 := q10.1 x10 rfl
      have vb10 := q10.2.2 x10 rfl
      refine lv_ifnonnull (tgt := 18) hx hb dX9_ghostPlaces_13 (by decide) ?_
      refine lv_iload_n hx hb dX9_ghostPlaces_18 rfl (lv_at hl 2 rfl) ?_
      refine lv_istore (lv' := [(4, .int wide), (0, .ref o), (1, .int set), (2, .int wide), (3, .int high)]) hx hb dX9_ghostPlaces_19 hl (by decide) rfl (fun ls hl => ?_)
      refine lv_iload_n hx hb dX9_ghostPlaces_21 rfl (lv_at hl 4 rfl) ?_
      refine lv_istore (lv' := [(5, .int high), (4, .int wide), (0, .ref o), (1, .int set), (2, .int wide), (3, .int high)]) hx hb dX9_ghostPlaces_22 hl (by decide) rfl (fun ls hl => ?_)
      refine lv_iconst (v := 0) hx hb dX9_ghostPlaces_24 (by decide) ?_
      refine lv_istore (lv' := [(6, .int (0 : Int32)), (5, .int high), (4, .int wide), (0, .ref o), (1, .int set), (2, .int wide), (3, .int high)]) hx hb dX9_ghostPlaces_25 hl (by decide) rfl (fun ls hl => ?_)
      have loop_27 : ∀ (n : Nat) (i : Nat) (x5 : Int32) (x4 : Int32), (i ≤ 4) → (x4.toInt = wide.toInt - gX set i) → (x5.toInt = high.toInt - gY set i) → 4 - i < n → ∀ (H : Heap) (locs : List Loc), va_P D vwCl w10 H → va_S A s.heap H locs → ∀ (ls : Array Slot), lv_has ls 7 [(6, .int (nI i)), (5, .int x5), (4, .int x4), (0, .ref o), (1, .int set), (2, .int wide), (3, .int high)] → W p l e (headSpec wsX9_ghostPlaces ({ frames := 5, cells := 4, slots := 502, locals := 116 })).room s m #[Value.ref o, Value.int set, Value.int wide, Value.int high] below meth c H locs 4 502 (MQ below (va_Qi (fun r0 u => cX none (chs [1, 8]) G ws u.1 u.2 ∧ (r0.toInt = gA set wide high)) (cB D cy A) A) #[Value.ref o, Value.int set, Value.int wide, Value.int high] s 4 502 A) (F0 m 27 ls []) := by
        intro n
        induction n with
        | zero => intro i x5 x4 j27_0 j27_1 j27_2 hn; exact absurd hn (Nat.not_lt_zero _)
        | succ n ih_27 =>
          intro i x5 x4 j27_0 j27_1 j27_2 hn_27 H locs hP hS  ls hl
          have ii : (nI i).toInt = (i : Int) := nI_toInt (by omega)
          have bx := gX_b set i
          have by9 := gY_b set i
          refine lv_iload hx hb dX9_ghostPlaces_27 (lv_at hl 0 rfl) ?_
          refine lv_iconst (v := 4) hx hb dX9_ghostPlaces_29 (by decide) ?_
          refine lv_icmp_ge (tgt := 77) hx hb dX9_ghostPlaces_30 (by decide) (fun c30 => ?_) (fun c30 => ?_)
          · skip
            have d30 := c30
            rw [fa_le] at d30
            obtain rfl : i = 4 := by omega
            refine lv_iload hx hb dX9_ghostPlaces_77 (lv_at hl 2 rfl) ?_
            refine lv_if_le (tgt := 95) hx hb dX9_ghostPlaces_79 (by decide) (fun c79 => ?_) (fun c79 => ?_)
            · skip
              have d79 := c79
              rw [fa_le] at d79
              refine lv_iconst (v := 0) hx hb dX9_ghostPlaces_95 (by decide) ?_
              refine W.widen (k := 4) (n := 502) (Nat.le_of_ble_eq_true rfl) (Nat.le_of_ble_eq_true rfl) ?_
              exact W.iret (v := (0 : Int32)) hx hb hr (fun t ht hW => ⟨⟨_, (G10, w10), rfl, ⟨hX, (by rw [gA_yes (by omega), gP_zero (by omega)]; rfl)⟩, by show va_P D vwCl w10 t.heap; rw [ht]; exact hP, hD, hT⟩, hS.F ht⟩) hS.2.2 dX9_ghostPlaces_96
            · skip
              have d79 := c79
              rw [fa_le] at d79
              refine lv_iload hx hb dX9_ghostPlaces_82 (lv_at hl 1 rfl) ?_
              refine lv_if_le (tgt := 95) hx hb dX9_ghostPlaces_84 (by decide) (fun c84 => ?_) (fun c84 => ?_)
              · skip
                have d84 := c84
                rw [fa_le] at d84
                refine lv_iconst (v := 0) hx hb dX9_ghostPlaces_95 (by decide) ?_
                refine W.widen (k := 4) (n := 502) (Nat.le_of_ble_eq_true rfl) (Nat.le_of_ble_eq_true rfl) ?_
                exact W.iret (v := (0 : Int32)) hx hb hr (fun t ht hW => ⟨⟨_, (G10, w10), rfl, ⟨hX, (by rw [gA_yes (by omega), gP_zero (by omega)]; rfl)⟩, by show va_P D vwCl w10 t.heap; rw [ht]; exact hP, hD, hT⟩, hS.F ht⟩) hS.2.2 dX9_ghostPlaces_96
              · skip
                have d84 := c84
                rw [fa_le] at d84
                refine lv_iload hx hb dX9_ghostPlaces_87 (lv_at hl 2 rfl) ?_
                refine lv_iload hx hb dX9_ghostPlaces_89 (lv_at hl 1 rfl) ?_
                have m91 := mul66 (w := x4) (h := x5) (by omega) (by omega)
                refine lv_imul hx hb dX9_ghostPlaces_91 ?_
                refine lv_topi (fun v91 e91 => ?_)
                have i91 : v91.toInt = x4.toInt * x5.toInt := by rw [e91]; exact fb_mulI (by omega) (by omega)
                refine lv_goto (tgt := 96) hx hb dX9_ghostPlaces_92 (by decide) ?_
                refine W.widen (k := 4) (n := 502) (Nat.le_of_ble_eq_true rfl) (Nat.le_of_ble_eq_true rfl) ?_
                exact W.iret (v := v91) hx hb hr (fun t ht hW => ⟨⟨_, (G10, w10), rfl, ⟨hX, (by rw [gA_yes (by omega), gP_pos j27_1 j27_2 (by omega) (by omega)]; exact i91)⟩, by show va_P D vwCl w10 t.heap; rw [ht]; exact hP, hD, hT⟩, hS.F ht⟩) hS.2.2 dX9_ghostPlaces_96
          · skip
            have d30 := c30
            rw [fa_le] at d30
            refine lv_iload_n hx hb dX9_ghostPlaces_33 rfl (lv_at hl 4 rfl) ?_
            refine lv_iload hx hb dX9_ghostPlaces_34 (lv_at hl 0 rfl) ?_
            refine lv_ishr hx hb dX9_ghostPlaces_36 ?_
            refine lv_topi (fun v36 e36 => ?_)
            refine lv_iconst (v := 1) hx hb dX9_ghostPlaces_37 (by decide) ?_
            refine lv_iand hx hb dX9_ghostPlaces_38 ?_
            refine lv_topi (fun v38 e38 => ?_)
            refine lv_iconst (v := 1) hx hb dX9_ghostPlaces_39 (by decide) ?_
            have hB : gB set i = v38 := by rw [e38, e36]; rfl
            refine lv_icmp_ne (tgt := 71) hx hb dX9_ghostPlaces_40 (by decide) (fun c40 => ?_) (fun c40 => ?_)
            · skip
              have d40 := c40
              rw [fa_eq] at d40
              first | have hx1 := gX_0 (set := set) (k := i) (fun z => c40 (hB.symm.trans z)) | skip
              first | have hy1 := gY_0 (set := set) (k := i) (fun z => c40 (hB.symm.trans z)) | skip
              refine lv_iinc (v := (nI (i + 1))) (lv' := [(6, .int (nI (i + 1))), (5, .int x5), (4, .int x4), (0, .ref o), (1, .int set), (2, .int wide), (3, .int high)]) hx hb dX9_ghostPlaces_71 hl (k := 0) rfl (nI_1 _) (by decide) rfl (fun ls hl => ?_)
              refine lv_goto (tgt := 27) hx hb dX9_ghostPlaces_74 (by decide) ?_
              exact ih_27 (i + 1) x5 x4 (by omega) (by omega) (by omega) (by omega) _ _ hP hS  ls (lv_sub hl [0, 1, 2, 3, 4, 5, 6] rfl)
            · skip
              have d40 := c40
              rw [fa_eq] at d40
              have hx1 := gX_1 (hB.trans c40)
              have hy1 := gY_1 (hB.trans c40)
              have dxb := gdx_b i
              have dyb := gdy_b i
              refine lv_iload hx hb dX9_ghostPlaces_43 (lv_at hl 2 rfl) ?_
              refine va_gets hx hb zX1 hS hown (hts (.fieldLink RX9 309 "ShadowBench$Board" "STEP_X" "[I") (by decide +kernel)) (fun _ h9 => h9) dX9_ghostPlaces_45 ?_
              refine lv_iload hx hb dX9_ghostPlaces_48 (lv_at hl 0 rfl) ?_
              refine va_ti hx hb zX2 hS (i := (nI i)) (vp_in_iff.mpr ⟨by omega, by omega⟩) (v := .int (xX (nI i).toNatClampNeg)) rfl dX9_ghostPlaces_50 ?_
              refine lv_topi (fun v50 e50 => ?_)
              refine va_mabs hx hb (by rw [hml]; exact hl.1.symm) hown (hts (.methodLink RX9 316 Lib.Math.abs.name) (by decide +kernel)) (hts (.static Lib.Math.abs.name) (by decide +kernel)) (hts (.initialized "java/lang/Math") (by decide +kernel)) (hts (.code Lib.Math.abs.name Lib.Math.abs.code 1 (some .int)) (by decide +kernel)) (Nat.le_of_ble_eq_true rfl) (Nat.le_of_ble_eq_true rfl) (Nat.le_of_ble_eq_true rfl) (Nat.le_of_ble_eq_true rfl) dX9_ghostPlaces_51 ?_
              refine lv_topi (fun v51 e51 => ?_)
              have a51 := g_ax (by omega) zX5 e50 e51
              refine lv_isub hx hb dX9_ghostPlaces_54 ?_
              refine lv_topi (fun v54 e54 => ?_)
              have i54 : v54.toInt = x4.toInt - v51.toInt := by rw [e54]; exact fb_subI (by omega) (by omega)
              refine lv_istore (lv' := [(4, .int v54), (6, .int (nI i)), (5, .int x5), (0, .ref o), (1, .int set), (2, .int wide), (3, .int high)]) hx hb dX9_ghostPlaces_55 hl (by decide) rfl (fun ls hl => ?_)
              refine lv_iload hx hb dX9_ghostPlaces_57 (lv_at hl 2 rfl) ?_
              refine va_gets hx hb zY1 hS hown (hts (.fieldLink RX9 313 "ShadowBench$Board" "STEP_Y" "[I") (by decide +kernel)) (fun _ h9 => h9) dX9_ghostPlaces_59 ?_
              refine lv_iload hx hb dX9_ghostPlaces_62 (lv_at hl 1 rfl) ?_
              refine va_ti hx hb zY2 hS (i := (nI i)) (vp_in_iff.mpr ⟨by omega, by omega⟩) (v := .int (xY (nI i).toNatClampNeg)) rfl dX9_ghostPlaces_64 ?_
              refine lv_topi (fun v64 e64 => ?_)
              refine va_mabs hx hb (by rw [hml]; exact hl.1.symm) hown (hts (.methodLink RX9 316 Lib.Math.abs.name) (by decide +kernel)) (hts (.static Lib.Math.abs.name) (by decide +kernel)) (hts (.initialized "java/lang/Math") (by decide +kernel)) (hts (.code Lib.Math.abs.name Lib.Math.abs.code 1 (some .int)) (by decide +kernel)) (Nat.le_of_ble_eq_true rfl) (Nat.le_of_ble_eq_true rfl) (Nat.le_of_ble_eq_true rfl) (Nat.le_of_ble_eq_true rfl) dX9_ghostPlaces_65 ?_
              refine lv_topi (fun v65 e65 => ?_)
              have a65 := g_ay (by omega) zY5 e64 e65
              refine lv_isub hx hb dX9_ghostPlaces_68 ?_
              refine lv_topi (fun v68 e68 => ?_)
              have i68 : v68.toInt = x5.toInt - v65.toInt := by rw [e68]; exact fb_subI (by omega) (by omega)
              refine lv_istore (lv' := [(5, .int v68), (4, .int v54), (6, .int (nI i)), (0, .ref o), (1, .int set), (2, .int wide), (3, .int high)]) hx hb dX9_ghostPlaces_69 hl (by decide) rfl (fun ls hl => ?_)
              first | have hx1 := gX_0 (set := set) (k := i) (fun z => c40 (hB.symm.trans z)) | skip
              first | have hy1 := gY_0 (set := set) (k := i) (fun z => c40 (hB.symm.trans z)) | skip
              refine lv_iinc (v := (nI (i + 1))) (lv' := [(6, .int (nI (i + 1))), (5, .int v68), (4, .int v54), (0, .ref o), (1, .int set), (2, .int wide), (3, .int high)]) hx hb dX9_ghostPlaces_71 hl (k := 2) rfl (nI_1 _) (by decide) rfl (fun ls hl => ?_)
              refine lv_goto (tgt := 27) hx hb dX9_ghostPlaces_74 (by decide) ?_
              exact ih_27 (i + 1) v68 v54 (by omega) (by omega) (by omega) (by omega) _ _ hP hS  ls (lv_sub hl [0, 1, 2, 3, 4, 5, 6] rfl)
      exact loop_27 (4 + 1) 0 high wide (by omega) (by simp [gX]) (by simp [gY]) (by omega) _ _ hP hS  ls (lv_sub hl [0, 1, 2, 3, 4, 5, 6] rfl)
set_option maxHeartbeats 4000000 in
set_option maxRecDepth 100000 in
theorem c_X9_haunts_x (l : Launch) (D : va_G) (cy : Nat → ClassId) (A : Nat → Prop) (G : cG) (ws : va_W) (o : Nat) (set : Int32) (wide : Int32) (high : Int32)  (hD : va_D A ws) (hT : cT cy G ws) (hG_o : G o = some (7, 0, 0))  : Ei l D cy A yX9_haunts wsX9_haunts ({ frames := 6, cells := 4, slots := 502, locals := 142 }) 4 502 ws [.ref o, .int set, .int wide, .int high] (fun r0 u => cX none (chs [1, 8]) G ws u.1 u.2 ∧ (r0.toInt = gH set wide high)) := by
  refine Met.ofW (cc := cX9_haunts) (maxL := 5) (ret := (some .int)) (by decide) rfl ?_
  intro p e s m args below meth c s₁ B hml hv
  obtain ⟨rfl, ⟨hP, hK, hA, hV⟩, hZ⟩ := hv
  obtain ⟨tX, tY, xX, xY, ⟨zX1, zX2, zX5⟩, ⟨zY1, zY2, zY5⟩⟩ := id hZ
  have hx := B.exec
  have hb := B.bytes
  have hr := B.returns
  have hts := atoms_spec (ws := wsX9_haunts) B.pre
  have hown : s.vm.findClass RX9 = some m.cls := findClass_of_methodNamed B.named
  have hlocks := B.notSynchronized
  have hS : va_S A s.heap s.heap [] := va_S.rf
  have hX : cX none (chs [1, 8]) G ws G ws := cX.rf
  have hl := lv_entry ([.ref o, .int set, .int wide, .int high]) (n := 5) (Nat.le_of_ble_eq_true rfl)
  rw [lg_entry_eq]
  generalize (lg_sl ([.ref o, .int set, .int wide, .int high]) ++ List.replicate (5 - (lg_sl ([.ref o, .int set, .int wide, .int high])).length) Slot.unset).toArray = ls at hl ⊢
  have hl : lv_has ls 5 [(0, .ref o), (1, .int set), (2, .int wide), (3, .int high)] := hl
  have k_0 : (0 : Int32).toInt = 0 := by decide
  have k_1 : (1 : Int32).toInt = 1 := by decide
  refine lv_aload_n hx hb dX9_haunts_0 rfl (lv_at hl 0 rfl) ?_
  refine lv_iload_n hx hb dX9_haunts_1 rfl (lv_at hl 1 rfl) ?_
  refine lv_iload_n hx hb dX9_haunts_2 rfl (lv_at hl 2 rfl) ?_
  refine lv_iload_n hx hb dX9_haunts_3 rfl (lv_at hl 3 rfl) ?_
  obtain ⟨_, hM_o, bs_o, js_o, sh_o, wk_o, ll_o, jc_o, lc_o, mo_o, lb_o, rfl, hjc_o, hlc_o, hG_bs_o, hG_js_o, hG_sh_o, hG_wk_o, hmo_o, hG_ll_o, hlb_o⟩ := hT _ _ hG_o
  refine t_calli (va_runV (g := F0 m 4 ls ([.int high, .int wide, .int set, .ref o])) (As := [.int set, .int wide, .int high]) (rest := []) ⟨hx, hb, hml, hown, hts⟩ (c_X9_ghostPlaces_x l D cy A G ws o set wide high hD hT hG_o ) (cwV 3 hts gX9_haunts_X9_ghostPlaces rfl rfl rfl (by decide +kernel) ⟨Nat.le_of_ble_eq_true rfl, Nat.le_of_ble_eq_true rfl⟩) (e_preV hM_o rfl hP hK hA hS hV hZ) rfl rfl hl.1 rfl (lv_room (Nat.le_of_ble_eq_true rfl)) dX9_haunts_4 ⟨Nat.le_of_ble_eq_true rfl, Nat.le_of_ble_eq_true rfl⟩) hS (fun r4 u H locs q4 hP9 hD9 hT9 hS => ?_)
  obtain ⟨G4, w4⟩ := u
  obtain ⟨hX9, q4⟩ := q4
  have hX9 : cX none (chs [1, 8]) G ws G4 w4 := hX9
  have hP : va_P D vwCl w4 H := hP9
  have hD : va_D A w4 := hD9
  have hT : cT cy G4 w4 := hT9
  have hM_o := hX9.2.1 _ _ (cP.no hG_o rfl) hM_o
  have hG_o := hX9.1 _ _ hG_o
  have hG_bs_o := hX9.1 _ _ hG_bs_o
  have hG_js_o := hX9.1 _ _ hG_js_o
  have hG_sh_o := hX9.1 _ _ hG_sh_o
  have hG_wk_o := hX9.1 _ _ hG_wk_o
  have hG_ll_o := hX9.1 _ _ hG_ll_o
  have hX := hX.tr hX9
  refine lv_istore (lv' := [(4, .int r4), (0, .ref o), (1, .int set), (2, .int wide), (3, .int high)]) hx hb dX9_haunts_7 hl (by decide) rfl (fun ls hl => ?_)
  refine lv_iload hx hb dX9_haunts_9 (lv_at hl 0 rfl) ?_
  refine lv_if_le (tgt := 18) hx hb dX9_haunts_11 (by decide) (fun c11 => ?_) (fun c11 => ?_)
  · skip
    have d11 := c11
    rw [fa_le] at d11
    refine lv_iload hx hb dX9_haunts_18 (lv_at hl 0 rfl) ?_
    refine W.widen (k := 4) (n := 502) (Nat.le_of_ble_eq_true rfl) (Nat.le_of_ble_eq_true rfl) ?_
    exact W.iret (v := r4) hx hb hr (fun t ht hW => ⟨⟨_, (G4, w4), rfl, ⟨hX, (by unfold gH; rw [if_neg (by omega)]; exact q4)⟩, by show va_P D vwCl w4 t.heap; rw [ht]; exact hP, hD, hT⟩, hS.F ht⟩) hS.2.2 dX9_haunts_20
  · skip
    have d11 := c11
    rw [fa_le] at d11
    refine lv_iconst (v := 1) hx hb dX9_haunts_14 (by decide) ?_
    refine lv_goto (tgt := 20) hx hb dX9_haunts_15 (by decide) ?_
    refine W.widen (k := 4) (n := 502) (Nat.le_of_ble_eq_true rfl) (Nat.le_of_ble_eq_true rfl) ?_
    exact W.iret (v := (1 : Int32)) hx hb hr (fun t ht hW => ⟨⟨_, (G4, w4), rfl, ⟨hX, (by unfold gH; rw [if_pos (by omega)]; rfl)⟩, by show va_P D vwCl w4 t.heap; rw [ht]; exact hP, hD, hT⟩, hS.F ht⟩) hS.2.2 dX9_haunts_20
set_option maxHeartbeats 4000000 in
set_option maxRecDepth 100000 in
theorem c_X9_ghosts_x (l : Launch) (D : va_G) (cy : Nat → ClassId) (A : Nat → Prop) (G : cG) (ws : va_W) (o : Nat) (set : Int32) (wide : Int32) (high : Int32)  (hD : va_D A ws) (hT : cT cy G ws) (hG_o : G o = some (7, 0, 0))  : Ei l D cy A yX9_ghosts wsX9_ghosts ({ frames := 6, cells := 4, slots := 502, locals := 142 }) 4 502 ws [.ref o, .int set, .int wide, .int high] (fun r0 u => cX none (chs [1, 8]) G ws u.1 u.2 ∧ (r0.toInt = gA set wide high)) := by
  refine Met.ofW (cc := cX9_ghosts) (maxL := 4) (ret := (some .int)) (by decide) rfl ?_
  intro p e s m args below meth c s₁ B hml hv
  obtain ⟨rfl, ⟨hP, hK, hA, hV⟩, hZ⟩ := hv
  obtain ⟨tX, tY, xX, xY, ⟨zX1, zX2, zX5⟩, ⟨zY1, zY2, zY5⟩⟩ := id hZ
  have hx := B.exec
  have hb := B.bytes
  have hr := B.returns
  have hts := atoms_spec (ws := wsX9_ghosts) B.pre
  have hown : s.vm.findClass RX9 = some m.cls := findClass_of_methodNamed B.named
  have hlocks := B.notSynchronized
  have hS : va_S A s.heap s.heap [] := va_S.rf
  have hX : cX none (chs [1, 8]) G ws G ws := cX.rf
  have hl := lv_entry ([.ref o, .int set, .int wide, .int high]) (n := 4) (Nat.le_of_ble_eq_true rfl)
  rw [lg_entry_eq]
  generalize (lg_sl ([.ref o, .int set, .int wide, .int high]) ++ List.replicate (4 - (lg_sl ([.ref o, .int set, .int wide, .int high])).length) Slot.unset).toArray = ls at hl ⊢
  have hl : lv_has ls 4 [(0, .ref o), (1, .int set), (2, .int wide), (3, .int high)] := hl
  have k_0 : (0 : Int32).toInt = 0 := by decide
  refine lv_aload_n hx hb dX9_ghosts_0 rfl (lv_at hl 0 rfl) ?_
  refine lv_iload_n hx hb dX9_ghosts_1 rfl (lv_at hl 1 rfl) ?_
  refine lv_iload_n hx hb dX9_ghosts_2 rfl (lv_at hl 2 rfl) ?_
  refine lv_iload_n hx hb dX9_ghosts_3 rfl (lv_at hl 3 rfl) ?_
  obtain ⟨_, hM_o, bs_o, js_o, sh_o, wk_o, ll_o, jc_o, lc_o, mo_o, lb_o, rfl, hjc_o, hlc_o, hG_bs_o, hG_js_o, hG_sh_o, hG_wk_o, hmo_o, hG_ll_o, hlb_o⟩ := hT _ _ hG_o
  refine t_calli (va_runV (g := F0 m 4 ls ([.int high, .int wide, .int set, .ref o])) (As := [.int set, .int wide, .int high]) (rest := []) ⟨hx, hb, hml, hown, hts⟩ (c_X9_ghostPlaces_x l D cy A G ws o set wide high hD hT hG_o ) (cwV 3 hts gX9_ghosts_X9_ghostPlaces rfl rfl rfl (by decide +kernel) ⟨Nat.le_of_ble_eq_true rfl, Nat.le_of_ble_eq_true rfl⟩) (e_preV hM_o rfl hP hK hA hS hV hZ) rfl rfl hl.1 rfl (lv_room (Nat.le_of_ble_eq_true rfl)) dX9_ghosts_4 ⟨Nat.le_of_ble_eq_true rfl, Nat.le_of_ble_eq_true rfl⟩) hS (fun r4 u H locs q4 hP9 hD9 hT9 hS => ?_)
  obtain ⟨G4, w4⟩ := u
  obtain ⟨hX9, q4⟩ := q4
  have hX9 : cX none (chs [1, 8]) G ws G4 w4 := hX9
  have hP : va_P D vwCl w4 H := hP9
  have hD : va_D A w4 := hD9
  have hT : cT cy G4 w4 := hT9
  have hM_o := hX9.2.1 _ _ (cP.no hG_o rfl) hM_o
  have hG_o := hX9.1 _ _ hG_o
  have hG_bs_o := hX9.1 _ _ hG_bs_o
  have hG_js_o := hX9.1 _ _ hG_js_o
  have hG_sh_o := hX9.1 _ _ hG_sh_o
  have hG_wk_o := hX9.1 _ _ hG_wk_o
  have hG_ll_o := hX9.1 _ _ hG_ll_o
  have hX := hX.tr hX9
  refine W.widen (k := 4) (n := 502) (Nat.le_of_ble_eq_true rfl) (Nat.le_of_ble_eq_true rfl) ?_
  exact W.iret (v := r4) hx hb hr (fun t ht hW => ⟨⟨_, (G4, w4), rfl, ⟨hX, q4⟩, by show va_P D vwCl w4 t.heap; rw [ht]; exact hP, hD, hT⟩, hS.F ht⟩) hS.2.2 dX9_ghosts_7
set_option maxHeartbeats 4000000 in
set_option maxRecDepth 100000 in
theorem c_X10_across_x (l : Launch) (way : Int32)  : Pu l yX10_across wsX10_across ({ frames := 0, cells := 0, slots := 0, locals := 0 }) [.int way] (fun r => r.toInt = (if way.toInt = 1 then 0 else 1)) := by
  refine Met.ofW (cc := cX10_across) (maxL := 1) (ret := (some .int)) (by decide) rfl ?_
  intro p e s m args below meth c s₁ B hml hv
  obtain ⟨rfl, -⟩ := hv
  have hx := B.exec
  have hb := B.bytes
  have hr := B.returns
  have hts := atoms_spec (ws := wsX10_across) B.pre
  have hown : s.vm.findClass RX10 = some m.cls := findClass_of_methodNamed B.named
  have hlocks := B.notSynchronized
  have hS : va_S (fun _ => False) s.heap s.heap [] := va_S.rf
  have hl := lv_entry ([.int way]) (n := 1) (Nat.le_of_ble_eq_true rfl)
  rw [lg_entry_eq]
  generalize (lg_sl ([.int way]) ++ List.replicate (1 - (lg_sl ([.int way])).length) Slot.unset).toArray = ls at hl ⊢
  have hl : lv_has ls 1 [(0, .int way)] := hl
  have hS0 := hS
  have k_0 : (0 : Int32).toInt = 0 := by decide
  have k_1 : (1 : Int32).toInt = 1 := by decide
  refine lv_iload_n hx hb dX10_across_0 rfl (lv_at hl 0 rfl) ?_
  refine lv_iconst (v := 1) hx hb dX10_across_1 (by decide) ?_
  refine lv_icmp_ne (tgt := 9) hx hb dX10_across_2 (by decide) (fun c2 => ?_) (fun c2 => ?_)
  · skip
    have d2 := c2
    rw [fa_eq] at d2
    refine lv_iconst (v := 1) hx hb dX10_across_9 (by decide) ?_
    exact W.iret (v := (1 : Int32)) hx hb hr (fun t ht hW => ⟨⟨_, (), rfl, (by first | (rw [if_pos (by omega)]; rfl) | (rw [if_neg (by omega)]; rfl)), trivial⟩, hS.F ht⟩) hS.2.2 dX10_across_10
  · skip
    have d2 := c2
    rw [fa_eq] at d2
    refine lv_iconst (v := 0) hx hb dX10_across_5 (by decide) ?_
    refine lv_goto (tgt := 10) hx hb dX10_across_6 (by decide) ?_
    exact W.iret (v := (0 : Int32)) hx hb hr (fun t ht hW => ⟨⟨_, (), rfl, (by first | (rw [if_pos (by omega)]; rfl) | (rw [if_neg (by omega)]; rfl)), trivial⟩, hS.F ht⟩) hS.2.2 dX10_across_10

set_option maxHeartbeats 4000000 in
set_option maxRecDepth 100000 in
theorem c_X10_placesOf_x (l : Launch) (D : va_G) (cy : Nat → ClassId) (mo : Nat) (a : Nat → Nat) (f : Nat → Int32) (g : Nat → Int64) (r : Nat → Nat → Int32) (q : Nat → Nat → Int64) (ways : Int32) (w : Int32) (h : Int32) (hD : DM cy mo a) (hw : 1 ≤ w.toInt ∧ w.toInt ≤ 6) (hh : 1 ≤ h.toInt ∧ h.toInt ≤ 6) : Mi l D cy mo a yX10_placesOf wsX10_placesOf ({ frames := 1, cells := 0, slots := 0, locals := 20 }) f g r q [.int ways, .int w, .int h] (fun r0 u => u = (f, g, r, q) ∧ (r0.toInt = gP ways w h)) := by
  refine Met.ofW (cc := cX10_placesOf) (maxL := 8) (ret := (some .int)) (by decide) rfl ?_
  intro p e s m args below meth c s₁ B hml hv
  obtain ⟨rfl, hP, hK⟩ := hv
  have hx := B.exec
  have hb := B.bytes
  have hr := B.returns
  have hts := atoms_spec (ws := wsX10_placesOf) B.pre
  skip
  have hown : s.vm.findClass RX10 = some m.cls := findClass_of_methodNamed B.named
  have hlocks := B.notSynchronized
  have hS : va_S (AM mo a) s.heap s.heap [] := va_S.rf
  have hl := lv_entry ([.ref mo, .int ways, .int w, .int h]) (n := 8) (Nat.le_of_ble_eq_true rfl)
  rw [lg_entry_eq]
  generalize (lg_sl ([.ref mo, .int ways, .int w, .int h]) ++ List.replicate (8 - (lg_sl ([.ref mo, .int ways, .int w, .int h])).length) Slot.unset).toArray = ls at hl ⊢
  have hl : lv_has ls 8 [(0, .ref mo), (1, .int ways), (2, .int w), (3, .int h)] := hl
  have k_0 : (0 : Int32).toInt = 0 := by decide
  have k_1 : (1 : Int32).toInt = 1 := by decide
  have k_4 : (4 : Int32).toInt = 4 := by decide
  refine lv_iconst (v := 1) hx hb dX10_placesOf_0 (by decide) ?_
  refine lv_istore (lv' := [(4, .int (1 : Int32)), (0, .ref mo), (1, .int ways), (2, .int w), (3, .int h)]) hx hb dX10_placesOf_1 hl (by decide) rfl (fun ls hl => ?_)
  refine lv_iconst (v := 1) hx hb dX10_placesOf_3 (by decide) ?_
  refine lv_istore (lv' := [(5, .int (1 : Int32)), (4, .int (1 : Int32)), (0, .ref mo), (1, .int ways), (2, .int w), (3, .int h)]) hx hb dX10_placesOf_4 hl (by decide) rfl (fun ls hl => ?_)
  refine lv_iconst (v := 0) hx hb dX10_placesOf_6 (by decide) ?_
  refine lv_istore (lv' := [(6, .int (0 : Int32)), (5, .int (1 : Int32)), (4, .int (1 : Int32)), (0, .ref mo), (1, .int ways), (2, .int w), (3, .int h)]) hx hb dX10_placesOf_7 hl (by decide) rfl (fun ls hl => ?_)
  have loop_9 : ∀ (n : Nat) (k : Nat) (x5 : Int32) (x4 : Int32), (k ≤ 4) → (x4.toInt = 1 + gX ways k) → (x5.toInt = 1 + gY ways k) → 4 - k < n → ∀ (H : Heap) (locs : List Loc), va_P D vwCl (WM cy mo a f g r q) H → va_S (AM mo a) s.heap H locs → ∀ (ls : Array Slot), lv_has ls 8 [(6, .int (nI k)), (5, .int x5), (4, .int x4), (0, .ref mo), (1, .int ways), (2, .int w), (3, .int h)] → W p l e (headSpec wsX10_placesOf ({ frames := 1, cells := 0, slots := 0, locals := 20 })).room s m #[Value.ref mo, Value.int ways, Value.int w, Value.int h] below meth c H locs 0 0 (MQ below (va_Qi (fun r0 u => u = (f, g, r, q) ∧ (r0.toInt = gP ways w h)) (mB D cy mo a) (AM mo a)) #[Value.ref mo, Value.int ways, Value.int w, Value.int h] s 0 0 (AM mo a)) (F0 m 9 ls []) := by
    intro n
    induction n with
    | zero => intro k x5 x4  j9_0 j9_1 j9_2 hn; exact absurd hn (Nat.not_lt_zero _)
    | succ n ih_9 =>
      intro k x5 x4  j9_0 j9_1 j9_2 hn_9 H locs hP hS ls hl
      have ik : (nI k).toInt = (k : Int) := nI_toInt (by omega)
      have bx := gX_b ways k
      have by9 := gY_b ways k
      refine lv_iload hx hb dX10_placesOf_9 (lv_at hl 0 rfl) ?_
      refine lv_iconst (v := 4) hx hb dX10_placesOf_11 (by decide) ?_
      refine lv_icmp_ge (tgt := 77) hx hb dX10_placesOf_12 (by decide) (fun c12 => ?_) (fun c12 => ?_)
      · skip
        have d12 := c12
        rw [fa_le] at d12
        obtain rfl : k = 4 := by omega
        refine lv_iload_n hx hb dX10_placesOf_77 rfl (lv_at hl 5 rfl) ?_
        refine lv_iload hx hb dX10_placesOf_78 (lv_at hl 2 rfl) ?_
        refine lv_icmp_lt (tgt := 89) hx hb dX10_placesOf_80 (by decide) (fun c80 => ?_) (fun c80 => ?_)
        · skip
          have d80 := c80
          rw [fa_lt] at d80
          refine lv_iconst (v := 0) hx hb dX10_placesOf_89 (by decide) ?_
          refine lv_goto (tgt := 106) hx hb dX10_placesOf_90 (by decide) ?_
          exact W.iret (v := (0 : Int32)) hx hb hr (fun t ht hW => ⟨⟨_, (f, g, r, q), rfl, ⟨rfl, (by rw [gP_zero (by omega)]; rfl)⟩, by unfold mB; rw [ht]; exact hP⟩, hS.F ht⟩) hS.2.2 dX10_placesOf_106
        · skip
          have d80 := c80
          rw [fa_lt] at d80
          refine lv_iload_n hx hb dX10_placesOf_83 rfl (lv_at hl 6 rfl) ?_
          refine lv_iload hx hb dX10_placesOf_84 (lv_at hl 1 rfl) ?_
          refine lv_icmp_ge (tgt := 93) hx hb dX10_placesOf_86 (by decide) (fun c86 => ?_) (fun c86 => ?_)
          · skip
            have d86 := c86
            rw [fa_le] at d86
            refine lv_iload_n hx hb dX10_placesOf_93 rfl (lv_at hl 5 rfl) ?_
            refine lv_iload hx hb dX10_placesOf_94 (lv_at hl 2 rfl) ?_
            refine lv_isub hx hb dX10_placesOf_96 ?_
            refine lv_topi (fun v96 e96 => ?_)
            have i96 : v96.toInt = w.toInt - x4.toInt := by rw [e96]; exact fb_subI (by omega) (by omega)
            refine lv_iconst (v := 1) hx hb dX10_placesOf_97 (by decide) ?_
            refine lv_iadd hx hb dX10_placesOf_98 ?_
            refine lv_topi (fun v98 e98 => ?_)
            have i98 : v98.toInt = v96.toInt + (1 : Int32).toInt := by rw [e98]; exact fb_addI (by omega) (by omega)
            refine lv_iload_n hx hb dX10_placesOf_99 rfl (lv_at hl 6 rfl) ?_
            refine lv_iload hx hb dX10_placesOf_100 (lv_at hl 1 rfl) ?_
            refine lv_isub hx hb dX10_placesOf_102 ?_
            refine lv_topi (fun v102 e102 => ?_)
            have i102 : v102.toInt = h.toInt - x5.toInt := by rw [e102]; exact fb_subI (by omega) (by omega)
            refine lv_iconst (v := 1) hx hb dX10_placesOf_103 (by decide) ?_
            refine lv_iadd hx hb dX10_placesOf_104 ?_
            refine lv_topi (fun v104 e104 => ?_)
            have i104 : v104.toInt = v102.toInt + (1 : Int32).toInt := by rw [e104]; exact fb_addI (by omega) (by omega)
            have m105 := mul66 (w := v98) (h := v104) (by omega) (by omega)
            refine lv_imul hx hb dX10_placesOf_105 ?_
            refine lv_topi (fun v105 e105 => ?_)
            have i105 : v105.toInt = v98.toInt * v104.toInt := by rw [e105]; exact fb_mulI (by omega) (by omega)
            exact W.iret (v := v105) hx hb hr (fun t ht hW => ⟨⟨_, (f, g, r, q), rfl, ⟨rfl, (by rw [gP_pos (x := v98.toInt) (y := v104.toInt) (by omega) (by omega) (by omega) (by omega)]; exact i105)⟩, by unfold mB; rw [ht]; exact hP⟩, hS.F ht⟩) hS.2.2 dX10_placesOf_106
          · skip
            have d86 := c86
            rw [fa_le] at d86
            refine lv_iconst (v := 0) hx hb dX10_placesOf_89 (by decide) ?_
            refine lv_goto (tgt := 106) hx hb dX10_placesOf_90 (by decide) ?_
            exact W.iret (v := (0 : Int32)) hx hb hr (fun t ht hW => ⟨⟨_, (f, g, r, q), rfl, ⟨rfl, (by rw [gP_zero (by omega)]; rfl)⟩, by unfold mB; rw [ht]; exact hP⟩, hS.F ht⟩) hS.2.2 dX10_placesOf_106
      · skip
        have d12 := c12
        rw [fa_le] at d12
        refine lv_iload_n hx hb dX10_placesOf_15 rfl (lv_at hl 4 rfl) ?_
        refine lv_iload hx hb dX10_placesOf_16 (lv_at hl 0 rfl) ?_
        refine lv_ishr hx hb dX10_placesOf_18 ?_
        refine lv_topi (fun v18 e18 => ?_)
        refine lv_iconst (v := 1) hx hb dX10_placesOf_19 (by decide) ?_
        refine lv_iand hx hb dX10_placesOf_20 ?_
        refine lv_topi (fun v20 e20 => ?_)
        refine lv_iconst (v := 1) hx hb dX10_placesOf_21 (by decide) ?_
        have hB : gB ways k = v20 := by rw [e20, e18]; rfl
        refine lv_icmp_ne (tgt := 29) hx hb dX10_placesOf_22 (by decide) (fun c22 => ?_) (fun c22 => ?_)
        · skip
          have d22 := c22
          rw [fa_eq] at d22
          have hx1 := gX_0 (set := ways) (k := k) (fun z => c22 (hB.symm.trans z))
          have hy1 := gY_0 (set := ways) (k := k) (fun z => c22 (hB.symm.trans z))
          refine lv_iconst (v := 0) hx hb dX10_placesOf_29 (by decide) ?_
          refine lv_istore (lv' := [(7, .int (0 : Int32)), (6, .int (nI k)), (5, .int x5), (4, .int x4), (0, .ref mo), (1, .int ways), (2, .int w), (3, .int h)]) hx hb dX10_placesOf_30 hl (by decide) rfl (fun ls hl => ?_)
          refine lv_iload hx hb dX10_placesOf_32 (lv_at hl 3 rfl) ?_
          refine lv_iload hx hb dX10_placesOf_34 (lv_at hl 0 rfl) ?_
          refine lv_if_eq (tgt := 47) hx hb dX10_placesOf_36 (by decide) (fun c36 => ?_) (fun c36 => ?_)
          · skip
            have d36 := c36
            rw [fa_eq] at d36
            refine lv_iconst (v := 0) hx hb dX10_placesOf_47 (by decide) ?_
            refine lv_iadd hx hb dX10_placesOf_48 ?_
            refine lv_topi (fun v48 e48 => ?_)
            have i48 : v48.toInt = x4.toInt + (0 : Int32).toInt := by rw [e48]; exact fb_addI (by omega) (by omega)
            refine lv_istore (lv' := [(4, .int v48), (7, .int (0 : Int32)), (6, .int (nI k)), (5, .int x5), (0, .ref mo), (1, .int ways), (2, .int w), (3, .int h)]) hx hb dX10_placesOf_49 hl (by decide) rfl (fun ls hl => ?_)
            refine lv_iload hx hb dX10_placesOf_51 (lv_at hl 3 rfl) ?_
            refine lv_iload hx hb dX10_placesOf_53 (lv_at hl 1 rfl) ?_
            refine lv_if_eq (tgt := 67) hx hb dX10_placesOf_55 (by decide) (fun c55 => ?_) (fun c55 => ?_)
            · skip
              have d55 := c55
              rw [fa_eq] at d55
              first | have a67 : gdy k = 0 := (by unfold gdy; rw [if_pos (by omega)]) | skip
              refine lv_iconst (v := 0) hx hb dX10_placesOf_67 (by decide) ?_
              refine lv_iadd hx hb dX10_placesOf_68 ?_
              refine lv_topi (fun v68 e68 => ?_)
              have i68 : v68.toInt = x5.toInt + (0 : Int32).toInt := by rw [e68]; exact fb_addI (by omega) (by omega)
              refine lv_istore (lv' := [(5, .int v68), (4, .int v48), (7, .int (0 : Int32)), (6, .int (nI k)), (0, .ref mo), (1, .int ways), (2, .int w), (3, .int h)]) hx hb dX10_placesOf_69 hl (by decide) rfl (fun ls hl => ?_)
              refine lv_iinc (v := (nI (k + 1))) (lv' := [(6, .int (nI (k + 1))), (5, .int v68), (4, .int v48), (7, .int (0 : Int32)), (0, .ref mo), (1, .int ways), (2, .int w), (3, .int h)]) hx hb dX10_placesOf_71 hl (k := 3) rfl (nI_1 _) (by decide) rfl (fun ls hl => ?_)
              refine lv_goto (tgt := 9) hx hb dX10_placesOf_74 (by decide) ?_
              exact ih_9 (k + 1) v68 v48 (by omega) (by omega) (by omega) (by omega) _ _ hP hS ls (lv_sub hl [0, 1, 2, 4, 5, 6, 7] rfl)
            · first | exact absurd c55 (by decide) | exact absurd (by decide) c55
          · first | exact absurd c36 (by decide) | exact absurd (by decide) c36
        · skip
          have d22 := c22
          rw [fa_eq] at d22
          have hx1 := gX_1 (hB.trans c22)
          have hy1 := gY_1 (hB.trans c22)
          have dxb := gdx_b k
          have dyb := gdy_b k
          refine lv_iconst (v := 1) hx hb dX10_placesOf_25 (by decide) ?_
          refine lv_goto (tgt := 30) hx hb dX10_placesOf_26 (by decide) ?_
          refine lv_istore (lv' := [(7, .int (1 : Int32)), (6, .int (nI k)), (5, .int x5), (4, .int x4), (0, .ref mo), (1, .int ways), (2, .int w), (3, .int h)]) hx hb dX10_placesOf_30 hl (by decide) rfl (fun ls hl => ?_)
          refine lv_iload hx hb dX10_placesOf_32 (lv_at hl 3 rfl) ?_
          refine lv_iload hx hb dX10_placesOf_34 (lv_at hl 0 rfl) ?_
          refine lv_if_eq (tgt := 47) hx hb dX10_placesOf_36 (by decide) (fun c36 => ?_) (fun c36 => ?_)
          · first | exact absurd c36 (by decide) | exact absurd (by decide) c36
          · skip
            have d36 := c36
            rw [fa_eq] at d36
            refine lv_iload hx hb dX10_placesOf_39 (lv_at hl 1 rfl) ?_
            refine m_pu (As := [.int (nI k)]) (rest := [.int x4]) ⟨hx, hb, hml, hown, hts⟩ (c_X10_across_x l (nI k) ) (va_cwS 1 hts gX10_placesOf_X10_across rfl rfl rfl (by decide +kernel) ⟨Nat.le_of_ble_eq_true rfl, Nat.le_of_ble_eq_true rfl⟩) hP rfl hl.1 rfl (Nat.le_of_ble_eq_true rfl) dX10_placesOf_41 ⟨Nat.le_of_ble_eq_true rfl, Nat.le_of_ble_eq_true rfl⟩ hS (fun r41 H locs q41 hP hS => ?_)
            have a41 : r41.toInt = gdx k := by rw [q41, ik]; unfold gdx; split <;> split <;> omega
            refine lv_goto (tgt := 48) hx hb dX10_placesOf_44 (by decide) ?_
            refine lv_iadd hx hb dX10_placesOf_48 ?_
            refine lv_topi (fun v48 e48 => ?_)
            have i48 : v48.toInt = x4.toInt + r41.toInt := by rw [e48]; exact fb_addI (by omega) (by omega)
            refine lv_istore (lv' := [(4, .int v48), (7, .int (1 : Int32)), (6, .int (nI k)), (5, .int x5), (0, .ref mo), (1, .int ways), (2, .int w), (3, .int h)]) hx hb dX10_placesOf_49 hl (by decide) rfl (fun ls hl => ?_)
            refine lv_iload hx hb dX10_placesOf_51 (lv_at hl 3 rfl) ?_
            refine lv_iload hx hb dX10_placesOf_53 (lv_at hl 1 rfl) ?_
            refine lv_if_eq (tgt := 67) hx hb dX10_placesOf_55 (by decide) (fun c55 => ?_) (fun c55 => ?_)
            · first | exact absurd c55 (by decide) | exact absurd (by decide) c55
            · skip
              have d55 := c55
              rw [fa_eq] at d55
              refine lv_iload hx hb dX10_placesOf_58 (lv_at hl 2 rfl) ?_
              refine lv_if_le (tgt := 67) hx hb dX10_placesOf_60 (by decide) (fun c60 => ?_) (fun c60 => ?_)
              · skip
                have d60 := c60
                rw [fa_le] at d60
                first | have a67 : gdy k = 0 := (by unfold gdy; rw [if_pos (by omega)]) | skip
                refine lv_iconst (v := 0) hx hb dX10_placesOf_67 (by decide) ?_
                refine lv_iadd hx hb dX10_placesOf_68 ?_
                refine lv_topi (fun v68 e68 => ?_)
                have i68 : v68.toInt = x5.toInt + (0 : Int32).toInt := by rw [e68]; exact fb_addI (by omega) (by omega)
                refine lv_istore (lv' := [(5, .int v68), (4, .int v48), (7, .int (1 : Int32)), (6, .int (nI k)), (0, .ref mo), (1, .int ways), (2, .int w), (3, .int h)]) hx hb dX10_placesOf_69 hl (by decide) rfl (fun ls hl => ?_)
                refine lv_iinc (v := (nI (k + 1))) (lv' := [(6, .int (nI (k + 1))), (5, .int v68), (4, .int v48), (7, .int (1 : Int32)), (0, .ref mo), (1, .int ways), (2, .int w), (3, .int h)]) hx hb dX10_placesOf_71 hl (k := 3) rfl (nI_1 _) (by decide) rfl (fun ls hl => ?_)
                refine lv_goto (tgt := 9) hx hb dX10_placesOf_74 (by decide) ?_
                exact ih_9 (k + 1) v68 v48 (by omega) (by omega) (by omega) (by omega) _ _ hP hS ls (lv_sub hl [0, 1, 2, 4, 5, 6, 7] rfl)
              · skip
                have d60 := c60
                rw [fa_le] at d60
                have a63 : gdy k = 1 := by unfold gdy; rw [if_neg (by omega)]
                refine lv_iconst (v := 1) hx hb dX10_placesOf_63 (by decide) ?_
                refine lv_goto (tgt := 68) hx hb dX10_placesOf_64 (by decide) ?_
                refine lv_iadd hx hb dX10_placesOf_68 ?_
                refine lv_topi (fun v68 e68 => ?_)
                have i68 : v68.toInt = x5.toInt + (1 : Int32).toInt := by rw [e68]; exact fb_addI (by omega) (by omega)
                refine lv_istore (lv' := [(5, .int v68), (4, .int v48), (7, .int (1 : Int32)), (6, .int (nI k)), (0, .ref mo), (1, .int ways), (2, .int w), (3, .int h)]) hx hb dX10_placesOf_69 hl (by decide) rfl (fun ls hl => ?_)
                refine lv_iinc (v := (nI (k + 1))) (lv' := [(6, .int (nI (k + 1))), (5, .int v68), (4, .int v48), (7, .int (1 : Int32)), (0, .ref mo), (1, .int ways), (2, .int w), (3, .int h)]) hx hb dX10_placesOf_71 hl (k := 3) rfl (nI_1 _) (by decide) rfl (fun ls hl => ?_)
                refine lv_goto (tgt := 9) hx hb dX10_placesOf_74 (by decide) ?_
                exact ih_9 (k + 1) v68 v48 (by omega) (by omega) (by omega) (by omega) _ _ hP hS ls (lv_sub hl [0, 1, 2, 4, 5, 6, 7] rfl)
  exact loop_9 (4 + 1) 0 (1 : Int32) (1 : Int32) (by omega) (by simp [gX]) (by simp [gY]) (by omega) _ _ hP hS ls (lv_sub hl [0, 1, 2, 3, 4, 5, 6] rfl)
set_option maxHeartbeats 4000000 in
set_option maxRecDepth 100000 in
theorem c_X10_haunts_x (l : Launch) (D : va_G) (cy : Nat → ClassId) (mo : Nat) (a : Nat → Nat) (f : Nat → Int32) (g : Nat → Int64) (r : Nat → Nat → Int32) (q : Nat → Nat → Int64) (ways : Int32) (w : Int32) (h : Int32) (hD : DM cy mo a)  : Mi l D cy mo a yX10_haunts wsX10_haunts ({ frames := 2, cells := 0, slots := 0, locals := 47 }) f g r q [.int ways, .int w, .int h] (fun r0 u => u = ((upd f 0 (0 : Int32)), g, r, q) ∧ (r0.toInt = gH ways w h)) := by
  refine Met.ofW (cc := cX10_haunts) (maxL := 4) (ret := (some .int)) (by decide) rfl ?_
  intro p e s m args below meth c s₁ B hml hv
  obtain ⟨rfl, hP, hK⟩ := hv
  have hx := B.exec
  have hb := B.bytes
  have hr := B.returns
  have hts := atoms_spec (ws := wsX10_haunts) B.pre
  have hin : ∀ w ∈ u_ws RX10 TX10 35, w ∈ wsX10_haunts := by decide +kernel
  have hown : s.vm.findClass RX10 = some m.cls := findClass_of_methodNamed B.named
  have hlocks := B.notSynchronized
  have hS : va_S (AM mo a) s.heap s.heap [] := va_S.rf
  have hl := lv_entry ([.ref mo, .int ways, .int w, .int h]) (n := 4) (Nat.le_of_ble_eq_true rfl)
  rw [lg_entry_eq]
  generalize (lg_sl ([.ref mo, .int ways, .int w, .int h]) ++ List.replicate (4 - (lg_sl ([.ref mo, .int ways, .int w, .int h])).length) Slot.unset).toArray = ls at hl ⊢
  have hl : lv_has ls 4 [(0, .ref mo), (1, .int ways), (2, .int w), (3, .int h)] := hl
  have k_m1 : (-1 : Int32).toInt = -1 := by decide
  have k_0 : (0 : Int32).toInt = 0 := by decide
  have k_1 : (1 : Int32).toInt = 1 := by decide
  have k_1L : (1 : Int64).toInt = 1 := by decide
  have k_15L : (15 : Int64).toInt = 15 := by decide
  refine lv_aload_n hx hb dX10_haunts_0 rfl (lv_at hl 0 rfl) ?_
  refine lv_iconst (v := 0) hx hb dX10_haunts_1 (by decide) ?_
  refine m_put (v := .int (0 : Int32)) (ty := .int) hx hb hts hin hown hK hP hD hS 0 (by decide) rfl (hts (.fieldLink RX10 79 "ShadowBenchModel" "thrown" "I") (by decide +kernel)) rfl (by decide +kernel) rfl rfl (upd f 0 (0 : Int32)) g rfl dX10_haunts_2 (fun H locs hP hS => ?_)
  refine lv_iload_n hx hb dX10_haunts_5 rfl (lv_at hl 1 rfl) ?_
  refine lv_i2l (v := ways.toInt64) hx hb dX10_haunts_6 rfl ?_
  refine lv_lconst (v := 1) hx hb dX10_haunts_7 (by decide) ?_
  refine lv_ldc2 hx hb hown (hts (.constantLong RX10 228 (15)) (by decide +kernel)) dX10_haunts_8 ?_
  refine m_pu (As := [.long (ways.toInt64), .long (1 : Int64), .long (15 : Int64)]) (rest := []) ⟨hx, hb, hml, hown, hts⟩ (c_X10_isIn l ways.toInt64 (1 : Int64) (15 : Int64) ) (va_cwS 3 hts gX10_haunts_X10_isIn rfl rfl rfl (by decide +kernel) ⟨Nat.le_of_ble_eq_true rfl, Nat.le_of_ble_eq_true rfl⟩) hP rfl hl.1 rfl (Nat.le_of_ble_eq_true rfl) dX10_haunts_11 ⟨Nat.le_of_ble_eq_true rfl, Nat.le_of_ble_eq_true rfl⟩ hS (fun r11 H locs q11 hP hS => ?_)
  have q11 := q11
  simp only [k64, show (0 : Int64).toInt = 0 from rfl, show (1 : Int64).toInt = 1 from rfl, show (2 : Int64).toInt = 2 from rfl, show (3 : Int64).toInt = 3 from rfl, show (6 : Int64).toInt = 6 from rfl] at q11
  refine lv_if_eq (tgt := 25) hx hb dX10_haunts_14 (by decide) (fun c14 => ?_) (fun c14 => ?_)
  · skip
    have b14 := bo_f q11 c14
    refine lv_iconst (v := (-1)) hx hb dX10_haunts_25 (by decide) ?_
    refine lv_goto (tgt := 44) hx hb dX10_haunts_26 (by decide) ?_
    exact W.iret (v := ((-1) : Int32)) hx hb hr (fun t ht hW => ⟨⟨_, ((upd f 0 (0 : Int32)), g, r, q), rfl, ⟨rfl, (by unfold gH; rw [gA_no (by omega)]; rfl)⟩, by unfold mB; rw [ht]; exact hP⟩, hS.F ht⟩) hS.2.2 dX10_haunts_44
  · skip
    have b14 := bo_t q11 c14
    refine lv_iload_n hx hb dX10_haunts_17 rfl (lv_at hl 2 rfl) ?_
    refine lv_iload_n hx hb dX10_haunts_18 rfl (lv_at hl 3 rfl) ?_
    refine m_pu (As := [.int w, .int h]) (rest := []) ⟨hx, hb, hml, hown, hts⟩ (c_X10_isBoard l w h ) (va_cwS 2 hts gX10_haunts_X10_isBoard rfl rfl rfl (by decide +kernel) ⟨Nat.le_of_ble_eq_true rfl, Nat.le_of_ble_eq_true rfl⟩) hP rfl hl.1 rfl (Nat.le_of_ble_eq_true rfl) dX10_haunts_19 ⟨Nat.le_of_ble_eq_true rfl, Nat.le_of_ble_eq_true rfl⟩ hS (fun r19 H locs q19 hP hS => ?_)
    refine lv_if_ne (tgt := 29) hx hb dX10_haunts_22 (by decide) (fun c22 => ?_) (fun c22 => ?_)
    · skip
      have b22 := bo_t q19 c22
      refine lv_aload_n hx hb dX10_haunts_29 rfl (lv_at hl 0 rfl) ?_
      refine lv_iload_n hx hb dX10_haunts_30 rfl (lv_at hl 1 rfl) ?_
      refine lv_iload_n hx hb dX10_haunts_31 rfl (lv_at hl 2 rfl) ?_
      refine lv_iload_n hx hb dX10_haunts_32 rfl (lv_at hl 3 rfl) ?_
      refine m_calli (As := [.int ways, .int w, .int h]) (rest := []) ⟨hx, hb, hml, hown, hts⟩ (c_X10_placesOf_x l D cy mo a (upd f 0 (0 : Int32)) g r q ways w h hD b22.1 b22.2) (cwV 3 hts gX10_haunts_X10_placesOf rfl rfl rfl (by decide +kernel) ⟨Nat.le_of_ble_eq_true rfl, Nat.le_of_ble_eq_true rfl⟩) hK hP rfl hl.1 rfl (Nat.le_of_ble_eq_true rfl) dX10_haunts_33 ⟨Nat.le_of_ble_eq_true rfl, Nat.le_of_ble_eq_true rfl⟩ hS (fun r33 u H locs q33 hP hS => ?_)
      obtain ⟨rfl, q33⟩ := q33
      have hP : va_P D vwCl (WM cy mo a (upd f 0 (0 : Int32)) g r q) H := hP
      have q33 : r33.toInt = gP ways w h := q33
      refine lv_if_le (tgt := 43) hx hb dX10_haunts_36 (by decide) (fun c36 => ?_) (fun c36 => ?_)
      · skip
        have d36 := c36
        rw [fa_le] at d36
        refine lv_iconst (v := 0) hx hb dX10_haunts_43 (by decide) ?_
        exact W.iret (v := (0 : Int32)) hx hb hr (fun t ht hW => ⟨⟨_, ((upd f 0 (0 : Int32)), g, r, q), rfl, ⟨rfl, (by have z9 := gP_b (set := ways) b22.1 b22.2; unfold gH; rw [gA_yes ⟨by omega, b22.1, b22.2⟩, if_neg (by omega)]; show (0 : Int) = _; omega)⟩, by unfold mB; rw [ht]; exact hP⟩, hS.F ht⟩) hS.2.2 dX10_haunts_44
      · skip
        have d36 := c36
        rw [fa_le] at d36
        refine lv_iconst (v := 1) hx hb dX10_haunts_39 (by decide) ?_
        refine lv_goto (tgt := 44) hx hb dX10_haunts_40 (by decide) ?_
        exact W.iret (v := (1 : Int32)) hx hb hr (fun t ht hW => ⟨⟨_, ((upd f 0 (0 : Int32)), g, r, q), rfl, ⟨rfl, (by unfold gH; rw [gA_yes ⟨by omega, b22.1, b22.2⟩, if_pos (by omega)]; rfl)⟩, by unfold mB; rw [ht]; exact hP⟩, hS.F ht⟩) hS.2.2 dX10_haunts_44
    · skip
      have b22 := bo_f q19 c22
      refine lv_iconst (v := (-1)) hx hb dX10_haunts_25 (by decide) ?_
      refine lv_goto (tgt := 44) hx hb dX10_haunts_26 (by decide) ?_
      exact W.iret (v := ((-1) : Int32)) hx hb hr (fun t ht hW => ⟨⟨_, ((upd f 0 (0 : Int32)), g, r, q), rfl, ⟨rfl, (by unfold gH; rw [gA_no (by omega)]; rfl)⟩, by unfold mB; rw [ht]; exact hP⟩, hS.F ht⟩) hS.2.2 dX10_haunts_44
set_option maxHeartbeats 4000000 in
set_option maxRecDepth 100000 in
theorem c_X10_ghosts_x (l : Launch) (D : va_G) (cy : Nat → ClassId) (mo : Nat) (a : Nat → Nat) (f : Nat → Int32) (g : Nat → Int64) (r : Nat → Nat → Int32) (q : Nat → Nat → Int64) (ways : Int32) (w : Int32) (h : Int32) (hD : DM cy mo a)  : Mi l D cy mo a yX10_ghosts wsX10_ghosts ({ frames := 2, cells := 0, slots := 0, locals := 47 }) f g r q [.int ways, .int w, .int h] (fun r0 u => u = ((upd f 0 (0 : Int32)), g, r, q) ∧ (r0.toInt = gA ways w h)) := by
  refine Met.ofW (cc := cX10_ghosts) (maxL := 4) (ret := (some .int)) (by decide) rfl ?_
  intro p e s m args below meth c s₁ B hml hv
  obtain ⟨rfl, hP, hK⟩ := hv
  have hx := B.exec
  have hb := B.bytes
  have hr := B.returns
  have hts := atoms_spec (ws := wsX10_ghosts) B.pre
  have hin : ∀ w ∈ u_ws RX10 TX10 35, w ∈ wsX10_ghosts := by decide +kernel
  have hown : s.vm.findClass RX10 = some m.cls := findClass_of_methodNamed B.named
  have hlocks := B.notSynchronized
  have hS : va_S (AM mo a) s.heap s.heap [] := va_S.rf
  have hl := lv_entry ([.ref mo, .int ways, .int w, .int h]) (n := 4) (Nat.le_of_ble_eq_true rfl)
  rw [lg_entry_eq]
  generalize (lg_sl ([.ref mo, .int ways, .int w, .int h]) ++ List.replicate (4 - (lg_sl ([.ref mo, .int ways, .int w, .int h])).length) Slot.unset).toArray = ls at hl ⊢
  have hl : lv_has ls 4 [(0, .ref mo), (1, .int ways), (2, .int w), (3, .int h)] := hl
  have k_m1 : (-1 : Int32).toInt = -1 := by decide
  have k_0 : (0 : Int32).toInt = 0 := by decide
  have k_1L : (1 : Int64).toInt = 1 := by decide
  have k_15L : (15 : Int64).toInt = 15 := by decide
  refine lv_aload_n hx hb dX10_ghosts_0 rfl (lv_at hl 0 rfl) ?_
  refine lv_iconst (v := 0) hx hb dX10_ghosts_1 (by decide) ?_
  refine m_put (v := .int (0 : Int32)) (ty := .int) hx hb hts hin hown hK hP hD hS 0 (by decide) rfl (hts (.fieldLink RX10 79 "ShadowBenchModel" "thrown" "I") (by decide +kernel)) rfl (by decide +kernel) rfl rfl (upd f 0 (0 : Int32)) g rfl dX10_ghosts_2 (fun H locs hP hS => ?_)
  refine lv_iload_n hx hb dX10_ghosts_5 rfl (lv_at hl 1 rfl) ?_
  refine lv_i2l (v := ways.toInt64) hx hb dX10_ghosts_6 rfl ?_
  refine lv_lconst (v := 1) hx hb dX10_ghosts_7 (by decide) ?_
  refine lv_ldc2 hx hb hown (hts (.constantLong RX10 228 (15)) (by decide +kernel)) dX10_ghosts_8 ?_
  refine m_pu (As := [.long (ways.toInt64), .long (1 : Int64), .long (15 : Int64)]) (rest := []) ⟨hx, hb, hml, hown, hts⟩ (c_X10_isIn l ways.toInt64 (1 : Int64) (15 : Int64) ) (va_cwS 3 hts gX10_ghosts_X10_isIn rfl rfl rfl (by decide +kernel) ⟨Nat.le_of_ble_eq_true rfl, Nat.le_of_ble_eq_true rfl⟩) hP rfl hl.1 rfl (Nat.le_of_ble_eq_true rfl) dX10_ghosts_11 ⟨Nat.le_of_ble_eq_true rfl, Nat.le_of_ble_eq_true rfl⟩ hS (fun r11 H locs q11 hP hS => ?_)
  have q11 := q11
  simp only [k64, show (0 : Int64).toInt = 0 from rfl, show (1 : Int64).toInt = 1 from rfl, show (2 : Int64).toInt = 2 from rfl, show (3 : Int64).toInt = 3 from rfl, show (6 : Int64).toInt = 6 from rfl] at q11
  refine lv_if_eq (tgt := 25) hx hb dX10_ghosts_14 (by decide) (fun c14 => ?_) (fun c14 => ?_)
  · skip
    have b14 := bo_f q11 c14
    refine lv_iconst (v := (-1)) hx hb dX10_ghosts_25 (by decide) ?_
    refine lv_goto (tgt := 36) hx hb dX10_ghosts_26 (by decide) ?_
    exact W.iret (v := ((-1) : Int32)) hx hb hr (fun t ht hW => ⟨⟨_, ((upd f 0 (0 : Int32)), g, r, q), rfl, ⟨rfl, (by rw [gA_no (by omega)]; rfl)⟩, by unfold mB; rw [ht]; exact hP⟩, hS.F ht⟩) hS.2.2 dX10_ghosts_36
  · skip
    have b14 := bo_t q11 c14
    refine lv_iload_n hx hb dX10_ghosts_17 rfl (lv_at hl 2 rfl) ?_
    refine lv_iload_n hx hb dX10_ghosts_18 rfl (lv_at hl 3 rfl) ?_
    refine m_pu (As := [.int w, .int h]) (rest := []) ⟨hx, hb, hml, hown, hts⟩ (c_X10_isBoard l w h ) (va_cwS 2 hts gX10_ghosts_X10_isBoard rfl rfl rfl (by decide +kernel) ⟨Nat.le_of_ble_eq_true rfl, Nat.le_of_ble_eq_true rfl⟩) hP rfl hl.1 rfl (Nat.le_of_ble_eq_true rfl) dX10_ghosts_19 ⟨Nat.le_of_ble_eq_true rfl, Nat.le_of_ble_eq_true rfl⟩ hS (fun r19 H locs q19 hP hS => ?_)
    refine lv_if_ne (tgt := 29) hx hb dX10_ghosts_22 (by decide) (fun c22 => ?_) (fun c22 => ?_)
    · skip
      have b22 := bo_t q19 c22
      refine lv_aload_n hx hb dX10_ghosts_29 rfl (lv_at hl 0 rfl) ?_
      refine lv_iload_n hx hb dX10_ghosts_30 rfl (lv_at hl 1 rfl) ?_
      refine lv_iload_n hx hb dX10_ghosts_31 rfl (lv_at hl 2 rfl) ?_
      refine lv_iload_n hx hb dX10_ghosts_32 rfl (lv_at hl 3 rfl) ?_
      refine m_calli (As := [.int ways, .int w, .int h]) (rest := []) ⟨hx, hb, hml, hown, hts⟩ (c_X10_placesOf_x l D cy mo a (upd f 0 (0 : Int32)) g r q ways w h hD b22.1 b22.2) (cwV 3 hts gX10_ghosts_X10_placesOf rfl rfl rfl (by decide +kernel) ⟨Nat.le_of_ble_eq_true rfl, Nat.le_of_ble_eq_true rfl⟩) hK hP rfl hl.1 rfl (Nat.le_of_ble_eq_true rfl) dX10_ghosts_33 ⟨Nat.le_of_ble_eq_true rfl, Nat.le_of_ble_eq_true rfl⟩ hS (fun r33 u H locs q33 hP hS => ?_)
      obtain ⟨rfl, q33⟩ := q33
      have hP : va_P D vwCl (WM cy mo a (upd f 0 (0 : Int32)) g r q) H := hP
      have q33 : r33.toInt = gP ways w h := q33
      exact W.iret (v := r33) hx hb hr (fun t ht hW => ⟨⟨_, ((upd f 0 (0 : Int32)), g, r, q), rfl, ⟨rfl, (by rw [gA_yes ⟨by omega, b22.1, b22.2⟩]; exact q33)⟩, by unfold mB; rw [ht]; exact hP⟩, hS.F ht⟩) hS.2.2 dX10_ghosts_36
    · skip
      have b22 := bo_f q19 c22
      refine lv_iconst (v := (-1)) hx hb dX10_ghosts_25 (by decide) ?_
      refine lv_goto (tgt := 36) hx hb dX10_ghosts_26 (by decide) ?_
      exact W.iret (v := ((-1) : Int32)) hx hb hr (fun t ht hW => ⟨⟨_, ((upd f 0 (0 : Int32)), g, r, q), rfl, ⟨rfl, (by rw [gA_no (by omega)]; rfl)⟩, by unfold mB; rw [ht]; exact hP⟩, hS.F ht⟩) hS.2.2 dX10_ghosts_36
/-! pictures by their bits -/
def lb (x : Int64) (i : Nat) : Bool := x.toBitVec.getLsbD i
theorem lb_ext {x y : Int64} (h : ∀ i, i < 64 → lb x i = lb y i) : x = y := Int64.toBitVec_inj.mp (BitVec.eq_of_getLsbD_eq (fun i hi => h i hi))
theorem lb_or (x y : Int64) (i : Nat) : lb (x ||| y) i = (lb x i || lb y i) := by unfold lb; rw [Int64.toBitVec_or, BitVec.getLsbD_or]
theorem lb_and (x y : Int64) (i : Nat) : lb (x &&& y) i = (lb x i && lb y i) := by unfold lb; rw [Int64.toBitVec_and, BitVec.getLsbD_and]
theorem lb_xor (x y : Int64) (i : Nat) : lb (x ^^^ y) i = (lb x i ^^ lb y i) := by unfold lb; rw [Int64.toBitVec_xor, BitVec.getLsbD_xor]
theorem lb_big {x : Int64} {i : Nat} (h : 64 ≤ i) : lb x i = false := BitVec.getLsbD_of_ge _ _ h
theorem lb_0 (i : Nat) : lb 0 i = false := BitVec.getLsbD_zero
theorem lb_1 (i : Nat) : lb 1 i = decide (i = 0) := by
  rcases Nat.lt_or_ge i 64 with h | h
  · exact (by decide +kernel : ∀ i, i < 64 → lb 1 i = decide (i = 0)) i h
  · rw [lb_big h, decide_eq_false (by omega)]
theorem lb_m1 : ∀ i, i < 64 → lb (-1) i = true := by decide +kernel
theorem s64_l : ∀ n, n < 64 → (((nI n).toInt64 &&& 63).toBitVec.smod 64).toNat = n := by decide +kernel
theorem s64_u : ∀ n, n < 64 → (((nI n).toInt64.toUInt64 &&& Int64.toUInt64 63).toBitVec % 64).toNat = n := by decide +kernel
theorem lb_shl (n : Nat) (hn : n < 64) (x : Int64) {i : Nat} (hi : i < 64) : lb (x <<< ((nI n).toInt64 &&& 63)) i = (decide (n ≤ i) && lb x (i - n)) := by
  unfold lb
  rw [Int64.toBitVec_shiftLeft]
  show (x.toBitVec <<< (((nI n).toInt64 &&& 63).toBitVec.smod 64).toNat).getLsbD i = _
  rw [s64_l n hn, BitVec.getLsbD_shiftLeft]
  rcases Nat.lt_or_ge i n with h | h
  · simp [h, Nat.not_le.mpr h]
  · simp [hi, h, Nat.not_lt.mpr h]
theorem lb_ushr (n : Nat) (hn : n < 64) (x : Int64) (i : Nat) : lb ((x.toUInt64 >>> ((nI n).toInt64.toUInt64 &&& Int64.toUInt64 63)).toInt64) i = lb x (n + i) := by
  show (x.toUInt64 >>> ((nI n).toInt64.toUInt64 &&& Int64.toUInt64 63)).toBitVec.getLsbD i = x.toUInt64.toBitVec.getLsbD (n + i)
  rw [UInt64.toBitVec_shiftRight]
  show (x.toUInt64.toBitVec >>> (((nI n).toInt64.toUInt64 &&& Int64.toUInt64 63).toBitVec % 64).toNat).getLsbD i = _
  rw [s64_u n hn, BitVec.getLsbD_ushiftRight]
theorem lb_sshr (n : Nat) (hn : n < 64) (x : Int64) {i : Nat} (hi : i < 64) : lb (x >>> ((nI n).toInt64 &&& 63)) i = if n + i < 64 then lb x (n + i) else lb x 63 := by
  unfold lb
  rw [Int64.toBitVec_shiftRight]
  show (x.toBitVec.sshiftRight (((nI n).toInt64 &&& 63).toBitVec.smod 64).toNat).getLsbD i = _
  rw [s64_l n hn, BitVec.getLsbD_sshiftRight, BitVec.msb_eq_getLsbD_last]
  simp [hi]
/-- a single bit -/
theorem lb_l1 {k : Nat} (hk : k < 64) {i : Nat} (hi : i < 64) : lb (l1 k) i = decide (i = k) := by
  unfold l1
  rw [lb_shl k hk 1 hi, lb_1]
  rcases Nat.lt_or_ge i k with h | h
  · rw [decide_eq_false (show ¬ k ≤ i by omega), decide_eq_false (show ¬ i = k by omega)]; rfl
  · rw [decide_eq_true h, Bool.true_and]
    by_cases e : i = k
    · rw [decide_eq_true e, decide_eq_true (by omega)]
    · rw [decide_eq_false e, decide_eq_false (by omega)]
theorem l1_no {p : Int64} {k : Nat} (hk : k < 64) : (p &&& l1 k) = 0 ↔ lb p k = false := by
  constructor
  · intro h
    have t := congrArg (fun x => lb x k) h
    simp only [lb_and, lb_l1 hk hk, lb_0, decide_true, Bool.and_true] at t
    exact t
  · intro h
    apply lb_ext
    intro i hi
    rw [lb_and, lb_l1 hk hi, lb_0]
    by_cases e : i = k
    · rw [e, h]; rfl
    · rw [decide_eq_false e, Bool.and_false]
theorem one_lb (p : Int64) {k : Nat} (hk : k < 64) : r_one p (nI k) = if lb p k then 1 else 0 := by
  have h : (p >>> ((nI k).toInt64 &&& 63)) &&& 1 = if lb p k then (1 : Int64) else 0 := by
    apply lb_ext
    intro i hi
    rw [lb_and, lb_1, lb_sshr k hk p hi]
    by_cases e : i = 0
    · subst e
      rw [if_pos (by omega), decide_eq_true rfl, Bool.and_true, Nat.add_zero]
      cases hb : lb p k
      · simp [lb_0]
      · simp [lb_1]
    · rw [decide_eq_false e, Bool.and_false]
      split
      · rw [lb_1, decide_eq_false e]
      · rw [lb_0]
  unfold r_one
  rw [h]
  split <;> rfl
/-- what a picture of a board is -/
def isPic (n : Nat) (p : Int64) : Prop := 0 ≤ p.toInt ∧ p.toInt < ((2 ^ n : Nat) : Int)
theorem pic_nat {n : Nat} {p : Int64} (hn : n ≤ 36) : isPic n p ↔ p.toBitVec.toNat < 2 ^ n := by
  have h1 : p.toInt = if 2 * p.toBitVec.toNat < 18446744073709551616 then (p.toBitVec.toNat : Int) else (p.toBitVec.toNat : Int) - 18446744073709551616 := BitVec.toInt_eq_toNat_cond _
  have h2 := p.toBitVec.isLt
  have h3 : 2 ^ n ≤ 2 ^ 36 := Nat.pow_le_pow_right (by decide) hn
  unfold isPic
  rw [h1]
  generalize 2 ^ n = N at *
  split <;> omega
theorem pic_u {p : Int64} {n : Nat} (hn : n ≤ 36) : (p.toUInt64 >>> ((nI n).toInt64.toUInt64 &&& Int64.toUInt64 63)).toInt64 = 0 ↔ isPic n p := by
  rw [pic_nat hn, ← Int64.toBitVec_inj, ← BitVec.toNat_inj]
  show (p.toUInt64 >>> ((nI n).toInt64.toUInt64 &&& Int64.toUInt64 63)).toNat = 0 ↔ p.toUInt64.toNat < 2 ^ n
  have h := s64_u n (by omega)
  rw [UInt64.toNat_shiftRight, show ((nI n).toInt64.toUInt64 &&& Int64.toUInt64 63).toNat % 64 = n from h, Nat.shiftRight_eq_div_pow]
  constructor
  · intro h
    have d : p.toUInt64.toNat / 2 ^ n < 1 := by rw [h]; decide
    have e := (Nat.div_lt_iff_lt_mul (Nat.two_pow_pos n)).mp d
    rw [Nat.one_mul] at e
    exact e
  · exact Nat.div_eq_of_lt
theorem pic_hi {n : Nat} {p : Int64} (hn : n ≤ 36) (h : isPic n p) {i : Nat} (hi : n ≤ i) : lb p i = false := by
  have h1 := (pic_nat hn).mp h
  unfold lb
  rw [BitVec.getLsbD]
  exact Nat.testBit_lt_two_pow (Nat.lt_of_lt_of_le h1 (Nat.pow_le_pow_right (by decide) hi))
theorem l1_top : ∀ n, n ≤ 36 → (l1 n).toInt = ((2 ^ n : Nat) : Int) := by decide +kernel
theorem cl_nI {w : Int32} (h : 0 ≤ w.toInt) : nI w.toNatClampNeg = w := by
  have h2 : w.toInt < 2 ^ 31 := Int32.toInt_lt w
  have e := m_cl (x := w) h
  apply Int32.toInt_inj.mp
  rw [nI_toInt (by omega)]
  omega
theorem top_eq {w h : Int32} (hw : 1 ≤ w.toInt ∧ w.toInt ≤ 6) (hh : 1 ≤ h.toInt ∧ h.toInt ≤ 6) : (r_top w h).toInt = ((2 ^ (w.toNatClampNeg * h.toNatClampNeg) : Nat) : Int) := by
  have e1 := cl_nI (w := w) (by omega)
  have e2 := cl_nI (w := h) (by omega)
  have a1 := m_cl (x := w) (by omega)
  have a2 := m_cl (x := h) (by omega)
  have hm : w.toNatClampNeg * h.toNatClampNeg ≤ 6 * 6 := Nat.mul_le_mul (by omega) (by omega)
  unfold r_top
  rw [← e1, ← e2, pk_mul]
  rw [e1, e2]
  exact l1_top _ (by omega)
def goodP (w h : Int32) (p : Int64) : Prop := ((1 ≤ w.toInt ∧ w.toInt ≤ 6) ∧ (1 ≤ h.toInt ∧ h.toInt ≤ 6)) ∧ isPic (w.toNatClampNeg * h.toNatClampNeg) p
theorem goodP_of {w h : Int32} {p : Int64} (hb : ((1 ≤ w.toInt ∧ w.toInt ≤ 6) ∧ (1 ≤ h.toInt ∧ h.toInt ≤ 6)) ∧ 0 ≤ p.toInt ∧ p.toInt < (r_top w h).toInt) : goodP w h p := ⟨hb.1, hb.2.1, by rw [← top_eq hb.1.1 hb.1.2]; exact hb.2.2⟩
theorem goodP_no {w h : Int32} {p : Int64} (hb : ¬ (((1 ≤ w.toInt ∧ w.toInt ≤ 6) ∧ (1 ≤ h.toInt ∧ h.toInt ≤ 6)) ∧ 0 ≤ p.toInt ∧ p.toInt < (r_top w h).toInt)) : ¬ goodP w h p := fun g => hb ⟨g.1, g.2.1, by rw [top_eq g.1.1 g.1.2]; exact g.2.2⟩
theorem wh36 {w h : Int32} (hw : 1 ≤ w.toInt ∧ w.toInt ≤ 6) (hh : 1 ≤ h.toInt ∧ h.toInt ≤ 6) : (1 ≤ w.toNatClampNeg ∧ w.toNatClampNeg ≤ 6) ∧ (1 ≤ h.toNatClampNeg ∧ h.toNatClampNeg ≤ 6) ∧ w.toNatClampNeg * h.toNatClampNeg ≤ 36 ∧ ((w.toNatClampNeg * h.toNatClampNeg : Nat) : Int) = w.toInt * h.toInt := by
  have a1 := m_cl (x := w) (by omega)
  have a2 := m_cl (x := h) (by omega)
  have hm : w.toNatClampNeg * h.toNatClampNeg ≤ 6 * 6 := Nat.mul_le_mul (by omega) (by omega)
  refine ⟨by omega, by omega, by omega, ?_⟩
  rw [Int.natCast_mul, a1, a2]

def tP (w h : Nat) (how : Int) (x y : Nat) : Nat := if how = 0 then x * h + h - 1 - y else if how = 1 then (h - 1 - y) * w + x else x * h + y
theorem tP_b {w h x y : Nat} (how : Int) (hw : w ≤ 6) (hh : h ≤ 6) (hx : x < w) (hy : y < h) : tP w h how x y < 64 := by
  unfold tP
  have h1 : x * h ≤ 5 * 6 := Nat.mul_le_mul (by omega) hh
  have h2 : (h - 1 - y) * w ≤ 5 * 6 := Nat.mul_le_mul (by omega) hw
  split
  · omega
  · split <;> omega
def tF (w h : Nat) (p : Int64) (how : Int) : Nat → Int64
  | 0 => 0
  | n + 1 => tF w h p how n ||| (if lb p n then l1 (tP w h how (n % w) (n / w)) else 0)
def tN (p : Int64) : Nat → Int64
  | 0 => 0
  | n + 1 => tN p n ||| (if lb p n then 0 else l1 n)
def tQ (w h : Nat) (p : Int64) (how : Int) : Int64 := if how = 3 then tN p (w * h) else tF w h p how (w * h)
def tA (w h : Int32) (p : Int64) (how : Int32) (x : Int64) : Prop := (goodP w h p ∧ (0 ≤ how.toInt ∧ how.toInt ≤ 3) ∧ x = tQ w.toNatClampNeg h.toNatClampNeg p how.toInt) ∨ (¬ (goodP w h p ∧ (0 ≤ how.toInt ∧ how.toInt ≤ 3)) ∧ x = -1)
theorem tA_eq {w h : Int32} {p : Int64} {how : Int32} {x y : Int64} (hx : tA w h p how x) (hy : tA w h p how y) : x = y := by
  rcases hx with ⟨a, b, c⟩ | ⟨a, c⟩ <;> rcases hy with ⟨d, e, f⟩ | ⟨d, f⟩
  · rw [c, f]
  · exact absurd ⟨a, b⟩ d
  · exact absurd ⟨d, e⟩ a
  · rw [c, f]
theorem lb_tN (p : Int64) {i : Nat} (hi : i < 64) : ∀ n, n ≤ 64 → lb (tN p n) i = (decide (i < n) && !lb p i) := by
  intro n
  induction n with
  | zero => intro _; rw [decide_eq_false (by omega)]; exact lb_0 i
  | succ n ih =>
    intro hn
    simp only [tN]
    rw [lb_or, ih (by omega)]
    by_cases e : i = n
    · subst e
      cases hb : lb p i
      · simp [hb, lb_l1 hi hi]
      · simp [hb, lb_0]
    · have h1 : lb (if lb p n = true then 0 else l1 n) i = false := by
        split
        · exact lb_0 i
        · rw [lb_l1 (by omega) hi, decide_eq_false e]
      rw [h1, Bool.or_false]
      by_cases e2 : i < n
      · rw [decide_eq_true e2, decide_eq_true (by omega)]
      · rw [decide_eq_false e2, decide_eq_false (by omega)]
theorem l1_mask : ∀ n, n ≤ 36 → ∀ i, i < 64 → lb (l1 n - 1) i = decide (i < n) := by decide +kernel
theorem tN_mask {p : Int64} {n : Nat} (hn : n ≤ 36) : (p ^^^ (-1)) &&& (l1 n - 1) = tN p n := by
  apply lb_ext
  intro i hi
  rw [lb_tN p hi n (by omega), lb_and, lb_xor, lb_m1 i hi, l1_mask n hn i hi, Bool.and_comm]
  simp
theorem tF_1 {w h k i : Nat} {p : Int64} {how : Int} (hi : i < w) (hb : lb p (k * w + i) = true) : tF w h p how (k * w + (i + 1)) = tF w h p how (k * w + i) ||| l1 (tP w h how i k) := by
  show tF w h p how ((k * w + i) + 1) = _
  simp only [tF]
  rw [if_pos hb, Nat.mul_comm k w, Nat.mul_add_mod, Nat.mod_eq_of_lt hi, Nat.mul_add_div (by omega), Nat.div_eq_of_lt hi, Nat.add_zero]
theorem or_0 (x : Int64) : x ||| 0 = x := by
  apply lb_ext
  intro i _
  rw [lb_or, lb_0, Bool.or_false]
theorem tF_0 {w h k i : Nat} {p : Int64} {how : Int} (hb : lb p (k * w + i) = false) : tF w h p how (k * w + (i + 1)) = tF w h p how (k * w + i) := by
  show tF w h p how ((k * w + i) + 1) = _
  simp only [tF]
  rw [hb, if_neg (by decide), or_0]
theorem kw_b {k i w h : Nat} (hw : w ≤ 6) (hh : h ≤ 6) (hi : i < w) (hk : k < h) : k * w + i < 64 := by
  have : k * w ≤ 5 * 6 := Nat.mul_le_mul (by omega) hw
  omega
/-- the reference's step -/
theorem t_one {p : Int64} {k t : Nat} (hk : k < 64) {z : Int32} (hz : z = r_one p (nI k)) : z.toInt64 <<< ((nI t).toInt64 &&& 63) = if lb p k then l1 t else 0 := by
  rw [hz, one_lb p hk]
  split
  · rfl
  · apply lb_ext
    intro i hi
    show lb ((0 : Int64) <<< ((nI t).toInt64 &&& 63)) i = _
    unfold lb
    rw [Int64.toBitVec_shiftLeft]
    show ((0#64) <<< (((nI t).toInt64 &&& 63).toBitVec.smod 64).toNat).getLsbD i = (0#64).getLsbD i
    simp
theorem t_not {p : Int64} {k t : Nat} (hk : k < 64) {z y : Int32} (hz : z = r_one p (nI k)) (hy : y = 1 - z) : y.toInt64 <<< ((nI t).toInt64 &&& 63) = if lb p k then 0 else l1 t := by
  rw [hy, hz, one_lb p hk]
  split
  · apply lb_ext
    intro i hi
    show lb ((0 : Int64) <<< ((nI t).toInt64 &&& 63)) i = _
    unfold lb
    rw [Int64.toBitVec_shiftLeft]
    show ((0#64) <<< (((nI t).toInt64 &&& 63).toBitVec.smod 64).toNat).getLsbD i = (0#64).getLsbD i
    simp
  · rfl
def tR (w h : Nat) (p : Int64) (how : Int) (n : Nat) : Int64 := if how = 3 then tN p n else tF w h p how n
theorem tR_0 (w h : Nat) (p : Int64) (how : Int) : (0 : Int64) = tR w h p how 0 := by unfold tR; split <;> rfl
theorem tR_s {w h : Nat} {p : Int64} {how : Int} {n t : Nat} (h3 : ¬ how = 3) (hn : n < 64) (ht : t = tP w h how (n % w) (n / w)) {z : Int32} (hz : z = r_one p (nI n)) {x y : Int64} (hx : x = tR w h p how n) (hy : y = x ||| (z.toInt64 <<< ((nI t).toInt64 &&& 63))) : y = tR w h p how (n + 1) := by
  rw [hy, hx, t_one hn hz, ht]
  unfold tR
  rw [if_neg h3, if_neg h3]
  simp only [tF]
theorem tR_3 {w h : Nat} {p : Int64} {how : Int} {n t : Nat} (h3 : how = 3) (hn : n < 64) (ht : t = n) {z u : Int32} (hz : z = r_one p (nI n)) (hu : u = 1 - z) {x y : Int64} (hx : x = tR w h p how n) (hy : y = x ||| (u.toInt64 <<< ((nI t).toInt64 &&& 63))) : y = tR w h p how (n + 1) := by
  rw [hy, hx, t_not hn hz hu, ht]
  unfold tR
  rw [if_pos h3, if_pos h3]
  simp only [tN]
/-- the reference's places -/
theorem t_p0 {i a b : Nat} {x y v1 v2 v3 v4 w h : Int32} (ew : w = nI a) (eh : h = nI b) (hb : 1 ≤ b) (ex : x = nI (i % a)) (ey : y = nI (i / a)) (hy : i / a < b) (e1 : v1 = x * h) (e2 : v2 = v1 + h) (e3 : v3 = v2 - 1) (e4 : v4 = v3 - y) : v4 = nI (i % a * b + b - 1 - i / a) := by
  rw [e4, e3, e2, e1, ex, ey, eh, pk_mul, nI_add, show (1 : Int32) = nI 1 from rfl, pk_sub (by omega), pk_sub (by omega)]
theorem t_p1 {i a b : Nat} {x y v1 v2 v3 v4 w h : Int32} (ew : w = nI a) (eh : h = nI b) (hb : 1 ≤ b) (ex : x = nI (i % a)) (ey : y = nI (i / a)) (hy : i / a < b) (e1 : v1 = h - 1) (e2 : v2 = v1 - y) (e3 : v3 = v2 * w) (e4 : v4 = v3 + x) : v4 = nI ((b - 1 - i / a) * a + i % a) := by
  rw [e4, e3, e2, e1, ex, ey, eh, ew, show (1 : Int32) = nI 1 from rfl, pk_sub (by omega), pk_sub (by omega), pk_mul, nI_add]
theorem t_p2 {i a b : Nat} {x y v1 v2 h : Int32} (eh : h = nI b) (ex : x = nI (i % a)) (ey : y = nI (i / a)) (e1 : v1 = x * h) (e2 : v2 = v1 + y) : v2 = nI (i % a * b + i / a) := by
  rw [e2, e1, ex, ey, eh, pk_mul, nI_add]
set_option maxHeartbeats 4000000 in
set_option maxRecDepth 100000 in
theorem c_X0_isPicture_x (l : Launch) (D : va_G) (cy : Nat → ClassId) (A : Nat → Prop) (G : cG) (ws : va_W) (o : Nat) (p0 : Int64) {w h : Nat} (hD : va_D A ws) (hT : cT cy G ws) (hG_o : G o = some (2, w, h))  : Ci l D cy A yX0_isPicture wsX0_isPicture ({ frames := 0, cells := 0, slots := 0, locals := 0 }) 0 0 ws [.ref o, .long p0] (fun r0 u => u = (G, ws) ∧ (Bo r0 (isPic (w * h) p0))) := by
  refine Met.ofW (cc := cX0_isPicture) (maxL := 3) (ret := (some .boolean)) (by decide) rfl ?_
  intro p e s m args below meth c s₁ B hml hv
  obtain ⟨rfl, hP, hK, hA, hV⟩ := hv
  have hx := B.exec
  have hb := B.bytes
  have hr := B.returns
  have hts := atoms_spec (ws := wsX0_isPicture) B.pre
  have hown : s.vm.findClass RX0 = some m.cls := findClass_of_methodNamed B.named
  have hlocks := B.notSynchronized
  have hS : va_S A s.heap s.heap [] := va_S.rf
  have hl := lv_entry ([.ref o, .long p0]) (n := 3) (Nat.le_of_ble_eq_true rfl)
  rw [lg_entry_eq]
  generalize (lg_sl ([.ref o, .long p0]) ++ List.replicate (3 - (lg_sl ([.ref o, .long p0])).length) Slot.unset).toArray = ls at hl ⊢
  have hl : lv_has ls 3 [(0, .ref o), (1, .long p0)] := hl
  have k_0 : (0 : Int32).toInt = 0 := by decide
  have k_1 : (1 : Int32).toInt = 1 := by decide
  have k_0L : (0 : Int64).toInt = 0 := by decide
  refine lv_lload_n hx hb dX0_isPicture_0 rfl (lv_at hl 1 rfl) ?_
  refine lv_aload_n hx hb dX0_isPicture_1 rfl (lv_at hl 0 rfl) ?_
  obtain ⟨_, hM_o, hb_o, l_o, f_o, r_o, rfl, hG_l_o, hG_f_o, hG_r_o⟩ := hT _ _ hG_o
  refine t_get (v := .int (nI (w * h))) (C := RX0) (T := TX0) (N := 8) hx hb hts (by decide +kernel) hown hK hP hM_o rfl 2 (by decide) (hts (.fieldLink RX0 20 "ShadowBench$Board" "squares" "I") (by decide +kernel)) (fun _ h9 => h9) rfl dX0_isPicture_2 ?_
  have m_wh_o := cb_mul hb_o
  have i_wh_o : (nI (w * h)).toInt = _ := nI_toInt (by omega)
  refine lv_lushr (v := (p0.toUInt64 >>> (((nI (w * h))).toInt64.toUInt64 &&& Int64.toUInt64 63)).toInt64) hx hb dX0_isPicture_5 rfl ?_
  refine lv_lconst (v := 0) hx hb dX0_isPicture_6 (by decide) ?_
  refine W.lcmp hx hb dX0_isPicture_7 ?_
  refine lv_if_ne (tgt := 15) hx hb dX0_isPicture_8 (by decide) (fun c8 => ?_) (fun c8 => ?_)
  · skip
    have d8 := c8
    rw [lg_cmp_eq, fa_eq64] at d8
    refine lv_iconst (v := 0) hx hb dX0_isPicture_15 (by decide) ?_
    exact W.zret (v := (0 : Int32)) hx hb hr (by decide) (fun t ht hW => ⟨⟨_, (G, ws), rfl, ⟨rfl, Or.inr ⟨rfl, fun z9 => c8 ((lg_cmp_eq _ _).mpr ((pic_u m_wh_o.2).mpr z9))⟩⟩, by show va_P D vwCl ws t.heap; rw [ht]; exact hP, hD, hT⟩, hS.F ht⟩) hS.2.2 dX0_isPicture_16
  · skip
    have d8 := c8
    rw [lg_cmp_eq, fa_eq64] at d8
    refine lv_iconst (v := 1) hx hb dX0_isPicture_11 (by decide) ?_
    refine lv_goto (tgt := 16) hx hb dX0_isPicture_12 (by decide) ?_
    exact W.zret (v := (1 : Int32)) hx hb hr (by decide) (fun t ht hW => ⟨⟨_, (G, ws), rfl, ⟨rfl, Or.inl ⟨rfl, (pic_u m_wh_o.2).mp ((lg_cmp_eq _ _).mp c8)⟩⟩, by show va_P D vwCl ws t.heap; rw [ht]; exact hP, hD, hT⟩, hS.F ht⟩) hS.2.2 dX0_isPicture_16
set_option maxHeartbeats 4000000 in
set_option maxRecDepth 100000 in
theorem c_X0_bit_x (l : Launch) (D : va_G) (cy : Nat → ClassId) (A : Nat → Prop) (G : cG) (ws : va_W) (o : Nat) (x : Nat) (y : Nat) {w h : Nat} (hD : va_D A ws) (hT : cT cy G ws) (hG_o : G o = some (2, w, h))  : Cl l D cy A yX0_bit wsX0_bit ({ frames := 0, cells := 0, slots := 0, locals := 0 }) 0 0 ws [.ref o, .int (nI x), .int (nI y)] (fun r0 u => u = (G, ws) ∧ (r0 = l1 (y * w + x))) := by
  refine Met.ofW (cc := cX0_bit) (maxL := 3) (ret := (some .long)) (by decide) rfl ?_
  intro p e s m args below meth c s₁ B hml hv
  obtain ⟨rfl, hP, hK, hA, hV⟩ := hv
  have hx := B.exec
  have hb := B.bytes
  have hr := B.returns
  have hts := atoms_spec (ws := wsX0_bit) B.pre
  have hown : s.vm.findClass RX0 = some m.cls := findClass_of_methodNamed B.named
  have hlocks := B.notSynchronized
  have hS : va_S A s.heap s.heap [] := va_S.rf
  have hl := lv_entry ([.ref o, .int (nI x), .int (nI y)]) (n := 3) (Nat.le_of_ble_eq_true rfl)
  rw [lg_entry_eq]
  generalize (lg_sl ([.ref o, .int (nI x), .int (nI y)]) ++ List.replicate (3 - (lg_sl ([.ref o, .int (nI x), .int (nI y)])).length) Slot.unset).toArray = ls at hl ⊢
  have hl : lv_has ls 3 [(0, .ref o), (1, .int (nI x)), (2, .int (nI y))] := hl
  have k_0 : (0 : Int32).toInt = 0 := by decide
  have k_1L : (1 : Int64).toInt = 1 := by decide
  refine lv_lconst (v := 1) hx hb dX0_bit_0 (by decide) ?_
  refine lv_iload_n hx hb dX0_bit_1 rfl (lv_at hl 2 rfl) ?_
  refine lv_aload_n hx hb dX0_bit_2 rfl (lv_at hl 0 rfl) ?_
  obtain ⟨_, hM_o, hb_o, l_o, f_o, r_o, rfl, hG_l_o, hG_f_o, hG_r_o⟩ := hT _ _ hG_o
  refine t_get (v := .int (nI w)) (C := RX0) (T := TX0) (N := 8) hx hb hts (by decide +kernel) hown hK hP hM_o rfl 0 (by decide) (hts (.fieldLink RX0 13 "ShadowBench$Board" "wide" "I") (by decide +kernel)) (fun _ h9 => h9) rfl dX0_bit_3 ?_
  have i_w_o : (nI w).toInt = _ := nI_toInt (by omega)
  refine lv_imul hx hb dX0_bit_6 ?_
  refine lv_topi (fun v6 e6 => ?_)
  refine lv_iload_n hx hb dX0_bit_7 rfl (lv_at hl 1 rfl) ?_
  refine lv_iadd hx hb dX0_bit_8 ?_
  refine lv_topi (fun v8 e8 => ?_)
  refine lv_lshl (v := (1 : Int64) <<< (v8.toInt64 &&& 63)) hx hb dX0_bit_9 rfl ?_
  exact W.lret (v := ((1 : Int64) <<< (v8.toInt64 &&& 63))) hx hb hr (fun t ht hW => ⟨⟨_, (G, ws), rfl, ⟨rfl, (by unfold l1; rw [e8, e6, pk_mul, nI_add])⟩, by show va_P D vwCl ws t.heap; rw [ht]; exact hP, hD, hT⟩, hS.F ht⟩) hS.2.2 dX0_bit_10
set_option maxHeartbeats 4000000 in
set_option maxRecDepth 100000 in
theorem c_X0_placeTurned_x (l : Launch) (D : va_G) (cy : Nat → ClassId) (A : Nat → Prop) (G : cG) (ws : va_W) (o : Nat) (how : Int32) (x : Nat) (y : Nat) {w h : Nat} (hD : va_D A ws) (hT : cT cy G ws) (hG_o : G o = some (2, w, h)) (hx1 : x < w) (hy1 : y < h) : Ci l D cy A yX0_placeTurned wsX0_placeTurned ({ frames := 0, cells := 0, slots := 0, locals := 0 }) 0 0 ws [.ref o, .int how, .int (nI x), .int (nI y)] (fun r0 u => u = (G, ws) ∧ (r0 = nI (tP w h how.toInt x y))) := by
  refine Met.ofW (cc := cX0_placeTurned) (maxL := 4) (ret := (some .int)) (by decide) rfl ?_
  intro p e s m args below meth c s₁ B hml hv
  obtain ⟨rfl, hP, hK, hA, hV⟩ := hv
  have hx := B.exec
  have hb := B.bytes
  have hr := B.returns
  have hts := atoms_spec (ws := wsX0_placeTurned) B.pre
  have hown : s.vm.findClass RX0 = some m.cls := findClass_of_methodNamed B.named
  have hlocks := B.notSynchronized
  have hS : va_S A s.heap s.heap [] := va_S.rf
  have hl := lv_entry ([.ref o, .int how, .int (nI x), .int (nI y)]) (n := 4) (Nat.le_of_ble_eq_true rfl)
  rw [lg_entry_eq]
  generalize (lg_sl ([.ref o, .int how, .int (nI x), .int (nI y)]) ++ List.replicate (4 - (lg_sl ([.ref o, .int how, .int (nI x), .int (nI y)])).length) Slot.unset).toArray = ls at hl ⊢
  have hl : lv_has ls 4 [(0, .ref o), (1, .int how), (2, .int (nI x)), (3, .int (nI y))] := hl
  have k_0 : (0 : Int32).toInt = 0 := by decide
  have k_1 : (1 : Int32).toInt = 1 := by decide
  refine lv_iload_n hx hb dX0_placeTurned_0 rfl (lv_at hl 1 rfl) ?_
  by_cases s1_0 : how.toInt = 0
  · skip
    refine lv_lookup (off := 27) (tgt := 28) hx hb dX0_placeTurned_1 (by decide) (by rw [s1_0]; decide) (by decide) ?_
    refine lv_iload_n hx hb dX0_placeTurned_28 rfl (lv_at hl 2 rfl) ?_
    refine lv_aload_n hx hb dX0_placeTurned_29 rfl (lv_at hl 0 rfl) ?_
    obtain ⟨_, hM_o, hb_o, l_o, f_o, r_o, rfl, hG_l_o, hG_f_o, hG_r_o⟩ := hT _ _ hG_o
    refine t_get (v := .int (nI h)) (C := RX0) (T := TX0) (N := 8) hx hb hts (by decide +kernel) hown hK hP hM_o rfl 1 (by decide) (hts (.fieldLink RX0 17 "ShadowBench$Board" "high" "I") (by decide +kernel)) (fun _ h9 => h9) rfl dX0_placeTurned_30 ?_
    have i_h_o : (nI h).toInt = _ := nI_toInt (by omega)
    refine lv_imul hx hb dX0_placeTurned_33 ?_
    refine lv_topi (fun v33 e33 => ?_)
    refine lv_aload_n hx hb dX0_placeTurned_34 rfl (lv_at hl 0 rfl) ?_
    refine t_get (v := .int (nI h)) (C := RX0) (T := TX0) (N := 8) hx hb hts (by decide +kernel) hown hK hP hM_o rfl 1 (by decide) (hts (.fieldLink RX0 17 "ShadowBench$Board" "high" "I") (by decide +kernel)) (fun _ h9 => h9) rfl dX0_placeTurned_35 ?_
    refine lv_iadd hx hb dX0_placeTurned_38 ?_
    refine lv_topi (fun v38 e38 => ?_)
    refine lv_iconst (v := 1) hx hb dX0_placeTurned_39 (by decide) ?_
    refine lv_isub hx hb dX0_placeTurned_40 ?_
    refine lv_topi (fun v40 e40 => ?_)
    refine lv_iload_n hx hb dX0_placeTurned_41 rfl (lv_at hl 3 rfl) ?_
    refine lv_isub hx hb dX0_placeTurned_42 ?_
    refine lv_topi (fun v42 e42 => ?_)
    exact W.iret (v := v42) hx hb hr (fun t ht hW => ⟨⟨_, (G, ws), rfl, ⟨rfl, (by unfold tP; rw [if_pos s1_0, e42, e40, e38, e33, pk_mul, nI_add, show (1 : Int32) = nI 1 from rfl, pk_sub (by omega), pk_sub (by omega)])⟩, by show va_P D vwCl ws t.heap; rw [ht]; exact hP, hD, hT⟩, hS.F ht⟩) hS.2.2 dX0_placeTurned_43
  by_cases s1_1 : how.toInt = 1
  · skip
    refine lv_lookup (off := 43) (tgt := 44) hx hb dX0_placeTurned_1 (by decide) (by rw [s1_1]; decide) (by decide) ?_
    refine lv_aload_n hx hb dX0_placeTurned_44 rfl (lv_at hl 0 rfl) ?_
    obtain ⟨_, hM_o, hb_o, l_o, f_o, r_o, rfl, hG_l_o, hG_f_o, hG_r_o⟩ := hT _ _ hG_o
    refine t_get (v := .int (nI h)) (C := RX0) (T := TX0) (N := 8) hx hb hts (by decide +kernel) hown hK hP hM_o rfl 1 (by decide) (hts (.fieldLink RX0 17 "ShadowBench$Board" "high" "I") (by decide +kernel)) (fun _ h9 => h9) rfl dX0_placeTurned_45 ?_
    have i_h_o : (nI h).toInt = _ := nI_toInt (by omega)
    refine lv_iconst (v := 1) hx hb dX0_placeTurned_48 (by decide) ?_
    refine lv_isub hx hb dX0_placeTurned_49 ?_
    refine lv_topi (fun v49 e49 => ?_)
    refine lv_iload_n hx hb dX0_placeTurned_50 rfl (lv_at hl 3 rfl) ?_
    refine lv_isub hx hb dX0_placeTurned_51 ?_
    refine lv_topi (fun v51 e51 => ?_)
    refine lv_aload_n hx hb dX0_placeTurned_52 rfl (lv_at hl 0 rfl) ?_
    refine t_get (v := .int (nI w)) (C := RX0) (T := TX0) (N := 8) hx hb hts (by decide +kernel) hown hK hP hM_o rfl 0 (by decide) (hts (.fieldLink RX0 13 "ShadowBench$Board" "wide" "I") (by decide +kernel)) (fun _ h9 => h9) rfl dX0_placeTurned_53 ?_
    have i_w_o : (nI w).toInt = _ := nI_toInt (by omega)
    refine lv_imul hx hb dX0_placeTurned_56 ?_
    refine lv_topi (fun v56 e56 => ?_)
    refine lv_iload_n hx hb dX0_placeTurned_57 rfl (lv_at hl 2 rfl) ?_
    refine lv_iadd hx hb dX0_placeTurned_58 ?_
    refine lv_topi (fun v58 e58 => ?_)
    exact W.iret (v := v58) hx hb hr (fun t ht hW => ⟨⟨_, (G, ws), rfl, ⟨rfl, (by unfold tP; rw [if_neg s1_0, if_pos s1_1, e58, e56, e51, e49, show (1 : Int32) = nI 1 from rfl, pk_sub (by omega), pk_sub (by omega), pk_mul, nI_add])⟩, by show va_P D vwCl ws t.heap; rw [ht]; exact hP, hD, hT⟩, hS.F ht⟩) hS.2.2 dX0_placeTurned_59
  refine lv_lookup (off := 59) (tgt := 60) hx hb dX0_placeTurned_1 (by decide) (by simp [Op.lookupswitch.offset_cons, Op.lookupswitch.offset_nil, Ne.symm s1_0, s1_0, Ne.symm s1_1, s1_1]) (by decide) ?_
  refine lv_iload_n hx hb dX0_placeTurned_60 rfl (lv_at hl 2 rfl) ?_
  refine lv_aload_n hx hb dX0_placeTurned_61 rfl (lv_at hl 0 rfl) ?_
  obtain ⟨_, hM_o, hb_o, l_o, f_o, r_o, rfl, hG_l_o, hG_f_o, hG_r_o⟩ := hT _ _ hG_o
  refine t_get (v := .int (nI h)) (C := RX0) (T := TX0) (N := 8) hx hb hts (by decide +kernel) hown hK hP hM_o rfl 1 (by decide) (hts (.fieldLink RX0 17 "ShadowBench$Board" "high" "I") (by decide +kernel)) (fun _ h9 => h9) rfl dX0_placeTurned_62 ?_
  have i_h_o : (nI h).toInt = _ := nI_toInt (by omega)
  refine lv_imul hx hb dX0_placeTurned_65 ?_
  refine lv_topi (fun v65 e65 => ?_)
  refine lv_iload_n hx hb dX0_placeTurned_66 rfl (lv_at hl 3 rfl) ?_
  refine lv_iadd hx hb dX0_placeTurned_67 ?_
  refine lv_topi (fun v67 e67 => ?_)
  exact W.iret (v := v67) hx hb hr (fun t ht hW => ⟨⟨_, (G, ws), rfl, ⟨rfl, (by unfold tP; rw [if_neg s1_0, if_neg s1_1, e67, e65, pk_mul, nI_add])⟩, by show va_P D vwCl ws t.heap; rw [ht]; exact hP, hD, hT⟩, hS.F ht⟩) hS.2.2 dX0_placeTurned_68
set_option maxHeartbeats 4000000 in
set_option maxRecDepth 100000 in
theorem c_X0_turnedPicture_x (l : Launch) (D : va_G) (cy : Nat → ClassId) (A : Nat → Prop) (G : cG) (ws : va_W) (o : Nat) (p0 : Int64) (how : Int32) {w h : Nat} (hD : va_D A ws) (hT : cT cy G ws) (hG_o : G o = some (2, w, h))  : Cl l D cy A yX0_turnedPicture wsX0_turnedPicture ({ frames := 1, cells := 0, slots := 0, locals := 23 }) 0 0 ws [.ref o, .long p0, .int how] (fun r0 u => u = (G, ws) ∧ (r0 = tQ w h p0 how.toInt)) := by
  refine Met.ofW (cc := cX0_turnedPicture) (maxL := 8) (ret := (some .long)) (by decide) rfl ?_
  intro p e s m args below meth c s₁ B hml hv
  obtain ⟨rfl, hP, hK, hA, hV⟩ := hv
  have hx := B.exec
  have hb := B.bytes
  have hr := B.returns
  have hts := atoms_spec (ws := wsX0_turnedPicture) B.pre
  have hown : s.vm.findClass RX0 = some m.cls := findClass_of_methodNamed B.named
  have hlocks := B.notSynchronized
  have hS : va_S A s.heap s.heap [] := va_S.rf
  have hl := lv_entry ([.ref o, .long p0, .int how]) (n := 8) (Nat.le_of_ble_eq_true rfl)
  rw [lg_entry_eq]
  generalize (lg_sl ([.ref o, .long p0, .int how]) ++ List.replicate (8 - (lg_sl ([.ref o, .long p0, .int how])).length) Slot.unset).toArray = ls at hl ⊢
  have hl : lv_has ls 8 [(0, .ref o), (1, .long p0), (3, .int how)] := hl
  have k_0 : (0 : Int32).toInt = 0 := by decide
  have k_3 : (3 : Int32).toInt = 3 := by decide
  have k_m1L : (-1 : Int64).toInt = -1 := by decide
  have k_0L : (0 : Int64).toInt = 0 := by decide
  have k_1L : (1 : Int64).toInt = 1 := by decide
  have hb9 := c_hb hT hG_o
  refine lv_iload_n hx hb dX0_turnedPicture_0 rfl (lv_at hl 2 rfl) ?_
  refine lv_iconst (v := 3) hx hb dX0_turnedPicture_1 (by decide) ?_
  refine lv_icmp_ne (tgt := 20) hx hb dX0_turnedPicture_2 (by decide) (fun c2 => ?_) (fun c2 => ?_)
  · skip
    have d2 := c2
    rw [fa_eq] at d2
    refine lv_lconst (v := 0) hx hb dX0_turnedPicture_20 (by decide) ?_
    refine lv_lstore (lv' := [(4, .long (0 : Int64)), (0, .ref o), (1, .long p0), (3, .int how)]) hx hb dX0_turnedPicture_21 hl (by decide) rfl (fun ls hl => ?_)
    refine lv_iconst (v := 0) hx hb dX0_turnedPicture_23 (by decide) ?_
    refine lv_istore (lv' := [(6, .int (0 : Int32)), (4, .long (0 : Int64)), (0, .ref o), (1, .long p0), (3, .int how)]) hx hb dX0_turnedPicture_24 hl (by decide) rfl (fun ls hl => ?_)
    have loop_26 : ∀ (n : Nat) (k : Nat) (x4 : Int64), (k ≤ h) → (x4 = tF w h p0 how.toInt (k * w)) → h - k < n → ∀ (H : Heap) (locs : List Loc), va_P D vwCl ws H → va_S A s.heap H locs → ∀ (ls : Array Slot), lv_has ls 8 [(6, .int (nI k)), (4, .long x4), (0, .ref o), (1, .long p0), (3, .int how)] → W p l e (headSpec wsX0_turnedPicture ({ frames := 1, cells := 0, slots := 0, locals := 23 })).room s m #[Value.ref o, Value.long p0, Value.int how] below meth c H locs 0 0 (MQ below (va_Ql (fun r0 u => u = (G, ws) ∧ (r0 = tQ w h p0 how.toInt)) (cB D cy A) A) #[Value.ref o, Value.long p0, Value.int how] s 0 0 A) (F0 m 26 ls []) := by
      intro n
      induction n with
      | zero => intro k x4 j26_0 j26_1 hn; exact absurd hn (Nat.not_lt_zero _)
      | succ n ih_26 =>
        intro k x4 j26_0 j26_1 hn_26 H locs hP hS  ls hl
        have ik : (nI k).toInt = (k : Int) := nI_toInt (by omega)
        refine lv_iload hx hb dX0_turnedPicture_26 (lv_at hl 0 rfl) ?_
        refine lv_aload_n hx hb dX0_turnedPicture_28 rfl (lv_at hl 2 rfl) ?_
        obtain ⟨_, hM_o, hb_o, l_o, f_o, r_o, rfl, hG_l_o, hG_f_o, hG_r_o⟩ := hT _ _ hG_o
        refine t_get (v := .int (nI h)) (C := RX0) (T := TX0) (N := 8) hx hb hts (by decide +kernel) hown hK hP hM_o rfl 1 (by decide) (hts (.fieldLink RX0 17 "ShadowBench$Board" "high" "I") (by decide +kernel)) (fun _ h9 => h9) rfl dX0_turnedPicture_29 ?_
        have i_h_o : (nI h).toInt = _ := nI_toInt (by omega)
        refine lv_icmp_ge (tgt := 90) hx hb dX0_turnedPicture_32 (by decide) (fun c32 => ?_) (fun c32 => ?_)
        · skip
          have d32 := c32
          rw [fa_le] at d32
          obtain rfl : k = h := by omega
          refine lv_lload hx hb dX0_turnedPicture_90 (lv_at hl 1 rfl) ?_
          exact W.lret (v := x4) hx hb hr (fun t ht hW => ⟨⟨_, (G, ws), rfl, ⟨rfl, (by unfold tQ; rw [if_neg (by omega), Nat.mul_comm w k]; exact j26_1)⟩, by show va_P D vwCl ws t.heap; rw [ht]; exact hP, hD, hT⟩, hS.F ht⟩) hS.2.2 dX0_turnedPicture_92
        · skip
          have d32 := c32
          rw [fa_le] at d32
          refine lv_iconst (v := 0) hx hb dX0_turnedPicture_35 (by decide) ?_
          refine lv_istore (lv' := [(7, .int (0 : Int32)), (6, .int (nI k)), (4, .long x4), (0, .ref o), (1, .long p0), (3, .int how)]) hx hb dX0_turnedPicture_36 hl (by decide) rfl (fun ls hl => ?_)
          have loop_38 : ∀ (n : Nat) (i : Nat) (z4 : Int64), (i ≤ w) → (z4 = tF w h p0 how.toInt (k * w + i)) → w - i < n → ∀ (H : Heap) (locs : List Loc), va_P D vwCl ws H → va_S A s.heap H locs → ∀ (ls : Array Slot), lv_has ls 8 [(7, .int (nI i)), (6, .int (nI k)), (4, .long z4), (0, .ref o), (1, .long p0), (3, .int how)] → W p l e (headSpec wsX0_turnedPicture ({ frames := 1, cells := 0, slots := 0, locals := 23 })).room s m #[Value.ref o, Value.long p0, Value.int how] below meth c H locs 0 0 (MQ below (va_Ql (fun r0 u => u = (G, ws) ∧ (r0 = tQ w h p0 how.toInt)) (cB D cy A) A) #[Value.ref o, Value.long p0, Value.int how] s 0 0 A) (F0 m 38 ls []) := by
            intro n
            induction n with
            | zero => intro i z4 j38_0 j38_1 hn; exact absurd hn (Nat.not_lt_zero _)
            | succ n ih_38 =>
              intro i z4 j38_0 j38_1 hn_38 H locs hP hS  ls hl
              have ii : (nI i).toInt = (i : Int) := nI_toInt (by omega)
              refine lv_iload hx hb dX0_turnedPicture_38 (lv_at hl 0 rfl) ?_
              refine lv_aload_n hx hb dX0_turnedPicture_40 rfl (lv_at hl 3 rfl) ?_
              refine t_get (v := .int (nI w)) (C := RX0) (T := TX0) (N := 8) hx hb hts (by decide +kernel) hown hK hP hM_o rfl 0 (by decide) (hts (.fieldLink RX0 13 "ShadowBench$Board" "wide" "I") (by decide +kernel)) (fun _ h9 => h9) rfl dX0_turnedPicture_41 ?_
              have i_w_o : (nI w).toInt = _ := nI_toInt (by omega)
              refine lv_icmp_ge (tgt := 84) hx hb dX0_turnedPicture_44 (by decide) (fun c44 => ?_) (fun c44 => ?_)
              · skip
                have d44 := c44
                rw [fa_le] at d44
                obtain rfl : i = w := by omega
                have e84 : z4 = tF i h p0 how.toInt ((k + 1) * i) := by rw [Nat.succ_mul]; exact j38_1
                refine lv_iinc (v := (nI (k + 1))) (lv' := [(6, .int (nI (k + 1))), (7, .int (nI i)), (4, .long z4), (0, .ref o), (1, .long p0), (3, .int how)]) hx hb dX0_turnedPicture_84 hl (k := 1) rfl (nI_1 _) (by decide) rfl (fun ls hl => ?_)
                refine lv_goto (tgt := 26) hx hb dX0_turnedPicture_87 (by decide) ?_
                exact ih_26 (k + 1) z4 (by omega) (e84) (by omega) _ _ hP hS  ls (lv_sub hl [0, 2, 3, 4, 5] rfl)
              · skip
                have d44 := c44
                rw [fa_le] at d44
                have kb := kw_b (k := k) (i := i) hb9.2.1 hb9.2.2.2 (by omega) (by omega)
                refine lv_lload_n hx hb dX0_turnedPicture_47 rfl (lv_at hl 4 rfl) ?_
                refine lv_aload_n hx hb dX0_turnedPicture_48 rfl (lv_at hl 3 rfl) ?_
                refine lv_iload hx hb dX0_turnedPicture_49 (lv_at hl 0 rfl) ?_
                refine lv_iload hx hb dX0_turnedPicture_51 (lv_at hl 1 rfl) ?_
                refine t_calll (va_runV (g := F0 m 53 ls ([.int (nI k), .int (nI i), .ref o, .long p0])) (As := [.int (nI i), .int (nI k)]) (rest := [.long p0]) ⟨hx, hb, hml, hown, hts⟩ (c_X0_bit_x l D cy A G ws o i k hD hT hG_o ) (cwV 2 hts gX0_turnedPicture_X0_bit rfl rfl rfl (by decide +kernel) ⟨Nat.le_of_ble_eq_true rfl, Nat.le_of_ble_eq_true rfl⟩) (c_preV hM_o rfl hP hK hA hS hV) rfl rfl hl.1 rfl (lv_room (Nat.le_of_ble_eq_true rfl)) dX0_turnedPicture_53 ⟨Nat.le_of_ble_eq_true rfl, Nat.le_of_ble_eq_true rfl⟩) hS (fun r53 u H locs q53 hP9 hD9 hT9 hS => ?_)
                obtain ⟨rfl, q53⟩ := q53
                have hP : va_P D vwCl ws H := hP9
                refine lv_land hx hb dX0_turnedPicture_56 ?_
                refine lv_topl (fun v56 e56 => ?_)
                refine lv_lconst (v := 0) hx hb dX0_turnedPicture_57 (by decide) ?_
                refine W.lcmp hx hb dX0_turnedPicture_58 ?_
                have e56b : v56 = p0 &&& l1 (k * w + i) := by rw [e56, q53]
                refine lv_if_eq (tgt := 78) hx hb dX0_turnedPicture_59 (by decide) (fun c59 => ?_) (fun c59 => ?_)
                · skip
                  have d59 := c59
                  rw [lg_cmp_eq, fa_eq64] at d59
                  have hst : tF w h p0 how.toInt (k * w + (i + 1)) = tF w h p0 how.toInt (k * w + (i + 1)) := rfl
                  first | have hl0 : lb p0 (k * w + i) = false := (l1_no kb).mp (e56b.symm.trans ((lg_cmp_eq _ _).mp c59)) | skip
                  first | have e78b : z4 = tF w h p0 how.toInt (k * w + (i + 1)) := (by rw [tF_0 hl0]; exact j38_1) | skip
                  refine lv_iinc (v := (nI (i + 1))) (lv' := [(7, .int (nI (i + 1))), (6, .int (nI k)), (4, .long z4), (0, .ref o), (1, .long p0), (3, .int how)]) hx hb dX0_turnedPicture_78 hl (k := 0) rfl (nI_1 _) (by decide) rfl (fun ls hl => ?_)
                  refine lv_goto (tgt := 38) hx hb dX0_turnedPicture_81 (by decide) ?_
                  exact ih_38 (i + 1) z4 (by omega) (by first | exact e75b | exact e78b) (by omega) _ _ hP hS  ls (lv_sub hl [0, 1, 2, 3, 4, 5] rfl)
                · skip
                  have d59 := c59
                  rw [lg_cmp_eq, fa_eq64] at d59
                  have hl1 : lb p0 (k * w + i) = true := by cases hq : lb p0 (k * w + i); exact absurd ((lg_cmp_eq _ _).mpr (e56b.trans ((l1_no kb).mpr hq))) c59; rfl
                  refine lv_lload hx hb dX0_turnedPicture_62 (lv_at hl 2 rfl) ?_
                  refine lv_lconst (v := 1) hx hb dX0_turnedPicture_64 (by decide) ?_
                  refine lv_aload_n hx hb dX0_turnedPicture_65 rfl (lv_at hl 3 rfl) ?_
                  refine lv_iload_n hx hb dX0_turnedPicture_66 rfl (lv_at hl 5 rfl) ?_
                  refine lv_iload hx hb dX0_turnedPicture_67 (lv_at hl 0 rfl) ?_
                  refine lv_iload hx hb dX0_turnedPicture_69 (lv_at hl 1 rfl) ?_
                  refine t_calli (va_runV (g := F0 m 71 ls ([.int (nI k), .int (nI i), .int how, .ref o, .long (1 : Int64), .long z4])) (As := [.int how, .int (nI i), .int (nI k)]) (rest := [.long (1 : Int64), .long z4]) ⟨hx, hb, hml, hown, hts⟩ (c_X0_placeTurned_x l D cy A G ws o how i k hD hT hG_o (by omega) (by omega)) (cwV 3 hts gX0_turnedPicture_X0_placeTurned rfl rfl rfl (by decide +kernel) ⟨Nat.le_of_ble_eq_true rfl, Nat.le_of_ble_eq_true rfl⟩) (c_preV hM_o rfl hP hK hA hS hV) rfl rfl hl.1 rfl (lv_room (Nat.le_of_ble_eq_true rfl)) dX0_turnedPicture_71 ⟨Nat.le_of_ble_eq_true rfl, Nat.le_of_ble_eq_true rfl⟩) hS (fun r71 u H locs q71 hP9 hD9 hT9 hS => ?_)
                  obtain ⟨rfl, q71⟩ := q71
                  have hP : va_P D vwCl ws H := hP9
                  refine lv_lshl (v := (1 : Int64) <<< (r71.toInt64 &&& 63)) hx hb dX0_turnedPicture_74 rfl ?_
                  refine lv_lor hx hb dX0_turnedPicture_75 ?_
                  refine lv_topl (fun v75 e75 => ?_)
                  have e75b : v75 = tF w h p0 how.toInt (k * w + (i + 1)) := by rw [tF_1 (by omega) hl1, e75, q71, j38_1]; rfl
                  refine lv_lstore (lv' := [(4, .long v75), (7, .int (nI i)), (6, .int (nI k)), (0, .ref o), (1, .long p0), (3, .int how)]) hx hb dX0_turnedPicture_76 hl (by decide) rfl (fun ls hl => ?_)
                  have hst : tF w h p0 how.toInt (k * w + (i + 1)) = tF w h p0 how.toInt (k * w + (i + 1)) := rfl
                  first | have hl0 : lb p0 (k * w + i) = false := (l1_no kb).mp (e56b.symm.trans ((lg_cmp_eq _ _).mp c59)) | skip
                  first | have e78b : z4 = tF w h p0 how.toInt (k * w + (i + 1)) := (by rw [tF_0 hl0]; exact j38_1) | skip
                  refine lv_iinc (v := (nI (i + 1))) (lv' := [(7, .int (nI (i + 1))), (4, .long v75), (6, .int (nI k)), (0, .ref o), (1, .long p0), (3, .int how)]) hx hb dX0_turnedPicture_78 hl (k := 1) rfl (nI_1 _) (by decide) rfl (fun ls hl => ?_)
                  refine lv_goto (tgt := 38) hx hb dX0_turnedPicture_81 (by decide) ?_
                  exact ih_38 (i + 1) v75 (by omega) (by first | exact e75b | exact e78b) (by omega) _ _ hP hS  ls (lv_sub hl [0, 2, 1, 3, 4, 5] rfl)
          exact loop_38 (w + 1) 0 x4 (by omega) (by rw [Nat.add_zero]; exact j26_1) (by omega) _ _ hP hS  ls (lv_sub hl [0, 1, 2, 3, 4, 5] rfl)
    exact loop_26 (h + 1) 0 (0 : Int64) (by omega) (by rw [Nat.zero_mul]; rfl) (by omega) _ _ hP hS  ls (lv_sub hl [0, 1, 2, 3, 4] rfl)
  · skip
    have d2 := c2
    rw [fa_eq] at d2
    refine lv_lload_n hx hb dX0_turnedPicture_5 rfl (lv_at hl 1 rfl) ?_
    refine lv_ldc2 hx hb hown (hts (.constantLong RX0 73 (-1)) (by decide +kernel)) dX0_turnedPicture_6 ?_
    refine lv_lxor hx hb dX0_turnedPicture_9 ?_
    refine lv_topl (fun v9 e9 => ?_)
    refine lv_lconst (v := 1) hx hb dX0_turnedPicture_10 (by decide) ?_
    refine lv_aload_n hx hb dX0_turnedPicture_11 rfl (lv_at hl 0 rfl) ?_
    obtain ⟨_, hM_o, hb_o, l_o, f_o, r_o, rfl, hG_l_o, hG_f_o, hG_r_o⟩ := hT _ _ hG_o
    refine t_get (v := .int (nI (w * h))) (C := RX0) (T := TX0) (N := 8) hx hb hts (by decide +kernel) hown hK hP hM_o rfl 2 (by decide) (hts (.fieldLink RX0 20 "ShadowBench$Board" "squares" "I") (by decide +kernel)) (fun _ h9 => h9) rfl dX0_turnedPicture_12 ?_
    have m_wh_o := cb_mul hb_o
    have i_wh_o : (nI (w * h)).toInt = _ := nI_toInt (by omega)
    refine lv_lshl (v := (1 : Int64) <<< (((nI (w * h))).toInt64 &&& 63)) hx hb dX0_turnedPicture_15 rfl ?_
    refine lv_lconst (v := 1) hx hb dX0_turnedPicture_16 (by decide) ?_
    refine lv_lsub hx hb dX0_turnedPicture_17 ?_
    refine lv_topl (fun v17 e17 => ?_)
    refine lv_land hx hb dX0_turnedPicture_18 ?_
    refine lv_topl (fun v18 e18 => ?_)
    exact W.lret (v := v18) hx hb hr (fun t ht hW => ⟨⟨_, (G, ws), rfl, ⟨rfl, (by have m9 := cb_mul hb9; unfold tQ; rw [if_pos (by omega), ← tN_mask m9.2, e18, e17, e9]; rfl)⟩, by show va_P D vwCl ws t.heap; rw [ht]; exact hP, hD, hT⟩, hS.F ht⟩) hS.2.2 dX0_turnedPicture_19
set_option maxHeartbeats 4000000 in
set_option maxRecDepth 100000 in
theorem c_X9_turned_x (l : Launch) (D : va_G) (cy : Nat → ClassId) (A : Nat → Prop) (G : cG) (ws : va_W) (o : Nat) (wide : Int32) (high : Int32) (p0 : Int64) (how : Int32)  (hD : va_D A ws) (hT : cT cy G ws) (hG_o : G o = some (7, 0, 0))  : Cl l D cy A yX9_turned wsX9_turned ({ frames := 5, cells := 4, slots := 502, locals := 116 }) 4 502 ws [.ref o, .int wide, .int high, .long p0, .int how] (fun r0 u => cX none (chs [1, 8]) G ws u.1 u.2 ∧ (tA wide high p0 how r0)) := by
  refine Met.ofW (cc := cX9_turned) (maxL := 7) (ret := (some .long)) (by decide) rfl ?_
  intro p e s m args below meth c s₁ B hml hv
  obtain ⟨rfl, hP, hK, hA, hV⟩ := hv
  have hx := B.exec
  have hb := B.bytes
  have hr := B.returns
  have hts := atoms_spec (ws := wsX9_turned) B.pre
  have hown : s.vm.findClass RX9 = some m.cls := findClass_of_methodNamed B.named
  have hlocks := B.notSynchronized
  have hS : va_S A s.heap s.heap [] := va_S.rf
  have hX : cX none (chs [1, 8]) G ws G ws := cX.rf
  have hl := lv_entry ([.ref o, .int wide, .int high, .long p0, .int how]) (n := 7) (Nat.le_of_ble_eq_true rfl)
  rw [lg_entry_eq]
  generalize (lg_sl ([.ref o, .int wide, .int high, .long p0, .int how]) ++ List.replicate (7 - (lg_sl ([.ref o, .int wide, .int high, .long p0, .int how])).length) Slot.unset).toArray = ls at hl ⊢
  have hl : lv_has ls 7 [(0, .ref o), (1, .int wide), (2, .int high), (3, .long p0), (5, .int how)] := hl
  have k_0 : (0 : Int32).toInt = 0 := by decide
  have k_3 : (3 : Int32).toInt = 3 := by decide
  have k_m1L : (-1 : Int64).toInt = -1 := by decide
  refine lv_aload_n hx hb dX9_turned_0 rfl (lv_at hl 0 rfl) ?_
  refine lv_iload_n hx hb dX9_turned_1 rfl (lv_at hl 1 rfl) ?_
  refine lv_iload_n hx hb dX9_turned_2 rfl (lv_at hl 2 rfl) ?_
  obtain ⟨_, hM_o, bs_o, js_o, sh_o, wk_o, ll_o, jc_o, lc_o, mo_o, lb_o, rfl, hjc_o, hlc_o, hG_bs_o, hG_js_o, hG_sh_o, hG_wk_o, hmo_o, hG_ll_o, hlb_o⟩ := hT _ _ hG_o
  refine t_calla (va_runV (g := F0 m 3 ls ([.int high, .int wide, .ref o])) (As := [.int wide, .int high]) (rest := []) ⟨hx, hb, hml, hown, hts⟩ (c_X9_boardOf_x l D cy A G ws o wide high hD hT hG_o ) (cwV 2 hts gX9_turned_X9_boardOf rfl rfl rfl (by decide +kernel) ⟨Nat.le_of_ble_eq_true rfl, Nat.le_of_ble_eq_true rfl⟩) (c_preV hM_o rfl hP hK hA hS hV) rfl rfl hl.1 rfl (lv_room (Nat.le_of_ble_eq_true rfl)) dX9_turned_3 ⟨Nat.le_of_ble_eq_true rfl, Nat.le_of_ble_eq_true rfl⟩) hS (fun r3 u H locs q3 hP9 hD9 hT9 hS => ?_)
  obtain ⟨G3, w3⟩ := u
  obtain ⟨hX9, q3⟩ := q3
  have hX9 : cX none (chs [1, 8]) G ws G3 w3 := hX9
  have hP : va_P D vwCl w3 H := hP9
  have hD : va_D A w3 := hD9
  have hT : cT cy G3 w3 := hT9
  have hM_o := hX9.2.1 _ _ (cP.no hG_o rfl) hM_o
  have hG_o := hX9.1 _ _ hG_o
  have hG_bs_o := hX9.1 _ _ hG_bs_o
  have hG_js_o := hX9.1 _ _ hG_js_o
  have hG_sh_o := hX9.1 _ _ hG_sh_o
  have hG_wk_o := hX9.1 _ _ hG_wk_o
  have hG_ll_o := hX9.1 _ _ hG_ll_o
  have hX := hX.tr hX9
  rcases r3 with _ | x3
  · skip
    have vn3 := q3.2.1 rfl
    refine lv_astoreN (lv' := [(6, .null), (0, .ref o), (1, .int wide), (2, .int high), (3, .long p0), (5, .int how)]) hx hb dX9_turned_6 hl (by decide) rfl (fun ls hl => ?_)
    refine lv_aloadN hx hb dX9_turned_8 (lv_at hl 0 rfl) ?_
    refine lv_ifnullN (tgt := 33) hx hb dX9_turned_10 (by decide) ?_
    refine lv_ldc2 hx hb hown (hts (.constantLong RX9 143 (-1)) (by decide +kernel)) dX9_turned_33 ?_
    refine W.widen (k := 4) (n := 502) (Nat.le_of_ble_eq_true rfl) (Nat.le_of_ble_eq_true rfl) ?_
    exact W.lret (v := (-1 : Int64)) hx hb hr (fun t ht hW => ⟨⟨_, (G3, w3), rfl, ⟨hX, (Or.inr ⟨(fun z9 => by first | exact vn3 z9.1.1 | exact b19 z9.1.2 | omega), rfl⟩)⟩, by show va_P D vwCl w3 t.heap; rw [ht]; exact hP, hD, hT⟩, hS.F ht⟩) hS.2.2 dX9_turned_36
  · skip
    have hG_x3 := q3.1 x3 rfl
    have vb3 := q3.2.2 x3 rfl
    refine lv_astore (lv' := [(6, .ref x3), (0, .ref o), (1, .int wide), (2, .int high), (3, .long p0), (5, .int how)]) hx hb dX9_turned_6 hl (by decide) rfl (fun ls hl => ?_)
    refine lv_aload hx hb dX9_turned_8 (lv_at hl 0 rfl) ?_
    refine lv_ifnull hx hb dX9_turned_10 ?_
    refine lv_aload hx hb dX9_turned_13 (lv_at hl 0 rfl) ?_
    refine lv_lload_n hx hb dX9_turned_15 rfl (lv_at hl 4 rfl) ?_
    obtain ⟨_, hM_x3, hb_x3, l_x3, f_x3, r_x3, rfl, hG_l_x3, hG_f_x3, hG_r_x3⟩ := hT _ _ hG_x3
    refine t_calli (va_runV (g := F0 m 16 ls ([.long p0, .ref x3])) (As := [.long p0]) (rest := []) ⟨hx, hb, hml, hown, hts⟩ (c_X0_isPicture_x l D cy A G3 w3 x3 p0 hD hT hG_x3 ) (cwV 1 hts gX9_turned_X0_isPicture rfl rfl rfl (by decide +kernel) ⟨Nat.le_of_ble_eq_true rfl, Nat.le_of_ble_eq_true rfl⟩) (c_preV hM_x3 rfl hP hK hA hS hV) rfl rfl hl.1 rfl (lv_room (Nat.le_of_ble_eq_true rfl)) dX9_turned_16 ⟨Nat.le_of_ble_eq_true rfl, Nat.le_of_ble_eq_true rfl⟩) hS (fun r16 u H locs q16 hP9 hD9 hT9 hS => ?_)
    obtain ⟨rfl, q16⟩ := q16
    have hP : va_P D vwCl w3 H := hP9
    refine lv_if_eq (tgt := 33) hx hb dX9_turned_19 (by decide) (fun c19 => ?_) (fun c19 => ?_)
    · skip
      have b19 := bo_f q16 c19
      refine lv_ldc2 hx hb hown (hts (.constantLong RX9 143 (-1)) (by decide +kernel)) dX9_turned_33 ?_
      refine W.widen (k := 4) (n := 502) (Nat.le_of_ble_eq_true rfl) (Nat.le_of_ble_eq_true rfl) ?_
      exact W.lret (v := (-1 : Int64)) hx hb hr (fun t ht hW => ⟨⟨_, (G3, w3), rfl, ⟨hX, (Or.inr ⟨(fun z9 => by first | exact vn3 z9.1.1 | exact b19 z9.1.2 | omega), rfl⟩)⟩, by show va_P D vwCl w3 t.heap; rw [ht]; exact hP, hD, hT⟩, hS.F ht⟩) hS.2.2 dX9_turned_36
    · skip
      have b19 := bo_t q16 c19
      refine lv_iload hx hb dX9_turned_22 (lv_at hl 5 rfl) ?_
      refine lv_if_lt (tgt := 33) hx hb dX9_turned_24 (by decide) (fun c24 => ?_) (fun c24 => ?_)
      · skip
        have d24 := c24
        rw [fa_lt] at d24
        refine lv_ldc2 hx hb hown (hts (.constantLong RX9 143 (-1)) (by decide +kernel)) dX9_turned_33 ?_
        refine W.widen (k := 4) (n := 502) (Nat.le_of_ble_eq_true rfl) (Nat.le_of_ble_eq_true rfl) ?_
        exact W.lret (v := (-1 : Int64)) hx hb hr (fun t ht hW => ⟨⟨_, (G3, w3), rfl, ⟨hX, (Or.inr ⟨(fun z9 => by first | exact vn3 z9.1.1 | exact b19 z9.1.2 | omega), rfl⟩)⟩, by show va_P D vwCl w3 t.heap; rw [ht]; exact hP, hD, hT⟩, hS.F ht⟩) hS.2.2 dX9_turned_36
      · skip
        have d24 := c24
        rw [fa_lt] at d24
        refine lv_iload hx hb dX9_turned_27 (lv_at hl 5 rfl) ?_
        refine lv_iconst (v := 3) hx hb dX9_turned_29 (by decide) ?_
        refine lv_icmp_le (tgt := 37) hx hb dX9_turned_30 (by decide) (fun c30 => ?_) (fun c30 => ?_)
        · skip
          have d30 := c30
          rw [fa_le] at d30
          refine lv_aload hx hb dX9_turned_37 (lv_at hl 0 rfl) ?_
          refine lv_lload_n hx hb dX9_turned_39 rfl (lv_at hl 4 rfl) ?_
          refine lv_iload hx hb dX9_turned_40 (lv_at hl 5 rfl) ?_
          refine t_calll (va_runV (g := F0 m 42 ls ([.int how, .long p0, .ref x3])) (As := [.long p0, .int how]) (rest := []) ⟨hx, hb, hml, hown, hts⟩ (c_X0_turnedPicture_x l D cy A G3 w3 x3 p0 how hD hT hG_x3 ) (cwV 2 hts gX9_turned_X0_turnedPicture rfl rfl rfl (by decide +kernel) ⟨Nat.le_of_ble_eq_true rfl, Nat.le_of_ble_eq_true rfl⟩) (c_preV hM_x3 rfl hP hK hA hS hV) rfl rfl hl.1 rfl (lv_room (Nat.le_of_ble_eq_true rfl)) dX9_turned_42 ⟨Nat.le_of_ble_eq_true rfl, Nat.le_of_ble_eq_true rfl⟩) hS (fun r42 u H locs q42 hP9 hD9 hT9 hS => ?_)
          obtain ⟨rfl, q42⟩ := q42
          have hP : va_P D vwCl w3 H := hP9
          refine W.widen (k := 4) (n := 502) (Nat.le_of_ble_eq_true rfl) (Nat.le_of_ble_eq_true rfl) ?_
          exact W.lret (v := r42) hx hb hr (fun t ht hW => ⟨⟨_, (G3, w3), rfl, ⟨hX, (Or.inl ⟨⟨vb3, b19⟩, (by omega), q42⟩)⟩, by show va_P D vwCl w3 t.heap; rw [ht]; exact hP, hD, hT⟩, hS.F ht⟩) hS.2.2 dX9_turned_45
        · skip
          have d30 := c30
          rw [fa_le] at d30
          refine lv_ldc2 hx hb hown (hts (.constantLong RX9 143 (-1)) (by decide +kernel)) dX9_turned_33 ?_
          refine W.widen (k := 4) (n := 502) (Nat.le_of_ble_eq_true rfl) (Nat.le_of_ble_eq_true rfl) ?_
          exact W.lret (v := (-1 : Int64)) hx hb hr (fun t ht hW => ⟨⟨_, (G3, w3), rfl, ⟨hX, (Or.inr ⟨(fun z9 => by first | exact vn3 z9.1.1 | exact b19 z9.1.2 | omega), rfl⟩)⟩, by show va_P D vwCl w3 t.heap; rw [ht]; exact hP, hD, hT⟩, hS.F ht⟩) hS.2.2 dX9_turned_36

set_option maxHeartbeats 4000000 in
set_option maxRecDepth 100000 in
theorem c_X10_turned_x (l : Launch) (D : va_G) (cy : Nat → ClassId) (mo : Nat) (a : Nat → Nat) (f : Nat → Int32) (g : Nat → Int64) (r : Nat → Nat → Int32) (q : Nat → Nat → Int64) (w : Int32) (h : Int32) (p0 : Int64) (how : Int32) (hD : DM cy mo a)  : Ml l D cy mo a yX10_turned wsX10_turned ({ frames := 3, cells := 0, slots := 0, locals := 69 }) f g r q [.int w, .int h, .long p0, .int how] (fun r0 u => u = ((upd f 0 (0 : Int32)), g, r, q) ∧ (tA w h p0 how r0)) := by
  refine Met.ofW (cc := cX10_turned) (maxL := 12) (ret := (some .long)) (by decide) rfl ?_
  intro p e s m args below meth c s₁ B hml hv
  obtain ⟨rfl, hP, hK⟩ := hv
  have hx := B.exec
  have hb := B.bytes
  have hr := B.returns
  have hts := atoms_spec (ws := wsX10_turned) B.pre
  have hin : ∀ w ∈ u_ws RX10 TX10 35, w ∈ wsX10_turned := by decide +kernel
  have hown : s.vm.findClass RX10 = some m.cls := findClass_of_methodNamed B.named
  have hlocks := B.notSynchronized
  have hS : va_S (AM mo a) s.heap s.heap [] := va_S.rf
  have hl := lv_entry ([.ref mo, .int w, .int h, .long p0, .int how]) (n := 12) (Nat.le_of_ble_eq_true rfl)
  rw [lg_entry_eq]
  generalize (lg_sl ([.ref mo, .int w, .int h, .long p0, .int how]) ++ List.replicate (12 - (lg_sl ([.ref mo, .int w, .int h, .long p0, .int how])).length) Slot.unset).toArray = ls at hl ⊢
  have hl : lv_has ls 12 [(0, .ref mo), (1, .int w), (2, .int h), (3, .long p0), (5, .int how)] := hl
  have k_0 : (0 : Int32).toInt = 0 := by decide
  have k_1 : (1 : Int32).toInt = 1 := by decide
  have k_2 : (2 : Int32).toInt = 2 := by decide
  have k_3 : (3 : Int32).toInt = 3 := by decide
  have k_m1L : (-1 : Int64).toInt = -1 := by decide
  have k_0L : (0 : Int64).toInt = 0 := by decide
  have k_3L : (3 : Int64).toInt = 3 := by decide
  refine lv_aload_n hx hb dX10_turned_0 rfl (lv_at hl 0 rfl) ?_
  refine lv_iconst (v := 0) hx hb dX10_turned_1 (by decide) ?_
  refine m_put (v := .int (0 : Int32)) (ty := .int) hx hb hts hin hown hK hP hD hS 0 (by decide) rfl (hts (.fieldLink RX10 79 "ShadowBenchModel" "thrown" "I") (by decide +kernel)) rfl (by decide +kernel) rfl rfl (upd f 0 (0 : Int32)) g rfl dX10_turned_2 (fun H locs hP hS => ?_)
  refine lv_iload_n hx hb dX10_turned_5 rfl (lv_at hl 1 rfl) ?_
  refine lv_iload_n hx hb dX10_turned_6 rfl (lv_at hl 2 rfl) ?_
  refine lv_lload_n hx hb dX10_turned_7 rfl (lv_at hl 3 rfl) ?_
  refine m_pu (As := [.int w, .int h, .long p0]) (rest := []) ⟨hx, hb, hml, hown, hts⟩ (c_X10_isPicture l w h p0 ) (va_cwS 3 hts gX10_turned_X10_isPicture rfl rfl rfl (by decide +kernel) ⟨Nat.le_of_ble_eq_true rfl, Nat.le_of_ble_eq_true rfl⟩) hP rfl hl.1 rfl (Nat.le_of_ble_eq_true rfl) dX10_turned_8 ⟨Nat.le_of_ble_eq_true rfl, Nat.le_of_ble_eq_true rfl⟩ hS (fun r8 H locs q8 hP hS => ?_)
  refine lv_if_eq (tgt := 27) hx hb dX10_turned_11 (by decide) (fun c11 => ?_) (fun c11 => ?_)
  · skip
    have b11 := bo_f q8 c11
    refine lv_ldc2 hx hb hown (hts (.constantLong RX10 185 (-1)) (by decide +kernel)) dX10_turned_27 ?_
    exact W.lret (v := (-1 : Int64)) hx hb hr (fun t ht hW => ⟨⟨_, ((upd f 0 (0 : Int32)), g, r, q), rfl, ⟨rfl, (Or.inr ⟨(fun z9 => by first | exact goodP_no b11 z9.1 | exact b24 z9.2), rfl⟩)⟩, by unfold mB; rw [ht]; exact hP⟩, hS.F ht⟩) hS.2.2 dX10_turned_30
  · skip
    have b11 := bo_t q8 c11
    refine lv_iload hx hb dX10_turned_14 (lv_at hl 4 rfl) ?_
    refine lv_i2l (v := how.toInt64) hx hb dX10_turned_16 rfl ?_
    refine lv_lconst (v := 0) hx hb dX10_turned_17 (by decide) ?_
    refine lv_ldc2 hx hb hown (hts (.constantLong RX10 116 (3)) (by decide +kernel)) dX10_turned_18 ?_
    refine m_pu (As := [.long (how.toInt64), .long (0 : Int64), .long (3 : Int64)]) (rest := []) ⟨hx, hb, hml, hown, hts⟩ (c_X10_isIn l how.toInt64 (0 : Int64) (3 : Int64) ) (va_cwS 3 hts gX10_turned_X10_isIn rfl rfl rfl (by decide +kernel) ⟨Nat.le_of_ble_eq_true rfl, Nat.le_of_ble_eq_true rfl⟩) hP rfl hl.1 rfl (Nat.le_of_ble_eq_true rfl) dX10_turned_21 ⟨Nat.le_of_ble_eq_true rfl, Nat.le_of_ble_eq_true rfl⟩ hS (fun r21 H locs q21 hP hS => ?_)
    have q21 := q21
    simp only [k64, show (0 : Int64).toInt = 0 from rfl, show (1 : Int64).toInt = 1 from rfl, show (2 : Int64).toInt = 2 from rfl, show (3 : Int64).toInt = 3 from rfl, show (6 : Int64).toInt = 6 from rfl] at q21
    refine lv_if_ne (tgt := 31) hx hb dX10_turned_24 (by decide) (fun c24 => ?_) (fun c24 => ?_)
    · skip
      have b24 := bo_t q21 c24
      have gp := goodP_of b11
      have y24 := b24
      try simp only [k64, show (0 : Int64).toInt = 0 from rfl, show (3 : Int64).toInt = 3 from rfl] at y24
      obtain ⟨ha, hb9, h36, hwh⟩ := wh36 b11.1.1 b11.1.2
      have ew := cl_nI (w := w) (by omega)
      have eh := cl_nI (w := h) (by omega)
      obtain ⟨A9, hA9⟩ : ∃ z, z = w.toNatClampNeg := ⟨_, rfl⟩
      obtain ⟨B9, hB9⟩ : ∃ z, z = h.toNatClampNeg := ⟨_, rfl⟩
      rw [← hA9] at ha h36 hwh ew
      rw [← hB9] at hb9 h36 hwh eh
      have m37 := mul66 b11.1.1 b11.1.2
      refine lv_lconst (v := 0) hx hb dX10_turned_31 (by decide) ?_
      refine lv_lstore (lv' := [(6, .long (0 : Int64)), (0, .ref mo), (1, .int w), (2, .int h), (3, .long p0), (5, .int how)]) hx hb dX10_turned_32 hl (by decide) rfl (fun ls hl => ?_)
      refine lv_iconst (v := 0) hx hb dX10_turned_34 (by decide) ?_
      refine lv_istore (lv' := [(8, .int (0 : Int32)), (6, .long (0 : Int64)), (0, .ref mo), (1, .int w), (2, .int h), (3, .long p0), (5, .int how)]) hx hb dX10_turned_35 hl (by decide) rfl (fun ls hl => ?_)
      have loop_37 : ∀ (n : Nat) (s1 : Nat) (x6 : Int64), ((s1 : Int) ≤ ((A9 * B9 : Nat) : Int)) → (x6 = tR A9 B9 p0 how.toInt s1) → A9 * B9 - s1 < n → ∀ (H : Heap) (locs : List Loc), va_P D vwCl (WM cy mo a (upd f 0 (0 : Int32)) g r q) H → va_S (AM mo a) s.heap H locs → ∀ (ls : Array Slot), lv_has ls 12 [(8, .int (nI s1)), (6, .long x6), (0, .ref mo), (1, .int w), (2, .int h), (3, .long p0), (5, .int how)] → W p l e (headSpec wsX10_turned ({ frames := 3, cells := 0, slots := 0, locals := 69 })).room s m #[Value.ref mo, Value.int w, Value.int h, Value.long p0, Value.int how] below meth c H locs 0 0 (MQ below (va_Ql (fun r0 u => u = ((upd f 0 (0 : Int32)), g, r, q) ∧ (tA w h p0 how r0)) (mB D cy mo a) (AM mo a)) #[Value.ref mo, Value.int w, Value.int h, Value.long p0, Value.int how] s 0 0 (AM mo a)) (F0 m 37 ls []) := by
        intro n
        induction n with
        | zero => intro s1 x6  j37_0 j37_1 hn; exact absurd hn (Nat.not_lt_zero _)
        | succ n ih_37 =>
          intro s1 x6  j37_0 j37_1 hn_37 H locs hP hS ls hl
          have is1 : (nI s1).toInt = (s1 : Int) := nI_toInt (by omega)
          refine lv_iload hx hb dX10_turned_37 (lv_at hl 0 rfl) ?_
          refine lv_iload_n hx hb dX10_turned_39 rfl (lv_at hl 3 rfl) ?_
          refine lv_iload_n hx hb dX10_turned_40 rfl (lv_at hl 4 rfl) ?_
          refine lv_imul hx hb dX10_turned_41 ?_
          refine lv_topi (fun v41 e41 => ?_)
          have i41 : v41.toInt = w.toInt * h.toInt := by rw [e41]; exact fb_mulI (by omega) (by omega)
          refine lv_icmp_ge (tgt := 154) hx hb dX10_turned_42 (by decide) (fun c42 => ?_) (fun c42 => ?_)
          · skip
            have d42 := c42
            rw [fa_le] at d42
            obtain rfl : s1 = A9 * B9 := by omega
            refine lv_lload hx hb dX10_turned_154 (lv_at hl 1 rfl) ?_
            exact W.lret (v := x6) hx hb hr (fun t ht hW => ⟨⟨_, ((upd f 0 (0 : Int32)), g, r, q), rfl, ⟨rfl, (Or.inl ⟨gp, y24, (by rw [← hA9, ← hB9]; exact j37_1)⟩)⟩, by unfold mB; rw [ht]; exact hP⟩, hS.F ht⟩) hS.2.2 dX10_turned_156
          · skip
            have d42 := c42
            rw [fa_le] at d42
            have hs1 : s1 < A9 * B9 := by omega
            have hdv : s1 / A9 < B9 := Nat.div_lt_of_lt_mul hs1
            refine lv_iload hx hb dX10_turned_45 (lv_at hl 0 rfl) ?_
            refine lv_iload_n hx hb dX10_turned_47 rfl (lv_at hl 3 rfl) ?_
            refine lv_irem hx hb dX10_turned_48 (fun z => by rw [fa_eq] at z; omega) ?_
            refine lv_topi (fun v48 e48 => ?_)
            have i48 : v48.toInt = (nI s1).toInt % w.toInt := by rw [e48]; exact my_irem (by omega) (by omega)
            have j48 : 0 ≤ v48.toInt ∧ v48.toInt < w.toInt ∧ v48.toInt ≤ (nI s1).toInt := by rw [e48]; exact my_remb (by omega) (by omega)
            refine lv_istore (lv' := [(9, .int v48), (8, .int (nI s1)), (6, .long x6), (0, .ref mo), (1, .int w), (2, .int h), (3, .long p0), (5, .int how)]) hx hb dX10_turned_49 hl (by decide) rfl (fun ls hl => ?_)
            refine lv_iload hx hb dX10_turned_51 (lv_at hl 1 rfl) ?_
            refine lv_iload_n hx hb dX10_turned_53 rfl (lv_at hl 4 rfl) ?_
            refine lv_idiv hx hb dX10_turned_54 (fun z => by rw [fa_eq] at z; omega) ?_
            refine lv_topi (fun v54 e54 => ?_)
            have i54 : v54.toInt = (nI s1).toInt / w.toInt := by rw [e54]; exact my_idiv (by omega) (by omega)
            have j54 : 0 ≤ v54.toInt ∧ v54.toInt ≤ (nI s1).toInt := by rw [e54]; exact my_divb (by omega) (by omega)
            refine lv_istore (lv' := [(10, .int v54), (9, .int v48), (8, .int (nI s1)), (6, .long x6), (0, .ref mo), (1, .int w), (2, .int h), (3, .long p0), (5, .int how)]) hx hb dX10_turned_55 hl (by decide) rfl (fun ls hl => ?_)
            have f48 : v48 = nI (s1 % A9) := by rw [e48, ← ew]; exact pk_rem (by omega) (by omega) (by omega)
            have f54 : v54 = nI (s1 / A9) := by rw [e54, ← ew]; exact pk_div (by omega) (by omega) (by omega)
            refine lv_iload hx hb dX10_turned_57 (lv_at hl 8 rfl) ?_
            refine lv_if_ne (tgt := 76) hx hb dX10_turned_59 (by decide) (fun c59 => ?_) (fun c59 => ?_)
            · skip
              have d59 := c59
              rw [fa_eq] at d59
              refine lv_iload hx hb dX10_turned_76 (lv_at hl 8 rfl) ?_
              refine lv_iconst (v := 1) hx hb dX10_turned_78 (by decide) ?_
              refine lv_icmp_ne (tgt := 96) hx hb dX10_turned_79 (by decide) (fun c79 => ?_) (fun c79 => ?_)
              · skip
                have d79 := c79
                rw [fa_eq] at d79
                refine lv_iload hx hb dX10_turned_96 (lv_at hl 8 rfl) ?_
                refine lv_iconst (v := 2) hx hb dX10_turned_98 (by decide) ?_
                refine lv_icmp_ne (tgt := 112) hx hb dX10_turned_99 (by decide) (fun c99 => ?_) (fun c99 => ?_)
                · skip
                  have d99 := c99
                  rw [fa_eq] at d99
                  refine lv_iload hx hb dX10_turned_112 (lv_at hl 2 rfl) ?_
                  refine lv_istore (lv' := [(11, .int (nI s1)), (10, .int v54), (9, .int v48), (8, .int (nI s1)), (6, .long x6), (0, .ref mo), (1, .int w), (2, .int h), (3, .long p0), (5, .int how)]) hx hb dX10_turned_114 hl (by decide) rfl (fun ls hl => ?_)
                  refine lv_lload hx hb dX10_turned_116 (lv_at hl 4 rfl) ?_
                  refine lv_iload hx hb dX10_turned_118 (lv_at hl 9 rfl) ?_
                  refine lv_iconst (v := 3) hx hb dX10_turned_120 (by decide) ?_
                  refine lv_icmp_ne (tgt := 135) hx hb dX10_turned_121 (by decide) (fun c121 => ?_) (fun c121 => ?_)
                  · skip
                    have d121 := c121
                    rw [fa_eq] at d121
                    refine lv_lload_n hx hb dX10_turned_135 rfl (lv_at hl 8 rfl) ?_
                    refine lv_iload hx hb dX10_turned_136 (lv_at hl 3 rfl) ?_
                    refine m_pu (As := [.long p0, .int (nI s1)]) (rest := [.long x6]) ⟨hx, hb, hml, hown, hts⟩ (c_X10_one l p0 (nI s1) ) (va_cwS 2 hts gX10_turned_X10_one rfl rfl rfl (by decide +kernel) ⟨Nat.le_of_ble_eq_true rfl, Nat.le_of_ble_eq_true rfl⟩) hP rfl hl.1 rfl (Nat.le_of_ble_eq_true rfl) dX10_turned_138 ⟨Nat.le_of_ble_eq_true rfl, Nat.le_of_ble_eq_true rfl⟩ hS (fun r138 H locs q138 hP hS => ?_)
                    have i138 : r138.toInt = (r_one p0 (nI s1)).toInt := congrArg Int32.toInt q138
                    refine lv_i2l (v := r138.toInt64) hx hb dX10_turned_141 rfl ?_
                    refine lv_iload hx hb dX10_turned_142 (lv_at hl 0 rfl) ?_
                    refine lv_lshl (v := r138.toInt64 <<< ((nI s1).toInt64 &&& 63)) hx hb dX10_turned_144 rfl ?_
                    refine lv_lor hx hb dX10_turned_145 ?_
                    refine lv_topl (fun v145 e145 => ?_)
                    have hnx : v145 = tR A9 B9 p0 how.toInt (s1 + 1) := by
                      first
                      | exact tR_s (by omega) (by omega) rfl q138 j37_1 (by rw [e145, f72])
                      | exact tR_s (by omega) (by omega) rfl q138 j37_1 (by rw [e145, f92])
                      | exact tR_s (by omega) (by omega) rfl q138 j37_1 (by rw [e145, f108])
                      | exact tR_3 (by omega) (by omega) rfl q128 e131 j37_1 e145
                      | (exfalso; omega)
                    refine lv_lstore (lv' := [(6, .long v145), (11, .int (nI s1)), (10, .int v54), (9, .int v48), (8, .int (nI s1)), (0, .ref mo), (1, .int w), (2, .int h), (3, .long p0), (5, .int how)]) hx hb dX10_turned_146 hl (by decide) rfl (fun ls hl => ?_)
                    refine lv_iinc (v := (nI (s1 + 1))) (lv' := [(8, .int (nI (s1 + 1))), (6, .long v145), (11, .int (nI s1)), (10, .int v54), (9, .int v48), (0, .ref mo), (1, .int w), (2, .int h), (3, .long p0), (5, .int how)]) hx hb dX10_turned_148 hl (k := 4) rfl (nI_1 _) (by decide) rfl (fun ls hl => ?_)
                    refine lv_goto (tgt := 37) hx hb dX10_turned_151 (by decide) ?_
                    exact ih_37 (s1 + 1) v145 (by omega) (hnx) (by omega) _ _ hP hS ls (lv_sub hl [0, 1, 5, 6, 7, 8, 9] rfl)
                  · skip
                    have d121 := c121
                    rw [fa_eq] at d121
                    refine lv_iconst (v := 1) hx hb dX10_turned_124 (by decide) ?_
                    refine lv_lload_n hx hb dX10_turned_125 rfl (lv_at hl 8 rfl) ?_
                    refine lv_iload hx hb dX10_turned_126 (lv_at hl 3 rfl) ?_
                    refine m_pu (As := [.long p0, .int (nI s1)]) (rest := [.int (1 : Int32), .long x6]) ⟨hx, hb, hml, hown, hts⟩ (c_X10_one l p0 (nI s1) ) (va_cwS 2 hts gX10_turned_X10_one rfl rfl rfl (by decide +kernel) ⟨Nat.le_of_ble_eq_true rfl, Nat.le_of_ble_eq_true rfl⟩) hP rfl hl.1 rfl (Nat.le_of_ble_eq_true rfl) dX10_turned_128 ⟨Nat.le_of_ble_eq_true rfl, Nat.le_of_ble_eq_true rfl⟩ hS (fun r128 H locs q128 hP hS => ?_)
                    have i128 : r128.toInt = (r_one p0 (nI s1)).toInt := congrArg Int32.toInt q128
                    refine lv_isub hx hb dX10_turned_131 ?_
                    refine lv_topi (fun v131 e131 => ?_)
                    refine lv_goto (tgt := 141) hx hb dX10_turned_132 (by decide) ?_
                    refine lv_i2l (v := v131.toInt64) hx hb dX10_turned_141 rfl ?_
                    refine lv_iload hx hb dX10_turned_142 (lv_at hl 0 rfl) ?_
                    refine lv_lshl (v := v131.toInt64 <<< ((nI s1).toInt64 &&& 63)) hx hb dX10_turned_144 rfl ?_
                    refine lv_lor hx hb dX10_turned_145 ?_
                    refine lv_topl (fun v145 e145 => ?_)
                    have hnx : v145 = tR A9 B9 p0 how.toInt (s1 + 1) := by
                      first
                      | exact tR_s (by omega) (by omega) rfl q138 j37_1 (by rw [e145, f72])
                      | exact tR_s (by omega) (by omega) rfl q138 j37_1 (by rw [e145, f92])
                      | exact tR_s (by omega) (by omega) rfl q138 j37_1 (by rw [e145, f108])
                      | exact tR_3 (by omega) (by omega) rfl q128 e131 j37_1 e145
                      | (exfalso; omega)
                    refine lv_lstore (lv' := [(6, .long v145), (11, .int (nI s1)), (10, .int v54), (9, .int v48), (8, .int (nI s1)), (0, .ref mo), (1, .int w), (2, .int h), (3, .long p0), (5, .int how)]) hx hb dX10_turned_146 hl (by decide) rfl (fun ls hl => ?_)
                    refine lv_iinc (v := (nI (s1 + 1))) (lv' := [(8, .int (nI (s1 + 1))), (6, .long v145), (11, .int (nI s1)), (10, .int v54), (9, .int v48), (0, .ref mo), (1, .int w), (2, .int h), (3, .long p0), (5, .int how)]) hx hb dX10_turned_148 hl (k := 4) rfl (nI_1 _) (by decide) rfl (fun ls hl => ?_)
                    refine lv_goto (tgt := 37) hx hb dX10_turned_151 (by decide) ?_
                    exact ih_37 (s1 + 1) v145 (by omega) (hnx) (by omega) _ _ hP hS ls (lv_sub hl [0, 1, 5, 6, 7, 8, 9] rfl)
                · skip
                  have d99 := c99
                  rw [fa_eq] at d99
                  refine lv_iload hx hb dX10_turned_102 (lv_at hl 1 rfl) ?_
                  refine lv_iload_n hx hb dX10_turned_104 rfl (lv_at hl 6 rfl) ?_
                  refine lv_imul hx hb dX10_turned_105 ?_
                  refine lv_topi (fun v105 e105 => ?_)
                  refine lv_iload hx hb dX10_turned_106 (lv_at hl 0 rfl) ?_
                  refine lv_iadd hx hb dX10_turned_108 ?_
                  refine lv_topi (fun v108 e108 => ?_)
                  have f108 : v108 = nI (tP A9 B9 how.toInt (s1 % A9) (s1 / A9)) := by unfold tP; rw [if_neg (by omega), if_neg (by omega)]; exact t_p2 eh.symm f48 f54 e105 e108
                  refine lv_goto (tgt := 114) hx hb dX10_turned_109 (by decide) ?_
                  refine lv_istore (lv' := [(11, .int v108), (10, .int v54), (9, .int v48), (8, .int (nI s1)), (6, .long x6), (0, .ref mo), (1, .int w), (2, .int h), (3, .long p0), (5, .int how)]) hx hb dX10_turned_114 hl (by decide) rfl (fun ls hl => ?_)
                  refine lv_lload hx hb dX10_turned_116 (lv_at hl 4 rfl) ?_
                  refine lv_iload hx hb dX10_turned_118 (lv_at hl 9 rfl) ?_
                  refine lv_iconst (v := 3) hx hb dX10_turned_120 (by decide) ?_
                  refine lv_icmp_ne (tgt := 135) hx hb dX10_turned_121 (by decide) (fun c121 => ?_) (fun c121 => ?_)
                  · skip
                    have d121 := c121
                    rw [fa_eq] at d121
                    refine lv_lload_n hx hb dX10_turned_135 rfl (lv_at hl 8 rfl) ?_
                    refine lv_iload hx hb dX10_turned_136 (lv_at hl 3 rfl) ?_
                    refine m_pu (As := [.long p0, .int (nI s1)]) (rest := [.long x6]) ⟨hx, hb, hml, hown, hts⟩ (c_X10_one l p0 (nI s1) ) (va_cwS 2 hts gX10_turned_X10_one rfl rfl rfl (by decide +kernel) ⟨Nat.le_of_ble_eq_true rfl, Nat.le_of_ble_eq_true rfl⟩) hP rfl hl.1 rfl (Nat.le_of_ble_eq_true rfl) dX10_turned_138 ⟨Nat.le_of_ble_eq_true rfl, Nat.le_of_ble_eq_true rfl⟩ hS (fun r138 H locs q138 hP hS => ?_)
                    have i138 : r138.toInt = (r_one p0 (nI s1)).toInt := congrArg Int32.toInt q138
                    refine lv_i2l (v := r138.toInt64) hx hb dX10_turned_141 rfl ?_
                    refine lv_iload hx hb dX10_turned_142 (lv_at hl 0 rfl) ?_
                    refine lv_lshl (v := r138.toInt64 <<< (v108.toInt64 &&& 63)) hx hb dX10_turned_144 rfl ?_
                    refine lv_lor hx hb dX10_turned_145 ?_
                    refine lv_topl (fun v145 e145 => ?_)
                    have hnx : v145 = tR A9 B9 p0 how.toInt (s1 + 1) := by
                      first
                      | exact tR_s (by omega) (by omega) rfl q138 j37_1 (by rw [e145, f72])
                      | exact tR_s (by omega) (by omega) rfl q138 j37_1 (by rw [e145, f92])
                      | exact tR_s (by omega) (by omega) rfl q138 j37_1 (by rw [e145, f108])
                      | exact tR_3 (by omega) (by omega) rfl q128 e131 j37_1 e145
                      | (exfalso; omega)
                    refine lv_lstore (lv' := [(6, .long v145), (11, .int v108), (10, .int v54), (9, .int v48), (8, .int (nI s1)), (0, .ref mo), (1, .int w), (2, .int h), (3, .long p0), (5, .int how)]) hx hb dX10_turned_146 hl (by decide) rfl (fun ls hl => ?_)
                    refine lv_iinc (v := (nI (s1 + 1))) (lv' := [(8, .int (nI (s1 + 1))), (6, .long v145), (11, .int v108), (10, .int v54), (9, .int v48), (0, .ref mo), (1, .int w), (2, .int h), (3, .long p0), (5, .int how)]) hx hb dX10_turned_148 hl (k := 4) rfl (nI_1 _) (by decide) rfl (fun ls hl => ?_)
                    refine lv_goto (tgt := 37) hx hb dX10_turned_151 (by decide) ?_
                    exact ih_37 (s1 + 1) v145 (by omega) (hnx) (by omega) _ _ hP hS ls (lv_sub hl [0, 1, 5, 6, 7, 8, 9] rfl)
                  · skip
                    have d121 := c121
                    rw [fa_eq] at d121
                    refine lv_iconst (v := 1) hx hb dX10_turned_124 (by decide) ?_
                    refine lv_lload_n hx hb dX10_turned_125 rfl (lv_at hl 8 rfl) ?_
                    refine lv_iload hx hb dX10_turned_126 (lv_at hl 3 rfl) ?_
                    refine m_pu (As := [.long p0, .int (nI s1)]) (rest := [.int (1 : Int32), .long x6]) ⟨hx, hb, hml, hown, hts⟩ (c_X10_one l p0 (nI s1) ) (va_cwS 2 hts gX10_turned_X10_one rfl rfl rfl (by decide +kernel) ⟨Nat.le_of_ble_eq_true rfl, Nat.le_of_ble_eq_true rfl⟩) hP rfl hl.1 rfl (Nat.le_of_ble_eq_true rfl) dX10_turned_128 ⟨Nat.le_of_ble_eq_true rfl, Nat.le_of_ble_eq_true rfl⟩ hS (fun r128 H locs q128 hP hS => ?_)
                    have i128 : r128.toInt = (r_one p0 (nI s1)).toInt := congrArg Int32.toInt q128
                    refine lv_isub hx hb dX10_turned_131 ?_
                    refine lv_topi (fun v131 e131 => ?_)
                    refine lv_goto (tgt := 141) hx hb dX10_turned_132 (by decide) ?_
                    refine lv_i2l (v := v131.toInt64) hx hb dX10_turned_141 rfl ?_
                    refine lv_iload hx hb dX10_turned_142 (lv_at hl 0 rfl) ?_
                    refine lv_lshl (v := v131.toInt64 <<< (v108.toInt64 &&& 63)) hx hb dX10_turned_144 rfl ?_
                    refine lv_lor hx hb dX10_turned_145 ?_
                    refine lv_topl (fun v145 e145 => ?_)
                    have hnx : v145 = tR A9 B9 p0 how.toInt (s1 + 1) := by
                      first
                      | exact tR_s (by omega) (by omega) rfl q138 j37_1 (by rw [e145, f72])
                      | exact tR_s (by omega) (by omega) rfl q138 j37_1 (by rw [e145, f92])
                      | exact tR_s (by omega) (by omega) rfl q138 j37_1 (by rw [e145, f108])
                      | exact tR_3 (by omega) (by omega) rfl q128 e131 j37_1 e145
                      | (exfalso; omega)
                    refine lv_lstore (lv' := [(6, .long v145), (11, .int v108), (10, .int v54), (9, .int v48), (8, .int (nI s1)), (0, .ref mo), (1, .int w), (2, .int h), (3, .long p0), (5, .int how)]) hx hb dX10_turned_146 hl (by decide) rfl (fun ls hl => ?_)
                    refine lv_iinc (v := (nI (s1 + 1))) (lv' := [(8, .int (nI (s1 + 1))), (6, .long v145), (11, .int v108), (10, .int v54), (9, .int v48), (0, .ref mo), (1, .int w), (2, .int h), (3, .long p0), (5, .int how)]) hx hb dX10_turned_148 hl (k := 4) rfl (nI_1 _) (by decide) rfl (fun ls hl => ?_)
                    refine lv_goto (tgt := 37) hx hb dX10_turned_151 (by decide) ?_
                    exact ih_37 (s1 + 1) v145 (by omega) (hnx) (by omega) _ _ hP hS ls (lv_sub hl [0, 1, 5, 6, 7, 8, 9] rfl)
              · skip
                have d79 := c79
                rw [fa_eq] at d79
                refine lv_iload_n hx hb dX10_turned_82 rfl (lv_at hl 6 rfl) ?_
                refine lv_iconst (v := 1) hx hb dX10_turned_83 (by decide) ?_
                refine lv_isub hx hb dX10_turned_84 ?_
                refine lv_topi (fun v84 e84 => ?_)
                refine lv_iload hx hb dX10_turned_85 (lv_at hl 0 rfl) ?_
                refine lv_isub hx hb dX10_turned_87 ?_
                refine lv_topi (fun v87 e87 => ?_)
                refine lv_iload_n hx hb dX10_turned_88 rfl (lv_at hl 5 rfl) ?_
                refine lv_imul hx hb dX10_turned_89 ?_
                refine lv_topi (fun v89 e89 => ?_)
                refine lv_iload hx hb dX10_turned_90 (lv_at hl 1 rfl) ?_
                refine lv_iadd hx hb dX10_turned_92 ?_
                refine lv_topi (fun v92 e92 => ?_)
                have f92 : v92 = nI (tP A9 B9 how.toInt (s1 % A9) (s1 / A9)) := by unfold tP; rw [if_neg (by omega), if_pos (by omega)]; exact t_p1 ew.symm eh.symm (by omega) f48 f54 hdv e84 e87 e89 e92
                refine lv_goto (tgt := 114) hx hb dX10_turned_93 (by decide) ?_
                refine lv_istore (lv' := [(11, .int v92), (10, .int v54), (9, .int v48), (8, .int (nI s1)), (6, .long x6), (0, .ref mo), (1, .int w), (2, .int h), (3, .long p0), (5, .int how)]) hx hb dX10_turned_114 hl (by decide) rfl (fun ls hl => ?_)
                refine lv_lload hx hb dX10_turned_116 (lv_at hl 4 rfl) ?_
                refine lv_iload hx hb dX10_turned_118 (lv_at hl 9 rfl) ?_
                refine lv_iconst (v := 3) hx hb dX10_turned_120 (by decide) ?_
                refine lv_icmp_ne (tgt := 135) hx hb dX10_turned_121 (by decide) (fun c121 => ?_) (fun c121 => ?_)
                · skip
                  have d121 := c121
                  rw [fa_eq] at d121
                  refine lv_lload_n hx hb dX10_turned_135 rfl (lv_at hl 8 rfl) ?_
                  refine lv_iload hx hb dX10_turned_136 (lv_at hl 3 rfl) ?_
                  refine m_pu (As := [.long p0, .int (nI s1)]) (rest := [.long x6]) ⟨hx, hb, hml, hown, hts⟩ (c_X10_one l p0 (nI s1) ) (va_cwS 2 hts gX10_turned_X10_one rfl rfl rfl (by decide +kernel) ⟨Nat.le_of_ble_eq_true rfl, Nat.le_of_ble_eq_true rfl⟩) hP rfl hl.1 rfl (Nat.le_of_ble_eq_true rfl) dX10_turned_138 ⟨Nat.le_of_ble_eq_true rfl, Nat.le_of_ble_eq_true rfl⟩ hS (fun r138 H locs q138 hP hS => ?_)
                  have i138 : r138.toInt = (r_one p0 (nI s1)).toInt := congrArg Int32.toInt q138
                  refine lv_i2l (v := r138.toInt64) hx hb dX10_turned_141 rfl ?_
                  refine lv_iload hx hb dX10_turned_142 (lv_at hl 0 rfl) ?_
                  refine lv_lshl (v := r138.toInt64 <<< (v92.toInt64 &&& 63)) hx hb dX10_turned_144 rfl ?_
                  refine lv_lor hx hb dX10_turned_145 ?_
                  refine lv_topl (fun v145 e145 => ?_)
                  have hnx : v145 = tR A9 B9 p0 how.toInt (s1 + 1) := by
                    first
                    | exact tR_s (by omega) (by omega) rfl q138 j37_1 (by rw [e145, f72])
                    | exact tR_s (by omega) (by omega) rfl q138 j37_1 (by rw [e145, f92])
                    | exact tR_s (by omega) (by omega) rfl q138 j37_1 (by rw [e145, f108])
                    | exact tR_3 (by omega) (by omega) rfl q128 e131 j37_1 e145
                    | (exfalso; omega)
                  refine lv_lstore (lv' := [(6, .long v145), (11, .int v92), (10, .int v54), (9, .int v48), (8, .int (nI s1)), (0, .ref mo), (1, .int w), (2, .int h), (3, .long p0), (5, .int how)]) hx hb dX10_turned_146 hl (by decide) rfl (fun ls hl => ?_)
                  refine lv_iinc (v := (nI (s1 + 1))) (lv' := [(8, .int (nI (s1 + 1))), (6, .long v145), (11, .int v92), (10, .int v54), (9, .int v48), (0, .ref mo), (1, .int w), (2, .int h), (3, .long p0), (5, .int how)]) hx hb dX10_turned_148 hl (k := 4) rfl (nI_1 _) (by decide) rfl (fun ls hl => ?_)
                  refine lv_goto (tgt := 37) hx hb dX10_turned_151 (by decide) ?_
                  exact ih_37 (s1 + 1) v145 (by omega) (hnx) (by omega) _ _ hP hS ls (lv_sub hl [0, 1, 5, 6, 7, 8, 9] rfl)
                · skip
                  have d121 := c121
                  rw [fa_eq] at d121
                  refine lv_iconst (v := 1) hx hb dX10_turned_124 (by decide) ?_
                  refine lv_lload_n hx hb dX10_turned_125 rfl (lv_at hl 8 rfl) ?_
                  refine lv_iload hx hb dX10_turned_126 (lv_at hl 3 rfl) ?_
                  refine m_pu (As := [.long p0, .int (nI s1)]) (rest := [.int (1 : Int32), .long x6]) ⟨hx, hb, hml, hown, hts⟩ (c_X10_one l p0 (nI s1) ) (va_cwS 2 hts gX10_turned_X10_one rfl rfl rfl (by decide +kernel) ⟨Nat.le_of_ble_eq_true rfl, Nat.le_of_ble_eq_true rfl⟩) hP rfl hl.1 rfl (Nat.le_of_ble_eq_true rfl) dX10_turned_128 ⟨Nat.le_of_ble_eq_true rfl, Nat.le_of_ble_eq_true rfl⟩ hS (fun r128 H locs q128 hP hS => ?_)
                  have i128 : r128.toInt = (r_one p0 (nI s1)).toInt := congrArg Int32.toInt q128
                  refine lv_isub hx hb dX10_turned_131 ?_
                  refine lv_topi (fun v131 e131 => ?_)
                  refine lv_goto (tgt := 141) hx hb dX10_turned_132 (by decide) ?_
                  refine lv_i2l (v := v131.toInt64) hx hb dX10_turned_141 rfl ?_
                  refine lv_iload hx hb dX10_turned_142 (lv_at hl 0 rfl) ?_
                  refine lv_lshl (v := v131.toInt64 <<< (v92.toInt64 &&& 63)) hx hb dX10_turned_144 rfl ?_
                  refine lv_lor hx hb dX10_turned_145 ?_
                  refine lv_topl (fun v145 e145 => ?_)
                  have hnx : v145 = tR A9 B9 p0 how.toInt (s1 + 1) := by
                    first
                    | exact tR_s (by omega) (by omega) rfl q138 j37_1 (by rw [e145, f72])
                    | exact tR_s (by omega) (by omega) rfl q138 j37_1 (by rw [e145, f92])
                    | exact tR_s (by omega) (by omega) rfl q138 j37_1 (by rw [e145, f108])
                    | exact tR_3 (by omega) (by omega) rfl q128 e131 j37_1 e145
                    | (exfalso; omega)
                  refine lv_lstore (lv' := [(6, .long v145), (11, .int v92), (10, .int v54), (9, .int v48), (8, .int (nI s1)), (0, .ref mo), (1, .int w), (2, .int h), (3, .long p0), (5, .int how)]) hx hb dX10_turned_146 hl (by decide) rfl (fun ls hl => ?_)
                  refine lv_iinc (v := (nI (s1 + 1))) (lv' := [(8, .int (nI (s1 + 1))), (6, .long v145), (11, .int v92), (10, .int v54), (9, .int v48), (0, .ref mo), (1, .int w), (2, .int h), (3, .long p0), (5, .int how)]) hx hb dX10_turned_148 hl (k := 4) rfl (nI_1 _) (by decide) rfl (fun ls hl => ?_)
                  refine lv_goto (tgt := 37) hx hb dX10_turned_151 (by decide) ?_
                  exact ih_37 (s1 + 1) v145 (by omega) (hnx) (by omega) _ _ hP hS ls (lv_sub hl [0, 1, 5, 6, 7, 8, 9] rfl)
            · skip
              have d59 := c59
              rw [fa_eq] at d59
              refine lv_iload hx hb dX10_turned_62 (lv_at hl 1 rfl) ?_
              refine lv_iload_n hx hb dX10_turned_64 rfl (lv_at hl 6 rfl) ?_
              refine lv_imul hx hb dX10_turned_65 ?_
              refine lv_topi (fun v65 e65 => ?_)
              refine lv_iload_n hx hb dX10_turned_66 rfl (lv_at hl 6 rfl) ?_
              refine lv_iadd hx hb dX10_turned_67 ?_
              refine lv_topi (fun v67 e67 => ?_)
              refine lv_iconst (v := 1) hx hb dX10_turned_68 (by decide) ?_
              refine lv_isub hx hb dX10_turned_69 ?_
              refine lv_topi (fun v69 e69 => ?_)
              refine lv_iload hx hb dX10_turned_70 (lv_at hl 0 rfl) ?_
              refine lv_isub hx hb dX10_turned_72 ?_
              refine lv_topi (fun v72 e72 => ?_)
              have f72 : v72 = nI (tP A9 B9 how.toInt (s1 % A9) (s1 / A9)) := by unfold tP; rw [if_pos (by omega)]; exact t_p0 ew.symm eh.symm (by omega) f48 f54 hdv e65 e67 e69 e72
              refine lv_goto (tgt := 114) hx hb dX10_turned_73 (by decide) ?_
              refine lv_istore (lv' := [(11, .int v72), (10, .int v54), (9, .int v48), (8, .int (nI s1)), (6, .long x6), (0, .ref mo), (1, .int w), (2, .int h), (3, .long p0), (5, .int how)]) hx hb dX10_turned_114 hl (by decide) rfl (fun ls hl => ?_)
              refine lv_lload hx hb dX10_turned_116 (lv_at hl 4 rfl) ?_
              refine lv_iload hx hb dX10_turned_118 (lv_at hl 9 rfl) ?_
              refine lv_iconst (v := 3) hx hb dX10_turned_120 (by decide) ?_
              refine lv_icmp_ne (tgt := 135) hx hb dX10_turned_121 (by decide) (fun c121 => ?_) (fun c121 => ?_)
              · skip
                have d121 := c121
                rw [fa_eq] at d121
                refine lv_lload_n hx hb dX10_turned_135 rfl (lv_at hl 8 rfl) ?_
                refine lv_iload hx hb dX10_turned_136 (lv_at hl 3 rfl) ?_
                refine m_pu (As := [.long p0, .int (nI s1)]) (rest := [.long x6]) ⟨hx, hb, hml, hown, hts⟩ (c_X10_one l p0 (nI s1) ) (va_cwS 2 hts gX10_turned_X10_one rfl rfl rfl (by decide +kernel) ⟨Nat.le_of_ble_eq_true rfl, Nat.le_of_ble_eq_true rfl⟩) hP rfl hl.1 rfl (Nat.le_of_ble_eq_true rfl) dX10_turned_138 ⟨Nat.le_of_ble_eq_true rfl, Nat.le_of_ble_eq_true rfl⟩ hS (fun r138 H locs q138 hP hS => ?_)
                have i138 : r138.toInt = (r_one p0 (nI s1)).toInt := congrArg Int32.toInt q138
                refine lv_i2l (v := r138.toInt64) hx hb dX10_turned_141 rfl ?_
                refine lv_iload hx hb dX10_turned_142 (lv_at hl 0 rfl) ?_
                refine lv_lshl (v := r138.toInt64 <<< (v72.toInt64 &&& 63)) hx hb dX10_turned_144 rfl ?_
                refine lv_lor hx hb dX10_turned_145 ?_
                refine lv_topl (fun v145 e145 => ?_)
                have hnx : v145 = tR A9 B9 p0 how.toInt (s1 + 1) := by
                  first
                  | exact tR_s (by omega) (by omega) rfl q138 j37_1 (by rw [e145, f72])
                  | exact tR_s (by omega) (by omega) rfl q138 j37_1 (by rw [e145, f92])
                  | exact tR_s (by omega) (by omega) rfl q138 j37_1 (by rw [e145, f108])
                  | exact tR_3 (by omega) (by omega) rfl q128 e131 j37_1 e145
                  | (exfalso; omega)
                refine lv_lstore (lv' := [(6, .long v145), (11, .int v72), (10, .int v54), (9, .int v48), (8, .int (nI s1)), (0, .ref mo), (1, .int w), (2, .int h), (3, .long p0), (5, .int how)]) hx hb dX10_turned_146 hl (by decide) rfl (fun ls hl => ?_)
                refine lv_iinc (v := (nI (s1 + 1))) (lv' := [(8, .int (nI (s1 + 1))), (6, .long v145), (11, .int v72), (10, .int v54), (9, .int v48), (0, .ref mo), (1, .int w), (2, .int h), (3, .long p0), (5, .int how)]) hx hb dX10_turned_148 hl (k := 4) rfl (nI_1 _) (by decide) rfl (fun ls hl => ?_)
                refine lv_goto (tgt := 37) hx hb dX10_turned_151 (by decide) ?_
                exact ih_37 (s1 + 1) v145 (by omega) (hnx) (by omega) _ _ hP hS ls (lv_sub hl [0, 1, 5, 6, 7, 8, 9] rfl)
              · skip
                have d121 := c121
                rw [fa_eq] at d121
                refine lv_iconst (v := 1) hx hb dX10_turned_124 (by decide) ?_
                refine lv_lload_n hx hb dX10_turned_125 rfl (lv_at hl 8 rfl) ?_
                refine lv_iload hx hb dX10_turned_126 (lv_at hl 3 rfl) ?_
                refine m_pu (As := [.long p0, .int (nI s1)]) (rest := [.int (1 : Int32), .long x6]) ⟨hx, hb, hml, hown, hts⟩ (c_X10_one l p0 (nI s1) ) (va_cwS 2 hts gX10_turned_X10_one rfl rfl rfl (by decide +kernel) ⟨Nat.le_of_ble_eq_true rfl, Nat.le_of_ble_eq_true rfl⟩) hP rfl hl.1 rfl (Nat.le_of_ble_eq_true rfl) dX10_turned_128 ⟨Nat.le_of_ble_eq_true rfl, Nat.le_of_ble_eq_true rfl⟩ hS (fun r128 H locs q128 hP hS => ?_)
                have i128 : r128.toInt = (r_one p0 (nI s1)).toInt := congrArg Int32.toInt q128
                refine lv_isub hx hb dX10_turned_131 ?_
                refine lv_topi (fun v131 e131 => ?_)
                refine lv_goto (tgt := 141) hx hb dX10_turned_132 (by decide) ?_
                refine lv_i2l (v := v131.toInt64) hx hb dX10_turned_141 rfl ?_
                refine lv_iload hx hb dX10_turned_142 (lv_at hl 0 rfl) ?_
                refine lv_lshl (v := v131.toInt64 <<< (v72.toInt64 &&& 63)) hx hb dX10_turned_144 rfl ?_
                refine lv_lor hx hb dX10_turned_145 ?_
                refine lv_topl (fun v145 e145 => ?_)
                have hnx : v145 = tR A9 B9 p0 how.toInt (s1 + 1) := by
                  first
                  | exact tR_s (by omega) (by omega) rfl q138 j37_1 (by rw [e145, f72])
                  | exact tR_s (by omega) (by omega) rfl q138 j37_1 (by rw [e145, f92])
                  | exact tR_s (by omega) (by omega) rfl q138 j37_1 (by rw [e145, f108])
                  | exact tR_3 (by omega) (by omega) rfl q128 e131 j37_1 e145
                  | (exfalso; omega)
                refine lv_lstore (lv' := [(6, .long v145), (11, .int v72), (10, .int v54), (9, .int v48), (8, .int (nI s1)), (0, .ref mo), (1, .int w), (2, .int h), (3, .long p0), (5, .int how)]) hx hb dX10_turned_146 hl (by decide) rfl (fun ls hl => ?_)
                refine lv_iinc (v := (nI (s1 + 1))) (lv' := [(8, .int (nI (s1 + 1))), (6, .long v145), (11, .int v72), (10, .int v54), (9, .int v48), (0, .ref mo), (1, .int w), (2, .int h), (3, .long p0), (5, .int how)]) hx hb dX10_turned_148 hl (k := 4) rfl (nI_1 _) (by decide) rfl (fun ls hl => ?_)
                refine lv_goto (tgt := 37) hx hb dX10_turned_151 (by decide) ?_
                exact ih_37 (s1 + 1) v145 (by omega) (hnx) (by omega) _ _ hP hS ls (lv_sub hl [0, 1, 5, 6, 7, 8, 9] rfl)
      exact loop_37 (A9 * B9 + 1) 0 (0 : Int64) (by omega) (tR_0 _ _ _ _) (by omega) _ _ hP hS ls (lv_sub hl [0, 1, 2, 3, 4, 5, 6] rfl)
    · skip
      have b24 := bo_f q21 c24
      refine lv_ldc2 hx hb hown (hts (.constantLong RX10 185 (-1)) (by decide +kernel)) dX10_turned_27 ?_
      exact W.lret (v := (-1 : Int64)) hx hb hr (fun t ht hW => ⟨⟨_, ((upd f 0 (0 : Int32)), g, r, q), rfl, ⟨rfl, (Or.inr ⟨(fun z9 => by first | exact goodP_no b11 z9.1 | exact b24 z9.2), rfl⟩)⟩, by unfold mB; rw [ht]; exact hP⟩, hS.F ht⟩) hS.2.2 dX10_turned_30
/-! counting ones: java.lang.Long.bitCount, java.lang.Integer.bitCount -/
def bs (f : Nat → Bool) : Nat → Nat
  | 0 => 0
  | k + 1 => bs f k + (f k).toNat
theorem bs_le (f : Nat → Bool) (k : Nat) : bs f k ≤ k := by
  induction k with
  | zero => exact Nat.le_refl _
  | succ k ih => simp only [bs]; cases f k <;> simp only [Bool.toNat_true, Bool.toNat_false] <;> omega
theorem bs_cg {f g : Nat → Bool} {k : Nat} (h : ∀ i, i < k → f i = g i) : bs f k = bs g k := by
  induction k with
  | zero => rfl
  | succ k ih => simp only [bs]; rw [ih (fun i hi => h i (by omega)), h k (by omega)]
theorem bs_add (f : Nat → Bool) (a b : Nat) : bs f (a + b) = bs f a + bs (fun i => f (a + i)) b := by
  induction b with
  | zero => rfl
  | succ b ih => show bs f (a + b) + (f (a + b)).toNat = bs f a + (bs (fun i => f (a + i)) b + (f (a + b)).toNat); omega
def pc8 (b : Nat) : Nat := bs (fun i => b.testBit i) 8
def dg : Nat → Nat → Nat
  | 0, _ => 0
  | k + 1, n => 256 * dg k (n / 256) + pc8 (n % 256)
def m85 : Nat → Nat
  | 0 => 0
  | k + 1 => 256 * m85 k + 85
def m51 : Nat → Nat
  | 0 => 0
  | k + 1 => 256 * m51 k + 51
def m15 : Nat → Nat
  | 0 => 0
  | k + 1 => 256 * m15 k + 15
theorem and256 {a m : Nat} {c d : Nat} (hc : c < 256) (hd : d < 256) : (256 * a + c) &&& (256 * m + d) = 256 * (a &&& m) + (c &&& d) := by
  have h1 : ((256 * a + c) &&& (256 * m + d)) / 2 ^ 8 = a &&& m := by
    rw [Nat.and_div_two_pow]
    rw [show (256 * a + c) / 2 ^ 8 = a by omega, show (256 * m + d) / 2 ^ 8 = m by omega]
  have h2 : ((256 * a + c) &&& (256 * m + d)) % 2 ^ 8 = c &&& d := by
    rw [Nat.and_mod_two_pow]
    rw [show (256 * a + c) % 2 ^ 8 = c by omega, show (256 * m + d) % 2 ^ 8 = d by omega]
  generalize (256 * a + c) &&& (256 * m + d) = z at *
  omega
set_option maxRecDepth 100000 in
theorem byte1 : ∀ b, b < 256 → (b / 2 &&& 85) ≤ b ∧ (∀ r, r < 2 → (128 * r + b / 2) &&& 85 = b / 2 &&& 85) := by decide +kernel
set_option maxRecDepth 100000 in
theorem byte2 : ∀ c, c < 256 → (∀ r, r < 4 → (64 * r + c / 4) &&& 51 = c / 4 &&& 51) := by decide +kernel
set_option maxRecDepth 100000 in
theorem byte3 : ∀ b, b < 256 → ((b - (b / 2 &&& 85) &&& 51) + ((b - (b / 2 &&& 85)) / 4 &&& 51)) ≤ 68 ∧ ((b - (b / 2 &&& 85) &&& 51) + ((b - (b / 2 &&& 85)) / 4 &&& 51)) % 16 ≤ 4 ∧ (∀ r, r < 5 → (((b - (b / 2 &&& 85) &&& 51) + ((b - (b / 2 &&& 85)) / 4 &&& 51)) + 16 * r + ((b - (b / 2 &&& 85) &&& 51) + ((b - (b / 2 &&& 85)) / 4 &&& 51)) / 16) &&& 15 = pc8 b) := by decide +kernel
def x1 (k n : Nat) : Nat := n - (n / 2 &&& m85 k)
def x2 (k n : Nat) : Nat := (x1 k n &&& m51 k) + (x1 k n / 4 &&& m51 k)
def x3 (k n : Nat) : Nat := (x2 k n + x2 k n / 16) &&& m15 k
theorem x_all (k : Nat) : ∀ n, n < 256 ^ k → (n / 2 &&& m85 k) ≤ n ∧ x2 k n < 256 ^ k ∧ x2 k n + x2 k n / 16 < 256 ^ k ∧ x2 k n % 16 ≤ 4 ∧ x3 k n = dg k n := by
  induction k with
  | zero =>
    intro n hn
    have : n = 0 := by simp at hn; omega
    subst this
    decide
  | succ k ih =>
    intro n hn
    obtain ⟨y, b, hb, rfl⟩ : ∃ y b, b < 256 ∧ n = 256 * y + b := ⟨n / 256, n % 256, by omega, by omega⟩
    have hp : 256 ^ (k + 1) = 256 * 256 ^ k := by rw [Nat.pow_succ, Nat.mul_comm]
    rw [hp] at hn ⊢
    have hy : y < 256 ^ k := by omega
    obtain ⟨h1, h2, h3, h4, h5⟩ := ih y hy
    obtain ⟨b1, b2⟩ := byte1 b hb
    obtain ⟨c1, c2, c3⟩ := byte3 b hb
    have e1 : (256 * y + b) / 2 &&& m85 (k + 1) = 256 * (y / 2 &&& m85 k) + (b / 2 &&& 85) := by
      show _ &&& (256 * m85 k + 85) = _
      rw [show (256 * y + b) / 2 = 256 * (y / 2) + (128 * (y % 2) + b / 2) by omega, and256 (by omega) (by omega), b2 (y % 2) (by omega)]
    have e2 : x1 (k + 1) (256 * y + b) = 256 * x1 k y + (b - (b / 2 &&& 85)) := by unfold x1; rw [e1]; omega
    have hc : b - (b / 2 &&& 85) < 256 := by omega
    obtain ⟨c, hcc⟩ : ∃ c, c = b - (b / 2 &&& 85) := ⟨_, rfl⟩
    rw [← hcc] at e2 hc c1 c2 c3
    have d2 := byte2 c hc
    obtain ⟨z, hz⟩ : ∃ z, z = x1 k y := ⟨_, rfl⟩
    have e3 : x2 (k + 1) (256 * y + b) = 256 * x2 k y + ((c &&& 51) + (c / 4 &&& 51)) := by
      unfold x2
      rw [e2, ← hz]
      show ((256 * z + c) &&& (256 * m51 k + 51)) + ((256 * z + c) / 4 &&& (256 * m51 k + 51)) = _
      rw [show (256 * z + c) / 4 = 256 * (z / 4) + (64 * (z % 4) + c / 4) by omega, and256 hc (by omega), and256 (by omega) (by omega), d2 (z % 4) (by omega)]
      omega
    obtain ⟨d, hd⟩ : ∃ d, d = (c &&& 51) + (c / 4 &&& 51) := ⟨_, rfl⟩
    rw [← hd] at e3 c1 c2 c3
    obtain ⟨u, hu⟩ : ∃ u, u = x2 k y := ⟨_, rfl⟩
    rw [← hu] at e3 h2 h3 h4
    have e4 : x2 (k + 1) (256 * y + b) + x2 (k + 1) (256 * y + b) / 16 = 256 * (u + u / 16) + (d + 16 * (u % 16) + d / 16) := by rw [e3]; omega
    refine ⟨by rw [e1]; omega, by rw [e3]; omega, by rw [e4]; omega, by rw [e3]; omega, ?_⟩
    unfold x3
    rw [e4]
    show (256 * (u + u / 16) + (d + 16 * (u % 16) + d / 16)) &&& (256 * m15 k + 15) = 256 * dg k ((256 * y + b) / 256) + pc8 ((256 * y + b) % 256)
    rw [and256 (by omega) (by omega), c3 (u % 16) (by omega), show (256 * y + b) / 256 = y by omega, show (256 * y + b) % 256 = b by omega, ← h5]
    unfold x3
    rw [← hu]
theorem pc8_le (b : Nat) : pc8 b ≤ 8 := bs_le _ 8
theorem pc8_bs (n j : Nat) : pc8 (n / 2 ^ j % 256) = bs (fun i => n.testBit (j + i)) 8 := by
  unfold pc8
  apply bs_cg
  intro i hi
  rw [show (256 : Nat) = 2 ^ 8 from rfl, Nat.testBit_mod_two_pow, decide_eq_true hi, Bool.true_and, Nat.testBit_div_two_pow, Nat.add_comm]
theorem dg8 (n : Nat) : ∃ p0 p1 p2 p3 p4 p5 p6 p7 : Nat, (p0 ≤ 8 ∧ p1 ≤ 8 ∧ p2 ≤ 8 ∧ p3 ≤ 8 ∧ p4 ≤ 8 ∧ p5 ≤ 8 ∧ p6 ≤ 8 ∧ p7 ≤ 8) ∧ dg 8 n = p0 + 256 * (p1 + 256 * (p2 + 256 * (p3 + 256 * (p4 + 256 * (p5 + 256 * (p6 + 256 * p7)))))) ∧ bs (fun i => n.testBit i) 64 = p0 + p1 + p2 + p3 + p4 + p5 + p6 + p7 := by
  refine ⟨pc8 (n / 2 ^ 0 % 256), pc8 (n / 2 ^ 8 % 256), pc8 (n / 2 ^ 16 % 256), pc8 (n / 2 ^ 24 % 256), pc8 (n / 2 ^ 32 % 256), pc8 (n / 2 ^ 40 % 256), pc8 (n / 2 ^ 48 % 256), pc8 (n / 2 ^ 56 % 256), ⟨pc8_le _, pc8_le _, pc8_le _, pc8_le _, pc8_le _, pc8_le _, pc8_le _, pc8_le _⟩, ?_, ?_⟩
  · simp only [dg, Nat.div_div_eq_div_mul]
    simp only [show n / 2 ^ 0 = n by omega, show (2 : Nat) ^ 8 = 256 from rfl, show (2 : Nat) ^ 16 = 256 * 256 from rfl, show (2 : Nat) ^ 24 = 256 * 256 * 256 from rfl, show (2 : Nat) ^ 32 = 256 * 256 * 256 * 256 from rfl, show (2 : Nat) ^ 40 = 256 * 256 * 256 * 256 * 256 from rfl, show (2 : Nat) ^ 48 = 256 * 256 * 256 * 256 * 256 * 256 from rfl, show (2 : Nat) ^ 56 = 256 * 256 * 256 * 256 * 256 * 256 * 256 from rfl]
    omega
  · rw [pc8_bs, pc8_bs, pc8_bs, pc8_bs, pc8_bs, pc8_bs, pc8_bs, pc8_bs]
    rw [show (64 : Nat) = 56 + 8 from rfl, bs_add, show (56 : Nat) = 48 + 8 from rfl, bs_add _ 48 8, show (48 : Nat) = 40 + 8 from rfl, bs_add _ 40 8, show (40 : Nat) = 32 + 8 from rfl, bs_add _ 32 8, show (32 : Nat) = 24 + 8 from rfl, bs_add _ 24 8, show (24 : Nat) = 16 + 8 from rfl, bs_add _ 16 8, show (16 : Nat) = 8 + 8 from rfl, bs_add _ 8 8]
    simp only [Nat.zero_add]
theorem dg4 (n : Nat) : ∃ p0 p1 p2 p3 : Nat, (p0 ≤ 8 ∧ p1 ≤ 8 ∧ p2 ≤ 8 ∧ p3 ≤ 8) ∧ dg 4 n = p0 + 256 * (p1 + 256 * (p2 + 256 * p3)) ∧ bs (fun i => n.testBit i) 32 = p0 + p1 + p2 + p3 := by
  refine ⟨pc8 (n / 2 ^ 0 % 256), pc8 (n / 2 ^ 8 % 256), pc8 (n / 2 ^ 16 % 256), pc8 (n / 2 ^ 24 % 256), ⟨pc8_le _, pc8_le _, pc8_le _, pc8_le _⟩, ?_, ?_⟩
  · simp only [dg, Nat.div_div_eq_div_mul]
    simp only [show n / 2 ^ 0 = n by omega, show (2 : Nat) ^ 8 = 256 from rfl, show (2 : Nat) ^ 16 = 256 * 256 from rfl, show (2 : Nat) ^ 24 = 256 * 256 * 256 from rfl]
    omega
  · rw [pc8_bs, pc8_bs, pc8_bs, pc8_bs]
    rw [show (32 : Nat) = 24 + 8 from rfl, bs_add _ 24 8, show (24 : Nat) = 16 + 8 from rfl, bs_add _ 16 8, show (16 : Nat) = 8 + 8 from rfl, bs_add _ 8 8]
    simp only [Nat.zero_add]
theorem y_of (x : Int64) : x = lN x.toBitVec.toNat := Int64.toBitVec_inj.mp (by show _ = BitVec.ofNat 64 _; simp)
theorem y_tn {n : Nat} (h : n < 2 ^ 64) : (lN n).toBitVec.toNat = n := by show (BitVec.ofNat 64 n).toNat = n; rw [BitVec.toNat_ofNat, Nat.mod_eq_of_lt h]
theorem y_and {a b : Nat} (ha : a < 2 ^ 64) (hb : b < 2 ^ 64) : lN a &&& lN b = lN (a &&& b) := by
  apply Int64.toBitVec_inj.mp
  apply BitVec.eq_of_toNat_eq
  rw [Int64.toBitVec_and, BitVec.toNat_and, y_tn ha, y_tn hb, y_tn (Nat.and_lt_two_pow _ hb)]
theorem y_cu : ∀ k, k < 64 → ((nI k).toInt64.toUInt64 &&& Int64.toUInt64 63).toNat % 64 = k := by decide +kernel
theorem y_shr {n : Nat} (k : Nat) (hn : n < 2 ^ 64) (hk : k < 64) : ((lN n).toUInt64 >>> ((nI k).toInt64.toUInt64 &&& Int64.toUInt64 63)).toInt64 = lN (n / 2 ^ k) := by
  apply Int64.toBitVec_inj.mp
  apply BitVec.eq_of_toNat_eq
  show ((lN n).toUInt64 >>> ((nI k).toInt64.toUInt64 &&& Int64.toUInt64 63)).toNat = _
  rw [UInt64.toNat_shiftRight, y_cu k hk, Nat.shiftRight_eq_div_pow, y_tn (Nat.lt_of_le_of_lt (Nat.div_le_self _ _) hn)]
  show (lN n).toBitVec.toNat / 2 ^ k = _
  rw [y_tn hn]
theorem lb_tb (x : Int64) (i : Nat) : lb x i = x.toBitVec.toNat.testBit i := rfl
theorem m85_8 : m85 8 = 6148914691236517205 := by decide +kernel
theorem m51_8 : m51 8 = 3689348814741910323 := by decide +kernel
theorem m15_8 : m15 8 = 1085102592571150095 := by decide +kernel
theorem k85 : (6148914691236517205 : Int64) = lN 6148914691236517205 := rfl
theorem k51 : (3689348814741910323 : Int64) = lN 3689348814741910323 := rfl
theorem k15 : (1085102592571150095 : Int64) = lN 1085102592571150095 := rfl
theorem x_8 {n : Nat} (hn : n < 18446744073709551616) : (n / 2 &&& 6148914691236517205) ≤ n ∧ x2 8 n < 18446744073709551616 ∧ x2 8 n + x2 8 n / 16 < 18446744073709551616 ∧ x3 8 n = dg 8 n := by
  have h := x_all 8 n (by rw [show (256 : Nat) ^ 8 = 18446744073709551616 from by decide +kernel]; exact hn)
  rw [show (256 : Nat) ^ 8 = 18446744073709551616 from by decide +kernel, m85_8] at h
  exact ⟨h.1, h.2.1, h.2.2.1, h.2.2.2.2⟩
theorem sum_8 {p0 p1 p2 p3 p4 p5 p6 p7 d m1 m2 m3 : Nat} (hb : p0 ≤ 8 ∧ p1 ≤ 8 ∧ p2 ≤ 8 ∧ p3 ≤ 8 ∧ p4 ≤ 8 ∧ p5 ≤ 8 ∧ p6 ≤ 8 ∧ p7 ≤ 8) (hd : d = p0 + 256 * (p1 + 256 * (p2 + 256 * (p3 + 256 * (p4 + 256 * (p5 + 256 * (p6 + 256 * p7))))))) (hm1 : m1 = d + d / 256) (hm2 : m2 = m1 + m1 / 65536) (hm3 : m3 = m2 + m2 / 4294967296) : m1 < 18446744073709551616 ∧ m2 < 18446744073709551616 ∧ m3 % 128 = p0 + p1 + p2 + p3 + p4 + p5 + p6 + p7 := by
  have a1 : d / 256 = p1 + 256 * (p2 + 256 * (p3 + 256 * (p4 + 256 * (p5 + 256 * (p6 + 256 * p7))))) := by omega
  have a2 : m1 / 65536 = (p2 + p3) + 256 * ((p3 + p4) + 256 * ((p4 + p5) + 256 * ((p5 + p6) + 256 * ((p6 + p7) + 256 * p7)))) := by
    rw [hm1, a1, hd]; clear hm1 hm2 hm3 a1 hd; omega
  have a3 : m2 = (p0 + p1 + p2 + p3) + 256 * ((p1 + p2 + p3 + p4) + 256 * ((p2 + p3 + p4 + p5) + 256 * (p3 + p4 + p5 + p6))) + 4294967296 * ((p4 + p5 + p6 + p7) + 256 * ((p5 + p6 + p7) + 256 * ((p6 + p7) + 256 * p7))) := by
    rw [hm2, a2, hm1, a1, hd]; clear hm1 hm2 hm3 a1 a2 hd; omega
  have a4 : m2 / 4294967296 = (p4 + p5 + p6 + p7) + 256 * ((p5 + p6 + p7) + 256 * ((p6 + p7) + 256 * p7)) := by
    rw [a3]; clear hm1 hm2 hm3 a1 a2 a3 hd; omega
  refine ⟨?_, ?_, ?_⟩
  · rw [hm1, a1, hd]; clear hm1 hm2 hm3 a1 a2 a3 a4 hd; omega
  · rw [a3]; clear hm1 hm2 hm3 a1 a2 a3 a4 hd; omega
  · rw [hm3, a4, a3]; clear hm1 hm2 hm3 a1 a2 a3 a4 hd; omega
theorem and127 (m : Nat) : nI m &&& 127 = nI (m % 128) := by
  have e1 : nI m &&& 127 = nI ((nI m).toBitVec.toNat % 2 ^ 7) := pk_and _ 7 (by decide)
  have e2 : (nI m).toBitVec.toNat = m % 2 ^ 32 := by show (BitVec.ofNat 32 m).toNat = _; rw [BitVec.toNat_ofNat]
  rw [e2] at e1
  rw [show m % 128 = m % 2 ^ 32 % 2 ^ 7 by omega]
  exact e1
theorem bc_long {p v7 v8 v14 v21 v22 v28 v32 v39 v46 v53 : Int64} {r : Int32}
    (e7 : v7 = (p.toUInt64 >>> ((1 : Int32).toInt64.toUInt64 &&& Int64.toUInt64 63)).toInt64 &&& (6148914691236517205 : Int64)) (e8 : v8 = p - v7)
    (e14 : v14 = v8 &&& (3689348814741910323 : Int64)) (e21 : v21 = (v8.toUInt64 >>> ((2 : Int32).toInt64.toUInt64 &&& Int64.toUInt64 63)).toInt64 &&& (3689348814741910323 : Int64)) (e22 : v22 = v14 + v21)
    (e28 : v28 = v22 + (v22.toUInt64 >>> ((4 : Int32).toInt64.toUInt64 &&& Int64.toUInt64 63)).toInt64) (e32 : v32 = v28 &&& (1085102592571150095 : Int64))
    (e39 : v39 = v32 + (v32.toUInt64 >>> ((8 : Int32).toInt64.toUInt64 &&& Int64.toUInt64 63)).toInt64) (e46 : v46 = v39 + (v39.toUInt64 >>> ((16 : Int32).toInt64.toUInt64 &&& Int64.toUInt64 63)).toInt64)
    (e53 : v53 = v46 + (v46.toUInt64 >>> ((32 : Int32).toInt64.toUInt64 &&& Int64.toUInt64 63)).toInt64) (er : r = v53.toInt32 &&& 127) : r = nI (bs (lb p) 64) := by
  obtain ⟨n, hn⟩ : ∃ n, n = p.toBitVec.toNat := ⟨_, rfl⟩
  have hp : p = lN n := by rw [hn]; exact y_of p
  have hlt : n < 2 ^ 64 := by rw [hn]; exact p.toBitVec.isLt
  obtain ⟨a1, a2, a3, a5⟩ := x_8 (n := n) (by omega)
  have f7 : v7 = lN (n / 2 &&& 6148914691236517205) := by
    rw [e7, hp, show (1 : Int32) = nI 1 from rfl, y_shr 1 hlt (by decide), k85, Nat.pow_one]
    exact y_and (by omega) (by omega)
  have f8 : v8 = lN (x1 8 n) := by rw [e8, f7, hp, lN_sub a1]; unfold x1; rw [m85_8]
  have b1 : x1 8 n < 2 ^ 64 := Nat.lt_of_le_of_lt (Nat.sub_le _ _) hlt
  have f14 : v14 = lN (x1 8 n &&& m51 8) := by rw [e14, f8, k51, m51_8]; exact y_and b1 (by omega)
  have f21 : v21 = lN (x1 8 n / 4 &&& m51 8) := by
    rw [e21, f8, show (2 : Int32) = nI 2 from rfl, y_shr 2 b1 (by decide), k51, m51_8]
    exact y_and (Nat.lt_of_le_of_lt (Nat.div_le_self _ _) b1) (by omega)
  have f22 : v22 = lN (x2 8 n) := by rw [e22, f14, f21]; exact lN_add _ _
  have b2 : x2 8 n < 2 ^ 64 := a2
  have f28 : v28 = lN (x2 8 n + x2 8 n / 16) := by rw [e28, f22, show (4 : Int32) = nI 4 from rfl, y_shr 4 b2 (by decide)]; exact lN_add _ _
  have f32 : v32 = lN (dg 8 n) := by
    rw [e32, f28, k15, ← a5]
    unfold x3
    rw [m15_8]
    exact y_and a3 (by omega)
  obtain ⟨p0, p1, p2, p3, p4, p5, p6, p7, hb, hd, hs⟩ := dg8 n
  generalize dg 8 n = d at *
  obtain ⟨m1, hm1⟩ : ∃ z, z = d + d / 256 := ⟨_, rfl⟩
  obtain ⟨m2, hm2⟩ : ∃ z, z = m1 + m1 / 65536 := ⟨_, rfl⟩
  obtain ⟨m3, hm3⟩ : ∃ z, z = m2 + m2 / 4294967296 := ⟨_, rfl⟩
  obtain ⟨c2, c3, hmod⟩ := sum_8 hb hd hm1 hm2 hm3
  have c1 : d < 18446744073709551616 := by omega
  have f39 : v39 = lN m1 := by rw [e39, f32, show (8 : Int32) = nI 8 from rfl, y_shr 8 c1 (by decide), hm1]; exact lN_add _ _
  have f46 : v46 = lN m2 := by rw [e46, f39, show (16 : Int32) = nI 16 from rfl, y_shr 16 c2 (by decide), hm2]; exact lN_add _ _
  have f53 : v53 = lN m3 := by rw [e53, f46, show (32 : Int32) = nI 32 from rfl, y_shr 32 c3 (by decide), hm3]; exact lN_add _ _
  rw [er, f53, lN_i, and127, hmod, ← hs]
  congr 1
  apply bs_cg
  intro i _
  rw [lb_tb, hn]

theorem bs_z {f : Nat → Bool} {k : Nat} (h : ∀ i, i < k → f i = false) : bs f k = 0 := by
  induction k with
  | zero => rfl
  | succ k ih => simp only [bs]; rw [ih (fun i hi => h i (by omega)), h k (by omega)]; rfl
def shN (w h : Nat) (p : Int64) (way line : Nat) : Nat := bs (fun s => decide (lnT h way (s % w) (s / w) = line) && lb p s) (w * h)
theorem lb_bLN {w h way line s : Nat} (hb : 1 ≤ w ∧ w ≤ 6 ∧ 1 ≤ h ∧ h ≤ 6) (hw : way < 4) (hl : line < 11) (hs : s < 64) : ∀ n, n ≤ 4 * (w * h) → lb (bLN w h n (way * 11 + line)) s = decide (4 * s + way < n ∧ lnT h way (s % w) (s / w) = line) := by
  have h36 : w * h ≤ 6 * 6 := Nat.mul_le_mul (by omega) (by omega)
  intro n
  induction n with
  | zero =>
    intro _
    show lb (0 : Int64) s = _
    rw [lb_0, decide_eq_false (by omega)]
  | succ n ih =>
    intro hn
    have i1 := ih (by omega)
    have hxy : n / 4 < w * h := by omega
    have hx : n / 4 % w < w := Nat.mod_lt _ (by omega)
    have hy : n / 4 / w < h := Nat.div_lt_of_lt_mul hxy
    have hL := lnT_b (way := n % 4) hb hx hy
    simp only [bLN, vp_updL]
    by_cases e : way * 11 + line = n % 4 * 11 + lnT h (n % 4) (n / 4 % w) (n / 4 / w)
    · rw [if_pos e, ← e, lb_or, i1, lb_l1 (by omega) hs]
      have ew : n % 4 = way := by omega
      have el : lnT h (n % 4) (n / 4 % w) (n / 4 / w) = line := by omega
      by_cases es : s = n / 4
      · rw [decide_eq_true es, Bool.or_true]
        symm
        apply decide_eq_true
        refine ⟨by omega, ?_⟩
        rw [es, ← ew]
        exact el
      · rw [decide_eq_false es, Bool.or_false]
        apply decide_eq_decide.mpr
        constructor
        · rintro ⟨a, b⟩; exact ⟨by omega, b⟩
        · rintro ⟨a, b⟩; exact ⟨by omega, b⟩
    · rw [if_neg e, i1]
      apply decide_eq_decide.mpr
      constructor
      · rintro ⟨a, b⟩; exact ⟨by omega, b⟩
      · rintro ⟨a, b⟩
        refine ⟨?_, b⟩
        by_cases e2 : 4 * s + way = n
        · exfalso
          apply e
          have e3 : n % 4 = way := by omega
          have e4 : n / 4 = s := by omega
          rw [e3, e4, b]
        · omega
theorem sh_cls {w h way line : Nat} (hb : 1 ≤ w ∧ w ≤ 6 ∧ 1 ≤ h ∧ h ≤ 6) (hw : way < 4) (hl : line < 11) (p : Int64) : bs (lb (p &&& bLn w h (way * 11 + line))) 64 = shN w h p way line := by
  have h36 : w * h ≤ 6 * 6 := Nat.mul_le_mul (by omega) (by omega)
  have h1 : ∀ s, s < 64 → lb (p &&& bLn w h (way * 11 + line)) s = (lb p s && decide (4 * s + way < 4 * (w * h) ∧ lnT h way (s % w) (s / w) = line)) := fun s hs => by
    rw [lb_and]
    unfold bLn
    rw [lb_bLN hb hw hl hs _ (Nat.le_refl _)]
  rw [bs_cg h1, show (64 : Nat) = w * h + (64 - w * h) by omega, bs_add, bs_z (k := 64 - w * h) (fun i hi => by rw [decide_eq_false (by omega), Bool.and_false]), Nat.add_zero]
  unfold shN
  apply bs_cg
  intro s hs
  rw [Bool.and_comm]
  congr 1
  apply decide_eq_decide.mpr
  exact ⟨fun z => z.2, fun z => ⟨by omega, z⟩⟩
def lnC (w h way : Nat) : Nat := if way = 0 then h else if way = 1 then w else w + h - 1
theorem lnC_b {w h : Nat} (hb : 1 ≤ w ∧ w ≤ 6 ∧ 1 ≤ h ∧ h ≤ 6) (way : Nat) : lnC w h way ≤ 11 := by
  unfold lnC
  split
  · omega
  · split <;> omega
theorem cLn {w h : Nat} (hb : 1 ≤ w ∧ w ≤ 6 ∧ 1 ≤ h ∧ h ≤ 6) {way : Int32} (hw : 0 ≤ way.toInt) : (cLines w h way).toInt = (lnC w h way.toNatClampNeg : Int) := by
  have e := m_cl (x := way) hw
  unfold cLines lnC
  by_cases h0 : way.toInt = 0
  · have n0 : way.toNatClampNeg = 0 := by omega
    rw [if_pos h0, if_pos n0]; exact nI_toInt (by omega)
  · have n0 : ¬ way.toNatClampNeg = 0 := by omega
    rw [if_neg h0, if_neg n0]
    by_cases h1 : way.toInt = 1
    · have n1 : way.toNatClampNeg = 1 := by omega
      rw [if_pos h1, if_pos n1]; exact nI_toInt (by omega)
    · have n1 : ¬ way.toNatClampNeg = 1 := by omega
      rw [if_neg h1, if_neg n1]; exact nI_toInt (by omega)
theorem way_is {way : Int32} (h0 : 0 ≤ way.toInt) {c : Int32} {k : Nat} (hc : c.toInt = (k : Int)) : way = c ↔ way.toNatClampNeg = k := by
  have e := m_cl (x := way) h0
  constructor
  · intro z; subst z; omega
  · intro z; exact Int32.toInt_inj.mp (by omega)
theorem rLn {w h : Int32} (hw : 1 ≤ w.toInt ∧ w.toInt ≤ 6) (hh : 1 ≤ h.toInt ∧ h.toInt ≤ 6) {way : Int32} (h0 : 0 ≤ way.toInt) : (r_lines w h way).toInt = (lnC w.toNatClampNeg h.toNatClampNeg way.toNatClampNeg : Int) := by
  have e1 := m_cl (x := w) (by omega)
  have e2 := m_cl (x := h) (by omega)
  have k1 : (1 : Int32).toInt = 1 := rfl
  have a1 : (w + h).toInt = w.toInt + h.toInt := fb_addI (by omega) (by omega)
  have a2 : (w + h - 1).toInt = w.toInt + h.toInt - 1 := by rw [fb_subI (by omega) (by omega), a1]; rfl
  have w0 := way_is h0 (c := 0) (k := 0) rfl
  have w1 := way_is h0 (c := 1) (k := 1) rfl
  unfold r_lines lnC
  by_cases c0 : way = 0
  · rw [if_pos c0, if_pos (w0.mp c0)]; omega
  · have n0 : ¬ way.toNatClampNeg = 0 := fun z => c0 (w0.mpr z)
    rw [if_neg c0, if_neg n0]
    by_cases c1 : way = 1
    · rw [if_pos c1, if_pos (w1.mp c1)]; omega
    · have n1 : ¬ way.toNatClampNeg = 1 := fun z => c1 (w1.mpr z)
      rw [if_neg c1, if_neg n1]; omega
theorem r_lineN {b x y : Nat} {way : Int32} (hw : 0 ≤ way.toInt ∧ way.toInt ≤ 3) (hb : b ≤ 6) (hx : x < 6) (hy : y < b) : r_line (nI b) way (nI x) (nI y) = nI (lnT b way.toNatClampNeg x y) := by
  have w0 := way_is hw.1 (c := 0) (k := 0) rfl
  have w1 := way_is hw.1 (c := 1) (k := 1) rfl
  have w2 := way_is hw.1 (c := 2) (k := 2) rfl
  have k1 : (1 : Int32).toInt = 1 := rfl
  unfold r_line lnT
  by_cases c0 : way = 0
  · rw [if_pos c0, if_pos (w0.mp c0)]
  · have n0 : ¬ way.toNatClampNeg = 0 := fun z => c0 (w0.mpr z)
    rw [if_neg c0, if_neg n0]
    by_cases c1 : way = 1
    · rw [if_pos c1, if_pos (w1.mp c1)]
    · have n1 : ¬ way.toNatClampNeg = 1 := fun z => c1 (w1.mpr z)
      rw [if_neg c1, if_neg n1]
      by_cases c2 : way = 2
      · rw [if_pos c2, if_pos (w2.mp c2)]
        have a1 : (nI x - nI y).toInt = (x : Int) - y := pk_sub_toInt (by omega) (by omega)
        have ab : (nI b).toInt = (b : Int) := nI_toInt (by omega)
        have a2 : (nI x - nI y + nI b).toInt = (x : Int) - y + b := by rw [fb_addI (by omega) (by omega), a1, ab]
        apply Int32.toInt_inj.mp
        rw [fb_subI (by omega) (by omega), a2, nI_toInt (by omega)]
        omega
      · have n2 : ¬ way.toNatClampNeg = 2 := fun z => c2 (w2.mpr z)
        rw [if_neg c2, if_neg n2]
        exact nI_add _ _
theorem r_shN {w h way line : Int32} {p : Int64} (hw : 1 ≤ w.toInt ∧ w.toInt ≤ 6) (hh : 1 ≤ h.toInt ∧ h.toInt ≤ 6) (hy : 0 ≤ way.toInt ∧ way.toInt ≤ 3) (hl : 0 ≤ line.toInt) : ∀ n, n ≤ w.toNatClampNeg * h.toNatClampNeg → r_sh w h p way line n = nI (bs (fun s => decide (lnT h.toNatClampNeg way.toNatClampNeg (s % w.toNatClampNeg) (s / w.toNatClampNeg) = line.toNatClampNeg) && lb p s) n) := by
  obtain ⟨ha, hb, h36, -⟩ := wh36 hw hh
  have ew := cl_nI (w := w) (by omega)
  have eh := cl_nI (w := h) (by omega)
  have el := cl_nI (w := line) hl
  generalize w.toNatClampNeg = a at *
  generalize h.toNatClampNeg = b at *
  subst ew
  subst eh
  intro n
  induction n with
  | zero => intro _; rfl
  | succ n ih =>
    intro hn
    have hx : n % a < a := Nat.mod_lt _ (by omega)
    have hd : n / a < b := Nat.div_lt_of_lt_mul (by omega)
    have hT : lnT b way.toNatClampNeg (n % a) (n / a) < 11 := lnT_b (w := a) ⟨by omega, by omega, by omega, by omega⟩ hx hd
    have hcl : line.toNatClampNeg < 2 ^ 31 := by
      have := m_cl (x := line) hl
      have := Int32.toInt_lt line
      omega
    simp only [r_sh, bs]
    rw [ih (by omega), pk_rem (by omega) (by omega) (by omega), pk_div (by omega) (by omega) (by omega), r_lineN hy (by omega) (by omega) hd]
    by_cases c : lnT b way.toNatClampNeg (n % a) (n / a) = line.toNatClampNeg
    · rw [if_pos (by rw [c]; exact el), decide_eq_true c, Bool.true_and, one_lb p (by omega)]
      cases lb p n
      · exact nI_add _ 0
      · exact nI_1 _
    · rw [if_neg (fun z => c ((nI_eq (by omega) hcl).mp (z.trans el.symm))), decide_eq_false c, Bool.false_and]
      exact nI_add _ 0
theorem r_shS {w h way line : Int32} {p : Int64} (hw : 1 ≤ w.toInt ∧ w.toInt ≤ 6) (hh : 1 ≤ h.toInt ∧ h.toInt ≤ 6) (hy : 0 ≤ way.toInt ∧ way.toInt ≤ 3) (hl : 0 ≤ line.toInt) {r : Int32} (hr : r = r_sh w h p way line (w.toInt * h.toInt).toNat) : r = nI (shN w.toNatClampNeg h.toNatClampNeg p way.toNatClampNeg line.toNatClampNeg) := by
  obtain ⟨_, _, _, e⟩ := wh36 hw hh
  rw [hr, ← e, Int.toNat_natCast, r_shN hw hh hy hl _ (Nat.le_refl _)]
  rfl
def okL (w h : Nat) (way line : Int32) : Prop := (0 ≤ way.toInt ∧ way.toInt ≤ 3) ∧ 0 ≤ line.toInt ∧ line.toInt < (lnC w h way.toNatClampNeg : Int)
def shA (w h : Int32) (p : Int64) (way line : Int32) (x : Int32) : Prop := ((goodP w h p ∧ okL w.toNatClampNeg h.toNatClampNeg way line) ∧ x = nI (shN w.toNatClampNeg h.toNatClampNeg p way.toNatClampNeg line.toNatClampNeg)) ∨ (¬ (goodP w h p ∧ okL w.toNatClampNeg h.toNatClampNeg way line) ∧ x = -1)
theorem shA_eq {w h : Int32} {p : Int64} {way line x y : Int32} (hx : shA w h p way line x) (hy : shA w h p way line y) : x = y := by
  rcases hx with ⟨a, c⟩ | ⟨a, c⟩ <;> rcases hy with ⟨d, f⟩ | ⟨d, f⟩
  · rw [c, f]
  · exact absurd a d
  · exact absurd d a
  · rw [c, f]
def alike (w h : Nat) (p q : Int64) (way : Nat) : Prop := ∀ l, l < lnC w h way → shN w h p way l = shN w h q way l
def unl (w h : Nat) (p q : Int64) (set : Int32) (k : Nat) : Prop := gB set k = 1 ∧ ¬ alike w h p q k
def fstW (P : Nat → Prop) (no x : Int32) : Prop := (∃ k, k < 4 ∧ x = nI k ∧ P k ∧ ∀ j, j < k → ¬ P j) ∨ (x = no ∧ ∀ j, j < 4 → ¬ P j)
theorem fstW_eq {P : Nat → Prop} {no x y : Int32} (hx : fstW P no x) (hy : fstW P no y) : x = y := by
  rcases hx with ⟨k, a, b, c, d⟩ | ⟨a, b⟩ <;> rcases hy with ⟨k2, a2, b2, c2, d2⟩ | ⟨a2, b2⟩
  · have e : k = k2 := by
      rcases Nat.lt_trichotomy k k2 with h | h | h
      · exact absurd c (d2 k h)
      · exact h
      · exact absurd c2 (d k2 h)
    rw [b, b2, e]
  · exact absurd c (b2 k a)
  · exact absurd c2 (b k2 a2)
  · rw [a, a2]
def paA (w h : Int32) (p q : Int64) (ways x : Int32) : Prop := ((goodP w h p ∧ goodP w h q ∧ 0 ≤ ways.toInt ∧ ways.toInt ≤ 15) ∧ fstW (unl w.toNatClampNeg h.toNatClampNeg p q ways) (-2) x) ∨ (¬ (goodP w h p ∧ goodP w h q ∧ 0 ≤ ways.toInt ∧ ways.toInt ≤ 15) ∧ x = -1)
theorem paA_eq {w h : Int32} {p q : Int64} {ways x y : Int32} (hx : paA w h p q ways x) (hy : paA w h p q ways y) : x = y := by
  rcases hx with ⟨a, c⟩ | ⟨a, c⟩ <;> rcases hy with ⟨d, f⟩ | ⟨d, f⟩
  · exact fstW_eq c f
  · exact absurd a d
  · exact absurd d a
  · rw [c, f]
set_option maxHeartbeats 4000000 in
set_option maxRecDepth 100000 in
theorem c_J13_x (l : Launch) (p0 : Int64)  : Pu l yJ13_bitCount_95d88 wsJ13_bitCount_95d88 ({ frames := 0, cells := 0, slots := 0, locals := 0 }) [.long p0] (fun r => r = nI (bs (lb p0) 64)) := by
  refine Met.ofW (cc := cJ13_bitCount_95d88) (maxL := 2) (ret := (some .int)) (by decide) rfl ?_
  intro p e s m args below meth c s₁ B hml hv
  obtain ⟨rfl, -⟩ := hv
  have hx := B.exec
  have hb := B.bytes
  have hr := B.returns
  have hts := atoms_spec (ws := wsJ13_bitCount_95d88) B.pre
  have hown : s.vm.findClass RJ13 = some m.cls := findClass_of_methodNamed B.named
  have hlocks := B.notSynchronized
  have hS : va_S (fun _ => False) s.heap s.heap [] := va_S.rf
  have hl := lv_entry ([.long p0]) (n := 2) (Nat.le_of_ble_eq_true rfl)
  rw [lg_entry_eq]
  generalize (lg_sl ([.long p0]) ++ List.replicate (2 - (lg_sl ([.long p0])).length) Slot.unset).toArray = ls at hl ⊢
  have hl : lv_has ls 2 [(0, .long p0)] := hl
  have hS0 := hS
  have k_0 : (0 : Int32).toInt = 0 := by decide
  have k_1 : (1 : Int32).toInt = 1 := by decide
  have k_2 : (2 : Int32).toInt = 2 := by decide
  have k_4 : (4 : Int32).toInt = 4 := by decide
  have k_8 : (8 : Int32).toInt = 8 := by decide
  have k_16 : (16 : Int32).toInt = 16 := by decide
  have k_32 : (32 : Int32).toInt = 32 := by decide
  have k_127 : (127 : Int32).toInt = 127 := by decide
  have k_1085102592571150095L : (1085102592571150095 : Int64).toInt = 1085102592571150095 := by decide
  have k_3689348814741910323L : (3689348814741910323 : Int64).toInt = 3689348814741910323 := by decide
  have k_6148914691236517205L : (6148914691236517205 : Int64).toInt = 6148914691236517205 := by decide
  refine lv_lload_n hx hb dJ13_bitCount_95d88_0 rfl (lv_at hl 0 rfl) ?_
  refine lv_lload_n hx hb dJ13_bitCount_95d88_1 rfl (lv_at hl 0 rfl) ?_
  refine lv_iconst (v := 1) hx hb dJ13_bitCount_95d88_2 (by decide) ?_
  refine lv_lushr (v := (p0.toUInt64 >>> ((1 : Int32).toInt64.toUInt64 &&& Int64.toUInt64 63)).toInt64) hx hb dJ13_bitCount_95d88_3 rfl ?_
  refine lv_ldc2 hx hb hown (hts (.constantLong RJ13 314 (6148914691236517205)) (by decide +kernel)) dJ13_bitCount_95d88_4 ?_
  refine lv_land hx hb dJ13_bitCount_95d88_7 ?_
  refine lv_topl (fun v7 e7 => ?_)
  refine lv_lsub hx hb dJ13_bitCount_95d88_8 ?_
  refine lv_topl (fun v8 e8 => ?_)
  refine lv_lstore_n (lv' := [(0, .long v8)]) hx hb dJ13_bitCount_95d88_9 rfl hl (by decide) rfl (fun ls hl => ?_)
  refine lv_lload_n hx hb dJ13_bitCount_95d88_10 rfl (lv_at hl 0 rfl) ?_
  refine lv_ldc2 hx hb hown (hts (.constantLong RJ13 316 (3689348814741910323)) (by decide +kernel)) dJ13_bitCount_95d88_11 ?_
  refine lv_land hx hb dJ13_bitCount_95d88_14 ?_
  refine lv_topl (fun v14 e14 => ?_)
  refine lv_lload_n hx hb dJ13_bitCount_95d88_15 rfl (lv_at hl 0 rfl) ?_
  refine lv_iconst (v := 2) hx hb dJ13_bitCount_95d88_16 (by decide) ?_
  refine lv_lushr (v := (v8.toUInt64 >>> ((2 : Int32).toInt64.toUInt64 &&& Int64.toUInt64 63)).toInt64) hx hb dJ13_bitCount_95d88_17 rfl ?_
  refine lv_ldc2 hx hb hown (hts (.constantLong RJ13 316 (3689348814741910323)) (by decide +kernel)) dJ13_bitCount_95d88_18 ?_
  refine lv_land hx hb dJ13_bitCount_95d88_21 ?_
  refine lv_topl (fun v21 e21 => ?_)
  refine lv_ladd hx hb dJ13_bitCount_95d88_22 ?_
  refine lv_topl (fun v22 e22 => ?_)
  refine lv_lstore_n (lv' := [(0, .long v22)]) hx hb dJ13_bitCount_95d88_23 rfl hl (by decide) rfl (fun ls hl => ?_)
  refine lv_lload_n hx hb dJ13_bitCount_95d88_24 rfl (lv_at hl 0 rfl) ?_
  refine lv_lload_n hx hb dJ13_bitCount_95d88_25 rfl (lv_at hl 0 rfl) ?_
  refine lv_iconst (v := 4) hx hb dJ13_bitCount_95d88_26 (by decide) ?_
  refine lv_lushr (v := (v22.toUInt64 >>> ((4 : Int32).toInt64.toUInt64 &&& Int64.toUInt64 63)).toInt64) hx hb dJ13_bitCount_95d88_27 rfl ?_
  refine lv_ladd hx hb dJ13_bitCount_95d88_28 ?_
  refine lv_topl (fun v28 e28 => ?_)
  refine lv_ldc2 hx hb hown (hts (.constantLong RJ13 318 (1085102592571150095)) (by decide +kernel)) dJ13_bitCount_95d88_29 ?_
  refine lv_land hx hb dJ13_bitCount_95d88_32 ?_
  refine lv_topl (fun v32 e32 => ?_)
  refine lv_lstore_n (lv' := [(0, .long v32)]) hx hb dJ13_bitCount_95d88_33 rfl hl (by decide) rfl (fun ls hl => ?_)
  refine lv_lload_n hx hb dJ13_bitCount_95d88_34 rfl (lv_at hl 0 rfl) ?_
  refine lv_lload_n hx hb dJ13_bitCount_95d88_35 rfl (lv_at hl 0 rfl) ?_
  refine lv_bipush (v := 8) hx hb dJ13_bitCount_95d88_36 (by decide) ?_
  refine lv_lushr (v := (v32.toUInt64 >>> ((8 : Int32).toInt64.toUInt64 &&& Int64.toUInt64 63)).toInt64) hx hb dJ13_bitCount_95d88_38 rfl ?_
  refine lv_ladd hx hb dJ13_bitCount_95d88_39 ?_
  refine lv_topl (fun v39 e39 => ?_)
  refine lv_lstore_n (lv' := [(0, .long v39)]) hx hb dJ13_bitCount_95d88_40 rfl hl (by decide) rfl (fun ls hl => ?_)
  refine lv_lload_n hx hb dJ13_bitCount_95d88_41 rfl (lv_at hl 0 rfl) ?_
  refine lv_lload_n hx hb dJ13_bitCount_95d88_42 rfl (lv_at hl 0 rfl) ?_
  refine lv_bipush (v := 16) hx hb dJ13_bitCount_95d88_43 (by decide) ?_
  refine lv_lushr (v := (v39.toUInt64 >>> ((16 : Int32).toInt64.toUInt64 &&& Int64.toUInt64 63)).toInt64) hx hb dJ13_bitCount_95d88_45 rfl ?_
  refine lv_ladd hx hb dJ13_bitCount_95d88_46 ?_
  refine lv_topl (fun v46 e46 => ?_)
  refine lv_lstore_n (lv' := [(0, .long v46)]) hx hb dJ13_bitCount_95d88_47 rfl hl (by decide) rfl (fun ls hl => ?_)
  refine lv_lload_n hx hb dJ13_bitCount_95d88_48 rfl (lv_at hl 0 rfl) ?_
  refine lv_lload_n hx hb dJ13_bitCount_95d88_49 rfl (lv_at hl 0 rfl) ?_
  refine lv_bipush (v := 32) hx hb dJ13_bitCount_95d88_50 (by decide) ?_
  refine lv_lushr (v := (v46.toUInt64 >>> ((32 : Int32).toInt64.toUInt64 &&& Int64.toUInt64 63)).toInt64) hx hb dJ13_bitCount_95d88_52 rfl ?_
  refine lv_ladd hx hb dJ13_bitCount_95d88_53 ?_
  refine lv_topl (fun v53 e53 => ?_)
  refine lv_lstore_n (lv' := [(0, .long v53)]) hx hb dJ13_bitCount_95d88_54 rfl hl (by decide) rfl (fun ls hl => ?_)
  refine lv_lload_n hx hb dJ13_bitCount_95d88_55 rfl (lv_at hl 0 rfl) ?_
  refine lv_l2i (v := v53.toInt32) hx hb dJ13_bitCount_95d88_56 rfl ?_
  refine lv_bipush (v := 127) hx hb dJ13_bitCount_95d88_57 (by decide) ?_
  refine lv_iand hx hb dJ13_bitCount_95d88_59 ?_
  refine lv_topi (fun v59 e59 => ?_)
  exact W.iret (v := v59) hx hb hr (fun t ht hW => ⟨⟨_, (), rfl, (bc_long e7 e8 e14 e21 e22 e28 e32 e39 e46 e53 e59), trivial⟩, hS.F ht⟩) hS.2.2 dJ13_bitCount_95d88_60
set_option maxHeartbeats 4000000 in
set_option maxRecDepth 100000 in
theorem c_X0_onesOfLine_x (l : Launch) (D : va_G) (cy : Nat → ClassId) (A : Nat → Prop) (G : cG) (ws : va_W) (o : Nat) (way : Int32) (line : Int32) (p0 : Int64) {w h : Nat} (hD : va_D A ws) (hT : cT cy G ws) (hG_o : G o = some (2, w, h)) (hw1 : 0 ≤ way.toInt ∧ way.toInt ≤ 3) (hl1 : 0 ≤ line.toInt ∧ line.toInt < 11) : Ci l D cy A yX0_onesOfLine wsX0_onesOfLine ({ frames := 1, cells := 0, slots := 0, locals := 21 }) 0 0 ws [.ref o, .int way, .int line, .long p0] (fun r0 u => u = (G, ws) ∧ (r0 = nI (shN w h p0 way.toNatClampNeg line.toNatClampNeg))) := by
  refine Met.ofW (cc := cX0_onesOfLine) (maxL := 6) (ret := (some .int)) (by decide) rfl ?_
  intro p e s m args below meth c s₁ B hml hv
  obtain ⟨rfl, hP, hK, hA, hV⟩ := hv
  have hx := B.exec
  have hb := B.bytes
  have hr := B.returns
  have hts := atoms_spec (ws := wsX0_onesOfLine) B.pre
  have hown : s.vm.findClass RX0 = some m.cls := findClass_of_methodNamed B.named
  have hlocks := B.notSynchronized
  have hS : va_S A s.heap s.heap [] := va_S.rf
  have hl := lv_entry ([.ref o, .int way, .int line, .long p0]) (n := 6) (Nat.le_of_ble_eq_true rfl)
  rw [lg_entry_eq]
  generalize (lg_sl ([.ref o, .int way, .int line, .long p0]) ++ List.replicate (6 - (lg_sl ([.ref o, .int way, .int line, .long p0])).length) Slot.unset).toArray = ls at hl ⊢
  have hl : lv_has ls 6 [(0, .ref o), (1, .int way), (2, .int line), (3, .long p0)] := hl
  have k_0 : (0 : Int32).toInt = 0 := by decide
  have k_11 : (11 : Int32).toInt = 11 := by decide
  have hb9 := c_hb hT hG_o
  refine lv_iload_n hx hb dX0_onesOfLine_0 rfl (lv_at hl 1 rfl) ?_
  refine lv_bipush (v := 11) hx hb dX0_onesOfLine_1 (by decide) ?_
  refine lv_imul hx hb dX0_onesOfLine_3 ?_
  refine lv_topi (fun v3 e3 => ?_)
  have i3 : v3.toInt = way.toInt * 11 := by rw [e3]; exact mulcR rfl (by omega) (by omega)
  refine lv_iload_n hx hb dX0_onesOfLine_4 rfl (lv_at hl 2 rfl) ?_
  refine lv_iadd hx hb dX0_onesOfLine_5 ?_
  refine lv_topi (fun v5 e5 => ?_)
  have i5 : v5.toInt = v3.toInt + line.toInt := by rw [e5]; exact fb_addI (by omega) (by omega)
  refine lv_istore (lv' := [(5, .int v5), (0, .ref o), (1, .int way), (2, .int line), (3, .long p0)]) hx hb dX0_onesOfLine_6 hl (by decide) rfl (fun ls hl => ?_)
  have cw := m_cl (x := way) hw1.1
  have cl := m_cl (x := line) hl1.1
  have cp := m_cl (x := v5) (by omega)
  have f5 : v5.toNatClampNeg = way.toNatClampNeg * 11 + line.toNatClampNeg := by omega
  refine lv_iload hx hb dX0_onesOfLine_8 (lv_at hl 0 rfl) ?_
  refine lv_if_lt (tgt := 38) hx hb dX0_onesOfLine_10 (by decide) (fun c10 => ?_) (fun c10 => ?_)
  · skip
    have d10 := c10
    rw [fa_lt] at d10
    refine lv_iconst (v := 0) hx hb dX0_onesOfLine_38 (by decide) ?_
    exact W.iret (v := (0 : Int32)) hx hb hr (fun t ht hW => ⟨⟨_, (G, ws), rfl, ⟨rfl, (by exfalso; omega)⟩, by show va_P D vwCl ws t.heap; rw [ht]; exact hP, hD, hT⟩, hS.F ht⟩) hS.2.2 dX0_onesOfLine_39
  · skip
    have d10 := c10
    rw [fa_lt] at d10
    refine lv_iload hx hb dX0_onesOfLine_13 (lv_at hl 0 rfl) ?_
    refine lv_aload_n hx hb dX0_onesOfLine_15 rfl (lv_at hl 1 rfl) ?_
    obtain ⟨_, hM_o, hb_o, l_o, f_o, r_o, rfl, hG_l_o, hG_f_o, hG_r_o⟩ := hT _ _ hG_o
    refine t_get (v := .ref l_o) (C := RX0) (T := TX0) (N := 8) hx hb hts (by decide +kernel) hown hK hP hM_o rfl 5 (by decide) (hts (.fieldLink RX0 9 "ShadowBench$Board" "lines" "[J") (by decide +kernel)) (fun _ h9 => h9) rfl dX0_onesOfLine_16 ?_
    refine t_alen11 hx hb hK hP hT hG_l_o dX0_onesOfLine_19 ?_
    have i19 : (nI 44).toInt = 44 := nI_toInt (by omega)
    refine lv_icmp_ge (tgt := 38) hx hb dX0_onesOfLine_20 (by decide) (fun c20 => ?_) (fun c20 => ?_)
    · skip
      have d20 := c20
      rw [fa_le] at d20
      refine lv_iconst (v := 0) hx hb dX0_onesOfLine_38 (by decide) ?_
      exact W.iret (v := (0 : Int32)) hx hb hr (fun t ht hW => ⟨⟨_, (G, ws), rfl, ⟨rfl, (by exfalso; omega)⟩, by show va_P D vwCl ws t.heap; rw [ht]; exact hP, hD, hT⟩, hS.F ht⟩) hS.2.2 dX0_onesOfLine_39
    · skip
      have d20 := c20
      rw [fa_le] at d20
      refine lv_lload_n hx hb dX0_onesOfLine_23 rfl (lv_at hl 4 rfl) ?_
      refine lv_aload_n hx hb dX0_onesOfLine_24 rfl (lv_at hl 1 rfl) ?_
      refine t_get (v := .ref l_o) (C := RX0) (T := TX0) (N := 8) hx hb hts (by decide +kernel) hown hK hP hM_o rfl 5 (by decide) (hts (.fieldLink RX0 9 "ShadowBench$Board" "lines" "[J") (by decide +kernel)) (fun _ h9 => h9) rfl dX0_onesOfLine_25 ?_
      refine lv_iload hx hb dX0_onesOfLine_28 (lv_at hl 0 rfl) ?_
      refine t_lald11 hx hb hK hP hT hG_l_o (vp_in_iff.mpr ⟨by omega, by omega⟩) dX0_onesOfLine_30 ?_
      refine lv_topl (fun v30 e30 => ?_)
      refine lv_land hx hb dX0_onesOfLine_31 ?_
      refine lv_topl (fun v31 e31 => ?_)
      refine t_pu (As := [.long v31]) (rest := []) ⟨hx, hb, hml, hown, hts⟩ (c_J13_x l v31 ) (va_cwS 1 hts gX0_onesOfLine_J13_bitCount_95d88 rfl rfl rfl (by decide +kernel) ⟨Nat.le_of_ble_eq_true rfl, Nat.le_of_ble_eq_true rfl⟩) hP rfl hl.1 rfl (Nat.le_of_ble_eq_true rfl) dX0_onesOfLine_32 ⟨Nat.le_of_ble_eq_true rfl, Nat.le_of_ble_eq_true rfl⟩ hS (fun r32 H locs q32 hP hS => ?_)
      refine lv_goto (tgt := 39) hx hb dX0_onesOfLine_35 (by decide) ?_
      exact W.iret (v := r32) hx hb hr (fun t ht hW => ⟨⟨_, (G, ws), rfl, ⟨rfl, (by rw [q32, e31, e30, f5, sh_cls hb9 (by omega) (by omega)])⟩, by show va_P D vwCl ws t.heap; rw [ht]; exact hP, hD, hT⟩, hS.F ht⟩) hS.2.2 dX0_onesOfLine_39
set_option maxHeartbeats 4000000 in
set_option maxRecDepth 100000 in
theorem c_X0_hasUnlikeLine_x (l : Launch) (D : va_G) (cy : Nat → ClassId) (A : Nat → Prop) (G : cG) (ws : va_W) (o : Nat) (p0 : Int64) (p1 : Int64) (way : Nat) {w h : Nat} (hD : va_D A ws) (hT : cT cy G ws) (hG_o : G o = some (2, w, h)) (hw1 : way < 4) : Ci l D cy A yX0_hasUnlikeLine wsX0_hasUnlikeLine ({ frames := 2, cells := 0, slots := 0, locals := 46 }) 0 0 ws [.ref o, .long p0, .long p1, .int (nI way)] (fun r0 u => u = (G, ws) ∧ (Bo r0 (¬ alike w h p0 p1 way))) := by
  refine Met.ofW (cc := cX0_hasUnlikeLine) (maxL := 7) (ret := (some .boolean)) (by decide) rfl ?_
  intro p e s m args below meth c s₁ B hml hv
  obtain ⟨rfl, hP, hK, hA, hV⟩ := hv
  have hx := B.exec
  have hb := B.bytes
  have hr := B.returns
  have hts := atoms_spec (ws := wsX0_hasUnlikeLine) B.pre
  have hown : s.vm.findClass RX0 = some m.cls := findClass_of_methodNamed B.named
  have hlocks := B.notSynchronized
  have hS : va_S A s.heap s.heap [] := va_S.rf
  have hl := lv_entry ([.ref o, .long p0, .long p1, .int (nI way)]) (n := 7) (Nat.le_of_ble_eq_true rfl)
  rw [lg_entry_eq]
  generalize (lg_sl ([.ref o, .long p0, .long p1, .int (nI way)]) ++ List.replicate (7 - (lg_sl ([.ref o, .long p0, .long p1, .int (nI way)])).length) Slot.unset).toArray = ls at hl ⊢
  have hl : lv_has ls 7 [(0, .ref o), (1, .long p0), (3, .long p1), (5, .int (nI way))] := hl
  have k_0 : (0 : Int32).toInt = 0 := by decide
  have k_1 : (1 : Int32).toInt = 1 := by decide
  have hb9 := c_hb hT hG_o
  have iw : (nI way).toInt = (way : Int) := nI_toInt (by omega)
  have cw : (nI way).toNatClampNeg = way := nI_clamp (by omega)
  have lb9 := lnC_b hb9 way
  refine lv_iconst (v := 0) hx hb dX0_hasUnlikeLine_0 (by decide) ?_
  refine lv_istore (lv' := [(6, .int (0 : Int32)), (0, .ref o), (1, .long p0), (3, .long p1), (5, .int (nI way))]) hx hb dX0_hasUnlikeLine_1 hl (by decide) rfl (fun ls hl => ?_)
  have loop_3 : ∀ (n : Nat) (k : Nat), (k ≤ 11) → (∀ l, l < k → shN w h p0 way l = shN w h p1 way l) → 11 - k < n → ∀ (H : Heap) (locs : List Loc), va_P D vwCl ws H → va_S A s.heap H locs → ∀ (ls : Array Slot), lv_has ls 7 [(6, .int (nI k)), (0, .ref o), (1, .long p0), (3, .long p1), (5, .int (nI way))] → W p l e (headSpec wsX0_hasUnlikeLine ({ frames := 2, cells := 0, slots := 0, locals := 46 })).room s m #[Value.ref o, Value.long p0, Value.long p1, Value.int (nI way)] below meth c H locs 0 0 (MQ below (va_Qi (fun r0 u => u = (G, ws) ∧ (Bo r0 (¬ alike w h p0 p1 way))) (cB D cy A) A) #[Value.ref o, Value.long p0, Value.long p1, Value.int (nI way)] s 0 0 A) (F0 m 3 ls []) := by
    intro n
    induction n with
    | zero => intro k j3_0 j3_1 hn; exact absurd hn (Nat.not_lt_zero _)
    | succ n ih_3 =>
      intro k j3_0 j3_1 hn_3 H locs hP hS  ls hl
      have ik : (nI k).toInt = (k : Int) := nI_toInt (by omega)
      refine lv_iload hx hb dX0_hasUnlikeLine_3 (lv_at hl 0 rfl) ?_
      refine lv_aload_n hx hb dX0_hasUnlikeLine_5 rfl (lv_at hl 1 rfl) ?_
      refine lv_iload hx hb dX0_hasUnlikeLine_6 (lv_at hl 4 rfl) ?_
      obtain ⟨_, hM_o, hb_o, l_o, f_o, r_o, rfl, hG_l_o, hG_f_o, hG_r_o⟩ := hT _ _ hG_o
      refine t_calli (va_runV (g := F0 m 8 ls ([.int (nI way), .ref o, .int (nI k)])) (As := [.int (nI way)]) (rest := [.int (nI k)]) ⟨hx, hb, hml, hown, hts⟩ (c_X0_lineCount l D cy A G ws o (nI way) hD hT hG_o ) (cwV 1 hts gX0_hasUnlikeLine_X0_lineCount rfl rfl rfl (by decide +kernel) ⟨Nat.le_of_ble_eq_true rfl, Nat.le_of_ble_eq_true rfl⟩) (c_preV hM_o rfl hP hK hA hS hV) rfl rfl hl.1 rfl (lv_room (Nat.le_of_ble_eq_true rfl)) dX0_hasUnlikeLine_8 ⟨Nat.le_of_ble_eq_true rfl, Nat.le_of_ble_eq_true rfl⟩) hS (fun r8 u H locs q8 hP9 hD9 hT9 hS => ?_)
      obtain ⟨rfl, q8⟩ := q8
      have hP : va_P D vwCl ws H := hP9
      have z8 : r8.toInt = (lnC w h way : Int) := by rw [q8, cLn hb9 (by omega), cw]
      refine lv_icmp_ge (tgt := 43) hx hb dX0_hasUnlikeLine_11 (by decide) (fun c11 => ?_) (fun c11 => ?_)
      · skip
        have d11 := c11
        rw [fa_le] at d11
        refine lv_iconst (v := 0) hx hb dX0_hasUnlikeLine_43 (by decide) ?_
        exact W.zret (v := (0 : Int32)) hx hb hr (by decide) (fun t ht hW => ⟨⟨_, (G, ws), rfl, ⟨rfl, Or.inr ⟨rfl, (fun z9 => z9 (fun l9 h9 => j3_1 l9 (by omega)))⟩⟩, by show va_P D vwCl ws t.heap; rw [ht]; exact hP, hD, hT⟩, hS.F ht⟩) hS.2.2 dX0_hasUnlikeLine_44
      · skip
        have d11 := c11
        rw [fa_le] at d11
        refine lv_aload_n hx hb dX0_hasUnlikeLine_14 rfl (lv_at hl 1 rfl) ?_
        refine lv_iload hx hb dX0_hasUnlikeLine_15 (lv_at hl 4 rfl) ?_
        refine lv_iload hx hb dX0_hasUnlikeLine_17 (lv_at hl 0 rfl) ?_
        refine lv_lload_n hx hb dX0_hasUnlikeLine_19 rfl (lv_at hl 2 rfl) ?_
        refine t_calli (va_runV (g := F0 m 20 ls ([.long p0, .int (nI k), .int (nI way), .ref o])) (As := [.int (nI way), .int (nI k), .long p0]) (rest := []) ⟨hx, hb, hml, hown, hts⟩ (c_X0_onesOfLine_x l D cy A G ws o (nI way) (nI k) p0 hD hT hG_o (by omega) (by omega)) (cwV 3 hts gX0_hasUnlikeLine_X0_onesOfLine rfl rfl rfl (by decide +kernel) ⟨Nat.le_of_ble_eq_true rfl, Nat.le_of_ble_eq_true rfl⟩) (c_preV hM_o rfl hP hK hA hS hV) rfl rfl hl.1 rfl (lv_room (Nat.le_of_ble_eq_true rfl)) dX0_hasUnlikeLine_20 ⟨Nat.le_of_ble_eq_true rfl, Nat.le_of_ble_eq_true rfl⟩) hS (fun r20 u H locs q20 hP9 hD9 hT9 hS => ?_)
        obtain ⟨rfl, q20⟩ := q20
        have hP : va_P D vwCl ws H := hP9
        refine lv_aload_n hx hb dX0_hasUnlikeLine_23 rfl (lv_at hl 1 rfl) ?_
        refine lv_iload hx hb dX0_hasUnlikeLine_24 (lv_at hl 4 rfl) ?_
        refine lv_iload hx hb dX0_hasUnlikeLine_26 (lv_at hl 0 rfl) ?_
        refine lv_lload_n hx hb dX0_hasUnlikeLine_28 rfl (lv_at hl 3 rfl) ?_
        refine t_calli (va_runV (g := F0 m 29 ls ([.long p1, .int (nI k), .int (nI way), .ref o, .int r20])) (As := [.int (nI way), .int (nI k), .long p1]) (rest := [.int r20]) ⟨hx, hb, hml, hown, hts⟩ (c_X0_onesOfLine_x l D cy A G ws o (nI way) (nI k) p1 hD hT hG_o (by omega) (by omega)) (cwV 3 hts gX0_hasUnlikeLine_X0_onesOfLine rfl rfl rfl (by decide +kernel) ⟨Nat.le_of_ble_eq_true rfl, Nat.le_of_ble_eq_true rfl⟩) (c_preV hM_o rfl hP hK hA hS hV) rfl rfl hl.1 rfl (lv_room (Nat.le_of_ble_eq_true rfl)) dX0_hasUnlikeLine_29 ⟨Nat.le_of_ble_eq_true rfl, Nat.le_of_ble_eq_true rfl⟩) hS (fun r29 u H locs q29 hP9 hD9 hT9 hS => ?_)
        obtain ⟨rfl, q29⟩ := q29
        have hP : va_P D vwCl ws H := hP9
        have ck9 : (nI k).toNatClampNeg = k := nI_clamp (by omega)
        rw [cw, ck9] at q20 q29
        have b20 := bs_le (fun s => decide (lnT h way (s % w) (s / w) = k) && lb p0 s) (w * h)
        have b29 := bs_le (fun s => decide (lnT h way (s % w) (s / w) = k) && lb p1 s) (w * h)
        have m9 := cb_mul hb9
        have eq9 : r20 = r29 ↔ shN w h p0 way k = shN w h p1 way k := by rw [q20, q29]; exact nI_eq (by unfold shN; omega) (by unfold shN; omega)
        refine lv_icmp_eq (tgt := 37) hx hb dX0_hasUnlikeLine_32 (by decide) (fun c32 => ?_) (fun c32 => ?_)
        · skip
          have d32 := c32
          rw [fa_eq] at d32
          refine lv_iinc (v := (nI (k + 1))) (lv' := [(6, .int (nI (k + 1))), (0, .ref o), (1, .long p0), (3, .long p1), (5, .int (nI way))]) hx hb dX0_hasUnlikeLine_37 hl (k := 0) rfl (nI_1 _) (by decide) rfl (fun ls hl => ?_)
          refine lv_goto (tgt := 3) hx hb dX0_hasUnlikeLine_40 (by decide) ?_
          exact ih_3 (k + 1) (by omega) (fun l hl => by
            by_cases e9 : l = k
            · rw [e9]; exact eq9.mp c32
            · exact j3_1 l (by omega)) (by omega) _ _ hP hS  ls (lv_sub hl [0, 1, 2, 3, 4] rfl)
        · skip
          have d32 := c32
          rw [fa_eq] at d32
          refine lv_iconst (v := 1) hx hb dX0_hasUnlikeLine_35 (by decide) ?_
          exact W.zret (v := (1 : Int32)) hx hb hr (by decide) (fun t ht hW => ⟨⟨_, (G, ws), rfl, ⟨rfl, Or.inl ⟨rfl, (fun z9 => c32 (eq9.mpr (z9 k (by omega))))⟩⟩, by show va_P D vwCl ws t.heap; rw [ht]; exact hP, hD, hT⟩, hS.F ht⟩) hS.2.2 dX0_hasUnlikeLine_36
  exact loop_3 (11 + 1) 0 (by omega) (fun l hl => absurd hl (Nat.not_lt_zero _)) (by omega) _ _ hP hS  ls (lv_sub hl [0, 1, 2, 3, 4] rfl)
set_option maxHeartbeats 4000000 in
set_option maxRecDepth 100000 in
theorem c_X0_firstUnlikeWay_x (l : Launch) (D : va_G) (cy : Nat → ClassId) (A : Nat → Prop) (G : cG) (ws : va_W) (o : Nat) (p0 : Int64) (p1 : Int64) (set : Int32) {w h : Nat} (hD : va_D A ws) (hT : cT cy G ws) (hG_o : G o = some (2, w, h))  : Ci l D cy A yX0_firstUnlikeWay wsX0_firstUnlikeWay ({ frames := 3, cells := 0, slots := 0, locals := 72 }) 0 0 ws [.ref o, .long p0, .long p1, .int set] (fun r0 u => u = (G, ws) ∧ (fstW (unl w h p0 p1 set) (-1) r0)) := by
  refine Met.ofW (cc := cX0_firstUnlikeWay) (maxL := 7) (ret := (some .int)) (by decide) rfl ?_
  intro p e s m args below meth c s₁ B hml hv
  obtain ⟨rfl, hP, hK, hA, hV⟩ := hv
  have hx := B.exec
  have hb := B.bytes
  have hr := B.returns
  have hts := atoms_spec (ws := wsX0_firstUnlikeWay) B.pre
  have hown : s.vm.findClass RX0 = some m.cls := findClass_of_methodNamed B.named
  have hlocks := B.notSynchronized
  have hS : va_S A s.heap s.heap [] := va_S.rf
  have hl := lv_entry ([.ref o, .long p0, .long p1, .int set]) (n := 7) (Nat.le_of_ble_eq_true rfl)
  rw [lg_entry_eq]
  generalize (lg_sl ([.ref o, .long p0, .long p1, .int set]) ++ List.replicate (7 - (lg_sl ([.ref o, .long p0, .long p1, .int set])).length) Slot.unset).toArray = ls at hl ⊢
  have hl : lv_has ls 7 [(0, .ref o), (1, .long p0), (3, .long p1), (5, .int set)] := hl
  have k_m1 : (-1 : Int32).toInt = -1 := by decide
  have k_0 : (0 : Int32).toInt = 0 := by decide
  have k_1 : (1 : Int32).toInt = 1 := by decide
  have k_4 : (4 : Int32).toInt = 4 := by decide
  refine lv_iconst (v := 0) hx hb dX0_firstUnlikeWay_0 (by decide) ?_
  refine lv_istore (lv' := [(6, .int (0 : Int32)), (0, .ref o), (1, .long p0), (3, .long p1), (5, .int set)]) hx hb dX0_firstUnlikeWay_1 hl (by decide) rfl (fun ls hl => ?_)
  have loop_3 : ∀ (n : Nat) (k : Nat), (k ≤ 4) → (∀ j, j < k → ¬ unl w h p0 p1 set j) → 4 - k < n → ∀ (H : Heap) (locs : List Loc), va_P D vwCl ws H → va_S A s.heap H locs → ∀ (ls : Array Slot), lv_has ls 7 [(6, .int (nI k)), (0, .ref o), (1, .long p0), (3, .long p1), (5, .int set)] → W p l e (headSpec wsX0_firstUnlikeWay ({ frames := 3, cells := 0, slots := 0, locals := 72 })).room s m #[Value.ref o, Value.long p0, Value.long p1, Value.int set] below meth c H locs 0 0 (MQ below (va_Qi (fun r0 u => u = (G, ws) ∧ (fstW (unl w h p0 p1 set) (-1) r0)) (cB D cy A) A) #[Value.ref o, Value.long p0, Value.long p1, Value.int set] s 0 0 A) (F0 m 3 ls []) := by
    intro n
    induction n with
    | zero => intro k j3_0 j3_1 hn; exact absurd hn (Nat.not_lt_zero _)
    | succ n ih_3 =>
      intro k j3_0 j3_1 hn_3 H locs hP hS  ls hl
      have ik : (nI k).toInt = (k : Int) := nI_toInt (by omega)
      refine lv_iload hx hb dX0_firstUnlikeWay_3 (lv_at hl 0 rfl) ?_
      refine lv_iconst (v := 4) hx hb dX0_firstUnlikeWay_5 (by decide) ?_
      refine lv_icmp_ge (tgt := 40) hx hb dX0_firstUnlikeWay_6 (by decide) (fun c6 => ?_) (fun c6 => ?_)
      · skip
        have d6 := c6
        rw [fa_le] at d6
        refine lv_iconst (v := (-1)) hx hb dX0_firstUnlikeWay_40 (by decide) ?_
        exact W.iret (v := ((-1) : Int32)) hx hb hr (fun t ht hW => ⟨⟨_, (G, ws), rfl, ⟨rfl, (Or.inr ⟨rfl, fun j9 h9 => j3_1 j9 (by omega)⟩)⟩, by show va_P D vwCl ws t.heap; rw [ht]; exact hP, hD, hT⟩, hS.F ht⟩) hS.2.2 dX0_firstUnlikeWay_41
      · skip
        have d6 := c6
        rw [fa_le] at d6
        refine lv_iload hx hb dX0_firstUnlikeWay_9 (lv_at hl 4 rfl) ?_
        refine lv_iload hx hb dX0_firstUnlikeWay_11 (lv_at hl 0 rfl) ?_
        refine lv_ishr hx hb dX0_firstUnlikeWay_13 ?_
        refine lv_topi (fun v13 e13 => ?_)
        refine lv_iconst (v := 1) hx hb dX0_firstUnlikeWay_14 (by decide) ?_
        refine lv_iand hx hb dX0_firstUnlikeWay_15 ?_
        refine lv_topi (fun v15 e15 => ?_)
        refine lv_iconst (v := 1) hx hb dX0_firstUnlikeWay_16 (by decide) ?_
        have hB : gB set k = v15 := by rw [e15, e13]; rfl
        refine lv_icmp_ne (tgt := 34) hx hb dX0_firstUnlikeWay_17 (by decide) (fun c17 => ?_) (fun c17 => ?_)
        · skip
          have d17 := c17
          rw [fa_eq] at d17
          refine lv_iinc (v := (nI (k + 1))) (lv' := [(6, .int (nI (k + 1))), (0, .ref o), (1, .long p0), (3, .long p1), (5, .int set)]) hx hb dX0_firstUnlikeWay_34 hl (k := 0) rfl (nI_1 _) (by decide) rfl (fun ls hl => ?_)
          refine lv_goto (tgt := 3) hx hb dX0_firstUnlikeWay_37 (by decide) ?_
          exact ih_3 (k + 1) (by omega) (fun j hj => by
            by_cases e9 : j = k
            · rw [e9]; first | exact fun z9 => c17 (hB.symm.trans z9.1) | exact fun z9 => b28 z9.2
            · exact j3_1 j (by omega)) (by omega) _ _ hP hS  ls (lv_sub hl [0, 1, 2, 3, 4] rfl)
        · skip
          have d17 := c17
          rw [fa_eq] at d17
          refine lv_aload_n hx hb dX0_firstUnlikeWay_20 rfl (lv_at hl 1 rfl) ?_
          refine lv_lload_n hx hb dX0_firstUnlikeWay_21 rfl (lv_at hl 2 rfl) ?_
          refine lv_lload_n hx hb dX0_firstUnlikeWay_22 rfl (lv_at hl 3 rfl) ?_
          refine lv_iload hx hb dX0_firstUnlikeWay_23 (lv_at hl 0 rfl) ?_
          obtain ⟨_, hM_o, hb_o, l_o, f_o, r_o, rfl, hG_l_o, hG_f_o, hG_r_o⟩ := hT _ _ hG_o
          refine t_calli (va_runV (g := F0 m 25 ls ([.int (nI k), .long p1, .long p0, .ref o])) (As := [.long p0, .long p1, .int (nI k)]) (rest := []) ⟨hx, hb, hml, hown, hts⟩ (c_X0_hasUnlikeLine_x l D cy A G ws o p0 p1 k hD hT hG_o (by omega)) (cwV 3 hts gX0_firstUnlikeWay_X0_hasUnlikeLine rfl rfl rfl (by decide +kernel) ⟨Nat.le_of_ble_eq_true rfl, Nat.le_of_ble_eq_true rfl⟩) (c_preV hM_o rfl hP hK hA hS hV) rfl rfl hl.1 rfl (lv_room (Nat.le_of_ble_eq_true rfl)) dX0_firstUnlikeWay_25 ⟨Nat.le_of_ble_eq_true rfl, Nat.le_of_ble_eq_true rfl⟩) hS (fun r25 u H locs q25 hP9 hD9 hT9 hS => ?_)
          obtain ⟨rfl, q25⟩ := q25
          have hP : va_P D vwCl ws H := hP9
          refine lv_if_eq (tgt := 34) hx hb dX0_firstUnlikeWay_28 (by decide) (fun c28 => ?_) (fun c28 => ?_)
          · skip
            have b28 := bo_f q25 c28
            refine lv_iinc (v := (nI (k + 1))) (lv' := [(6, .int (nI (k + 1))), (0, .ref o), (1, .long p0), (3, .long p1), (5, .int set)]) hx hb dX0_firstUnlikeWay_34 hl (k := 0) rfl (nI_1 _) (by decide) rfl (fun ls hl => ?_)
            refine lv_goto (tgt := 3) hx hb dX0_firstUnlikeWay_37 (by decide) ?_
            exact ih_3 (k + 1) (by omega) (fun j hj => by
            by_cases e9 : j = k
            · rw [e9]; first | exact fun z9 => c17 (hB.symm.trans z9.1) | exact fun z9 => b28 z9.2
            · exact j3_1 j (by omega)) (by omega) _ _ hP hS  ls (lv_sub hl [0, 1, 2, 3, 4] rfl)
          · skip
            have b28 := bo_t q25 c28
            refine lv_iload hx hb dX0_firstUnlikeWay_31 (lv_at hl 0 rfl) ?_
            exact W.iret (v := (nI k)) hx hb hr (fun t ht hW => ⟨⟨_, (G, ws), rfl, ⟨rfl, (Or.inl ⟨k, (by omega), rfl, ⟨hB.trans c17, b28⟩, j3_1⟩)⟩, by show va_P D vwCl ws t.heap; rw [ht]; exact hP, hD, hT⟩, hS.F ht⟩) hS.2.2 dX0_firstUnlikeWay_33
  exact loop_3 (4 + 1) 0 (by omega) (fun j hj => absurd hj (Nat.not_lt_zero _)) (by omega) _ _ hP hS  ls (lv_sub hl [0, 1, 2, 3, 4] rfl)
set_option maxHeartbeats 4000000 in
set_option maxRecDepth 100000 in
theorem c_X9_shadow_x (l : Launch) (D : va_G) (cy : Nat → ClassId) (A : Nat → Prop) (G : cG) (ws : va_W) (o : Nat) (wide : Int32) (high : Int32) (p0 : Int64) (way : Int32) (line : Int32)  (hD : va_D A ws) (hT : cT cy G ws) (hG_o : G o = some (7, 0, 0))  : Ci l D cy A yX9_shadow wsX9_shadow ({ frames := 5, cells := 4, slots := 502, locals := 116 }) 4 502 ws [.ref o, .int wide, .int high, .long p0, .int way, .int line] (fun r0 u => cX none (chs [1, 8]) G ws u.1 u.2 ∧ (shA wide high p0 way line r0)) := by
  refine Met.ofW (cc := cX9_shadow) (maxL := 8) (ret := (some .int)) (by decide) rfl ?_
  intro p e s m args below meth c s₁ B hml hv
  obtain ⟨rfl, hP, hK, hA, hV⟩ := hv
  have hx := B.exec
  have hb := B.bytes
  have hr := B.returns
  have hts := atoms_spec (ws := wsX9_shadow) B.pre
  have hown : s.vm.findClass RX9 = some m.cls := findClass_of_methodNamed B.named
  have hlocks := B.notSynchronized
  have hS : va_S A s.heap s.heap [] := va_S.rf
  have hX : cX none (chs [1, 8]) G ws G ws := cX.rf
  have hl := lv_entry ([.ref o, .int wide, .int high, .long p0, .int way, .int line]) (n := 8) (Nat.le_of_ble_eq_true rfl)
  rw [lg_entry_eq]
  generalize (lg_sl ([.ref o, .int wide, .int high, .long p0, .int way, .int line]) ++ List.replicate (8 - (lg_sl ([.ref o, .int wide, .int high, .long p0, .int way, .int line])).length) Slot.unset).toArray = ls at hl ⊢
  have hl : lv_has ls 8 [(0, .ref o), (1, .int wide), (2, .int high), (3, .long p0), (5, .int way), (6, .int line)] := hl
  have k_m1 : (-1 : Int32).toInt = -1 := by decide
  have k_0 : (0 : Int32).toInt = 0 := by decide
  refine lv_aload_n hx hb dX9_shadow_0 rfl (lv_at hl 0 rfl) ?_
  refine lv_iload_n hx hb dX9_shadow_1 rfl (lv_at hl 1 rfl) ?_
  refine lv_iload_n hx hb dX9_shadow_2 rfl (lv_at hl 2 rfl) ?_
  obtain ⟨_, hM_o, bs_o, js_o, sh_o, wk_o, ll_o, jc_o, lc_o, mo_o, lb_o, rfl, hjc_o, hlc_o, hG_bs_o, hG_js_o, hG_sh_o, hG_wk_o, hmo_o, hG_ll_o, hlb_o⟩ := hT _ _ hG_o
  refine t_calla (va_runV (g := F0 m 3 ls ([.int high, .int wide, .ref o])) (As := [.int wide, .int high]) (rest := []) ⟨hx, hb, hml, hown, hts⟩ (c_X9_boardOf_x l D cy A G ws o wide high hD hT hG_o ) (cwV 2 hts gX9_shadow_X9_boardOf rfl rfl rfl (by decide +kernel) ⟨Nat.le_of_ble_eq_true rfl, Nat.le_of_ble_eq_true rfl⟩) (c_preV hM_o rfl hP hK hA hS hV) rfl rfl hl.1 rfl (lv_room (Nat.le_of_ble_eq_true rfl)) dX9_shadow_3 ⟨Nat.le_of_ble_eq_true rfl, Nat.le_of_ble_eq_true rfl⟩) hS (fun r3 u H locs q3 hP9 hD9 hT9 hS => ?_)
  obtain ⟨G3, w3⟩ := u
  obtain ⟨hX9, q3⟩ := q3
  have hX9 : cX none (chs [1, 8]) G ws G3 w3 := hX9
  have hP : va_P D vwCl w3 H := hP9
  have hD : va_D A w3 := hD9
  have hT : cT cy G3 w3 := hT9
  have hM_o := hX9.2.1 _ _ (cP.no hG_o rfl) hM_o
  have hG_o := hX9.1 _ _ hG_o
  have hG_bs_o := hX9.1 _ _ hG_bs_o
  have hG_js_o := hX9.1 _ _ hG_js_o
  have hG_sh_o := hX9.1 _ _ hG_sh_o
  have hG_wk_o := hX9.1 _ _ hG_wk_o
  have hG_ll_o := hX9.1 _ _ hG_ll_o
  have hX := hX.tr hX9
  rcases r3 with _ | x3
  · skip
    have vn3 := q3.2.1 rfl
    refine lv_astoreN (lv' := [(7, .null), (0, .ref o), (1, .int wide), (2, .int high), (3, .long p0), (5, .int way), (6, .int line)]) hx hb dX9_shadow_6 hl (by decide) rfl (fun ls hl => ?_)
    refine lv_aloadN hx hb dX9_shadow_8 (lv_at hl 0 rfl) ?_
    refine lv_ifnullN (tgt := 34) hx hb dX9_shadow_10 (by decide) ?_
    refine lv_iconst (v := (-1)) hx hb dX9_shadow_34 (by decide) ?_
    refine W.widen (k := 4) (n := 502) (Nat.le_of_ble_eq_true rfl) (Nat.le_of_ble_eq_true rfl) ?_
    exact W.iret (v := ((-1) : Int32)) hx hb hr (fun t ht hW => ⟨⟨_, (G3, w3), rfl, ⟨hX, (Or.inr ⟨(fun z9 => by first | exact vn3 z9.1.1 | exact b19 z9.1.2 | (have z8 := cL9 z9.2.1.1; have z7 := z9.2; unfold okL at z7; omega)), rfl⟩)⟩, by show va_P D vwCl w3 t.heap; rw [ht]; exact hP, hD, hT⟩, hS.F ht⟩) hS.2.2 dX9_shadow_35
  · skip
    have hG_x3 := q3.1 x3 rfl
    have vb3 := q3.2.2 x3 rfl
    refine lv_astore (lv' := [(7, .ref x3), (0, .ref o), (1, .int wide), (2, .int high), (3, .long p0), (5, .int way), (6, .int line)]) hx hb dX9_shadow_6 hl (by decide) rfl (fun ls hl => ?_)
    refine lv_aload hx hb dX9_shadow_8 (lv_at hl 0 rfl) ?_
    refine lv_ifnull hx hb dX9_shadow_10 ?_
    refine lv_aload hx hb dX9_shadow_13 (lv_at hl 0 rfl) ?_
    refine lv_lload_n hx hb dX9_shadow_15 rfl (lv_at hl 4 rfl) ?_
    obtain ⟨_, hM_x3, hb_x3, l_x3, f_x3, r_x3, rfl, hG_l_x3, hG_f_x3, hG_r_x3⟩ := hT _ _ hG_x3
    refine t_calli (va_runV (g := F0 m 16 ls ([.long p0, .ref x3])) (As := [.long p0]) (rest := []) ⟨hx, hb, hml, hown, hts⟩ (c_X0_isPicture_x l D cy A G3 w3 x3 p0 hD hT hG_x3 ) (cwV 1 hts gX9_shadow_X0_isPicture rfl rfl rfl (by decide +kernel) ⟨Nat.le_of_ble_eq_true rfl, Nat.le_of_ble_eq_true rfl⟩) (c_preV hM_x3 rfl hP hK hA hS hV) rfl rfl hl.1 rfl (lv_room (Nat.le_of_ble_eq_true rfl)) dX9_shadow_16 ⟨Nat.le_of_ble_eq_true rfl, Nat.le_of_ble_eq_true rfl⟩) hS (fun r16 u H locs q16 hP9 hD9 hT9 hS => ?_)
    obtain ⟨rfl, q16⟩ := q16
    have hP : va_P D vwCl w3 H := hP9
    refine lv_if_eq (tgt := 34) hx hb dX9_shadow_19 (by decide) (fun c19 => ?_) (fun c19 => ?_)
    · skip
      have b19 := bo_f q16 c19
      refine lv_iconst (v := (-1)) hx hb dX9_shadow_34 (by decide) ?_
      refine W.widen (k := 4) (n := 502) (Nat.le_of_ble_eq_true rfl) (Nat.le_of_ble_eq_true rfl) ?_
      exact W.iret (v := ((-1) : Int32)) hx hb hr (fun t ht hW => ⟨⟨_, (G3, w3), rfl, ⟨hX, (Or.inr ⟨(fun z9 => by first | exact vn3 z9.1.1 | exact b19 z9.1.2 | (have z8 := cL9 z9.2.1.1; have z7 := z9.2; unfold okL at z7; omega)), rfl⟩)⟩, by show va_P D vwCl w3 t.heap; rw [ht]; exact hP, hD, hT⟩, hS.F ht⟩) hS.2.2 dX9_shadow_35
    · skip
      have b19 := bo_t q16 c19
      have hb9 := c_hb hT hG_x3
      refine lv_aload hx hb dX9_shadow_22 (lv_at hl 0 rfl) ?_
      refine lv_iload hx hb dX9_shadow_24 (lv_at hl 5 rfl) ?_
      refine lv_iload hx hb dX9_shadow_26 (lv_at hl 6 rfl) ?_
      refine t_calli (va_runV (g := F0 m 28 ls ([.int line, .int way, .ref x3])) (As := [.int way, .int line]) (rest := []) ⟨hx, hb, hml, hown, hts⟩ (c_X0_isLine l D cy A G3 w3 x3 way line hD hT hG_x3 ) (cwV 2 hts gX9_shadow_X0_isLine rfl rfl rfl (by decide +kernel) ⟨Nat.le_of_ble_eq_true rfl, Nat.le_of_ble_eq_true rfl⟩) (c_preV hM_x3 rfl hP hK hA hS hV) rfl rfl hl.1 rfl (lv_room (Nat.le_of_ble_eq_true rfl)) dX9_shadow_28 ⟨Nat.le_of_ble_eq_true rfl, Nat.le_of_ble_eq_true rfl⟩) hS (fun r28 u H locs q28 hP9 hD9 hT9 hS => ?_)
      obtain ⟨rfl, q28⟩ := q28
      have hP : va_P D vwCl w3 H := hP9
      have cL9 := fun z9 : 0 ≤ way.toInt => cLn hb9 (way := way) z9
      refine lv_if_ne (tgt := 36) hx hb dX9_shadow_31 (by decide) (fun c31 => ?_) (fun c31 => ?_)
      · skip
        have b31 := bo_t q28 c31
        have cL8 := cL9 (by omega)
        refine lv_aload hx hb dX9_shadow_36 (lv_at hl 0 rfl) ?_
        refine lv_iload hx hb dX9_shadow_38 (lv_at hl 5 rfl) ?_
        refine lv_iload hx hb dX9_shadow_40 (lv_at hl 6 rfl) ?_
        refine lv_lload_n hx hb dX9_shadow_42 rfl (lv_at hl 4 rfl) ?_
        refine t_calli (va_runV (g := F0 m 43 ls ([.long p0, .int line, .int way, .ref x3])) (As := [.int way, .int line, .long p0]) (rest := []) ⟨hx, hb, hml, hown, hts⟩ (c_X0_onesOfLine_x l D cy A G3 w3 x3 way line p0 hD hT hG_x3 (by omega) (by have z9 := lnC_b hb9 way.toNatClampNeg; omega)) (cwV 3 hts gX9_shadow_X0_onesOfLine rfl rfl rfl (by decide +kernel) ⟨Nat.le_of_ble_eq_true rfl, Nat.le_of_ble_eq_true rfl⟩) (c_preV hM_x3 rfl hP hK hA hS hV) rfl rfl hl.1 rfl (lv_room (Nat.le_of_ble_eq_true rfl)) dX9_shadow_43 ⟨Nat.le_of_ble_eq_true rfl, Nat.le_of_ble_eq_true rfl⟩) hS (fun r43 u H locs q43 hP9 hD9 hT9 hS => ?_)
        obtain ⟨rfl, q43⟩ := q43
        have hP : va_P D vwCl w3 H := hP9
        refine W.widen (k := 4) (n := 502) (Nat.le_of_ble_eq_true rfl) (Nat.le_of_ble_eq_true rfl) ?_
        exact W.iret (v := r43) hx hb hr (fun t ht hW => ⟨⟨_, (G3, w3), rfl, ⟨hX, (Or.inl ⟨⟨⟨vb3, b19⟩, (by unfold okL; omega)⟩, q43⟩)⟩, by show va_P D vwCl w3 t.heap; rw [ht]; exact hP, hD, hT⟩, hS.F ht⟩) hS.2.2 dX9_shadow_46
      · skip
        have b31 := bo_f q28 c31
        refine lv_iconst (v := (-1)) hx hb dX9_shadow_34 (by decide) ?_
        refine W.widen (k := 4) (n := 502) (Nat.le_of_ble_eq_true rfl) (Nat.le_of_ble_eq_true rfl) ?_
        exact W.iret (v := ((-1) : Int32)) hx hb hr (fun t ht hW => ⟨⟨_, (G3, w3), rfl, ⟨hX, (Or.inr ⟨(fun z9 => by first | exact vn3 z9.1.1 | exact b19 z9.1.2 | (have z8 := cL9 z9.2.1.1; have z7 := z9.2; unfold okL at z7; omega)), rfl⟩)⟩, by show va_P D vwCl w3 t.heap; rw [ht]; exact hP, hD, hT⟩, hS.F ht⟩) hS.2.2 dX9_shadow_35
set_option maxHeartbeats 4000000 in
set_option maxRecDepth 100000 in
theorem c_X9_parts_x (l : Launch) (D : va_G) (cy : Nat → ClassId) (A : Nat → Prop) (G : cG) (ws : va_W) (o : Nat) (wide : Int32) (high : Int32) (p0 : Int64) (p1 : Int64) (ways : Int32)  (hD : va_D A ws) (hT : cT cy G ws) (hG_o : G o = some (7, 0, 0))  : Ci l D cy A yX9_parts wsX9_parts ({ frames := 5, cells := 4, slots := 502, locals := 116 }) 4 502 ws [.ref o, .int wide, .int high, .long p0, .long p1, .int ways] (fun r0 u => cX none (chs [1, 8]) G ws u.1 u.2 ∧ (paA wide high p0 p1 ways r0)) := by
  refine Met.ofW (cc := cX9_parts) (maxL := 10) (ret := (some .int)) (by decide) rfl ?_
  intro p e s m args below meth c s₁ B hml hv
  obtain ⟨rfl, hP, hK, hA, hV⟩ := hv
  have hx := B.exec
  have hb := B.bytes
  have hr := B.returns
  have hts := atoms_spec (ws := wsX9_parts) B.pre
  have hown : s.vm.findClass RX9 = some m.cls := findClass_of_methodNamed B.named
  have hlocks := B.notSynchronized
  have hS : va_S A s.heap s.heap [] := va_S.rf
  have hX : cX none (chs [1, 8]) G ws G ws := cX.rf
  have hl := lv_entry ([.ref o, .int wide, .int high, .long p0, .long p1, .int ways]) (n := 10) (Nat.le_of_ble_eq_true rfl)
  rw [lg_entry_eq]
  generalize (lg_sl ([.ref o, .int wide, .int high, .long p0, .long p1, .int ways]) ++ List.replicate (10 - (lg_sl ([.ref o, .int wide, .int high, .long p0, .long p1, .int ways])).length) Slot.unset).toArray = ls at hl ⊢
  have hl : lv_has ls 10 [(0, .ref o), (1, .int wide), (2, .int high), (3, .long p0), (5, .long p1), (7, .int ways)] := hl
  have k_m2 : (-2 : Int32).toInt = -2 := by decide
  have k_m1 : (-1 : Int32).toInt = -1 := by decide
  have k_0 : (0 : Int32).toInt = 0 := by decide
  have k_16 : (16 : Int32).toInt = 16 := by decide
  refine lv_aload_n hx hb dX9_parts_0 rfl (lv_at hl 0 rfl) ?_
  refine lv_iload_n hx hb dX9_parts_1 rfl (lv_at hl 1 rfl) ?_
  refine lv_iload_n hx hb dX9_parts_2 rfl (lv_at hl 2 rfl) ?_
  obtain ⟨_, hM_o, bs_o, js_o, sh_o, wk_o, ll_o, jc_o, lc_o, mo_o, lb_o, rfl, hjc_o, hlc_o, hG_bs_o, hG_js_o, hG_sh_o, hG_wk_o, hmo_o, hG_ll_o, hlb_o⟩ := hT _ _ hG_o
  refine t_calla (va_runV (g := F0 m 3 ls ([.int high, .int wide, .ref o])) (As := [.int wide, .int high]) (rest := []) ⟨hx, hb, hml, hown, hts⟩ (c_X9_boardOf_x l D cy A G ws o wide high hD hT hG_o ) (cwV 2 hts gX9_parts_X9_boardOf rfl rfl rfl (by decide +kernel) ⟨Nat.le_of_ble_eq_true rfl, Nat.le_of_ble_eq_true rfl⟩) (c_preV hM_o rfl hP hK hA hS hV) rfl rfl hl.1 rfl (lv_room (Nat.le_of_ble_eq_true rfl)) dX9_parts_3 ⟨Nat.le_of_ble_eq_true rfl, Nat.le_of_ble_eq_true rfl⟩) hS (fun r3 u H locs q3 hP9 hD9 hT9 hS => ?_)
  obtain ⟨G3, w3⟩ := u
  obtain ⟨hX9, q3⟩ := q3
  have hX9 : cX none (chs [1, 8]) G ws G3 w3 := hX9
  have hP : va_P D vwCl w3 H := hP9
  have hD : va_D A w3 := hD9
  have hT : cT cy G3 w3 := hT9
  have hM_o := hX9.2.1 _ _ (cP.no hG_o rfl) hM_o
  have hG_o := hX9.1 _ _ hG_o
  have hG_bs_o := hX9.1 _ _ hG_bs_o
  have hG_js_o := hX9.1 _ _ hG_js_o
  have hG_sh_o := hX9.1 _ _ hG_sh_o
  have hG_wk_o := hX9.1 _ _ hG_wk_o
  have hG_ll_o := hX9.1 _ _ hG_ll_o
  have hX := hX.tr hX9
  rcases r3 with _ | x3
  · skip
    have vn3 := q3.2.1 rfl
    refine lv_astoreN (lv' := [(8, .null), (0, .ref o), (1, .int wide), (2, .int high), (3, .long p0), (5, .long p1), (7, .int ways)]) hx hb dX9_parts_6 hl (by decide) rfl (fun ls hl => ?_)
    refine lv_aloadN hx hb dX9_parts_8 (lv_at hl 0 rfl) ?_
    refine lv_ifnullN (tgt := 44) hx hb dX9_parts_10 (by decide) ?_
    refine lv_iconst (v := (-1)) hx hb dX9_parts_44 (by decide) ?_
    refine W.widen (k := 4) (n := 502) (Nat.le_of_ble_eq_true rfl) (Nat.le_of_ble_eq_true rfl) ?_
    exact W.iret (v := ((-1) : Int32)) hx hb hr (fun t ht hW => ⟨⟨_, (G3, w3), rfl, ⟨hX, (Or.inr ⟨(fun z9 => by first | exact vn3 z9.1.1 | exact b19 z9.1.2 | exact b29 z9.2.1.2 | omega), rfl⟩)⟩, by show va_P D vwCl w3 t.heap; rw [ht]; exact hP, hD, hT⟩, hS.F ht⟩) hS.2.2 dX9_parts_45
  · skip
    have hG_x3 := q3.1 x3 rfl
    have vb3 := q3.2.2 x3 rfl
    refine lv_astore (lv' := [(8, .ref x3), (0, .ref o), (1, .int wide), (2, .int high), (3, .long p0), (5, .long p1), (7, .int ways)]) hx hb dX9_parts_6 hl (by decide) rfl (fun ls hl => ?_)
    refine lv_aload hx hb dX9_parts_8 (lv_at hl 0 rfl) ?_
    refine lv_ifnull hx hb dX9_parts_10 ?_
    refine lv_aload hx hb dX9_parts_13 (lv_at hl 0 rfl) ?_
    refine lv_lload_n hx hb dX9_parts_15 rfl (lv_at hl 4 rfl) ?_
    obtain ⟨_, hM_x3, hb_x3, l_x3, f_x3, r_x3, rfl, hG_l_x3, hG_f_x3, hG_r_x3⟩ := hT _ _ hG_x3
    refine t_calli (va_runV (g := F0 m 16 ls ([.long p0, .ref x3])) (As := [.long p0]) (rest := []) ⟨hx, hb, hml, hown, hts⟩ (c_X0_isPicture_x l D cy A G3 w3 x3 p0 hD hT hG_x3 ) (cwV 1 hts gX9_parts_X0_isPicture rfl rfl rfl (by decide +kernel) ⟨Nat.le_of_ble_eq_true rfl, Nat.le_of_ble_eq_true rfl⟩) (c_preV hM_x3 rfl hP hK hA hS hV) rfl rfl hl.1 rfl (lv_room (Nat.le_of_ble_eq_true rfl)) dX9_parts_16 ⟨Nat.le_of_ble_eq_true rfl, Nat.le_of_ble_eq_true rfl⟩) hS (fun r16 u H locs q16 hP9 hD9 hT9 hS => ?_)
    obtain ⟨rfl, q16⟩ := q16
    have hP : va_P D vwCl w3 H := hP9
    refine lv_if_eq (tgt := 44) hx hb dX9_parts_19 (by decide) (fun c19 => ?_) (fun c19 => ?_)
    · skip
      have b19 := bo_f q16 c19
      refine lv_iconst (v := (-1)) hx hb dX9_parts_44 (by decide) ?_
      refine W.widen (k := 4) (n := 502) (Nat.le_of_ble_eq_true rfl) (Nat.le_of_ble_eq_true rfl) ?_
      exact W.iret (v := ((-1) : Int32)) hx hb hr (fun t ht hW => ⟨⟨_, (G3, w3), rfl, ⟨hX, (Or.inr ⟨(fun z9 => by first | exact vn3 z9.1.1 | exact b19 z9.1.2 | exact b29 z9.2.1.2 | omega), rfl⟩)⟩, by show va_P D vwCl w3 t.heap; rw [ht]; exact hP, hD, hT⟩, hS.F ht⟩) hS.2.2 dX9_parts_45
    · skip
      have b19 := bo_t q16 c19
      refine lv_aload hx hb dX9_parts_22 (lv_at hl 0 rfl) ?_
      refine lv_lload hx hb dX9_parts_24 (lv_at hl 5 rfl) ?_
      refine t_calli (va_runV (g := F0 m 26 ls ([.long p1, .ref x3])) (As := [.long p1]) (rest := []) ⟨hx, hb, hml, hown, hts⟩ (c_X0_isPicture_x l D cy A G3 w3 x3 p1 hD hT hG_x3 ) (cwV 1 hts gX9_parts_X0_isPicture rfl rfl rfl (by decide +kernel) ⟨Nat.le_of_ble_eq_true rfl, Nat.le_of_ble_eq_true rfl⟩) (c_preV hM_x3 rfl hP hK hA hS hV) rfl rfl hl.1 rfl (lv_room (Nat.le_of_ble_eq_true rfl)) dX9_parts_26 ⟨Nat.le_of_ble_eq_true rfl, Nat.le_of_ble_eq_true rfl⟩) hS (fun r26 u H locs q26 hP9 hD9 hT9 hS => ?_)
      obtain ⟨rfl, q26⟩ := q26
      have hP : va_P D vwCl w3 H := hP9
      refine lv_if_eq (tgt := 44) hx hb dX9_parts_29 (by decide) (fun c29 => ?_) (fun c29 => ?_)
      · skip
        have b29 := bo_f q26 c29
        refine lv_iconst (v := (-1)) hx hb dX9_parts_44 (by decide) ?_
        refine W.widen (k := 4) (n := 502) (Nat.le_of_ble_eq_true rfl) (Nat.le_of_ble_eq_true rfl) ?_
        exact W.iret (v := ((-1) : Int32)) hx hb hr (fun t ht hW => ⟨⟨_, (G3, w3), rfl, ⟨hX, (Or.inr ⟨(fun z9 => by first | exact vn3 z9.1.1 | exact b19 z9.1.2 | exact b29 z9.2.1.2 | omega), rfl⟩)⟩, by show va_P D vwCl w3 t.heap; rw [ht]; exact hP, hD, hT⟩, hS.F ht⟩) hS.2.2 dX9_parts_45
      · skip
        have b29 := bo_t q26 c29
        refine lv_iload hx hb dX9_parts_32 (lv_at hl 6 rfl) ?_
        refine lv_if_lt (tgt := 44) hx hb dX9_parts_34 (by decide) (fun c34 => ?_) (fun c34 => ?_)
        · skip
          have d34 := c34
          rw [fa_lt] at d34
          refine lv_iconst (v := (-1)) hx hb dX9_parts_44 (by decide) ?_
          refine W.widen (k := 4) (n := 502) (Nat.le_of_ble_eq_true rfl) (Nat.le_of_ble_eq_true rfl) ?_
          exact W.iret (v := ((-1) : Int32)) hx hb hr (fun t ht hW => ⟨⟨_, (G3, w3), rfl, ⟨hX, (Or.inr ⟨(fun z9 => by first | exact vn3 z9.1.1 | exact b19 z9.1.2 | exact b29 z9.2.1.2 | omega), rfl⟩)⟩, by show va_P D vwCl w3 t.heap; rw [ht]; exact hP, hD, hT⟩, hS.F ht⟩) hS.2.2 dX9_parts_45
        · skip
          have d34 := c34
          rw [fa_lt] at d34
          refine lv_iload hx hb dX9_parts_37 (lv_at hl 6 rfl) ?_
          refine lv_bipush (v := 16) hx hb dX9_parts_39 (by decide) ?_
          refine lv_icmp_lt (tgt := 46) hx hb dX9_parts_41 (by decide) (fun c41 => ?_) (fun c41 => ?_)
          · skip
            have d41 := c41
            rw [fa_lt] at d41
            refine lv_aload hx hb dX9_parts_46 (lv_at hl 0 rfl) ?_
            refine lv_lload_n hx hb dX9_parts_48 rfl (lv_at hl 4 rfl) ?_
            refine lv_lload hx hb dX9_parts_49 (lv_at hl 5 rfl) ?_
            refine lv_iload hx hb dX9_parts_51 (lv_at hl 6 rfl) ?_
            refine t_calli (va_runV (g := F0 m 53 ls ([.int ways, .long p1, .long p0, .ref x3])) (As := [.long p0, .long p1, .int ways]) (rest := []) ⟨hx, hb, hml, hown, hts⟩ (c_X0_firstUnlikeWay_x l D cy A G3 w3 x3 p0 p1 ways hD hT hG_x3 ) (cwV 3 hts gX9_parts_X0_firstUnlikeWay rfl rfl rfl (by decide +kernel) ⟨Nat.le_of_ble_eq_true rfl, Nat.le_of_ble_eq_true rfl⟩) (c_preV hM_x3 rfl hP hK hA hS hV) rfl rfl hl.1 rfl (lv_room (Nat.le_of_ble_eq_true rfl)) dX9_parts_53 ⟨Nat.le_of_ble_eq_true rfl, Nat.le_of_ble_eq_true rfl⟩) hS (fun r53 u H locs q53 hP9 hD9 hT9 hS => ?_)
            obtain ⟨rfl, q53⟩ := q53
            have hP : va_P D vwCl w3 H := hP9
            refine lv_istore (lv' := [(9, .int r53), (8, .ref x3), (0, .ref o), (1, .int wide), (2, .int high), (3, .long p0), (5, .long p1), (7, .int ways)]) hx hb dX9_parts_56 hl (by decide) rfl (fun ls hl => ?_)
            refine lv_iload hx hb dX9_parts_58 (lv_at hl 0 rfl) ?_
            refine lv_if_ge (tgt := 68) hx hb dX9_parts_60 (by decide) (fun c60 => ?_) (fun c60 => ?_)
            · skip
              have d60 := c60
              rw [fa_le] at d60
              refine lv_iload hx hb dX9_parts_68 (lv_at hl 0 rfl) ?_
              refine W.widen (k := 4) (n := 502) (Nat.le_of_ble_eq_true rfl) (Nat.le_of_ble_eq_true rfl) ?_
              exact W.iret (v := r53) hx hb hr (fun t ht hW => ⟨⟨_, (G3, w3), rfl, ⟨hX, (Or.inl ⟨⟨⟨vb3, b19⟩, ⟨vb3, b29⟩, (by omega)⟩, (by rcases q53 with z9 | ⟨e9, z9⟩; exact Or.inl z9; (exfalso; rw [e9] at d60; have z8 : (-1 : Int32).toInt = -1 := rfl; omega))⟩)⟩, by show va_P D vwCl w3 t.heap; rw [ht]; exact hP, hD, hT⟩, hS.F ht⟩) hS.2.2 dX9_parts_70
            · skip
              have d60 := c60
              rw [fa_le] at d60
              refine lv_bipush (v := (-2)) hx hb dX9_parts_63 (by decide) ?_
              refine lv_goto (tgt := 70) hx hb dX9_parts_65 (by decide) ?_
              refine W.widen (k := 4) (n := 502) (Nat.le_of_ble_eq_true rfl) (Nat.le_of_ble_eq_true rfl) ?_
              exact W.iret (v := ((-2) : Int32)) hx hb hr (fun t ht hW => ⟨⟨_, (G3, w3), rfl, ⟨hX, (Or.inl ⟨⟨⟨vb3, b19⟩, ⟨vb3, b29⟩, (by omega)⟩, (by rcases q53 with ⟨k9, h9, e9, z9⟩ | ⟨e9, z9⟩; (exfalso; have z8 : (nI k9).toInt = (k9 : Int) := nI_toInt (by omega); rw [e9] at d60; omega); exact Or.inr ⟨rfl, z9⟩)⟩)⟩, by show va_P D vwCl w3 t.heap; rw [ht]; exact hP, hD, hT⟩, hS.F ht⟩) hS.2.2 dX9_parts_70
          · skip
            have d41 := c41
            rw [fa_lt] at d41
            refine lv_iconst (v := (-1)) hx hb dX9_parts_44 (by decide) ?_
            refine W.widen (k := 4) (n := 502) (Nat.le_of_ble_eq_true rfl) (Nat.le_of_ble_eq_true rfl) ?_
            exact W.iret (v := ((-1) : Int32)) hx hb hr (fun t ht hW => ⟨⟨_, (G3, w3), rfl, ⟨hX, (Or.inr ⟨(fun z9 => by first | exact vn3 z9.1.1 | exact b19 z9.1.2 | exact b29 z9.2.1.2 | omega), rfl⟩)⟩, by show va_P D vwCl w3 t.heap; rw [ht]; exact hP, hD, hT⟩, hS.F ht⟩) hS.2.2 dX9_parts_45
set_option maxHeartbeats 4000000 in
set_option maxRecDepth 100000 in
theorem c_X10_areAlike_x (l : Launch) (w : Int32) (h : Int32) (p0 : Int64) (q0 : Int64) (way : Int32) (hw : 1 ≤ w.toInt ∧ w.toInt ≤ 6) (hh : 1 ≤ h.toInt ∧ h.toInt ≤ 6) (hy : 0 ≤ way.toInt ∧ way.toInt ≤ 3) : Pu l yX10_areAlike wsX10_areAlike ({ frames := 2, cells := 0, slots := 0, locals := 50 }) [.int w, .int h, .long p0, .long q0, .int way] (fun r => Bo r (alike w.toNatClampNeg h.toNatClampNeg p0 q0 way.toNatClampNeg)) := by
  refine Met.ofW (cc := cX10_areAlike) (maxL := 9) (ret := (some .boolean)) (by decide) rfl ?_
  intro p e s m args below meth c s₁ B hml hv
  obtain ⟨rfl, -⟩ := hv
  have hx := B.exec
  have hb := B.bytes
  have hr := B.returns
  have hts := atoms_spec (ws := wsX10_areAlike) B.pre
  have hown : s.vm.findClass RX10 = some m.cls := findClass_of_methodNamed B.named
  have hlocks := B.notSynchronized
  have hS : va_S (fun _ => False) s.heap s.heap [] := va_S.rf
  have hl := lv_entry ([.int w, .int h, .long p0, .long q0, .int way]) (n := 9) (Nat.le_of_ble_eq_true rfl)
  rw [lg_entry_eq]
  generalize (lg_sl ([.int w, .int h, .long p0, .long q0, .int way]) ++ List.replicate (9 - (lg_sl ([.int w, .int h, .long p0, .long q0, .int way])).length) Slot.unset).toArray = ls at hl ⊢
  have hl : lv_has ls 9 [(0, .int w), (1, .int h), (2, .long p0), (4, .long q0), (6, .int way)] := hl
  have hS0 := hS
  have k_0 : (0 : Int32).toInt = 0 := by decide
  have k_1 : (1 : Int32).toInt = 1 := by decide
  have hlb := lines_lt hw hh way
  have hLn := rLn hw hh hy.1
  obtain ⟨hA9, hB9, h36, -⟩ := wh36 hw hh
  refine lv_iconst (v := 1) hx hb dX10_areAlike_0 (by decide) ?_
  refine lv_istore (lv' := [(7, .int (1 : Int32)), (0, .int w), (1, .int h), (2, .long p0), (4, .long q0), (6, .int way)]) hx hb dX10_areAlike_1 hl (by decide) rfl (fun ls hl => ?_)
  refine lv_iconst (v := 0) hx hb dX10_areAlike_3 (by decide) ?_
  refine lv_istore (lv' := [(8, .int (0 : Int32)), (7, .int (1 : Int32)), (0, .int w), (1, .int h), (2, .long p0), (4, .long q0), (6, .int way)]) hx hb dX10_areAlike_4 hl (by decide) rfl (fun ls hl => ?_)
  have loop_6 : ∀ (n : Nat) (k : Nat) (x7 : Int32), ((k : Int) ≤ (r_lines w h way).toInt) → ((x7 = 1 ∧ ∀ l, l < k → shN w.toNatClampNeg h.toNatClampNeg p0 way.toNatClampNeg l = shN w.toNatClampNeg h.toNatClampNeg q0 way.toNatClampNeg l) ∨ (x7 = 0 ∧ ¬ ∀ l, l < k → shN w.toNatClampNeg h.toNatClampNeg p0 way.toNatClampNeg l = shN w.toNatClampNeg h.toNatClampNeg q0 way.toNatClampNeg l)) → ((r_lines w h way).toInt - k).toNat < n → ∀ (H : Heap) (locs : List Loc), va_S (fun _ => False) s.heap H locs → ∀ (ls : Array Slot), lv_has ls 9 [(8, .int (nI k)), (7, .int x7), (0, .int w), (1, .int h), (2, .long p0), (4, .long q0), (6, .int way)] → W p l e (headSpec wsX10_areAlike ({ frames := 2, cells := 0, slots := 0, locals := 50 })).room s m #[Value.int w, Value.int h, Value.long p0, Value.long q0, Value.int way] below meth c H locs 0 0 (MQ below (va_Qi (fun r (_ : Unit) => Bo r (alike w.toNatClampNeg h.toNatClampNeg p0 q0 way.toNatClampNeg)) (fun _ _ => True) (fun _ => False)) #[Value.int w, Value.int h, Value.long p0, Value.long q0, Value.int way] s 0 0 (fun _ => False)) (F0 m 6 ls []) := by
    intro n
    induction n with
    | zero => intro k x7 j6_0 j6_1 hn; exact absurd hn (Nat.not_lt_zero _)
    | succ n ih_6 =>
      intro k x7 j6_0 j6_1 hn_6 H locs hS ls hl
      have ik : (nI k).toInt = (k : Int) := nI_toInt (by omega)
      refine lv_iload hx hb dX10_areAlike_6 (lv_at hl 0 rfl) ?_
      refine lv_iload_n hx hb dX10_areAlike_8 rfl (lv_at hl 2 rfl) ?_
      refine lv_iload_n hx hb dX10_areAlike_9 rfl (lv_at hl 3 rfl) ?_
      refine lv_iload hx hb dX10_areAlike_10 (lv_at hl 6 rfl) ?_
      refine pu_call (As := [.int w, .int h, .int way]) (rest := [.int (nI k)]) ⟨hx, hb, hml, hown, hts⟩ (c_X10_linesOf l w h way ) (va_cwS 3 hts gX10_areAlike_X10_linesOf rfl rfl rfl (by decide +kernel) ⟨Nat.le_of_ble_eq_true rfl, Nat.le_of_ble_eq_true rfl⟩) rfl hl.1 rfl (Nat.le_of_ble_eq_true rfl) dX10_areAlike_12 ⟨Nat.le_of_ble_eq_true rfl, Nat.le_of_ble_eq_true rfl⟩ hS (fun r12 H locs q12 hS => ?_)
      have i12 : r12.toInt = (r_lines w h way).toInt := congrArg Int32.toInt q12
      refine lv_icmp_ge (tgt := 60) hx hb dX10_areAlike_15 (by decide) (fun c15 => ?_) (fun c15 => ?_)
      · skip
        have d15 := c15
        rw [fa_le] at d15
        refine lv_iload hx hb dX10_areAlike_60 (lv_at hl 1 rfl) ?_
        exact W.zret (v := x7) hx hb hr (by rcases j6_1 with ⟨z, _⟩ | ⟨z, _⟩ <;> rw [z] <;> rfl) (fun t ht hW => ⟨⟨_, (), rfl, (by rcases j6_1 with ⟨z, y⟩ | ⟨z, y⟩; exact Or.inl ⟨z, fun l9 h9 => y l9 (by omega)⟩; exact Or.inr ⟨z, fun u => y (fun l9 h9 => u l9 (by omega))⟩), trivial⟩, hS.F ht⟩) hS.2.2 dX10_areAlike_62
      · skip
        have d15 := c15
        rw [fa_le] at d15
        refine lv_iload hx hb dX10_areAlike_18 (lv_at hl 1 rfl) ?_
        refine lv_if_eq (tgt := 51) hx hb dX10_areAlike_20 (by decide) (fun c20 => ?_) (fun c20 => ?_)
        · skip
          have d20 := c20
          rw [fa_eq] at d20
          refine lv_iconst (v := 0) hx hb dX10_areAlike_51 (by decide) ?_
          refine lv_istore (lv' := [(7, .int (0 : Int32)), (8, .int (nI k)), (0, .int w), (1, .int h), (2, .long p0), (4, .long q0), (6, .int way)]) hx hb dX10_areAlike_52 hl (by decide) rfl (fun ls hl => ?_)
          refine lv_iinc (v := (nI (k + 1))) (lv' := [(8, .int (nI (k + 1))), (7, .int (0 : Int32)), (0, .int w), (1, .int h), (2, .long p0), (4, .long q0), (6, .int way)]) hx hb dX10_areAlike_54 hl (k := 1) rfl (nI_1 _) (by decide) rfl (fun ls hl => ?_)
          refine lv_goto (tgt := 6) hx hb dX10_areAlike_57 (by decide) ?_
          exact ih_6 (k + 1) (0 : Int32) (by omega) (by
            first
            | exact Or.inl ⟨rfl, fun l hl => by
                by_cases e9 : l = k
                · rw [e9]; exact eq9.mp c44
                · rcases j6_1 with ⟨_, y⟩ | ⟨z, _⟩
                  · exact y l (by omega)
                  · exact absurd z c20⟩
            | exact Or.inr ⟨rfl, fun u => c44 (eq9.mpr (u k (by omega)))⟩
            | exact Or.inr ⟨rfl, fun u => by rcases j6_1 with ⟨z, _⟩ | ⟨_, y⟩; exact absurd (z.symm.trans c20) (by decide); exact y (fun l hl => u l (by omega))⟩) (by omega) _ _ hS ls (lv_sub hl [0, 1, 2, 3, 4, 5, 6] rfl)
        · skip
          have d20 := c20
          rw [fa_eq] at d20
          refine lv_iload_n hx hb dX10_areAlike_23 rfl (lv_at hl 2 rfl) ?_
          refine lv_iload_n hx hb dX10_areAlike_24 rfl (lv_at hl 3 rfl) ?_
          refine lv_lload_n hx hb dX10_areAlike_25 rfl (lv_at hl 4 rfl) ?_
          refine lv_iload hx hb dX10_areAlike_26 (lv_at hl 6 rfl) ?_
          refine lv_iload hx hb dX10_areAlike_28 (lv_at hl 0 rfl) ?_
          refine pu_call (As := [.int w, .int h, .long p0, .int way, .int (nI k)]) (rest := []) ⟨hx, hb, hml, hown, hts⟩ (c_X10_shadowOf l w h p0 way (nI k) hw hh) (va_cwS 5 hts gX10_areAlike_X10_shadowOf rfl rfl rfl (by decide +kernel) ⟨Nat.le_of_ble_eq_true rfl, Nat.le_of_ble_eq_true rfl⟩) rfl hl.1 rfl (Nat.le_of_ble_eq_true rfl) dX10_areAlike_30 ⟨Nat.le_of_ble_eq_true rfl, Nat.le_of_ble_eq_true rfl⟩ hS (fun r30 H locs q30 hS => ?_)
          refine lv_iload_n hx hb dX10_areAlike_33 rfl (lv_at hl 2 rfl) ?_
          refine lv_iload_n hx hb dX10_areAlike_34 rfl (lv_at hl 3 rfl) ?_
          refine lv_lload hx hb dX10_areAlike_35 (lv_at hl 5 rfl) ?_
          refine lv_iload hx hb dX10_areAlike_37 (lv_at hl 6 rfl) ?_
          refine lv_iload hx hb dX10_areAlike_39 (lv_at hl 0 rfl) ?_
          refine pu_call (As := [.int w, .int h, .long q0, .int way, .int (nI k)]) (rest := [.int r30]) ⟨hx, hb, hml, hown, hts⟩ (c_X10_shadowOf l w h q0 way (nI k) hw hh) (va_cwS 5 hts gX10_areAlike_X10_shadowOf rfl rfl rfl (by decide +kernel) ⟨Nat.le_of_ble_eq_true rfl, Nat.le_of_ble_eq_true rfl⟩) rfl hl.1 rfl (Nat.le_of_ble_eq_true rfl) dX10_areAlike_41 ⟨Nat.le_of_ble_eq_true rfl, Nat.le_of_ble_eq_true rfl⟩ hS (fun r41 H locs q41 hS => ?_)
          have ck9 : (nI k).toNatClampNeg = k := nI_clamp (by omega)
          have s30 := r_shS hw hh hy (by omega) q30
          have s41 := r_shS hw hh hy (by omega) q41
          rw [ck9] at s30 s41
          have b30 := bs_le (fun s => decide (lnT h.toNatClampNeg way.toNatClampNeg (s % w.toNatClampNeg) (s / w.toNatClampNeg) = k) && lb p0 s) (w.toNatClampNeg * h.toNatClampNeg)
          have b41 := bs_le (fun s => decide (lnT h.toNatClampNeg way.toNatClampNeg (s % w.toNatClampNeg) (s / w.toNatClampNeg) = k) && lb q0 s) (w.toNatClampNeg * h.toNatClampNeg)
          have eq9 : r30 = r41 ↔ shN w.toNatClampNeg h.toNatClampNeg p0 way.toNatClampNeg k = shN w.toNatClampNeg h.toNatClampNeg q0 way.toNatClampNeg k := by rw [s30, s41]; exact nI_eq (by unfold shN; omega) (by unfold shN; omega)
          refine lv_icmp_ne (tgt := 51) hx hb dX10_areAlike_44 (by decide) (fun c44 => ?_) (fun c44 => ?_)
          · skip
            have d44 := c44
            rw [fa_eq] at d44
            refine lv_iconst (v := 0) hx hb dX10_areAlike_51 (by decide) ?_
            refine lv_istore (lv' := [(7, .int (0 : Int32)), (8, .int (nI k)), (0, .int w), (1, .int h), (2, .long p0), (4, .long q0), (6, .int way)]) hx hb dX10_areAlike_52 hl (by decide) rfl (fun ls hl => ?_)
            refine lv_iinc (v := (nI (k + 1))) (lv' := [(8, .int (nI (k + 1))), (7, .int (0 : Int32)), (0, .int w), (1, .int h), (2, .long p0), (4, .long q0), (6, .int way)]) hx hb dX10_areAlike_54 hl (k := 1) rfl (nI_1 _) (by decide) rfl (fun ls hl => ?_)
            refine lv_goto (tgt := 6) hx hb dX10_areAlike_57 (by decide) ?_
            exact ih_6 (k + 1) (0 : Int32) (by omega) (by
            first
            | exact Or.inl ⟨rfl, fun l hl => by
                by_cases e9 : l = k
                · rw [e9]; exact eq9.mp c44
                · rcases j6_1 with ⟨_, y⟩ | ⟨z, _⟩
                  · exact y l (by omega)
                  · exact absurd z c20⟩
            | exact Or.inr ⟨rfl, fun u => c44 (eq9.mpr (u k (by omega)))⟩
            | exact Or.inr ⟨rfl, fun u => by rcases j6_1 with ⟨z, _⟩ | ⟨_, y⟩; exact absurd (z.symm.trans c20) (by decide); exact y (fun l hl => u l (by omega))⟩) (by omega) _ _ hS ls (lv_sub hl [0, 1, 2, 3, 4, 5, 6] rfl)
          · skip
            have d44 := c44
            rw [fa_eq] at d44
            refine lv_iconst (v := 1) hx hb dX10_areAlike_47 (by decide) ?_
            refine lv_goto (tgt := 52) hx hb dX10_areAlike_48 (by decide) ?_
            refine lv_istore (lv' := [(7, .int (1 : Int32)), (8, .int (nI k)), (0, .int w), (1, .int h), (2, .long p0), (4, .long q0), (6, .int way)]) hx hb dX10_areAlike_52 hl (by decide) rfl (fun ls hl => ?_)
            refine lv_iinc (v := (nI (k + 1))) (lv' := [(8, .int (nI (k + 1))), (7, .int (1 : Int32)), (0, .int w), (1, .int h), (2, .long p0), (4, .long q0), (6, .int way)]) hx hb dX10_areAlike_54 hl (k := 1) rfl (nI_1 _) (by decide) rfl (fun ls hl => ?_)
            refine lv_goto (tgt := 6) hx hb dX10_areAlike_57 (by decide) ?_
            exact ih_6 (k + 1) (1 : Int32) (by omega) (by
            first
            | exact Or.inl ⟨rfl, fun l hl => by
                by_cases e9 : l = k
                · rw [e9]; exact eq9.mp c44
                · rcases j6_1 with ⟨_, y⟩ | ⟨z, _⟩
                  · exact y l (by omega)
                  · exact absurd z c20⟩
            | exact Or.inr ⟨rfl, fun u => c44 (eq9.mpr (u k (by omega)))⟩
            | exact Or.inr ⟨rfl, fun u => by rcases j6_1 with ⟨z, _⟩ | ⟨_, y⟩; exact absurd (z.symm.trans c20) (by decide); exact y (fun l hl => u l (by omega))⟩) (by omega) _ _ hS ls (lv_sub hl [0, 1, 2, 3, 4, 5, 6] rfl)
  exact loop_6 ((r_lines w h way).toInt.toNat + 1) 0 (1 : Int32) (by omega) (Or.inl ⟨rfl, fun l hl => absurd hl (Nat.not_lt_zero _)⟩) (by omega) _ _ hS ls (lv_sub hl [0, 1, 2, 3, 4, 5, 6] rfl)

set_option maxHeartbeats 4000000 in
set_option maxRecDepth 100000 in
theorem c_X10_shadow_x (l : Launch) (D : va_G) (cy : Nat → ClassId) (mo : Nat) (a : Nat → Nat) (f : Nat → Int32) (g : Nat → Int64) (r : Nat → Nat → Int32) (q : Nat → Nat → Int64) (w : Int32) (h : Int32) (p0 : Int64) (way : Int32) (line : Int32) (hD : DM cy mo a)  : Mi l D cy mo a yX10_shadow wsX10_shadow ({ frames := 3, cells := 0, slots := 0, locals := 69 }) f g r q [.int w, .int h, .long p0, .int way, .int line] (fun r0 u => u = ((upd f 0 (0 : Int32)), g, r, q) ∧ (shA w h p0 way line r0)) := by
  refine Met.ofW (cc := cX10_shadow) (maxL := 8) (ret := (some .int)) (by decide) rfl ?_
  intro p e s m args below meth c s₁ B hml hv
  obtain ⟨rfl, hP, hK⟩ := hv
  have hx := B.exec
  have hb := B.bytes
  have hr := B.returns
  have hts := atoms_spec (ws := wsX10_shadow) B.pre
  have hin : ∀ w ∈ u_ws RX10 TX10 35, w ∈ wsX10_shadow := by decide +kernel
  have hown : s.vm.findClass RX10 = some m.cls := findClass_of_methodNamed B.named
  have hlocks := B.notSynchronized
  have hS : va_S (AM mo a) s.heap s.heap [] := va_S.rf
  have hl := lv_entry ([.ref mo, .int w, .int h, .long p0, .int way, .int line]) (n := 8) (Nat.le_of_ble_eq_true rfl)
  rw [lg_entry_eq]
  generalize (lg_sl ([.ref mo, .int w, .int h, .long p0, .int way, .int line]) ++ List.replicate (8 - (lg_sl ([.ref mo, .int w, .int h, .long p0, .int way, .int line])).length) Slot.unset).toArray = ls at hl ⊢
  have hl : lv_has ls 8 [(0, .ref mo), (1, .int w), (2, .int h), (3, .long p0), (5, .int way), (6, .int line)] := hl
  have k_m1 : (-1 : Int32).toInt = -1 := by decide
  have k_0 : (0 : Int32).toInt = 0 := by decide
  have k_1 : (1 : Int32).toInt = 1 := by decide
  have k_0L : (0 : Int64).toInt = 0 := by decide
  have k_3L : (3 : Int64).toInt = 3 := by decide
  refine lv_aload_n hx hb dX10_shadow_0 rfl (lv_at hl 0 rfl) ?_
  refine lv_iconst (v := 0) hx hb dX10_shadow_1 (by decide) ?_
  refine m_put (v := .int (0 : Int32)) (ty := .int) hx hb hts hin hown hK hP hD hS 0 (by decide) rfl (hts (.fieldLink RX10 79 "ShadowBenchModel" "thrown" "I") (by decide +kernel)) rfl (by decide +kernel) rfl rfl (upd f 0 (0 : Int32)) g rfl dX10_shadow_2 (fun H locs hP hS => ?_)
  refine lv_iload_n hx hb dX10_shadow_5 rfl (lv_at hl 1 rfl) ?_
  refine lv_iload_n hx hb dX10_shadow_6 rfl (lv_at hl 2 rfl) ?_
  refine lv_lload_n hx hb dX10_shadow_7 rfl (lv_at hl 3 rfl) ?_
  refine m_pu (As := [.int w, .int h, .long p0]) (rest := []) ⟨hx, hb, hml, hown, hts⟩ (c_X10_isPicture l w h p0 ) (va_cwS 3 hts gX10_shadow_X10_isPicture rfl rfl rfl (by decide +kernel) ⟨Nat.le_of_ble_eq_true rfl, Nat.le_of_ble_eq_true rfl⟩) hP rfl hl.1 rfl (Nat.le_of_ble_eq_true rfl) dX10_shadow_8 ⟨Nat.le_of_ble_eq_true rfl, Nat.le_of_ble_eq_true rfl⟩ hS (fun r8 H locs q8 hP hS => ?_)
  refine lv_if_eq (tgt := 48) hx hb dX10_shadow_11 (by decide) (fun c11 => ?_) (fun c11 => ?_)
  · skip
    have b11 := bo_f q8 c11
    refine lv_iconst (v := 0) hx hb dX10_shadow_48 (by decide) ?_
    refine lv_istore (lv' := [(7, .int (0 : Int32)), (0, .ref mo), (1, .int w), (2, .int h), (3, .long p0), (5, .int way), (6, .int line)]) hx hb dX10_shadow_49 hl (by decide) rfl (fun ls hl => ?_)
    refine lv_iload hx hb dX10_shadow_51 (lv_at hl 0 rfl) ?_
    refine lv_if_eq (tgt := 69) hx hb dX10_shadow_53 (by decide) (fun c53 => ?_) (fun c53 => ?_)
    · skip
      have d53 := c53
      rw [fa_eq] at d53
      refine lv_iconst (v := (-1)) hx hb dX10_shadow_69 (by decide) ?_
      exact W.iret (v := ((-1) : Int32)) hx hb hr (fun t ht hW => ⟨⟨_, ((upd f 0 (0 : Int32)), g, r, q), rfl, ⟨rfl, (Or.inr ⟨(fun z9 => by first | exact goodP_no b11 z9.1 | exact b24 z9.2.1 | (have z7 := z9.2; unfold okL at z7; first | omega | (have i38 : r38.toInt = (r_lines w h way).toInt := congrArg Int32.toInt q38; omega))), rfl⟩)⟩, by unfold mB; rw [ht]; exact hP⟩, hS.F ht⟩) hS.2.2 dX10_shadow_70
    · first | exact absurd c53 (by decide) | exact absurd (by decide) c53
  · skip
    have b11 := bo_t q8 c11
    refine lv_iload hx hb dX10_shadow_14 (lv_at hl 4 rfl) ?_
    refine lv_i2l (v := way.toInt64) hx hb dX10_shadow_16 rfl ?_
    refine lv_lconst (v := 0) hx hb dX10_shadow_17 (by decide) ?_
    refine lv_ldc2 hx hb hown (hts (.constantLong RX10 116 (3)) (by decide +kernel)) dX10_shadow_18 ?_
    refine m_pu (As := [.long (way.toInt64), .long (0 : Int64), .long (3 : Int64)]) (rest := []) ⟨hx, hb, hml, hown, hts⟩ (c_X10_isIn l way.toInt64 (0 : Int64) (3 : Int64) ) (va_cwS 3 hts gX10_shadow_X10_isIn rfl rfl rfl (by decide +kernel) ⟨Nat.le_of_ble_eq_true rfl, Nat.le_of_ble_eq_true rfl⟩) hP rfl hl.1 rfl (Nat.le_of_ble_eq_true rfl) dX10_shadow_21 ⟨Nat.le_of_ble_eq_true rfl, Nat.le_of_ble_eq_true rfl⟩ hS (fun r21 H locs q21 hP hS => ?_)
    have q21 := q21
    simp only [k64, show (0 : Int64).toInt = 0 from rfl, show (1 : Int64).toInt = 1 from rfl, show (2 : Int64).toInt = 2 from rfl, show (3 : Int64).toInt = 3 from rfl, show (6 : Int64).toInt = 6 from rfl] at q21
    refine lv_if_eq (tgt := 48) hx hb dX10_shadow_24 (by decide) (fun c24 => ?_) (fun c24 => ?_)
    · skip
      have b24 := bo_f q21 c24
      refine lv_iconst (v := 0) hx hb dX10_shadow_48 (by decide) ?_
      refine lv_istore (lv' := [(7, .int (0 : Int32)), (0, .ref mo), (1, .int w), (2, .int h), (3, .long p0), (5, .int way), (6, .int line)]) hx hb dX10_shadow_49 hl (by decide) rfl (fun ls hl => ?_)
      refine lv_iload hx hb dX10_shadow_51 (lv_at hl 0 rfl) ?_
      refine lv_if_eq (tgt := 69) hx hb dX10_shadow_53 (by decide) (fun c53 => ?_) (fun c53 => ?_)
      · skip
        have d53 := c53
        rw [fa_eq] at d53
        refine lv_iconst (v := (-1)) hx hb dX10_shadow_69 (by decide) ?_
        exact W.iret (v := ((-1) : Int32)) hx hb hr (fun t ht hW => ⟨⟨_, ((upd f 0 (0 : Int32)), g, r, q), rfl, ⟨rfl, (Or.inr ⟨(fun z9 => by first | exact goodP_no b11 z9.1 | exact b24 z9.2.1 | (have z7 := z9.2; unfold okL at z7; first | omega | (have i38 : r38.toInt = (r_lines w h way).toInt := congrArg Int32.toInt q38; omega))), rfl⟩)⟩, by unfold mB; rw [ht]; exact hP⟩, hS.F ht⟩) hS.2.2 dX10_shadow_70
      · first | exact absurd c53 (by decide) | exact absurd (by decide) c53
    · skip
      have b24 := bo_t q21 c24
      have y24 := b24
      try simp only [k64, show (0 : Int64).toInt = 0 from rfl, show (3 : Int64).toInt = 3 from rfl] at y24
      have hLn := rLn b11.1.1 b11.1.2 (way := way) (by omega)
      refine lv_iload hx hb dX10_shadow_27 (lv_at hl 5 rfl) ?_
      refine lv_if_lt (tgt := 48) hx hb dX10_shadow_29 (by decide) (fun c29 => ?_) (fun c29 => ?_)
      · skip
        have d29 := c29
        rw [fa_lt] at d29
        refine lv_iconst (v := 0) hx hb dX10_shadow_48 (by decide) ?_
        refine lv_istore (lv' := [(7, .int (0 : Int32)), (0, .ref mo), (1, .int w), (2, .int h), (3, .long p0), (5, .int way), (6, .int line)]) hx hb dX10_shadow_49 hl (by decide) rfl (fun ls hl => ?_)
        refine lv_iload hx hb dX10_shadow_51 (lv_at hl 0 rfl) ?_
        refine lv_if_eq (tgt := 69) hx hb dX10_shadow_53 (by decide) (fun c53 => ?_) (fun c53 => ?_)
        · skip
          have d53 := c53
          rw [fa_eq] at d53
          refine lv_iconst (v := (-1)) hx hb dX10_shadow_69 (by decide) ?_
          exact W.iret (v := ((-1) : Int32)) hx hb hr (fun t ht hW => ⟨⟨_, ((upd f 0 (0 : Int32)), g, r, q), rfl, ⟨rfl, (Or.inr ⟨(fun z9 => by first | exact goodP_no b11 z9.1 | exact b24 z9.2.1 | (have z7 := z9.2; unfold okL at z7; first | omega | (have i38 : r38.toInt = (r_lines w h way).toInt := congrArg Int32.toInt q38; omega))), rfl⟩)⟩, by unfold mB; rw [ht]; exact hP⟩, hS.F ht⟩) hS.2.2 dX10_shadow_70
        · first | exact absurd c53 (by decide) | exact absurd (by decide) c53
      · skip
        have d29 := c29
        rw [fa_lt] at d29
        refine lv_iload hx hb dX10_shadow_32 (lv_at hl 5 rfl) ?_
        refine lv_iload_n hx hb dX10_shadow_34 rfl (lv_at hl 1 rfl) ?_
        refine lv_iload_n hx hb dX10_shadow_35 rfl (lv_at hl 2 rfl) ?_
        refine lv_iload hx hb dX10_shadow_36 (lv_at hl 4 rfl) ?_
        refine m_pu (As := [.int w, .int h, .int way]) (rest := [.int line]) ⟨hx, hb, hml, hown, hts⟩ (c_X10_linesOf l w h way ) (va_cwS 3 hts gX10_shadow_X10_linesOf rfl rfl rfl (by decide +kernel) ⟨Nat.le_of_ble_eq_true rfl, Nat.le_of_ble_eq_true rfl⟩) hP rfl hl.1 rfl (Nat.le_of_ble_eq_true rfl) dX10_shadow_38 ⟨Nat.le_of_ble_eq_true rfl, Nat.le_of_ble_eq_true rfl⟩ hS (fun r38 H locs q38 hP hS => ?_)
        have i38 : r38.toInt = (r_lines w h way).toInt := congrArg Int32.toInt q38
        refine lv_icmp_ge (tgt := 48) hx hb dX10_shadow_41 (by decide) (fun c41 => ?_) (fun c41 => ?_)
        · skip
          have d41 := c41
          rw [fa_le] at d41
          refine lv_iconst (v := 0) hx hb dX10_shadow_48 (by decide) ?_
          refine lv_istore (lv' := [(7, .int (0 : Int32)), (0, .ref mo), (1, .int w), (2, .int h), (3, .long p0), (5, .int way), (6, .int line)]) hx hb dX10_shadow_49 hl (by decide) rfl (fun ls hl => ?_)
          refine lv_iload hx hb dX10_shadow_51 (lv_at hl 0 rfl) ?_
          refine lv_if_eq (tgt := 69) hx hb dX10_shadow_53 (by decide) (fun c53 => ?_) (fun c53 => ?_)
          · skip
            have d53 := c53
            rw [fa_eq] at d53
            refine lv_iconst (v := (-1)) hx hb dX10_shadow_69 (by decide) ?_
            exact W.iret (v := ((-1) : Int32)) hx hb hr (fun t ht hW => ⟨⟨_, ((upd f 0 (0 : Int32)), g, r, q), rfl, ⟨rfl, (Or.inr ⟨(fun z9 => by first | exact goodP_no b11 z9.1 | exact b24 z9.2.1 | (have z7 := z9.2; unfold okL at z7; first | omega | (have i38 : r38.toInt = (r_lines w h way).toInt := congrArg Int32.toInt q38; omega))), rfl⟩)⟩, by unfold mB; rw [ht]; exact hP⟩, hS.F ht⟩) hS.2.2 dX10_shadow_70
          · first | exact absurd c53 (by decide) | exact absurd (by decide) c53
        · skip
          have d41 := c41
          rw [fa_le] at d41
          refine lv_iconst (v := 1) hx hb dX10_shadow_44 (by decide) ?_
          refine lv_goto (tgt := 49) hx hb dX10_shadow_45 (by decide) ?_
          refine lv_istore (lv' := [(7, .int (1 : Int32)), (0, .ref mo), (1, .int w), (2, .int h), (3, .long p0), (5, .int way), (6, .int line)]) hx hb dX10_shadow_49 hl (by decide) rfl (fun ls hl => ?_)
          refine lv_iload hx hb dX10_shadow_51 (lv_at hl 0 rfl) ?_
          refine lv_if_eq (tgt := 69) hx hb dX10_shadow_53 (by decide) (fun c53 => ?_) (fun c53 => ?_)
          · first | exact absurd c53 (by decide) | exact absurd (by decide) c53
          · skip
            have d53 := c53
            rw [fa_eq] at d53
            have i38 : r38.toInt = (r_lines w h way).toInt := congrArg Int32.toInt q38
            refine lv_iload_n hx hb dX10_shadow_56 rfl (lv_at hl 2 rfl) ?_
            refine lv_iload_n hx hb dX10_shadow_57 rfl (lv_at hl 3 rfl) ?_
            refine lv_lload_n hx hb dX10_shadow_58 rfl (lv_at hl 4 rfl) ?_
            refine lv_iload hx hb dX10_shadow_59 (lv_at hl 5 rfl) ?_
            refine lv_iload hx hb dX10_shadow_61 (lv_at hl 6 rfl) ?_
            refine m_pu (As := [.int w, .int h, .long p0, .int way, .int line]) (rest := []) ⟨hx, hb, hml, hown, hts⟩ (c_X10_shadowOf l w h p0 way line b11.1.1 b11.1.2) (va_cwS 5 hts gX10_shadow_X10_shadowOf rfl rfl rfl (by decide +kernel) ⟨Nat.le_of_ble_eq_true rfl, Nat.le_of_ble_eq_true rfl⟩) hP rfl hl.1 rfl (Nat.le_of_ble_eq_true rfl) dX10_shadow_63 ⟨Nat.le_of_ble_eq_true rfl, Nat.le_of_ble_eq_true rfl⟩ hS (fun r63 H locs q63 hP hS => ?_)
            refine lv_goto (tgt := 70) hx hb dX10_shadow_66 (by decide) ?_
            exact W.iret (v := r63) hx hb hr (fun t ht hW => ⟨⟨_, ((upd f 0 (0 : Int32)), g, r, q), rfl, ⟨rfl, (Or.inl ⟨⟨goodP_of b11, (by unfold okL; omega)⟩, r_shS b11.1.1 b11.1.2 (by omega) (by omega) q63⟩)⟩, by unfold mB; rw [ht]; exact hP⟩, hS.F ht⟩) hS.2.2 dX10_shadow_70
set_option maxHeartbeats 4000000 in
set_option maxRecDepth 100000 in
theorem c_X10_parts_x (l : Launch) (D : va_G) (cy : Nat → ClassId) (mo : Nat) (a : Nat → Nat) (f : Nat → Int32) (g : Nat → Int64) (r : Nat → Nat → Int32) (q : Nat → Nat → Int64) (w : Int32) (h : Int32) (p0 : Int64) (p1 : Int64) (ways : Int32) (hD : DM cy mo a)  : Mi l D cy mo a yX10_parts wsX10_parts ({ frames := 3, cells := 0, slots := 0, locals := 78 }) f g r q [.int w, .int h, .long p0, .long p1, .int ways] (fun r0 u => u = ((upd f 0 (0 : Int32)), g, r, q) ∧ (paA w h p0 p1 ways r0)) := by
  refine Met.ofW (cc := cX10_parts) (maxL := 9) (ret := (some .int)) (by decide) rfl ?_
  intro p e s m args below meth c s₁ B hml hv
  obtain ⟨rfl, hP, hK⟩ := hv
  have hx := B.exec
  have hb := B.bytes
  have hr := B.returns
  have hts := atoms_spec (ws := wsX10_parts) B.pre
  have hin : ∀ w ∈ u_ws RX10 TX10 35, w ∈ wsX10_parts := by decide +kernel
  have hown : s.vm.findClass RX10 = some m.cls := findClass_of_methodNamed B.named
  have hlocks := B.notSynchronized
  have hS : va_S (AM mo a) s.heap s.heap [] := va_S.rf
  have hl := lv_entry ([.ref mo, .int w, .int h, .long p0, .long p1, .int ways]) (n := 9) (Nat.le_of_ble_eq_true rfl)
  rw [lg_entry_eq]
  generalize (lg_sl ([.ref mo, .int w, .int h, .long p0, .long p1, .int ways]) ++ List.replicate (9 - (lg_sl ([.ref mo, .int w, .int h, .long p0, .long p1, .int ways])).length) Slot.unset).toArray = ls at hl ⊢
  have hl : lv_has ls 9 [(0, .ref mo), (1, .int w), (2, .int h), (3, .long p0), (5, .long p1), (7, .int ways)] := hl
  have k_m2 : (-2 : Int32).toInt = -2 := by decide
  have k_m1 : (-1 : Int32).toInt = -1 := by decide
  have k_0 : (0 : Int32).toInt = 0 := by decide
  have k_1 : (1 : Int32).toInt = 1 := by decide
  have k_4 : (4 : Int32).toInt = 4 := by decide
  have k_0L : (0 : Int64).toInt = 0 := by decide
  have k_15L : (15 : Int64).toInt = 15 := by decide
  refine lv_aload_n hx hb dX10_parts_0 rfl (lv_at hl 0 rfl) ?_
  refine lv_iconst (v := 0) hx hb dX10_parts_1 (by decide) ?_
  refine m_put (v := .int (0 : Int32)) (ty := .int) hx hb hts hin hown hK hP hD hS 0 (by decide) rfl (hts (.fieldLink RX10 79 "ShadowBenchModel" "thrown" "I") (by decide +kernel)) rfl (by decide +kernel) rfl rfl (upd f 0 (0 : Int32)) g rfl dX10_parts_2 (fun H locs hP hS => ?_)
  refine lv_iload_n hx hb dX10_parts_5 rfl (lv_at hl 1 rfl) ?_
  refine lv_iload_n hx hb dX10_parts_6 rfl (lv_at hl 2 rfl) ?_
  refine lv_lload_n hx hb dX10_parts_7 rfl (lv_at hl 3 rfl) ?_
  refine m_pu (As := [.int w, .int h, .long p0]) (rest := []) ⟨hx, hb, hml, hown, hts⟩ (c_X10_isPicture l w h p0 ) (va_cwS 3 hts gX10_parts_X10_isPicture rfl rfl rfl (by decide +kernel) ⟨Nat.le_of_ble_eq_true rfl, Nat.le_of_ble_eq_true rfl⟩) hP rfl hl.1 rfl (Nat.le_of_ble_eq_true rfl) dX10_parts_8 ⟨Nat.le_of_ble_eq_true rfl, Nat.le_of_ble_eq_true rfl⟩ hS (fun r8 H locs q8 hP hS => ?_)
  refine lv_if_eq (tgt := 37) hx hb dX10_parts_11 (by decide) (fun c11 => ?_) (fun c11 => ?_)
  · skip
    have b11 := bo_f q8 c11
    refine lv_iconst (v := (-1)) hx hb dX10_parts_37 (by decide) ?_
    exact W.iret (v := ((-1) : Int32)) hx hb hr (fun t ht hW => ⟨⟨_, ((upd f 0 (0 : Int32)), g, r, q), rfl, ⟨rfl, (Or.inr ⟨(fun z9 => by first | exact goodP_no b11 z9.1 | exact goodP_no b21 z9.2.1 | (have y34 := b34; simp only [k64, show (0 : Int64).toInt = 0 from rfl, show (15 : Int64).toInt = 15 from rfl] at y34; exact y34 z9.2.2)), rfl⟩)⟩, by unfold mB; rw [ht]; exact hP⟩, hS.F ht⟩) hS.2.2 dX10_parts_38
  · skip
    have b11 := bo_t q8 c11
    refine lv_iload_n hx hb dX10_parts_14 rfl (lv_at hl 1 rfl) ?_
    refine lv_iload_n hx hb dX10_parts_15 rfl (lv_at hl 2 rfl) ?_
    refine lv_lload hx hb dX10_parts_16 (lv_at hl 4 rfl) ?_
    refine m_pu (As := [.int w, .int h, .long p1]) (rest := []) ⟨hx, hb, hml, hown, hts⟩ (c_X10_isPicture l w h p1 ) (va_cwS 3 hts gX10_parts_X10_isPicture rfl rfl rfl (by decide +kernel) ⟨Nat.le_of_ble_eq_true rfl, Nat.le_of_ble_eq_true rfl⟩) hP rfl hl.1 rfl (Nat.le_of_ble_eq_true rfl) dX10_parts_18 ⟨Nat.le_of_ble_eq_true rfl, Nat.le_of_ble_eq_true rfl⟩ hS (fun r18 H locs q18 hP hS => ?_)
    refine lv_if_eq (tgt := 37) hx hb dX10_parts_21 (by decide) (fun c21 => ?_) (fun c21 => ?_)
    · skip
      have b21 := bo_f q18 c21
      refine lv_iconst (v := (-1)) hx hb dX10_parts_37 (by decide) ?_
      exact W.iret (v := ((-1) : Int32)) hx hb hr (fun t ht hW => ⟨⟨_, ((upd f 0 (0 : Int32)), g, r, q), rfl, ⟨rfl, (Or.inr ⟨(fun z9 => by first | exact goodP_no b11 z9.1 | exact goodP_no b21 z9.2.1 | (have y34 := b34; simp only [k64, show (0 : Int64).toInt = 0 from rfl, show (15 : Int64).toInt = 15 from rfl] at y34; exact y34 z9.2.2)), rfl⟩)⟩, by unfold mB; rw [ht]; exact hP⟩, hS.F ht⟩) hS.2.2 dX10_parts_38
    · skip
      have b21 := bo_t q18 c21
      refine lv_iload hx hb dX10_parts_24 (lv_at hl 5 rfl) ?_
      refine lv_i2l (v := ways.toInt64) hx hb dX10_parts_26 rfl ?_
      refine lv_lconst (v := 0) hx hb dX10_parts_27 (by decide) ?_
      refine lv_ldc2 hx hb hown (hts (.constantLong RX10 228 (15)) (by decide +kernel)) dX10_parts_28 ?_
      refine m_pu (As := [.long (ways.toInt64), .long (0 : Int64), .long (15 : Int64)]) (rest := []) ⟨hx, hb, hml, hown, hts⟩ (c_X10_isIn l ways.toInt64 (0 : Int64) (15 : Int64) ) (va_cwS 3 hts gX10_parts_X10_isIn rfl rfl rfl (by decide +kernel) ⟨Nat.le_of_ble_eq_true rfl, Nat.le_of_ble_eq_true rfl⟩) hP rfl hl.1 rfl (Nat.le_of_ble_eq_true rfl) dX10_parts_31 ⟨Nat.le_of_ble_eq_true rfl, Nat.le_of_ble_eq_true rfl⟩ hS (fun r31 H locs q31 hP hS => ?_)
      have q31 := q31
      simp only [k64, show (0 : Int64).toInt = 0 from rfl, show (1 : Int64).toInt = 1 from rfl, show (2 : Int64).toInt = 2 from rfl, show (3 : Int64).toInt = 3 from rfl, show (6 : Int64).toInt = 6 from rfl] at q31
      refine lv_if_ne (tgt := 39) hx hb dX10_parts_34 (by decide) (fun c34 => ?_) (fun c34 => ?_)
      · skip
        have b34 := bo_t q31 c34
        have y34 := b34
        try simp only [k64, show (0 : Int64).toInt = 0 from rfl, show (15 : Int64).toInt = 15 from rfl] at y34
        refine lv_iconst (v := 0) hx hb dX10_parts_39 (by decide) ?_
        refine lv_istore (lv' := [(8, .int (0 : Int32)), (0, .ref mo), (1, .int w), (2, .int h), (3, .long p0), (5, .long p1), (7, .int ways)]) hx hb dX10_parts_40 hl (by decide) rfl (fun ls hl => ?_)
        have loop_42 : ∀ (n : Nat) (k : Nat), (k ≤ 4) → (∀ j, j < k → ¬ unl w.toNatClampNeg h.toNatClampNeg p0 p1 ways j) → 4 - k < n → ∀ (H : Heap) (locs : List Loc), va_P D vwCl (WM cy mo a (upd f 0 (0 : Int32)) g r q) H → va_S (AM mo a) s.heap H locs → ∀ (ls : Array Slot), lv_has ls 9 [(8, .int (nI k)), (0, .ref mo), (1, .int w), (2, .int h), (3, .long p0), (5, .long p1), (7, .int ways)] → W p l e (headSpec wsX10_parts ({ frames := 3, cells := 0, slots := 0, locals := 78 })).room s m #[Value.ref mo, Value.int w, Value.int h, Value.long p0, Value.long p1, Value.int ways] below meth c H locs 0 0 (MQ below (va_Qi (fun r0 u => u = ((upd f 0 (0 : Int32)), g, r, q) ∧ (paA w h p0 p1 ways r0)) (mB D cy mo a) (AM mo a)) #[Value.ref mo, Value.int w, Value.int h, Value.long p0, Value.long p1, Value.int ways] s 0 0 (AM mo a)) (F0 m 42 ls []) := by
          intro n
          induction n with
          | zero => intro k  j42_0 j42_1 hn; exact absurd hn (Nat.not_lt_zero _)
          | succ n ih_42 =>
            intro k  j42_0 j42_1 hn_42 H locs hP hS ls hl
            have ik : (nI k).toInt = (k : Int) := nI_toInt (by omega)
            refine lv_iload hx hb dX10_parts_42 (lv_at hl 0 rfl) ?_
            refine lv_iconst (v := 4) hx hb dX10_parts_44 (by decide) ?_
            refine lv_icmp_ge (tgt := 81) hx hb dX10_parts_45 (by decide) (fun c45 => ?_) (fun c45 => ?_)
            · skip
              have d45 := c45
              rw [fa_le] at d45
              refine lv_bipush (v := (-2)) hx hb dX10_parts_81 (by decide) ?_
              exact W.iret (v := ((-2) : Int32)) hx hb hr (fun t ht hW => ⟨⟨_, ((upd f 0 (0 : Int32)), g, r, q), rfl, ⟨rfl, (Or.inl ⟨⟨goodP_of b11, goodP_of b21, y34⟩, Or.inr ⟨rfl, fun j9 h9 => j42_1 j9 (by omega)⟩⟩)⟩, by unfold mB; rw [ht]; exact hP⟩, hS.F ht⟩) hS.2.2 dX10_parts_83
            · skip
              have d45 := c45
              rw [fa_le] at d45
              refine lv_iload hx hb dX10_parts_48 (lv_at hl 6 rfl) ?_
              refine lv_iload hx hb dX10_parts_50 (lv_at hl 0 rfl) ?_
              refine lv_ishr hx hb dX10_parts_52 ?_
              refine lv_topi (fun v52 e52 => ?_)
              refine lv_iconst (v := 1) hx hb dX10_parts_53 (by decide) ?_
              refine lv_iand hx hb dX10_parts_54 ?_
              refine lv_topi (fun v54 e54 => ?_)
              refine lv_iconst (v := 1) hx hb dX10_parts_55 (by decide) ?_
              have hB : gB ways k = v54 := by rw [e54, e52]; rfl
              refine lv_icmp_ne (tgt := 75) hx hb dX10_parts_56 (by decide) (fun c56 => ?_) (fun c56 => ?_)
              · skip
                have d56 := c56
                rw [fa_eq] at d56
                refine lv_iinc (v := (nI (k + 1))) (lv' := [(8, .int (nI (k + 1))), (0, .ref mo), (1, .int w), (2, .int h), (3, .long p0), (5, .long p1), (7, .int ways)]) hx hb dX10_parts_75 hl (k := 0) rfl (nI_1 _) (by decide) rfl (fun ls hl => ?_)
                refine lv_goto (tgt := 42) hx hb dX10_parts_78 (by decide) ?_
                exact ih_42 (k + 1) (by omega) (fun j hj => by
                                                                                          by_cases e9 : j = k
                                                                                          · rw [e9]; first | exact fun z9 => c56 (hB.symm.trans z9.1) | exact fun z9 => z9.2 b69
                                                                                          · exact j42_1 j (by omega)) (by omega) _ _ hP hS ls (lv_sub hl [0, 1, 2, 3, 4, 5, 6] rfl)
              · skip
                have d56 := c56
                rw [fa_eq] at d56
                refine lv_iload_n hx hb dX10_parts_59 rfl (lv_at hl 2 rfl) ?_
                refine lv_iload_n hx hb dX10_parts_60 rfl (lv_at hl 3 rfl) ?_
                refine lv_lload_n hx hb dX10_parts_61 rfl (lv_at hl 4 rfl) ?_
                refine lv_lload hx hb dX10_parts_62 (lv_at hl 5 rfl) ?_
                refine lv_iload hx hb dX10_parts_64 (lv_at hl 0 rfl) ?_
                refine m_pu (As := [.int w, .int h, .long p0, .long p1, .int (nI k)]) (rest := []) ⟨hx, hb, hml, hown, hts⟩ (c_X10_areAlike_x l w h p0 p1 (nI k) b11.1.1 b11.1.2 (by omega)) (va_cwS 5 hts gX10_parts_X10_areAlike rfl rfl rfl (by decide +kernel) ⟨Nat.le_of_ble_eq_true rfl, Nat.le_of_ble_eq_true rfl⟩) hP rfl hl.1 rfl (Nat.le_of_ble_eq_true rfl) dX10_parts_66 ⟨Nat.le_of_ble_eq_true rfl, Nat.le_of_ble_eq_true rfl⟩ hS (fun r66 H locs q66 hP hS => ?_)
                have ck9 : (nI k).toNatClampNeg = k := nI_clamp (by omega)
                rw [ck9] at q66
                refine lv_if_ne (tgt := 75) hx hb dX10_parts_69 (by decide) (fun c69 => ?_) (fun c69 => ?_)
                · skip
                  have b69 := bo_t q66 c69
                  refine lv_iinc (v := (nI (k + 1))) (lv' := [(8, .int (nI (k + 1))), (0, .ref mo), (1, .int w), (2, .int h), (3, .long p0), (5, .long p1), (7, .int ways)]) hx hb dX10_parts_75 hl (k := 0) rfl (nI_1 _) (by decide) rfl (fun ls hl => ?_)
                  refine lv_goto (tgt := 42) hx hb dX10_parts_78 (by decide) ?_
                  exact ih_42 (k + 1) (by omega) (fun j hj => by
                                                                                          by_cases e9 : j = k
                                                                                          · rw [e9]; first | exact fun z9 => c56 (hB.symm.trans z9.1) | exact fun z9 => z9.2 b69
                                                                                          · exact j42_1 j (by omega)) (by omega) _ _ hP hS ls (lv_sub hl [0, 1, 2, 3, 4, 5, 6] rfl)
                · skip
                  have b69 := bo_f q66 c69
                  refine lv_iload hx hb dX10_parts_72 (lv_at hl 0 rfl) ?_
                  exact W.iret (v := (nI k)) hx hb hr (fun t ht hW => ⟨⟨_, ((upd f 0 (0 : Int32)), g, r, q), rfl, ⟨rfl, (Or.inl ⟨⟨goodP_of b11, goodP_of b21, y34⟩, Or.inl ⟨k, (by omega), rfl, ⟨hB.trans c56, b69⟩, j42_1⟩⟩)⟩, by unfold mB; rw [ht]; exact hP⟩, hS.F ht⟩) hS.2.2 dX10_parts_74
        exact loop_42 (4 + 1) 0 (by omega) (fun j hj => absurd hj (Nat.not_lt_zero _)) (by omega) _ _ hP hS ls (lv_sub hl [0, 1, 2, 3, 4, 5, 6] rfl)
      · skip
        have b34 := bo_f q31 c34
        refine lv_iconst (v := (-1)) hx hb dX10_parts_37 (by decide) ?_
        exact W.iret (v := ((-1) : Int32)) hx hb hr (fun t ht hW => ⟨⟨_, ((upd f 0 (0 : Int32)), g, r, q), rfl, ⟨rfl, (Or.inr ⟨(fun z9 => by first | exact goodP_no b11 z9.1 | exact goodP_no b21 z9.2.1 | (have y34 := b34; simp only [k64, show (0 : Int64).toInt = 0 from rfl, show (15 : Int64).toInt = 15 from rfl] at y34; exact y34 z9.2.2)), rfl⟩)⟩, by unfold mB; rw [ht]; exact hP⟩, hS.F ht⟩) hS.2.2 dX10_parts_38

section CAR17
variable {p : Program} {l : Launch} {e : Env} {R : Room} {s : State} {m : MethodId} {args : Array Value} {below : List Frame} {meth : Method} {c : Code} {H : Heap} {locs : List Loc} {cells slots : Nat} {Q : State → Prop}
variable {cc : ByteArray} {pc : Nat} {ls : Array Slot} {rest : List Value} {D : va_G} {cy : Nat → ClassId} {A : Nat → Prop} {ws : va_W} {G : cG} {H0 : Heap}
/-- a row of longs whose content is told, and that has a kind -/
theorem t_lastK (hx : p.tables.exec = Jvm.exec) (hb : c.code = cc) (hK : va_K D vwCl (cTy cy) s) (hP : va_P D vwCl ws H) (hD : va_D A ws) (hS : va_S A H0 H locs) (hT : cT cy G ws) {k9 a n z : Nat} {f : Nat → Int64} (hk9 : k9 = 1 ∨ k9 = 16 ∨ k9 = 17) (hg : G a = some (k9, n, z)) (hM : cIn ws a (.inl (cy 1, n, .inr (.inl f)))) {i : Int32} {x : Int64} (hin : vp_in i n) (hdg : decode cc pc = .ok (.lastore, 1))
    (kk : ∀ (H1 : Heap) (locs1 : List Loc) (ws1 : va_W), cUp ws a (.inl (cy 1, n, .inr (.inl (vp_updL f i.toNatClampNeg x)))) ws1 → va_P D vwCl ws1 H1 → va_D A ws1 → cT cy G ws1 → va_S A H0 H1 locs1 → W p l e R s m args below meth c H1 locs1 cells slots Q (F0 m (pc + 1) ls rest)) : W p l e R s m args below meth c H locs cells slots Q (F0 m pc ls (.long x :: .int i :: .ref a :: rest)) := by
  obtain ⟨q0, hq⟩ := hM
  exact va_last hx hb hK hP hD hS q0 1 hq rfl hin hdg (fun H1 locs1 h1 h2 h3 => kk H1 locs1 _ (cUp.set hq) h1 h2 (hT.up (cUp.set hq) hg (cLo hk9)) h3)
theorem t_ialdM (hx : p.tables.exec = Jvm.exec) (hb : c.code = cc) (hK : va_K D vwCl (cTy cy) s) (hP : va_P D vwCl ws H) {a n : Nat} {f : Nat → Int32} (hM : cIn ws a (.inl (cy 0, n, .inl f))) {i : Int32} (hin : vp_in i n) (hdg : decode cc pc = .ok (.iaload, 1))
    (kk : W p l e R s m args below meth c H locs cells slots Q (F0 m (pc + 1) ls (.int (f i.toNatClampNeg) :: rest))) : W p l e R s m args below meth c H locs cells slots Q (F0 m pc ls (.int i :: .ref a :: rest)) := by
  obtain ⟨q0, hq⟩ := hM
  exact va_iald hx hb hK hP q0 0 hq rfl hin hdg kk
theorem t_iastK (hx : p.tables.exec = Jvm.exec) (hb : c.code = cc) (hK : va_K D vwCl (cTy cy) s) (hP : va_P D vwCl ws H) (hD : va_D A ws) (hS : va_S A H0 H locs) (hT : cT cy G ws) {k9 a n z : Nat} {f : Nat → Int32} (hk9 : k9 = 0 ∨ k9 = 14 ∨ k9 = 20 ∨ k9 = 21 ∨ k9 = 22 ∨ k9 = 23) (hg : G a = some (k9, n, z)) (hM : cIn ws a (.inl (cy 0, n, .inl f))) {i x : Int32} (hin : vp_in i n) (hdg : decode cc pc = .ok (.iastore, 1))
    (kk : ∀ (H1 : Heap) (locs1 : List Loc) (ws1 : va_W), cUp ws a (.inl (cy 0, n, .inl (upd f i.toNatClampNeg x))) ws1 → va_P D vwCl ws1 H1 → va_D A ws1 → cT cy G ws1 → va_S A H0 H1 locs1 → W p l e R s m args below meth c H1 locs1 cells slots Q (F0 m (pc + 1) ls rest)) : W p l e R s m args below meth c H locs cells slots Q (F0 m pc ls (.int x :: .int i :: .ref a :: rest)) := by
  obtain ⟨q0, hq⟩ := hM
  exact va_iast hx hb hK hP hD hS q0 0 hq rfl hin hdg (fun H1 locs1 h1 h2 h3 => kk H1 locs1 _ (cUp.set hq) h1 h2 (hT.up (cUp.set hq) hg (cIo hk9)) h3)
end CAR17

/-- the list's board: none while the list is empty -/
def lsB (G : cG) (lb : Option Nat) (lc : Int32) (lw lh : Nat) : Prop := (lb = none ∧ lc.toInt = 0) ∨ (0 < lc.toInt ∧ ∃ b, lb = some b ∧ G b = some (2, lw, lh))
theorem lsB.up {G G1 : cG} {lb : Option Nat} {lc : Int32} {lw lh : Nat} (h : lsB G lb lc lw lh) (hE : cE G G1) : lsB G1 lb lc lw lh := h.imp id (fun ⟨a, b, c, d⟩ => ⟨a, b, c, hE _ _ d⟩)
theorem lsB.nil {G : cG} {lb : Option Nat} {lc : Int32} {lw lh : Nat} (h : lsB G lb lc lw lh) (e : lb = none) : lc.toInt = 0 := by
  rcases h with z | ⟨_, b, z, _⟩
  · exact z.2
  · rw [e] at z; cases z
theorem lsB.one {G : cG} {lb : Option Nat} {lc : Int32} {lw lh x w h : Nat} (h1 : lsB G lb lc lw lh) (e : lb = some x) (hg : G x = some (2, w, h)) : 0 < lc.toInt ∧ w = lw ∧ h = lh := by
  rcases h1 with ⟨z, _⟩ | ⟨y, b, z, z8⟩
  · rw [e] at z; cases z
  · rw [e] at z
    cases z
    have z7 := hg.symm.trans z8
    simp only [Option.some.injEq, Prod.mk.injEq, true_and] at z7
    exact ⟨y, z7.1, z7.2⟩
def lsO (lc : Int32) (lw lh : Nat) (w h : Int32) : Prop := 0 < lc.toInt ∧ ¬ (w.toInt = (lw : Int) ∧ h.toInt = (lh : Int))
def lsI (fl : Nat → Int64) (lc : Int32) (p : Int64) : Prop := ∃ k : Nat, (k : Int) < lc.toInt ∧ fl k = p
def lsG (fl : Nat → Int64) (lc : Int32) (lw lh : Nat) (w h : Int32) (p : Int64) : Prop := goodP w h p ∧ lc.toInt < 12 ∧ ¬ lsO lc lw lh w h ∧ ¬ lsI fl lc p
def lsA (fl : Nat → Int64) (lc : Int32) (lw lh : Nat) (w h : Int32) (p : Int64) (x : Int32) : Prop := (lsG fl lc lw lh w h p ∧ x.toInt = lc.toInt + 1) ∨ (¬ lsG fl lc lw lh w h p ∧ ((¬ goodP w h p ∧ x = -1) ∨ (goodP w h p ∧ ¬ lc.toInt < 12 ∧ x = -2) ∨ (goodP w h p ∧ lc.toInt < 12 ∧ x = -3)))
section LST
variable {fl : Nat → Int64} {lc : Int32} {lw lh : Nat} {w h : Int32} {p : Int64}
theorem lsG_1 (n : ¬ goodP w h p) : ¬ lsG fl lc lw lh w h p := fun z => n z.1
theorem lsG_2 (n : ¬ lc.toInt < 12) : ¬ lsG fl lc lw lh w h p := fun z => n z.2.1
theorem lsG_3 (n : lsO lc lw lh w h ∨ lsI fl lc p) : ¬ lsG fl lc lw lh w h p := fun z => n.elim z.2.2.1 z.2.2.2
theorem lsA_1 (n : ¬ goodP w h p) : lsA fl lc lw lh w h p (-1) := Or.inr ⟨lsG_1 n, Or.inl ⟨n, rfl⟩⟩
theorem lsA_2 (g : goodP w h p) (n : ¬ lc.toInt < 12) : lsA fl lc lw lh w h p (-2) := Or.inr ⟨lsG_2 n, Or.inr (Or.inl ⟨g, n, rfl⟩)⟩
theorem lsA_3 (g : goodP w h p) (y : lc.toInt < 12) (n : lsO lc lw lh w h ∨ lsI fl lc p) : lsA fl lc lw lh w h p (-3) := Or.inr ⟨lsG_3 n, Or.inr (Or.inr ⟨g, y, rfl⟩)⟩
theorem lsI_c {fl' : Nat → Int64} (e : ∀ k : Nat, (k : Int) < lc.toInt → fl k = fl' k) : lsI fl lc p ↔ lsI fl' lc p := ⟨fun ⟨k, a, b⟩ => ⟨k, a, (e k a).symm.trans b⟩, fun ⟨k, a, b⟩ => ⟨k, a, (e k a).trans b⟩⟩
theorem lsG_c {fl' : Nat → Int64} (e : ∀ k : Nat, (k : Int) < lc.toInt → fl k = fl' k) : lsG fl lc lw lh w h p ↔ lsG fl' lc lw lh w h p := by
  unfold lsG
  rw [lsI_c e]
theorem lsA_eq {fl' : Nat → Int64} {x y : Int32} (e : ∀ k : Nat, (k : Int) < lc.toInt → fl k = fl' k) (hx : lsA fl lc lw lh w h p x) (hy : lsA fl' lc lw lh w h p y) : x = y := by
  rcases hx with ⟨a, b⟩ | ⟨a, b⟩ <;> rcases hy with ⟨c, d⟩ | ⟨c, d⟩
  · exact Int32.toInt_inj.mp (b.trans d.symm)
  · exact absurd ((lsG_c e).mp a) c
  · exact absurd ((lsG_c e).mpr c) a
  · rcases b with ⟨b1, b2⟩ | ⟨b1, b2, b3⟩ | ⟨b1, b2, b3⟩ <;> rcases d with ⟨d1, d2⟩ | ⟨d1, d2, d3⟩ | ⟨d1, d2, d3⟩ <;> first | (rw [b2, d2]; done) | (rw [b3, d3]; done) | exact absurd d1 b1 | exact absurd b1 d1 | exact absurd d2 b2 | exact absurd b2 d2
end LST
/-- a set of ways tells the pictures of the list apart -/
def telA (fl : Nat → Int64) (lc : Int32) (lw lh : Nat) (set : Int32) : Prop := ∀ a b : Nat, (a : Int) < lc.toInt → b < a → ∃ j, j < 4 ∧ unl lw lh (fl a) (fl b) set j
theorem telA_c {fl fl' : Nat → Int64} {lc : Int32} {lw lh : Nat} {set : Int32} (e : ∀ k : Nat, (k : Int) < lc.toInt → fl k = fl' k) : telA fl lc lw lh set ↔ telA fl' lc lw lh set := by
  constructor
  · intro t a b h1 h2; rw [← e a h1, ← e b (by omega)]; exact t a b h1 h2
  · intro t a b h1 h2; rw [e a h1, e b (by omega)]; exact t a b h1 h2
theorem telA_0 {fl : Nat → Int64} {lc : Int32} {lw lh lw' lh' : Nat} {set : Int32} (e : lc.toInt = 0) : telA fl lc lw lh set ↔ telA fl lc lw' lh' set := ⟨fun _ a b h1 h2 => by omega, fun _ a b h1 h2 => by omega⟩
theorem ts_27 {U : Nat → Prop} {x : Int32} {m : Nat} (hm : m = 4) (h : (x = 1 ∧ ∃ j, j < m ∧ U j) ∨ (x = 0 ∧ ∀ j, j < m → ¬ U j)) : (x = 1 ∧ ∃ j, j < 4 ∧ U j) ∨ (x = 0 ∧ ¬ ∃ j, j < 4 ∧ U j) := by
  subst hm
  exact h.imp id (fun ⟨a, b⟩ => ⟨a, fun ⟨j, c, d⟩ => b j c d⟩)
theorem ts_a {P : Prop} {Q : Nat → Prop} {y : Int32} {i : Nat} (h : (y = 1 ∧ P ∧ ∀ b, b < i → Q b) ∨ (y = 0 ∧ ¬ (P ∧ ∀ b, b < i → Q b))) (e : y = 0) : ((0 : Int32) = 1 ∧ P ∧ ∀ b, b < i + 1 → Q b) ∨ ((0 : Int32) = 0 ∧ ¬ (P ∧ ∀ b, b < i + 1 → Q b)) := by
  rcases h with ⟨z, _⟩ | ⟨_, y⟩
  · rw [e] at z; exact absurd z (by decide)
  · exact Or.inr ⟨rfl, fun u => y ⟨u.1, fun b h1 => u.2 b (by omega)⟩⟩
theorem ts_b {P : Prop} {Q : Nat → Prop} {x : Int32} {i : Nat} (h : (x = 1 ∧ Q i) ∨ (x = 0 ∧ ¬ Q i)) (e : x = 0) : ((0 : Int32) = 1 ∧ P ∧ ∀ b, b < i + 1 → Q b) ∨ ((0 : Int32) = 0 ∧ ¬ (P ∧ ∀ b, b < i + 1 → Q b)) := by
  rcases h with ⟨z, _⟩ | ⟨_, y⟩
  · rw [e] at z; exact absurd z (by decide)
  · exact Or.inr ⟨rfl, fun u => y (u.2 i (by omega))⟩
theorem ts_c {P : Prop} {Q : Nat → Prop} {y x : Int32} {i : Nat} (h : (y = 1 ∧ P ∧ ∀ b, b < i → Q b) ∨ (y = 0 ∧ ¬ (P ∧ ∀ b, b < i → Q b))) (h2 : (x = 1 ∧ Q i) ∨ (x = 0 ∧ ¬ Q i)) (e : ¬ y = 0) (e2 : ¬ x = 0) : ((1 : Int32) = 1 ∧ P ∧ ∀ b, b < i + 1 → Q b) ∨ ((1 : Int32) = 0 ∧ ¬ (P ∧ ∀ b, b < i + 1 → Q b)) := by
  rcases h with ⟨_, p, y⟩ | ⟨z, _⟩
  · rcases h2 with ⟨_, q⟩ | ⟨z, _⟩
    · refine Or.inl ⟨rfl, p, fun b h1 => ?_⟩
      by_cases e9 : b = i
      · rw [e9]; exact q
      · exact y b (by omega)
    · exact absurd z e2
  · exact absurd z e
def pc4 (s : Nat) : Nat := s % 2 + s / 2 % 2 + s / 4 % 2 + s / 8 % 2
theorem pc4_le (s : Nat) : pc4 s ≤ 4 := by unfold pc4; omega
def wyA (T : Nat → Prop) (x : Int32) : Prop := (∃ n s, n ≤ 4 ∧ s < 16 ∧ (pc4 s = n ∧ T s) ∧ x = nI s ∧ (∀ m t, m < n → t < 16 → ¬ (pc4 t = m ∧ T t)) ∧ ∀ t, t < s → ¬ (pc4 t = n ∧ T t)) ∨ (x = -2 ∧ ∀ m t, m ≤ 4 → t < 16 → ¬ (pc4 t = m ∧ T t))
theorem wyA_c {T T' : Nat → Prop} {x : Int32} (e : ∀ s, T s ↔ T' s) (h : wyA T x) : wyA T' x := by
  rcases h with ⟨n, s, a, b, ⟨c1, c2⟩, d, f, g⟩ | ⟨a, b⟩
  · exact Or.inl ⟨n, s, a, b, ⟨c1, (e s).mp c2⟩, d, fun m t h1 h2 h3 => f m t h1 h2 ⟨h3.1, (e t).mpr h3.2⟩, fun t h1 h3 => g t h1 ⟨h3.1, (e t).mpr h3.2⟩⟩
  · exact Or.inr ⟨a, fun m t h1 h2 h3 => b m t h1 h2 ⟨h3.1, (e t).mpr h3.2⟩⟩
theorem wyA_eq {T : Nat → Prop} {x y : Int32} (hx : wyA T x) (hy : wyA T y) : x = y := by
  rcases hx with ⟨n, s, a, b, c, d, f, g⟩ | ⟨a, b⟩ <;> rcases hy with ⟨n', s', a', b', c', d', f', g'⟩ | ⟨a', b'⟩
  · have en : n = n' := by
      rcases Nat.lt_trichotomy n n' with z | z | z
      · exact absurd c (f' n s z b)
      · exact z
      · exact absurd c' (f n' s' z b')
    subst en
    have es : s = s' := by
      rcases Nat.lt_trichotomy s s' with z | z | z
      · exact absurd c (g' s z)
      · exact z
      · exact absurd c' (g s' z)
    rw [d, d', es]
  · exact absurd c (b' n s a b)
  · exact absurd c' (b n' s' a' b')
  · rw [a, a']
def bc16 (i : Int32) : Int32 :=
  let a := i - ((i.toUInt32 >>> ((1 : Int32).toUInt32 &&& Int32.toUInt32 31)).toInt32 &&& 1431655765)
  let b := (a &&& 858993459) + ((a.toUInt32 >>> ((2 : Int32).toUInt32 &&& Int32.toUInt32 31)).toInt32 &&& 858993459)
  let d := (b + (b.toUInt32 >>> ((4 : Int32).toUInt32 &&& Int32.toUInt32 31)).toInt32) &&& 252645135
  let f := d + (d.toUInt32 >>> ((8 : Int32).toUInt32 &&& Int32.toUInt32 31)).toInt32
  (f + (f.toUInt32 >>> ((16 : Int32).toUInt32 &&& Int32.toUInt32 31)).toInt32) &&& 63
theorem bc16_0 : ∀ s, s < 16 → bc16 (nI s) = nI (pc4 s) := by decide +kernel
theorem bc16_1 {i : Int32} (h : 0 ≤ i.toInt ∧ i.toInt < 16) : bc16 i = nI (pc4 i.toNatClampNeg) := by
  have e := cl_nI (w := i) h.1
  have c := m_cl (x := i) h.1
  have z := bc16_0 i.toNatClampNeg (by omega)
  rw [e] at z
  exact z
theorem pc4_lb : ∀ s, s < 16 → bs (lb (nI s).toInt64) 36 = pc4 s := by decide +kernel
theorem rn_ones (p : Int64) : ∀ n, n ≤ 36 → r_ones p n = nI (bs (lb p) n) := by
  intro n
  induction n with
  | zero => intro _; rfl
  | succ n ih =>
    intro hn
    simp only [r_ones, bs]
    rw [ih (by omega), one_lb p (by omega)]
    cases lb p n
    · exact nI_add _ 0
    · exact nI_1 _
set_option maxHeartbeats 4000000 in
set_option maxRecDepth 100000 in
theorem c_J6_x (l : Launch) (p0 : Int32) (h0 : 0 ≤ p0.toInt ∧ p0.toInt < 16) : Pu l yJ6_bitCount_0f7a4 wsJ6_bitCount_0f7a4 ({ frames := 0, cells := 0, slots := 0, locals := 0 }) [.int p0] (fun r => r = nI (pc4 p0.toNatClampNeg)) := by
  refine Met.ofW (cc := cJ6_bitCount_0f7a4) (maxL := 1) (ret := (some .int)) (by decide) rfl ?_
  intro p e s m args below meth c s₁ B hml hv
  obtain ⟨rfl, -⟩ := hv
  have hx := B.exec
  have hb := B.bytes
  have hr := B.returns
  have hts := atoms_spec (ws := wsJ6_bitCount_0f7a4) B.pre
  have hown : s.vm.findClass RJ6 = some m.cls := findClass_of_methodNamed B.named
  have hlocks := B.notSynchronized
  have hS : va_S (fun _ => False) s.heap s.heap [] := va_S.rf
  have hl := lv_entry ([.int p0]) (n := 1) (Nat.le_of_ble_eq_true rfl)
  rw [lg_entry_eq]
  generalize (lg_sl ([.int p0]) ++ List.replicate (1 - (lg_sl ([.int p0])).length) Slot.unset).toArray = ls at hl ⊢
  have hl : lv_has ls 1 [(0, .int p0)] := hl
  have hS0 := hS
  have k_0 : (0 : Int32).toInt = 0 := by decide
  have k_1 : (1 : Int32).toInt = 1 := by decide
  have k_2 : (2 : Int32).toInt = 2 := by decide
  have k_4 : (4 : Int32).toInt = 4 := by decide
  have k_8 : (8 : Int32).toInt = 8 := by decide
  have k_16 : (16 : Int32).toInt = 16 := by decide
  have k_63 : (63 : Int32).toInt = 63 := by decide
  have k_252645135 : (252645135 : Int32).toInt = 252645135 := by decide
  have k_858993459 : (858993459 : Int32).toInt = 858993459 := by decide
  have k_1431655765 : (1431655765 : Int32).toInt = 1431655765 := by decide
  refine lv_iload_n hx hb dJ6_bitCount_0f7a4_0 rfl (lv_at hl 0 rfl) ?_
  refine lv_iload_n hx hb dJ6_bitCount_0f7a4_1 rfl (lv_at hl 0 rfl) ?_
  refine lv_iconst (v := 1) hx hb dJ6_bitCount_0f7a4_2 (by decide) ?_
  refine lv_iushr (v := (p0.toUInt32 >>> ((1 : Int32).toUInt32 &&& Int32.toUInt32 31)).toInt32) hx hb dJ6_bitCount_0f7a4_3 rfl ?_
  refine lv_ldcw hx hb hown (hts (.constant RJ6 265 (1431655765)) (by decide +kernel)) dJ6_bitCount_0f7a4_4 ?_
  refine lv_iand hx hb dJ6_bitCount_0f7a4_7 ?_
  refine lv_topi (fun v7 e7 => ?_)
  refine lv_isub hx hb dJ6_bitCount_0f7a4_8 ?_
  refine lv_topi (fun v8 e8 => ?_)
  refine lv_istore_n (lv' := [(0, .int v8)]) hx hb dJ6_bitCount_0f7a4_9 rfl hl (by decide) rfl (fun ls hl => ?_)
  refine lv_iload_n hx hb dJ6_bitCount_0f7a4_10 rfl (lv_at hl 0 rfl) ?_
  refine lv_ldcw hx hb hown (hts (.constant RJ6 266 (858993459)) (by decide +kernel)) dJ6_bitCount_0f7a4_11 ?_
  refine lv_iand hx hb dJ6_bitCount_0f7a4_14 ?_
  refine lv_topi (fun v14 e14 => ?_)
  refine lv_iload_n hx hb dJ6_bitCount_0f7a4_15 rfl (lv_at hl 0 rfl) ?_
  refine lv_iconst (v := 2) hx hb dJ6_bitCount_0f7a4_16 (by decide) ?_
  refine lv_iushr (v := (v8.toUInt32 >>> ((2 : Int32).toUInt32 &&& Int32.toUInt32 31)).toInt32) hx hb dJ6_bitCount_0f7a4_17 rfl ?_
  refine lv_ldcw hx hb hown (hts (.constant RJ6 266 (858993459)) (by decide +kernel)) dJ6_bitCount_0f7a4_18 ?_
  refine lv_iand hx hb dJ6_bitCount_0f7a4_21 ?_
  refine lv_topi (fun v21 e21 => ?_)
  refine lv_iadd hx hb dJ6_bitCount_0f7a4_22 ?_
  refine lv_topi (fun v22 e22 => ?_)
  refine lv_istore_n (lv' := [(0, .int v22)]) hx hb dJ6_bitCount_0f7a4_23 rfl hl (by decide) rfl (fun ls hl => ?_)
  refine lv_iload_n hx hb dJ6_bitCount_0f7a4_24 rfl (lv_at hl 0 rfl) ?_
  refine lv_iload_n hx hb dJ6_bitCount_0f7a4_25 rfl (lv_at hl 0 rfl) ?_
  refine lv_iconst (v := 4) hx hb dJ6_bitCount_0f7a4_26 (by decide) ?_
  refine lv_iushr (v := (v22.toUInt32 >>> ((4 : Int32).toUInt32 &&& Int32.toUInt32 31)).toInt32) hx hb dJ6_bitCount_0f7a4_27 rfl ?_
  refine lv_iadd hx hb dJ6_bitCount_0f7a4_28 ?_
  refine lv_topi (fun v28 e28 => ?_)
  refine lv_ldcw hx hb hown (hts (.constant RJ6 267 (252645135)) (by decide +kernel)) dJ6_bitCount_0f7a4_29 ?_
  refine lv_iand hx hb dJ6_bitCount_0f7a4_32 ?_
  refine lv_topi (fun v32 e32 => ?_)
  refine lv_istore_n (lv' := [(0, .int v32)]) hx hb dJ6_bitCount_0f7a4_33 rfl hl (by decide) rfl (fun ls hl => ?_)
  refine lv_iload_n hx hb dJ6_bitCount_0f7a4_34 rfl (lv_at hl 0 rfl) ?_
  refine lv_iload_n hx hb dJ6_bitCount_0f7a4_35 rfl (lv_at hl 0 rfl) ?_
  refine lv_bipush (v := 8) hx hb dJ6_bitCount_0f7a4_36 (by decide) ?_
  refine lv_iushr (v := (v32.toUInt32 >>> ((8 : Int32).toUInt32 &&& Int32.toUInt32 31)).toInt32) hx hb dJ6_bitCount_0f7a4_38 rfl ?_
  refine lv_iadd hx hb dJ6_bitCount_0f7a4_39 ?_
  refine lv_topi (fun v39 e39 => ?_)
  refine lv_istore_n (lv' := [(0, .int v39)]) hx hb dJ6_bitCount_0f7a4_40 rfl hl (by decide) rfl (fun ls hl => ?_)
  refine lv_iload_n hx hb dJ6_bitCount_0f7a4_41 rfl (lv_at hl 0 rfl) ?_
  refine lv_iload_n hx hb dJ6_bitCount_0f7a4_42 rfl (lv_at hl 0 rfl) ?_
  refine lv_bipush (v := 16) hx hb dJ6_bitCount_0f7a4_43 (by decide) ?_
  refine lv_iushr (v := (v39.toUInt32 >>> ((16 : Int32).toUInt32 &&& Int32.toUInt32 31)).toInt32) hx hb dJ6_bitCount_0f7a4_45 rfl ?_
  refine lv_iadd hx hb dJ6_bitCount_0f7a4_46 ?_
  refine lv_topi (fun v46 e46 => ?_)
  refine lv_istore_n (lv' := [(0, .int v46)]) hx hb dJ6_bitCount_0f7a4_47 rfl hl (by decide) rfl (fun ls hl => ?_)
  refine lv_iload_n hx hb dJ6_bitCount_0f7a4_48 rfl (lv_at hl 0 rfl) ?_
  refine lv_bipush (v := 63) hx hb dJ6_bitCount_0f7a4_49 (by decide) ?_
  refine lv_iand hx hb dJ6_bitCount_0f7a4_51 ?_
  refine lv_topi (fun v51 e51 => ?_)
  exact W.iret (v := v51) hx hb hr (fun t ht hW => ⟨⟨_, (), rfl, (by subst e51 e46 e39 e32 e28 e22 e21 e14 e8 e7; exact bc16_1 h0), trivial⟩, hS.F ht⟩) hS.2.2 dJ6_bitCount_0f7a4_52
set_option maxHeartbeats 4000000 in
set_option maxRecDepth 100000 in
theorem c_X9_isOtherThanListed_x (l : Launch) (D : va_G) (cy : Nat → ClassId) (A : Nat → Prop) (G : cG) (ws : va_W) (o : Nat) (wide : Int32) (high : Int32) {bs_o js_o sh_o wk_o ll_o : Nat} {jc_o lc_o : Int32} {mo_o lb_o : Option Nat} {fl : Nat → Int64} {lw lh : Nat} (hD : va_D A ws) (hT : cT cy G ws) (hG_o : G o = some (7, 0, 0)) (hM_o : cIn ws o (.inr (8, [.ref bs_o, .ref js_o, .int jc_o, .ref sh_o, .ref wk_o, va_rf mo_o, .ref ll_o, .int lc_o, va_rf lb_o]))) (hM_ll_o : cIn ws ll_o (.inl (cy 1, 12, .inr (.inl fl)))) (hlb9 : lsB G lb_o lc_o lw lh) : Ci l D cy A yX9_isOtherThanListed wsX9_isOtherThanListed ({ frames := 0, cells := 0, slots := 0, locals := 0 }) 0 0 ws [.ref o, .int wide, .int high] (fun r0 u => u = (G, ws) ∧ (Bo r0 (lsO lc_o lw lh wide high))) := by
  refine Met.ofW (cc := cX9_isOtherThanListed) (maxL := 3) (ret := (some .boolean)) (by decide) rfl ?_
  intro p e s m args below meth c s₁ B hml hv
  obtain ⟨rfl, hP, hK, hA, hV⟩ := hv
  have hx := B.exec
  have hb := B.bytes
  have hr := B.returns
  have hts := atoms_spec (ws := wsX9_isOtherThanListed) B.pre
  have hown : s.vm.findClass RX9 = some m.cls := findClass_of_methodNamed B.named
  have hlocks := B.notSynchronized
  have hS : va_S A s.heap s.heap [] := va_S.rf
  have hl := lv_entry ([.ref o, .int wide, .int high]) (n := 3) (Nat.le_of_ble_eq_true rfl)
  rw [lg_entry_eq]
  generalize (lg_sl ([.ref o, .int wide, .int high]) ++ List.replicate (3 - (lg_sl ([.ref o, .int wide, .int high])).length) Slot.unset).toArray = ls at hl ⊢
  have hl : lv_has ls 3 [(0, .ref o), (1, .int wide), (2, .int high)] := hl
  have k_0 : (0 : Int32).toInt = 0 := by decide
  have k_1 : (1 : Int32).toInt = 1 := by decide
  obtain ⟨hjc_o, hlc_o, hG_bs_o, hG_js_o, hG_sh_o, hG_wk_o, hmo_o, hG_ll_o, hlb_o⟩ := w7sh hD hT hG_o hM_o
  refine lv_aload_n hx hb dX9_isOtherThanListed_0 rfl (lv_at hl 0 rfl) ?_
  have hoq : lb_o = none ∨ ∃ x, lb_o = some x := by cases lb_o; exact Or.inl rfl; exact Or.inr ⟨_, rfl⟩
  rcases hoq with hopt | ⟨x1, hopt⟩
  · skip
    rw [hopt] at hM_o
    have hM_o : cIn ws o (.inr (8, [.ref bs_o, .ref js_o, .int jc_o, .ref sh_o, .ref wk_o, va_rf mo_o, .ref ll_o, .int lc_o, .null])) := hM_o
    have hl0 := hlb9.nil hopt
    refine t_get (v := .null) (C := RX9) (T := TX9) (N := 9) hx hb hts (by decide +kernel) hown hK hP hM_o rfl 8 (by decide) (hts (.fieldLink RX9 49 "ShadowBench" "listBoard" "LShadowBench$Board;") (by decide +kernel)) (fun _ h9 => h9) rfl dX9_isOtherThanListed_1 ?_
    refine lv_ifnullN (tgt := 33) hx hb dX9_isOtherThanListed_4 (by decide) ?_
    refine lv_iconst (v := 0) hx hb dX9_isOtherThanListed_33 (by decide) ?_
    exact W.zret (v := (0 : Int32)) hx hb hr (by decide) (fun t ht hW => ⟨⟨_, (G, ws), rfl, ⟨rfl, Or.inr ⟨rfl, (by unfold lsO; omega)⟩⟩, by show va_P D vwCl ws t.heap; rw [ht]; exact hP, hD, hT⟩, hS.F ht⟩) hS.2.2 dX9_isOtherThanListed_34
  · skip
    obtain ⟨wx1, hx1, hG_x1⟩ := hlb_o x1 hopt
    rw [hopt] at hM_o
    have hM_o : cIn ws o (.inr (8, [.ref bs_o, .ref js_o, .int jc_o, .ref sh_o, .ref wk_o, va_rf mo_o, .ref ll_o, .int lc_o, .ref x1])) := hM_o
    have hl1 := hlb9.one hopt hG_x1
    refine t_get (v := .ref x1) (C := RX9) (T := TX9) (N := 9) hx hb hts (by decide +kernel) hown hK hP hM_o rfl 8 (by decide) (hts (.fieldLink RX9 49 "ShadowBench" "listBoard" "LShadowBench$Board;") (by decide +kernel)) (fun _ h9 => h9) rfl dX9_isOtherThanListed_1 ?_
    refine lv_ifnull hx hb dX9_isOtherThanListed_4 ?_
    refine lv_aload_n hx hb dX9_isOtherThanListed_7 rfl (lv_at hl 0 rfl) ?_
    refine t_get (v := .ref x1) (C := RX9) (T := TX9) (N := 9) hx hb hts (by decide +kernel) hown hK hP hM_o rfl 8 (by decide) (hts (.fieldLink RX9 49 "ShadowBench" "listBoard" "LShadowBench$Board;") (by decide +kernel)) (fun _ h9 => h9) rfl dX9_isOtherThanListed_8 ?_
    obtain ⟨_, hM_x1, hb_x1, l_x1, f_x1, r_x1, rfl, hG_l_x1, hG_f_x1, hG_r_x1⟩ := hT _ _ hG_x1
    refine t_get (v := .int (nI wx1)) (C := RX0) (T := TX0) (N := 8) hx hb hts (by decide +kernel) hown hK hP hM_x1 rfl 0 (by decide) (hts (.fieldLink RX9 156 "ShadowBench$Board" "wide" "I") (by decide +kernel)) (fun _ h9 => h9) rfl dX9_isOtherThanListed_11 ?_
    have i_w_x1 : (nI wx1).toInt = _ := nI_toInt (by omega)
    refine lv_iload_n hx hb dX9_isOtherThanListed_14 rfl (lv_at hl 1 rfl) ?_
    refine lv_icmp_ne (tgt := 29) hx hb dX9_isOtherThanListed_15 (by decide) (fun c15 => ?_) (fun c15 => ?_)
    · skip
      have d15 := c15
      rw [fa_eq] at d15
      refine lv_iconst (v := 1) hx hb dX9_isOtherThanListed_29 (by decide) ?_
      refine lv_goto (tgt := 34) hx hb dX9_isOtherThanListed_30 (by decide) ?_
      exact W.zret (v := (1 : Int32)) hx hb hr (by decide) (fun t ht hW => ⟨⟨_, (G, ws), rfl, ⟨rfl, Or.inl ⟨rfl, (by unfold lsO; omega)⟩⟩, by show va_P D vwCl ws t.heap; rw [ht]; exact hP, hD, hT⟩, hS.F ht⟩) hS.2.2 dX9_isOtherThanListed_34
    · skip
      have d15 := c15
      rw [fa_eq] at d15
      refine lv_aload_n hx hb dX9_isOtherThanListed_18 rfl (lv_at hl 0 rfl) ?_
      refine t_get (v := .ref x1) (C := RX9) (T := TX9) (N := 9) hx hb hts (by decide +kernel) hown hK hP hM_o rfl 8 (by decide) (hts (.fieldLink RX9 49 "ShadowBench" "listBoard" "LShadowBench$Board;") (by decide +kernel)) (fun _ h9 => h9) rfl dX9_isOtherThanListed_19 ?_
      refine t_get (v := .int (nI hx1)) (C := RX0) (T := TX0) (N := 8) hx hb hts (by decide +kernel) hown hK hP hM_x1 rfl 1 (by decide) (hts (.fieldLink RX9 306 "ShadowBench$Board" "high" "I") (by decide +kernel)) (fun _ h9 => h9) rfl dX9_isOtherThanListed_22 ?_
      have i_h_x1 : (nI hx1).toInt = _ := nI_toInt (by omega)
      refine lv_iload_n hx hb dX9_isOtherThanListed_25 rfl (lv_at hl 2 rfl) ?_
      refine lv_icmp_eq (tgt := 33) hx hb dX9_isOtherThanListed_26 (by decide) (fun c26 => ?_) (fun c26 => ?_)
      · skip
        have d26 := c26
        rw [fa_eq] at d26
        refine lv_iconst (v := 0) hx hb dX9_isOtherThanListed_33 (by decide) ?_
        exact W.zret (v := (0 : Int32)) hx hb hr (by decide) (fun t ht hW => ⟨⟨_, (G, ws), rfl, ⟨rfl, Or.inr ⟨rfl, (by unfold lsO; omega)⟩⟩, by show va_P D vwCl ws t.heap; rw [ht]; exact hP, hD, hT⟩, hS.F ht⟩) hS.2.2 dX9_isOtherThanListed_34
      · skip
        have d26 := c26
        rw [fa_eq] at d26
        refine lv_iconst (v := 1) hx hb dX9_isOtherThanListed_29 (by decide) ?_
        refine lv_goto (tgt := 34) hx hb dX9_isOtherThanListed_30 (by decide) ?_
        exact W.zret (v := (1 : Int32)) hx hb hr (by decide) (fun t ht hW => ⟨⟨_, (G, ws), rfl, ⟨rfl, Or.inl ⟨rfl, (by unfold lsO; omega)⟩⟩, by show va_P D vwCl ws t.heap; rw [ht]; exact hP, hD, hT⟩, hS.F ht⟩) hS.2.2 dX9_isOtherThanListed_34
set_option maxHeartbeats 4000000 in
set_option maxRecDepth 100000 in
theorem c_X9_isListed_x (l : Launch) (D : va_G) (cy : Nat → ClassId) (A : Nat → Prop) (G : cG) (ws : va_W) (o : Nat) (p0 : Int64) {bs_o js_o sh_o wk_o ll_o : Nat} {jc_o lc_o : Int32} {mo_o lb_o : Option Nat} {fl : Nat → Int64} (hD : va_D A ws) (hT : cT cy G ws) (hG_o : G o = some (7, 0, 0)) (hM_o : cIn ws o (.inr (8, [.ref bs_o, .ref js_o, .int jc_o, .ref sh_o, .ref wk_o, va_rf mo_o, .ref ll_o, .int lc_o, va_rf lb_o]))) (hM_ll_o : cIn ws ll_o (.inl (cy 1, 12, .inr (.inl fl))))  : Ci l D cy A yX9_isListed wsX9_isListed ({ frames := 0, cells := 0, slots := 0, locals := 0 }) 0 0 ws [.ref o, .long p0] (fun r0 u => u = (G, ws) ∧ (Bo r0 (lsI fl lc_o p0))) := by
  refine Met.ofW (cc := cX9_isListed) (maxL := 4) (ret := (some .boolean)) (by decide) rfl ?_
  intro p e s m args below meth c s₁ B hml hv
  obtain ⟨rfl, hP, hK, hA, hV⟩ := hv
  have hx := B.exec
  have hb := B.bytes
  have hr := B.returns
  have hts := atoms_spec (ws := wsX9_isListed) B.pre
  have hown : s.vm.findClass RX9 = some m.cls := findClass_of_methodNamed B.named
  have hlocks := B.notSynchronized
  have hS : va_S A s.heap s.heap [] := va_S.rf
  have hl := lv_entry ([.ref o, .long p0]) (n := 4) (Nat.le_of_ble_eq_true rfl)
  rw [lg_entry_eq]
  generalize (lg_sl ([.ref o, .long p0]) ++ List.replicate (4 - (lg_sl ([.ref o, .long p0])).length) Slot.unset).toArray = ls at hl ⊢
  have hl : lv_has ls 4 [(0, .ref o), (1, .long p0)] := hl
  have k_0 : (0 : Int32).toInt = 0 := by decide
  have k_1 : (1 : Int32).toInt = 1 := by decide
  have k_12 : (12 : Int32).toInt = 12 := by decide
  obtain ⟨hjc_o, hlc_o, hG_bs_o, hG_js_o, hG_sh_o, hG_wk_o, hmo_o, hG_ll_o, hlb_o⟩ := w7sh hD hT hG_o hM_o
  refine lv_iconst (v := 0) hx hb dX9_isListed_0 (by decide) ?_
  refine lv_istore_n (lv' := [(3, .int (0 : Int32)), (0, .ref o), (1, .long p0)]) hx hb dX9_isListed_1 rfl hl (by decide) rfl (fun ls hl => ?_)
  have loop_2 : ∀ (n : Nat) (i : Nat), (i ≤ 12) → (∀ k, k < i → ¬ fl k = p0) → 12 - i < n → ∀ (H : Heap) (locs : List Loc), va_P D vwCl ws H → va_S A s.heap H locs → ∀ (ls : Array Slot), lv_has ls 4 [(3, .int (nI i)), (0, .ref o), (1, .long p0)] → W p l e (headSpec wsX9_isListed ({ frames := 0, cells := 0, slots := 0, locals := 0 })).room s m #[Value.ref o, Value.long p0] below meth c H locs 0 0 (MQ below (va_Qi (fun r0 u => u = (G, ws) ∧ (Bo r0 (lsI fl lc_o p0))) (cB D cy A) A) #[Value.ref o, Value.long p0] s 0 0 A) (F0 m 2 ls []) := by
    intro n
    induction n with
    | zero => intro i j2_0 j2_1 hn; exact absurd hn (Nat.not_lt_zero _)
    | succ n ih_2 =>
      intro i j2_0 j2_1 hn_2 H locs hP hS  ls hl
      have ii : (nI i).toInt = (i : Int) := nI_toInt (by omega)
      refine lv_iload_n hx hb dX9_isListed_2 rfl (lv_at hl 0 rfl) ?_
      refine lv_aload_n hx hb dX9_isListed_3 rfl (lv_at hl 1 rfl) ?_
      refine t_get (v := .int lc_o) (C := RX9) (T := TX9) (N := 9) hx hb hts (by decide +kernel) hown hK hP hM_o rfl 7 (by decide) (hts (.fieldLink RX9 46 "ShadowBench" "listCount" "I") (by decide +kernel)) (fun _ h9 => h9) rfl dX9_isListed_4 ?_
      refine lv_icmp_ge (tgt := 35) hx hb dX9_isListed_7 (by decide) (fun c7 => ?_) (fun c7 => ?_)
      · skip
        have d7 := c7
        rw [fa_le] at d7
        refine lv_iconst (v := 0) hx hb dX9_isListed_35 (by decide) ?_
        exact W.zret (v := (0 : Int32)) hx hb hr (by decide) (fun t ht hW => ⟨⟨_, (G, ws), rfl, ⟨rfl, Or.inr ⟨rfl, (fun ⟨k9, h9, z9⟩ => j2_1 k9 (by omega) z9)⟩⟩, by show va_P D vwCl ws t.heap; rw [ht]; exact hP, hD, hT⟩, hS.F ht⟩) hS.2.2 dX9_isListed_36
      · skip
        have d7 := c7
        rw [fa_le] at d7
        refine lv_iload_n hx hb dX9_isListed_10 rfl (lv_at hl 0 rfl) ?_
        refine lv_bipush (v := 12) hx hb dX9_isListed_11 (by decide) ?_
        refine lv_icmp_ge (tgt := 35) hx hb dX9_isListed_13 (by decide) (fun c13 => ?_) (fun c13 => ?_)
        · skip
          have d13 := c13
          rw [fa_le] at d13
          refine lv_iconst (v := 0) hx hb dX9_isListed_35 (by decide) ?_
          exact W.zret (v := (0 : Int32)) hx hb hr (by decide) (fun t ht hW => ⟨⟨_, (G, ws), rfl, ⟨rfl, Or.inr ⟨rfl, (fun ⟨k9, h9, z9⟩ => j2_1 k9 (by omega) z9)⟩⟩, by show va_P D vwCl ws t.heap; rw [ht]; exact hP, hD, hT⟩, hS.F ht⟩) hS.2.2 dX9_isListed_36
        · skip
          have d13 := c13
          rw [fa_le] at d13
          refine lv_aload_n hx hb dX9_isListed_16 rfl (lv_at hl 1 rfl) ?_
          refine t_get (v := .ref ll_o) (C := RX9) (T := TX9) (N := 9) hx hb hts (by decide +kernel) hown hK hP hM_o rfl 6 (by decide) (hts (.fieldLink RX9 42 "ShadowBench" "listed" "[J") (by decide +kernel)) (fun _ h9 => h9) rfl dX9_isListed_17 ?_
          refine lv_iload_n hx hb dX9_isListed_20 rfl (lv_at hl 0 rfl) ?_
          refine t_laldM hx hb hK hP hM_ll_o (vp_in_iff.mpr ⟨by omega, by omega⟩) dX9_isListed_21 ?_
          refine lv_topl (fun v21 e21 => ?_)
          have f21 : v21 = fl i := by rw [e21, nI_clamp (by omega)]
          refine lv_lload_n hx hb dX9_isListed_22 rfl (lv_at hl 2 rfl) ?_
          refine W.lcmp hx hb dX9_isListed_23 ?_
          refine lv_if_ne (tgt := 29) hx hb dX9_isListed_24 (by decide) (fun c24 => ?_) (fun c24 => ?_)
          · skip
            have d24 := c24
            rw [lg_cmp_eq, fa_eq64] at d24
            refine lv_iinc (v := (nI (i + 1))) (lv' := [(3, .int (nI (i + 1))), (0, .ref o), (1, .long p0)]) hx hb dX9_isListed_29 hl (k := 0) rfl (nI_1 _) (by decide) rfl (fun ls hl => ?_)
            refine lv_goto (tgt := 2) hx hb dX9_isListed_32 (by decide) ?_
            exact ih_2 (i + 1) (by omega) (fun k hk => by
            by_cases e9 : k = i
            · rw [e9]; exact fun z9 => c24 ((lg_cmp_eq _ _).mpr (f21.trans z9))
            · exact j2_1 k (by omega)) (by omega) _ _ hP hS  ls (lv_sub hl [0, 1, 2] rfl)
          · skip
            have d24 := c24
            rw [lg_cmp_eq, fa_eq64] at d24
            refine lv_iconst (v := 1) hx hb dX9_isListed_27 (by decide) ?_
            exact W.zret (v := (1 : Int32)) hx hb hr (by decide) (fun t ht hW => ⟨⟨_, (G, ws), rfl, ⟨rfl, Or.inl ⟨rfl, ⟨i, (by omega), f21.symm.trans ((lg_cmp_eq _ _).mp c24)⟩⟩⟩, by show va_P D vwCl ws t.heap; rw [ht]; exact hP, hD, hT⟩, hS.F ht⟩) hS.2.2 dX9_isListed_28
  exact loop_2 (12 + 1) 0 (by omega) (fun k hk => absurd hk (Nat.not_lt_zero _)) (by omega) _ _ hP hS  ls (lv_sub hl [0, 1, 2] rfl)
set_option maxHeartbeats 4000000 in
set_option maxRecDepth 100000 in
theorem c_X9_list_x (l : Launch) (D : va_G) (cy : Nat → ClassId) (A : Nat → Prop) (G : cG) (ws : va_W) (o : Nat) (wide : Int32) (high : Int32) (p0 : Int64) {bs_o js_o sh_o wk_o ll_o : Nat} {jc_o lc_o : Int32} {mo_o lb_o : Option Nat} {fl : Nat → Int64} {lw lh : Nat} (hD : va_D A ws) (hT : cT cy G ws) (hG_o : G o = some (7, 0, 0)) (hM_o : cIn ws o (.inr (8, [.ref bs_o, .ref js_o, .int jc_o, .ref sh_o, .ref wk_o, va_rf mo_o, .ref ll_o, .int lc_o, va_rf lb_o]))) (hM_ll_o : cIn ws ll_o (.inl (cy 1, 12, .inr (.inl fl)))) (hlb9 : lsB G lb_o lc_o lw lh) : Ci l D cy A yX9_list wsX9_list ({ frames := 5, cells := 4, slots := 502, locals := 116 }) 4 502 ws [.ref o, .int wide, .int high, .long p0] (fun r0 u => cX none (chs [1, 7, 8, 17]) G ws u.1 u.2 ∧ (lsA fl lc_o lw lh wide high p0 r0 ∧ ∃ lc lb fl1, cIn u.2 o (.inr (8, [.ref bs_o, .ref js_o, .int jc_o, .ref sh_o, .ref wk_o, va_rf mo_o, .ref ll_o, .int lc, va_rf lb])) ∧ cIn u.2 ll_o (.inl (cy 1, 12, .inr (.inl fl1))) ∧ ((lsG fl lc_o lw lh wide high p0 ∧ lc.toInt = lc_o.toInt + 1 ∧ fl1 = vp_updL fl lc_o.toNatClampNeg p0 ∧ ∃ b, lb = some b ∧ u.1 b = some (2, wide.toNatClampNeg, high.toNatClampNeg)) ∨ (¬ lsG fl lc_o lw lh wide high p0 ∧ lc = lc_o ∧ lb = lb_o ∧ fl1 = fl)))) := by
  refine Met.ofW (cc := cX9_list) (maxL := 6) (ret := (some .int)) (by decide) rfl ?_
  intro p e s m args below meth c s₁ B hml hv
  obtain ⟨rfl, hP, hK, hA, hV⟩ := hv
  have hx := B.exec
  have hb := B.bytes
  have hr := B.returns
  have hts := atoms_spec (ws := wsX9_list) B.pre
  have hown : s.vm.findClass RX9 = some m.cls := findClass_of_methodNamed B.named
  have hlocks := B.notSynchronized
  have hS : va_S A s.heap s.heap [] := va_S.rf
  have hX : cX none (chs [1, 7, 8, 17]) G ws G ws := cX.rf
  have hl := lv_entry ([.ref o, .int wide, .int high, .long p0]) (n := 6) (Nat.le_of_ble_eq_true rfl)
  rw [lg_entry_eq]
  generalize (lg_sl ([.ref o, .int wide, .int high, .long p0]) ++ List.replicate (6 - (lg_sl ([.ref o, .int wide, .int high, .long p0])).length) Slot.unset).toArray = ls at hl ⊢
  have hl : lv_has ls 6 [(0, .ref o), (1, .int wide), (2, .int high), (3, .long p0)] := hl
  have k_m3 : (-3 : Int32).toInt = -3 := by decide
  have k_m2 : (-2 : Int32).toInt = -2 := by decide
  have k_m1 : (-1 : Int32).toInt = -1 := by decide
  have k_0 : (0 : Int32).toInt = 0 := by decide
  have k_1 : (1 : Int32).toInt = 1 := by decide
  have k_12 : (12 : Int32).toInt = 12 := by decide
  obtain ⟨hjc_o, hlc_o, hG_bs_o, hG_js_o, hG_sh_o, hG_wk_o, hmo_o, hG_ll_o, hlb_o⟩ := w7sh hD hT hG_o hM_o
  refine lv_aload_n hx hb dX9_list_0 rfl (lv_at hl 0 rfl) ?_
  refine lv_iload_n hx hb dX9_list_1 rfl (lv_at hl 1 rfl) ?_
  refine lv_iload_n hx hb dX9_list_2 rfl (lv_at hl 2 rfl) ?_
  refine t_calla (va_runV (g := F0 m 3 ls ([.int high, .int wide, .ref o])) (As := [.int wide, .int high]) (rest := []) ⟨hx, hb, hml, hown, hts⟩ (c_X9_boardOf_x l D cy A G ws o wide high hD hT hG_o ) (cwV 2 hts gX9_list_X9_boardOf rfl rfl rfl (by decide +kernel) ⟨Nat.le_of_ble_eq_true rfl, Nat.le_of_ble_eq_true rfl⟩) (c_preV hM_o rfl hP hK hA hS hV) rfl rfl hl.1 rfl (lv_room (Nat.le_of_ble_eq_true rfl)) dX9_list_3 ⟨Nat.le_of_ble_eq_true rfl, Nat.le_of_ble_eq_true rfl⟩) hS (fun r3 u H locs q3 hP9 hD9 hT9 hS => ?_)
  obtain ⟨G3, w3⟩ := u
  obtain ⟨hX9, q3⟩ := q3
  have hX9 : cX none (chs [1, 8]) G ws G3 w3 := hX9
  have hP : va_P D vwCl w3 H := hP9
  have hD : va_D A w3 := hD9
  have hT : cT cy G3 w3 := hT9
  have hM_o := hX9.2.1 _ _ (cP.no hG_o rfl) hM_o
  have hM_ll_o := hX9.2.1 _ _ (cP.no hG_ll_o rfl) hM_ll_o
  have hG_o := hX9.1 _ _ hG_o
  have hG_bs_o := hX9.1 _ _ hG_bs_o
  have hG_js_o := hX9.1 _ _ hG_js_o
  have hG_sh_o := hX9.1 _ _ hG_sh_o
  have hG_wk_o := hX9.1 _ _ hG_wk_o
  have hG_ll_o := hX9.1 _ _ hG_ll_o
  have hmo_o := fun x9 z9 => hX9.1 _ _ (hmo_o x9 z9)
  have hlb_o : ∀ x9, lb_o = some x9 → ∃ w9 h9, _ = some (2, w9, h9) := fun x9 z9 => (hlb_o x9 z9).elim fun w9 z9 => z9.elim fun h9 z9 => ⟨w9, h9, hX9.1 _ _ z9⟩
  have hX := hX.tr (hX9.wk (chs_sub (by decide)))
  rcases r3 with _ | x3
  · skip
    have vn3 := q3.2.1 rfl
    refine lv_astoreN (lv' := [(5, .null), (0, .ref o), (1, .int wide), (2, .int high), (3, .long p0)]) hx hb dX9_list_6 hl (by decide) rfl (fun ls hl => ?_)
    refine lv_aloadN hx hb dX9_list_8 (lv_at hl 0 rfl) ?_
    refine lv_ifnullN (tgt := 22) hx hb dX9_list_10 (by decide) ?_
    refine lv_iconst (v := (-1)) hx hb dX9_list_22 (by decide) ?_
    refine W.widen (k := 4) (n := 502) (Nat.le_of_ble_eq_true rfl) (Nat.le_of_ble_eq_true rfl) ?_
    exact W.iret (v := ((-1) : Int32)) hx hb hr (fun t ht hW => ⟨⟨_, (G3, w3), rfl, ⟨hX, ⟨lsA_1 (fun z9 => by first | exact vn3 z9.1 | exact b19 z9.2), _, lb_o, _, hM_o, hM_ll_o, Or.inr ⟨lsG_1 (fun z9 => by first | exact vn3 z9.1 | exact b19 z9.2), rfl, rfl, rfl⟩⟩⟩, by show va_P D vwCl w3 t.heap; rw [ht]; exact hP, hD, hT⟩, hS.F ht⟩) hS.2.2 dX9_list_23
  · skip
    have hG_x3 := q3.1 x3 rfl
    have vb3 := q3.2.2 x3 rfl
    refine lv_astore (lv' := [(5, .ref x3), (0, .ref o), (1, .int wide), (2, .int high), (3, .long p0)]) hx hb dX9_list_6 hl (by decide) rfl (fun ls hl => ?_)
    refine lv_aload hx hb dX9_list_8 (lv_at hl 0 rfl) ?_
    refine lv_ifnull hx hb dX9_list_10 ?_
    refine lv_aload hx hb dX9_list_13 (lv_at hl 0 rfl) ?_
    refine lv_lload_n hx hb dX9_list_15 rfl (lv_at hl 4 rfl) ?_
    obtain ⟨_, hM_x3, hb_x3, l_x3, f_x3, r_x3, rfl, hG_l_x3, hG_f_x3, hG_r_x3⟩ := hT _ _ hG_x3
    refine t_calli (va_runV (g := F0 m 16 ls ([.long p0, .ref x3])) (As := [.long p0]) (rest := []) ⟨hx, hb, hml, hown, hts⟩ (c_X0_isPicture_x l D cy A G3 w3 x3 p0 hD hT hG_x3 ) (cwV 1 hts gX9_list_X0_isPicture rfl rfl rfl (by decide +kernel) ⟨Nat.le_of_ble_eq_true rfl, Nat.le_of_ble_eq_true rfl⟩) (c_preV hM_x3 rfl hP hK hA hS hV) rfl rfl hl.1 rfl (lv_room (Nat.le_of_ble_eq_true rfl)) dX9_list_16 ⟨Nat.le_of_ble_eq_true rfl, Nat.le_of_ble_eq_true rfl⟩) hS (fun r16 u H locs q16 hP9 hD9 hT9 hS => ?_)
    obtain ⟨rfl, q16⟩ := q16
    have hP : va_P D vwCl w3 H := hP9
    refine lv_if_ne (tgt := 24) hx hb dX9_list_19 (by decide) (fun c19 => ?_) (fun c19 => ?_)
    · skip
      have b19 := bo_t q16 c19
      refine lv_aload_n hx hb dX9_list_24 rfl (lv_at hl 1 rfl) ?_
      refine t_get (v := .int lc_o) (C := RX9) (T := TX9) (N := 9) hx hb hts (by decide +kernel) hown hK hP hM_o rfl 7 (by decide) (hts (.fieldLink RX9 46 "ShadowBench" "listCount" "I") (by decide +kernel)) (fun _ h9 => h9) rfl dX9_list_25 ?_
      refine lv_bipush (v := 12) hx hb dX9_list_28 (by decide) ?_
      refine lv_icmp_lt (tgt := 36) hx hb dX9_list_30 (by decide) (fun c30 => ?_) (fun c30 => ?_)
      · skip
        have d30 := c30
        rw [fa_lt] at d30
        refine lv_aload_n hx hb dX9_list_36 rfl (lv_at hl 1 rfl) ?_
        refine lv_iload_n hx hb dX9_list_37 rfl (lv_at hl 2 rfl) ?_
        refine lv_iload_n hx hb dX9_list_38 rfl (lv_at hl 3 rfl) ?_
        refine t_calli (va_runV (g := F0 m 39 ls ([.int high, .int wide, .ref o])) (As := [.int wide, .int high]) (rest := []) ⟨hx, hb, hml, hown, hts⟩ (c_X9_isOtherThanListed_x l D cy A G3 w3 o wide high hD hT hG_o hM_o hM_ll_o (hlb9.up hX.1)) (cwV 2 hts gX9_list_X9_isOtherThanListed rfl rfl rfl (by decide +kernel) ⟨Nat.le_of_ble_eq_true rfl, Nat.le_of_ble_eq_true rfl⟩) (c_preV hM_o rfl hP hK hA hS hV) rfl rfl hl.1 rfl (lv_room (Nat.le_of_ble_eq_true rfl)) dX9_list_39 ⟨Nat.le_of_ble_eq_true rfl, Nat.le_of_ble_eq_true rfl⟩) hS (fun r39 u H locs q39 hP9 hD9 hT9 hS => ?_)
        obtain ⟨rfl, q39⟩ := q39
        have hP : va_P D vwCl w3 H := hP9
        refine lv_if_ne (tgt := 53) hx hb dX9_list_42 (by decide) (fun c42 => ?_) (fun c42 => ?_)
        · skip
          have b42 := bo_t q39 c42
          refine lv_bipush (v := (-3)) hx hb dX9_list_53 (by decide) ?_
          refine W.widen (k := 4) (n := 502) (Nat.le_of_ble_eq_true rfl) (Nat.le_of_ble_eq_true rfl) ?_
          exact W.iret (v := ((-3) : Int32)) hx hb hr (fun t ht hW => ⟨⟨_, (G3, w3), rfl, ⟨hX, ⟨lsA_3 ⟨vb3, b19⟩ (by omega) (by first | exact Or.inr b50 | exact Or.inl b42), _, lb_o, _, hM_o, hM_ll_o, Or.inr ⟨lsG_3 (by first | exact Or.inr b50 | exact Or.inl b42), rfl, rfl, rfl⟩⟩⟩, by show va_P D vwCl w3 t.heap; rw [ht]; exact hP, hD, hT⟩, hS.F ht⟩) hS.2.2 dX9_list_55
        · skip
          have b42 := bo_f q39 c42
          refine lv_aload_n hx hb dX9_list_45 rfl (lv_at hl 1 rfl) ?_
          refine lv_lload_n hx hb dX9_list_46 rfl (lv_at hl 4 rfl) ?_
          refine t_calli (va_runV (g := F0 m 47 ls ([.long p0, .ref o])) (As := [.long p0]) (rest := []) ⟨hx, hb, hml, hown, hts⟩ (c_X9_isListed_x l D cy A G3 w3 o p0 hD hT hG_o hM_o hM_ll_o ) (cwV 1 hts gX9_list_X9_isListed rfl rfl rfl (by decide +kernel) ⟨Nat.le_of_ble_eq_true rfl, Nat.le_of_ble_eq_true rfl⟩) (c_preV hM_o rfl hP hK hA hS hV) rfl rfl hl.1 rfl (lv_room (Nat.le_of_ble_eq_true rfl)) dX9_list_47 ⟨Nat.le_of_ble_eq_true rfl, Nat.le_of_ble_eq_true rfl⟩) hS (fun r47 u H locs q47 hP9 hD9 hT9 hS => ?_)
          obtain ⟨rfl, q47⟩ := q47
          have hP : va_P D vwCl w3 H := hP9
          refine lv_if_eq (tgt := 56) hx hb dX9_list_50 (by decide) (fun c50 => ?_) (fun c50 => ?_)
          · skip
            have b50 := bo_f q47 c50
            refine lv_aload_n hx hb dX9_list_56 rfl (lv_at hl 1 rfl) ?_
            refine lv_aload hx hb dX9_list_57 (lv_at hl 0 rfl) ?_
            refine t_put (v := .ref x3) (C := RX9) (T := TX9) (N := 9) (ty0 := tyX9) hx hb hts (by decide +kernel) tyX9_ok nmX9 hown hK hP hD hS hM_o rfl 8 (by decide) (hts (.fieldLink RX9 49 "ShadowBench" "listBoard" "LShadowBench$Board;") (by decide +kernel)) (fun _ h9 => h9) rfl rfl rfl (Nat.le_of_ble_eq_true rfl) dX9_list_59 (fun H locs w59 hU59 hP hD hS => ?_)
            have hM_ll_o := hU59.2 _ _ (cne hG_ll_o hG_o (show (17 : Nat) ≠ 7 by decide)) hM_ll_o
            have hM_x3 := hU59.2 _ _ (cne hG_x3 hG_o (show (2 : Nat) ≠ 7 by decide)) hM_x3
            have hT := hT.up hU59 hG_o ⟨_, _, _, _, _, _, _, mo_o, (some x3), rfl, ⟨by omega, by omega⟩, ⟨by omega, by omega⟩, hG_bs_o, hG_js_o, hG_sh_o, hG_wk_o, hmo_o, hG_ll_o, (fun _ z => Option.some.inj z ▸ ⟨_, _, hG_x3⟩)⟩
            have hM_o : cIn w59 o (.inr (8, [.ref bs_o, .ref js_o, .int jc_o, .ref sh_o, .ref wk_o, va_rf mo_o, .ref ll_o, .int lc_o, .ref x3])) := hU59.1
            have hX := hX.tr (cX.up hU59 (Or.inr ⟨_, hG_o, rfl⟩))
            refine lv_aload_n hx hb dX9_list_62 rfl (lv_at hl 1 rfl) ?_
            refine t_get (v := .ref ll_o) (C := RX9) (T := TX9) (N := 9) hx hb hts (by decide +kernel) hown hK hP hM_o rfl 6 (by decide) (hts (.fieldLink RX9 42 "ShadowBench" "listed" "[J") (by decide +kernel)) (fun _ h9 => h9) rfl dX9_list_63 ?_
            refine lv_aload_n hx hb dX9_list_66 rfl (lv_at hl 1 rfl) ?_
            refine t_get (v := .int lc_o) (C := RX9) (T := TX9) (N := 9) hx hb hts (by decide +kernel) hown hK hP hM_o rfl 7 (by decide) (hts (.fieldLink RX9 46 "ShadowBench" "listCount" "I") (by decide +kernel)) (fun _ h9 => h9) rfl dX9_list_67 ?_
            refine lv_lload_n hx hb dX9_list_70 rfl (lv_at hl 4 rfl) ?_
            refine t_lastK hx hb hK hP hD hS hT (Or.inr (Or.inr rfl)) hG_ll_o hM_ll_o (vp_in_iff.mpr ⟨by omega, by omega⟩) dX9_list_71 (fun H locs w71 hU71 hP hD hT hS => ?_)
            have hM_o := hU71.2 _ _ (cne hG_o hG_ll_o (show (7 : Nat) ≠ 17 by decide)) hM_o
            have hM_x3 := hU71.2 _ _ (cne hG_x3 hG_ll_o (show (2 : Nat) ≠ 17 by decide)) hM_x3
            have hM_ll_o := hU71.1
            have hX := hX.tr (cX.up hU71 (Or.inr ⟨_, hG_ll_o, rfl⟩))
            refine lv_aload_n hx hb dX9_list_72 rfl (lv_at hl 1 rfl) ?_
            refine lv_dup hx hb dX9_list_73 rfl ?_
            refine t_get (v := .int lc_o) (C := RX9) (T := TX9) (N := 9) hx hb hts (by decide +kernel) hown hK hP hM_o rfl 7 (by decide) (hts (.fieldLink RX9 46 "ShadowBench" "listCount" "I") (by decide +kernel)) (fun _ h9 => h9) rfl dX9_list_74 ?_
            refine lv_iconst (v := 1) hx hb dX9_list_77 (by decide) ?_
            refine lv_iadd hx hb dX9_list_78 ?_
            refine lv_topi (fun v78 e78 => ?_)
            have i78 : v78.toInt = lc_o.toInt + (1 : Int32).toInt := by rw [e78]; exact fb_addI (by omega) (by omega)
            refine t_put (v := .int v78) (C := RX9) (T := TX9) (N := 9) (ty0 := tyX9) hx hb hts (by decide +kernel) tyX9_ok nmX9 hown hK hP hD hS hM_o rfl 7 (by decide) (hts (.fieldLink RX9 46 "ShadowBench" "listCount" "I") (by decide +kernel)) (fun _ h9 => h9) rfl rfl rfl (Nat.le_of_ble_eq_true rfl) dX9_list_79 (fun H locs w79 hU79 hP hD hS => ?_)
            have hM_ll_o := hU79.2 _ _ (cne hG_ll_o hG_o (show (17 : Nat) ≠ 7 by decide)) hM_ll_o
            have hM_x3 := hU79.2 _ _ (cne hG_x3 hG_o (show (2 : Nat) ≠ 7 by decide)) hM_x3
            have hT := hT.up hU79 hG_o ⟨_, _, _, _, _, _, _, mo_o, (some x3), rfl, ⟨by omega, by omega⟩, ⟨by omega, by omega⟩, hG_bs_o, hG_js_o, hG_sh_o, hG_wk_o, hmo_o, hG_ll_o, (fun _ z => Option.some.inj z ▸ ⟨_, _, hG_x3⟩)⟩
            have hM_o : cIn w79 o (.inr (8, [.ref bs_o, .ref js_o, .int jc_o, .ref sh_o, .ref wk_o, va_rf mo_o, .ref ll_o, .int v78, .ref x3])) := hU79.1
            have hX := hX.tr (cX.up hU79 (Or.inr ⟨_, hG_o, rfl⟩))
            refine lv_aload_n hx hb dX9_list_82 rfl (lv_at hl 1 rfl) ?_
            refine t_get (v := .int v78) (C := RX9) (T := TX9) (N := 9) hx hb hts (by decide +kernel) hown hK hP hM_o rfl 7 (by decide) (hts (.fieldLink RX9 46 "ShadowBench" "listCount" "I") (by decide +kernel)) (fun _ h9 => h9) rfl dX9_list_83 ?_
            refine W.widen (k := 4) (n := 502) (Nat.le_of_ble_eq_true rfl) (Nat.le_of_ble_eq_true rfl) ?_
            exact W.iret (v := v78) hx hb hr (fun t ht hW => ⟨⟨_, (G3, w79), rfl, ⟨hX, ⟨Or.inl ⟨⟨⟨vb3, b19⟩, (by omega), b42, b50⟩, (by omega)⟩, _, (some x3), _, hM_o, hM_ll_o, Or.inl ⟨⟨⟨vb3, b19⟩, (by omega), b42, b50⟩, (by omega), rfl, _, rfl, hG_x3⟩⟩⟩, by show va_P D vwCl w79 t.heap; rw [ht]; exact hP, hD, hT⟩, hS.F ht⟩) hS.2.2 dX9_list_86
          · skip
            have b50 := bo_t q47 c50
            refine lv_bipush (v := (-3)) hx hb dX9_list_53 (by decide) ?_
            refine W.widen (k := 4) (n := 502) (Nat.le_of_ble_eq_true rfl) (Nat.le_of_ble_eq_true rfl) ?_
            exact W.iret (v := ((-3) : Int32)) hx hb hr (fun t ht hW => ⟨⟨_, (G3, w3), rfl, ⟨hX, ⟨lsA_3 ⟨vb3, b19⟩ (by omega) (by first | exact Or.inr b50 | exact Or.inl b42), _, lb_o, _, hM_o, hM_ll_o, Or.inr ⟨lsG_3 (by first | exact Or.inr b50 | exact Or.inl b42), rfl, rfl, rfl⟩⟩⟩, by show va_P D vwCl w3 t.heap; rw [ht]; exact hP, hD, hT⟩, hS.F ht⟩) hS.2.2 dX9_list_55
      · skip
        have d30 := c30
        rw [fa_lt] at d30
        refine lv_bipush (v := (-2)) hx hb dX9_list_33 (by decide) ?_
        refine W.widen (k := 4) (n := 502) (Nat.le_of_ble_eq_true rfl) (Nat.le_of_ble_eq_true rfl) ?_
        exact W.iret (v := ((-2) : Int32)) hx hb hr (fun t ht hW => ⟨⟨_, (G3, w3), rfl, ⟨hX, ⟨lsA_2 ⟨vb3, b19⟩ (by omega), _, lb_o, _, hM_o, hM_ll_o, Or.inr ⟨lsG_2 (by omega), rfl, rfl, rfl⟩⟩⟩, by show va_P D vwCl w3 t.heap; rw [ht]; exact hP, hD, hT⟩, hS.F ht⟩) hS.2.2 dX9_list_35
    · skip
      have b19 := bo_f q16 c19
      refine lv_iconst (v := (-1)) hx hb dX9_list_22 (by decide) ?_
      refine W.widen (k := 4) (n := 502) (Nat.le_of_ble_eq_true rfl) (Nat.le_of_ble_eq_true rfl) ?_
      exact W.iret (v := ((-1) : Int32)) hx hb hr (fun t ht hW => ⟨⟨_, (G3, w3), rfl, ⟨hX, ⟨lsA_1 (fun z9 => by first | exact vn3 z9.1 | exact b19 z9.2), _, lb_o, _, hM_o, hM_ll_o, Or.inr ⟨lsG_1 (fun z9 => by first | exact vn3 z9.1 | exact b19 z9.2), rfl, rfl, rfl⟩⟩⟩, by show va_P D vwCl w3 t.heap; rw [ht]; exact hP, hD, hT⟩, hS.F ht⟩) hS.2.2 dX9_list_23
set_option maxHeartbeats 4000000 in
set_option maxRecDepth 100000 in
theorem c_X9_clear_x (l : Launch) (D : va_G) (cy : Nat → ClassId) (A : Nat → Prop) (G : cG) (ws : va_W) (o : Nat) {bs_o js_o sh_o wk_o ll_o : Nat} {jc_o lc_o : Int32} {mo_o lb_o : Option Nat} (hD : va_D A ws) (hT : cT cy G ws) (hG_o : G o = some (7, 0, 0)) (hM_o : cIn ws o (.inr (8, [.ref bs_o, .ref js_o, .int jc_o, .ref sh_o, .ref wk_o, va_rf mo_o, .ref ll_o, .int lc_o, va_rf lb_o])))  : Ci l D cy A yX9_clear wsX9_clear ({ frames := 0, cells := 0, slots := 0, locals := 0 }) 0 0 ws [.ref o] (fun r0 u => cX none (chs [7]) G ws u.1 u.2 ∧ (r0 = lc_o ∧ cIn u.2 o (.inr (8, [.ref bs_o, .ref js_o, .int jc_o, .ref sh_o, .ref wk_o, va_rf mo_o, .ref ll_o, .int (0 : Int32), va_rf none])))) := by
  refine Met.ofW (cc := cX9_clear) (maxL := 2) (ret := (some .int)) (by decide) rfl ?_
  intro p e s m args below meth c s₁ B hml hv
  obtain ⟨rfl, hP, hK, hA, hV⟩ := hv
  have hx := B.exec
  have hb := B.bytes
  have hr := B.returns
  have hts := atoms_spec (ws := wsX9_clear) B.pre
  have hown : s.vm.findClass RX9 = some m.cls := findClass_of_methodNamed B.named
  have hlocks := B.notSynchronized
  have hS : va_S A s.heap s.heap [] := va_S.rf
  have hX : cX none (chs [7]) G ws G ws := cX.rf
  have hl := lv_entry ([.ref o]) (n := 2) (Nat.le_of_ble_eq_true rfl)
  rw [lg_entry_eq]
  generalize (lg_sl ([.ref o]) ++ List.replicate (2 - (lg_sl ([.ref o])).length) Slot.unset).toArray = ls at hl ⊢
  have hl : lv_has ls 2 [(0, .ref o)] := hl
  have k_0 : (0 : Int32).toInt = 0 := by decide
  obtain ⟨hjc_o, hlc_o, hG_bs_o, hG_js_o, hG_sh_o, hG_wk_o, hmo_o, hG_ll_o, hlb_o⟩ := w7sh hD hT hG_o hM_o
  refine lv_aload_n hx hb dX9_clear_0 rfl (lv_at hl 0 rfl) ?_
  refine t_get (v := .int lc_o) (C := RX9) (T := TX9) (N := 9) hx hb hts (by decide +kernel) hown hK hP hM_o rfl 7 (by decide) (hts (.fieldLink RX9 46 "ShadowBench" "listCount" "I") (by decide +kernel)) (fun _ h9 => h9) rfl dX9_clear_1 ?_
  refine lv_istore_n (lv' := [(1, .int lc_o), (0, .ref o)]) hx hb dX9_clear_4 rfl hl (by decide) rfl (fun ls hl => ?_)
  refine lv_aload_n hx hb dX9_clear_5 rfl (lv_at hl 1 rfl) ?_
  refine lv_iconst (v := 0) hx hb dX9_clear_6 (by decide) ?_
  refine t_put (v := .int (0 : Int32)) (C := RX9) (T := TX9) (N := 9) (ty0 := tyX9) hx hb hts (by decide +kernel) tyX9_ok nmX9 hown hK hP hD hS hM_o rfl 7 (by decide) (hts (.fieldLink RX9 46 "ShadowBench" "listCount" "I") (by decide +kernel)) (fun _ h9 => h9) rfl rfl rfl (Nat.le_of_ble_eq_true rfl) dX9_clear_7 (fun H locs w7 hU7 hP hD hS => ?_)
  have hT := hT.up hU7 hG_o ⟨_, _, _, _, _, _, _, mo_o, lb_o, rfl, ⟨by omega, by omega⟩, ⟨by omega, by omega⟩, hG_bs_o, hG_js_o, hG_sh_o, hG_wk_o, hmo_o, hG_ll_o, hlb_o⟩
  have hM_o : cIn w7 o (.inr (8, [.ref bs_o, .ref js_o, .int jc_o, .ref sh_o, .ref wk_o, va_rf mo_o, .ref ll_o, .int (0 : Int32), va_rf lb_o])) := hU7.1
  have hX := hX.tr (cX.up hU7 (Or.inr ⟨_, hG_o, rfl⟩))
  refine lv_aload_n hx hb dX9_clear_10 rfl (lv_at hl 1 rfl) ?_
  refine lv_null hx hb dX9_clear_11 ?_
  refine t_put (v := .null) (C := RX9) (T := TX9) (N := 9) (ty0 := tyX9) hx hb hts (by decide +kernel) tyX9_ok nmX9 hown hK hP hD hS hM_o rfl 8 (by decide) (hts (.fieldLink RX9 49 "ShadowBench" "listBoard" "LShadowBench$Board;") (by decide +kernel)) (fun _ h9 => h9) rfl rfl rfl (Nat.le_of_ble_eq_true rfl) dX9_clear_12 (fun H locs w12 hU12 hP hD hS => ?_)
  have hT := hT.up hU12 hG_o ⟨_, _, _, _, _, _, _, mo_o, none, rfl, ⟨by omega, by omega⟩, ⟨by omega, by omega⟩, hG_bs_o, hG_js_o, hG_sh_o, hG_wk_o, hmo_o, hG_ll_o, (fun _ z => nomatch z)⟩
  have hM_o : cIn w12 o (.inr (8, [.ref bs_o, .ref js_o, .int jc_o, .ref sh_o, .ref wk_o, va_rf mo_o, .ref ll_o, .int (0 : Int32), .null])) := hU12.1
  have hX := hX.tr (cX.up hU12 (Or.inr ⟨_, hG_o, rfl⟩))
  refine lv_iload_n hx hb dX9_clear_15 rfl (lv_at hl 0 rfl) ?_
  exact W.iret (v := lc_o) hx hb hr (fun t ht hW => ⟨⟨_, (G, w12), rfl, ⟨hX, ⟨rfl, hM_o⟩⟩, by show va_P D vwCl w12 t.heap; rw [ht]; exact hP, hD, hT⟩, hS.F ht⟩) hS.2.2 dX9_clear_16
set_option maxHeartbeats 4000000 in
set_option maxRecDepth 100000 in
theorem c_X9_job_k (l : Launch) (D : va_G) (cy : Nat → ClassId) (A : Nat → Prop) (G : cG) (ws : va_W) (o : Nat) (kind : Int32) (wide : Int32) (high : Int32) {bs_o js_o sh_o wk_o ll_o : Nat} {jc_o lc_o : Int32} {mo_o lb_o : Option Nat} (hD : va_D A ws) (hT : cT cy G ws) (hG_o : G o = some (7, 0, 0)) (hM_o : cIn ws o (.inr (8, [.ref bs_o, .ref js_o, .int jc_o, .ref sh_o, .ref wk_o, va_rf mo_o, .ref ll_o, .int lc_o, va_rf lb_o])))  : Ci l D cy A yX9_job wsX9_job ({ frames := 6, cells := 7, slots := 588, locals := 124 }) 7 588 ws [.ref o, .int kind, .int wide, .int high] (fun r0 u => cX none (chs [1, 7, 8, 9]) G ws u.1 u.2 ∧ (∃ jc, cIn u.2 o (.inr (8, [.ref bs_o, .ref js_o, .int jc, .ref sh_o, .ref wk_o, va_rf mo_o, .ref ll_o, .int lc_o, va_rf lb_o])))) := by
  refine Met.ofW (cc := cX9_job) (maxL := 5) (ret := (some .int)) (by decide) rfl ?_
  intro p e s m args below meth c s₁ B hml hv
  obtain ⟨rfl, hP, hK, hA, hV⟩ := hv
  have hx := B.exec
  have hb := B.bytes
  have hr := B.returns
  have hts := atoms_spec (ws := wsX9_job) B.pre
  have hown : s.vm.findClass RX9 = some m.cls := findClass_of_methodNamed B.named
  have hlocks := B.notSynchronized
  have hS : va_S A s.heap s.heap [] := va_S.rf
  have hX : cX none (chs [1, 7, 8, 9]) G ws G ws := cX.rf
  have hl := lv_entry ([.ref o, .int kind, .int wide, .int high]) (n := 5) (Nat.le_of_ble_eq_true rfl)
  rw [lg_entry_eq]
  generalize (lg_sl ([.ref o, .int kind, .int wide, .int high]) ++ List.replicate (5 - (lg_sl ([.ref o, .int kind, .int wide, .int high])).length) Slot.unset).toArray = ls at hl ⊢
  have hl : lv_has ls 5 [(0, .ref o), (1, .int kind), (2, .int wide), (3, .int high)] := hl
  have k_m2 : (-2 : Int32).toInt = -2 := by decide
  have k_m1 : (-1 : Int32).toInt = -1 := by decide
  have k_0 : (0 : Int32).toInt = 0 := by decide
  have k_1 : (1 : Int32).toInt = 1 := by decide
  have k_3 : (3 : Int32).toInt = 3 := by decide
  have k_8 : (8 : Int32).toInt = 8 := by decide
  obtain ⟨hjc_o, hlc_o, hG_bs_o, hG_js_o, hG_sh_o, hG_wk_o, hmo_o, hG_ll_o, hlb_o⟩ := w7sh hD hT hG_o hM_o
  refine lv_aload_n hx hb dX9_job_0 rfl (lv_at hl 0 rfl) ?_
  refine lv_iload_n hx hb dX9_job_1 rfl (lv_at hl 2 rfl) ?_
  refine lv_iload_n hx hb dX9_job_2 rfl (lv_at hl 3 rfl) ?_
  refine t_calla (va_runV (g := F0 m 3 ls ([.int high, .int wide, .ref o])) (As := [.int wide, .int high]) (rest := []) ⟨hx, hb, hml, hown, hts⟩ (c_X9_boardOf_x l D cy A G ws o wide high hD hT hG_o ) (cwV 2 hts gX9_job_X9_boardOf rfl rfl rfl (by decide +kernel) ⟨Nat.le_of_ble_eq_true rfl, Nat.le_of_ble_eq_true rfl⟩) (c_preV hM_o rfl hP hK hA hS hV) rfl rfl hl.1 rfl (lv_room (Nat.le_of_ble_eq_true rfl)) dX9_job_3 ⟨Nat.le_of_ble_eq_true rfl, Nat.le_of_ble_eq_true rfl⟩) hS (fun r3 u H locs q3 hP9 hD9 hT9 hS => ?_)
  obtain ⟨G3, w3⟩ := u
  obtain ⟨hX9, q3⟩ := q3
  have hX9 : cX none (chs [1, 8]) G ws G3 w3 := hX9
  have hP : va_P D vwCl w3 H := hP9
  have hD : va_D A w3 := hD9
  have hT : cT cy G3 w3 := hT9
  have hM_o := hX9.2.1 _ _ (cP.no hG_o rfl) hM_o
  have hG_o := hX9.1 _ _ hG_o
  have hG_bs_o := hX9.1 _ _ hG_bs_o
  have hG_js_o := hX9.1 _ _ hG_js_o
  have hG_sh_o := hX9.1 _ _ hG_sh_o
  have hG_wk_o := hX9.1 _ _ hG_wk_o
  have hG_ll_o := hX9.1 _ _ hG_ll_o
  have hmo_o := fun x9 z9 => hX9.1 _ _ (hmo_o x9 z9)
  have hlb_o : ∀ x9, lb_o = some x9 → ∃ w9 h9, _ = some (2, w9, h9) := fun x9 z9 => (hlb_o x9 z9).elim fun w9 z9 => z9.elim fun h9 z9 => ⟨w9, h9, hX9.1 _ _ z9⟩
  have hX := hX.tr (hX9.wk (chs_sub (by decide)))
  rcases r3 with _ | x3
  · skip
    have vn3 := q3.2.1 rfl
    refine lv_astoreN (lv' := [(4, .null), (0, .ref o), (1, .int kind), (2, .int wide), (3, .int high)]) hx hb dX9_job_6 hl (by decide) rfl (fun ls hl => ?_)
    refine lv_aloadN hx hb dX9_job_8 (lv_at hl 0 rfl) ?_
    refine lv_ifnullN (tgt := 22) hx hb dX9_job_10 (by decide) ?_
    refine lv_iconst (v := (-1)) hx hb dX9_job_22 (by decide) ?_
    refine W.widen (k := 7) (n := 588) (Nat.le_of_ble_eq_true rfl) (Nat.le_of_ble_eq_true rfl) ?_
    exact W.iret (v := ((-1) : Int32)) hx hb hr (fun t ht hW => ⟨⟨_, (G3, w3), rfl, ⟨hX, ⟨_, hM_o⟩⟩, by show va_P D vwCl w3 t.heap; rw [ht]; exact hP, hD, hT⟩, hS.F ht⟩) hS.2.2 dX9_job_23
  · skip
    have hG_x3 := q3.1 x3 rfl
    have vb3 := q3.2.2 x3 rfl
    refine lv_astore (lv' := [(4, .ref x3), (0, .ref o), (1, .int kind), (2, .int wide), (3, .int high)]) hx hb dX9_job_6 hl (by decide) rfl (fun ls hl => ?_)
    refine lv_aload hx hb dX9_job_8 (lv_at hl 0 rfl) ?_
    refine lv_ifnull hx hb dX9_job_10 ?_
    refine lv_iload_n hx hb dX9_job_13 rfl (lv_at hl 2 rfl) ?_
    refine lv_if_lt (tgt := 22) hx hb dX9_job_14 (by decide) (fun c14 => ?_) (fun c14 => ?_)
    · skip
      have d14 := c14
      rw [fa_lt] at d14
      refine lv_iconst (v := (-1)) hx hb dX9_job_22 (by decide) ?_
      refine W.widen (k := 7) (n := 588) (Nat.le_of_ble_eq_true rfl) (Nat.le_of_ble_eq_true rfl) ?_
      exact W.iret (v := ((-1) : Int32)) hx hb hr (fun t ht hW => ⟨⟨_, (G3, w3), rfl, ⟨hX, ⟨_, hM_o⟩⟩, by show va_P D vwCl w3 t.heap; rw [ht]; exact hP, hD, hT⟩, hS.F ht⟩) hS.2.2 dX9_job_23
    · skip
      have d14 := c14
      rw [fa_lt] at d14
      refine lv_iload_n hx hb dX9_job_17 rfl (lv_at hl 2 rfl) ?_
      refine lv_iconst (v := 3) hx hb dX9_job_18 (by decide) ?_
      refine lv_icmp_le (tgt := 24) hx hb dX9_job_19 (by decide) (fun c19 => ?_) (fun c19 => ?_)
      · skip
        have d19 := c19
        rw [fa_le] at d19
        refine lv_aload_n hx hb dX9_job_24 rfl (lv_at hl 1 rfl) ?_
        refine t_get (v := .int jc_o) (C := RX9) (T := TX9) (N := 9) hx hb hts (by decide +kernel) hown hK hP hM_o rfl 2 (by decide) (hts (.fieldLink RX9 21 "ShadowBench" "jobCount" "I") (by decide +kernel)) (fun _ h9 => h9) rfl dX9_job_25 ?_
        refine lv_bipush (v := 8) hx hb dX9_job_28 (by decide) ?_
        refine lv_icmp_lt (tgt := 36) hx hb dX9_job_30 (by decide) (fun c30 => ?_) (fun c30 => ?_)
        · skip
          have d30 := c30
          rw [fa_lt] at d30
          refine lv_aload_n hx hb dX9_job_36 rfl (lv_at hl 1 rfl) ?_
          refine t_get (v := .ref js_o) (C := RX9) (T := TX9) (N := 9) hx hb hts (by decide +kernel) hown hK hP hM_o rfl 1 (by decide) (hts (.fieldLink RX9 17 "ShadowBench" "jobs" "[LShadowBench$Job;") (by decide +kernel)) (fun _ h9 => h9) rfl dX9_job_37 ?_
          refine lv_aload_n hx hb dX9_job_40 rfl (lv_at hl 1 rfl) ?_
          refine t_get (v := .int jc_o) (C := RX9) (T := TX9) (N := 9) hx hb hts (by decide +kernel) hown hK hP hM_o rfl 2 (by decide) (hts (.fieldLink RX9 21 "ShadowBench" "jobCount" "I") (by decide +kernel)) (fun _ h9 => h9) rfl dX9_job_41 ?_
          refine lv_iload_n hx hb dX9_job_44 rfl (lv_at hl 2 rfl) ?_
          refine lv_aload hx hb dX9_job_45 (lv_at hl 0 rfl) ?_
          refine t_calla (va_runS (g := F0 m 47 ls ([.ref x3, .int kind, .int jc_o, .ref js_o])) (As := [.int kind, .ref x3]) (rest := [.int jc_o, .ref js_o]) ⟨hx, hb, hml, hown, hts⟩ (c_X9_newJob l D cy A G3 w3 kind x3 hD hT hG_x3 ) (va_cwS 2 hts gX9_job_X9_newJob rfl rfl rfl (by decide +kernel) ⟨Nat.le_of_ble_eq_true rfl, Nat.le_of_ble_eq_true rfl⟩) (c_preS hP hK hA hS hV) rfl rfl hl.1 rfl (lv_room (Nat.le_of_ble_eq_true rfl)) dX9_job_47 ⟨Nat.le_of_ble_eq_true rfl, Nat.le_of_ble_eq_true rfl⟩) hS (fun r47 u H locs q47 hP9 hD9 hT9 hS => ?_)
          obtain ⟨G47, w47⟩ := u
          obtain ⟨hX9, q47⟩ := q47
          have hX9 : cX none (chs []) G3 w3 G47 w47 := hX9
          have hP : va_P D vwCl w47 H := hP9
          have hD : va_D A w47 := hD9
          have hT : cT cy G47 w47 := hT9
          have hM_o := hX9.2.1 _ _ (cP.no hG_o rfl) hM_o
          have hG_o := hX9.1 _ _ hG_o
          have hG_bs_o := hX9.1 _ _ hG_bs_o
          have hG_js_o := hX9.1 _ _ hG_js_o
          have hG_sh_o := hX9.1 _ _ hG_sh_o
          have hG_wk_o := hX9.1 _ _ hG_wk_o
          have hG_ll_o := hX9.1 _ _ hG_ll_o
          have hG_x3 := hX9.1 _ _ hG_x3
          have hmo_o := fun x9 z9 => hX9.1 _ _ (hmo_o x9 z9)
          have hlb_o : ∀ x9, lb_o = some x9 → ∃ w9 h9, _ = some (2, w9, h9) := fun x9 z9 => (hlb_o x9 z9).elim fun w9 z9 => z9.elim fun h9 z9 => ⟨w9, h9, hX9.1 _ _ z9⟩
          have hX := hX.tr (hX9.wk (chs_sub (by decide)))
          obtain ⟨x47, k47, n47, rfl, hG_x47⟩ := q47
          refine t_aast9 hx hb hV hK hP hD hS hT hG_js_o hG_x47 (vp_in_iff.mpr ⟨by omega, by omega⟩) dX9_job_50 (fun H locs w50 hU50 hP hD hT hS => ?_)
          have hM_o := hU50 _ _ (cne hG_o hG_js_o (show (7 : Nat) ≠ 9 by decide)) hM_o
          have hX := hX.tr (cX.uF hU50 (Or.inr ⟨_, hG_js_o, rfl⟩))
          refine lv_aload_n hx hb dX9_job_51 rfl (lv_at hl 1 rfl) ?_
          refine lv_dup hx hb dX9_job_52 rfl ?_
          refine t_get (v := .int jc_o) (C := RX9) (T := TX9) (N := 9) hx hb hts (by decide +kernel) hown hK hP hM_o rfl 2 (by decide) (hts (.fieldLink RX9 21 "ShadowBench" "jobCount" "I") (by decide +kernel)) (fun _ h9 => h9) rfl dX9_job_53 ?_
          refine lv_iconst (v := 1) hx hb dX9_job_56 (by decide) ?_
          refine lv_iadd hx hb dX9_job_57 ?_
          refine lv_topi (fun v57 e57 => ?_)
          have i57 : v57.toInt = jc_o.toInt + (1 : Int32).toInt := by rw [e57]; exact fb_addI (by omega) (by omega)
          refine t_put (v := .int v57) (C := RX9) (T := TX9) (N := 9) (ty0 := tyX9) hx hb hts (by decide +kernel) tyX9_ok nmX9 hown hK hP hD hS hM_o rfl 2 (by decide) (hts (.fieldLink RX9 21 "ShadowBench" "jobCount" "I") (by decide +kernel)) (fun _ h9 => h9) rfl rfl rfl (Nat.le_of_ble_eq_true rfl) dX9_job_58 (fun H locs w58 hU58 hP hD hS => ?_)
          have hT := hT.up hU58 hG_o ⟨_, _, _, _, _, _, _, mo_o, lb_o, rfl, ⟨by omega, by omega⟩, ⟨by omega, by omega⟩, hG_bs_o, hG_js_o, hG_sh_o, hG_wk_o, hmo_o, hG_ll_o, hlb_o⟩
          have hM_o : cIn w58 o (.inr (8, [.ref bs_o, .ref js_o, .int v57, .ref sh_o, .ref wk_o, va_rf mo_o, .ref ll_o, .int lc_o, va_rf lb_o])) := hU58.1
          have hX := hX.tr (cX.up hU58 (Or.inr ⟨_, hG_o, rfl⟩))
          refine lv_aload_n hx hb dX9_job_61 rfl (lv_at hl 1 rfl) ?_
          refine t_get (v := .int v57) (C := RX9) (T := TX9) (N := 9) hx hb hts (by decide +kernel) hown hK hP hM_o rfl 2 (by decide) (hts (.fieldLink RX9 21 "ShadowBench" "jobCount" "I") (by decide +kernel)) (fun _ h9 => h9) rfl dX9_job_62 ?_
          refine lv_iconst (v := 1) hx hb dX9_job_65 (by decide) ?_
          refine lv_isub hx hb dX9_job_66 ?_
          refine lv_topi (fun v66 e66 => ?_)
          have i66 : v66.toInt = v57.toInt - (1 : Int32).toInt := by rw [e66]; exact fb_subI (by omega) (by omega)
          refine W.widen (k := 7) (n := 588) (Nat.le_of_ble_eq_true rfl) (Nat.le_of_ble_eq_true rfl) ?_
          exact W.iret (v := v66) hx hb hr (fun t ht hW => ⟨⟨_, (G47, w58), rfl, ⟨hX, ⟨_, hM_o⟩⟩, by show va_P D vwCl w58 t.heap; rw [ht]; exact hP, hD, hT⟩, hS.F ht⟩) hS.2.2 dX9_job_67
        · skip
          have d30 := c30
          rw [fa_lt] at d30
          refine lv_bipush (v := (-2)) hx hb dX9_job_33 (by decide) ?_
          refine W.widen (k := 7) (n := 588) (Nat.le_of_ble_eq_true rfl) (Nat.le_of_ble_eq_true rfl) ?_
          exact W.iret (v := ((-2) : Int32)) hx hb hr (fun t ht hW => ⟨⟨_, (G3, w3), rfl, ⟨hX, ⟨_, hM_o⟩⟩, by show va_P D vwCl w3 t.heap; rw [ht]; exact hP, hD, hT⟩, hS.F ht⟩) hS.2.2 dX9_job_35
      · skip
        have d19 := c19
        rw [fa_le] at d19
        refine lv_iconst (v := (-1)) hx hb dX9_job_22 (by decide) ?_
        refine W.widen (k := 7) (n := 588) (Nat.le_of_ble_eq_true rfl) (Nat.le_of_ble_eq_true rfl) ?_
        exact W.iret (v := ((-1) : Int32)) hx hb hr (fun t ht hW => ⟨⟨_, (G3, w3), rfl, ⟨hX, ⟨_, hM_o⟩⟩, by show va_P D vwCl w3 t.heap; rw [ht]; exact hP, hD, hT⟩, hS.F ht⟩) hS.2.2 dX9_job_23
set_option maxHeartbeats 4000000 in
set_option maxRecDepth 100000 in
theorem c_X9_tellsListApart_x (l : Launch) (D : va_G) (cy : Nat → ClassId) (A : Nat → Prop) (G : cG) (ws : va_W) (o : Nat) (set : Int32) {bs_o js_o sh_o wk_o ll_o : Nat} {jc_o lc_o : Int32} {mo_o lb_o : Option Nat} {fl : Nat → Int64} {lw lh : Nat} (hD : va_D A ws) (hT : cT cy G ws) (hG_o : G o = some (7, 0, 0)) (hM_o : cIn ws o (.inr (8, [.ref bs_o, .ref js_o, .int jc_o, .ref sh_o, .ref wk_o, va_rf mo_o, .ref ll_o, .int lc_o, va_rf lb_o]))) (hM_ll_o : cIn ws ll_o (.inl (cy 1, 12, .inr (.inl fl)))) (hlb9 : lsB G lb_o lc_o lw lh) : Ci l D cy A yX9_tellsListApart wsX9_tellsListApart ({ frames := 4, cells := 0, slots := 0, locals := 98 }) 0 0 ws [.ref o, .int set] (fun r0 u => u = (G, ws) ∧ (Bo r0 (telA fl lc_o lw lh set))) := by
  refine Met.ofW (cc := cX9_tellsListApart) (maxL := 4) (ret := (some .boolean)) (by decide) rfl ?_
  intro p e s m args below meth c s₁ B hml hv
  obtain ⟨rfl, hP, hK, hA, hV⟩ := hv
  have hx := B.exec
  have hb := B.bytes
  have hr := B.returns
  have hts := atoms_spec (ws := wsX9_tellsListApart) B.pre
  have hown : s.vm.findClass RX9 = some m.cls := findClass_of_methodNamed B.named
  have hlocks := B.notSynchronized
  have hS : va_S A s.heap s.heap [] := va_S.rf
  have hl := lv_entry ([.ref o, .int set]) (n := 4) (Nat.le_of_ble_eq_true rfl)
  rw [lg_entry_eq]
  generalize (lg_sl ([.ref o, .int set]) ++ List.replicate (4 - (lg_sl ([.ref o, .int set])).length) Slot.unset).toArray = ls at hl ⊢
  have hl : lv_has ls 4 [(0, .ref o), (1, .int set)] := hl
  have k_0 : (0 : Int32).toInt = 0 := by decide
  have k_1 : (1 : Int32).toInt = 1 := by decide
  have k_12 : (12 : Int32).toInt = 12 := by decide
  obtain ⟨hjc_o, hlc_o, hG_bs_o, hG_js_o, hG_sh_o, hG_wk_o, hmo_o, hG_ll_o, hlb_o⟩ := w7sh hD hT hG_o hM_o
  refine lv_iconst (v := 1) hx hb dX9_tellsListApart_0 (by decide) ?_
  refine lv_istore_n (lv' := [(2, .int (1 : Int32)), (0, .ref o), (1, .int set)]) hx hb dX9_tellsListApart_1 rfl hl (by decide) rfl (fun ls hl => ?_)
  have loop_2 : ∀ (n : Nat) (k : Nat), (1 ≤ k ∧ k ≤ 12) → (∀ a b : Nat, a < k → b < a → ∃ j, j < 4 ∧ unl lw lh (fl a) (fl b) set j) → 12 - k < n → ∀ (H : Heap) (locs : List Loc), va_P D vwCl ws H → va_S A s.heap H locs → ∀ (ls : Array Slot), lv_has ls 4 [(2, .int (nI k)), (0, .ref o), (1, .int set)] → W p l e (headSpec wsX9_tellsListApart ({ frames := 4, cells := 0, slots := 0, locals := 98 })).room s m #[Value.ref o, Value.int set] below meth c H locs 0 0 (MQ below (va_Qi (fun r0 u => u = (G, ws) ∧ (Bo r0 (telA fl lc_o lw lh set))) (cB D cy A) A) #[Value.ref o, Value.int set] s 0 0 A) (F0 m 2 ls []) := by
    intro n
    induction n with
    | zero => intro k j2_0 j2_1 hn; exact absurd hn (Nat.not_lt_zero _)
    | succ n ih_2 =>
      intro k j2_0 j2_1 hn_2 H locs hP hS  ls hl
      have ik : (nI k).toInt = (k : Int) := nI_toInt (by omega)
      refine lv_iload_n hx hb dX9_tellsListApart_2 rfl (lv_at hl 0 rfl) ?_
      refine lv_aload_n hx hb dX9_tellsListApart_3 rfl (lv_at hl 1 rfl) ?_
      refine t_get (v := .int lc_o) (C := RX9) (T := TX9) (N := 9) hx hb hts (by decide +kernel) hown hK hP hM_o rfl 7 (by decide) (hts (.fieldLink RX9 46 "ShadowBench" "listCount" "I") (by decide +kernel)) (fun _ h9 => h9) rfl dX9_tellsListApart_4 ?_
      refine lv_icmp_ge (tgt := 67) hx hb dX9_tellsListApart_7 (by decide) (fun c7 => ?_) (fun c7 => ?_)
      · skip
        have d7 := c7
        rw [fa_le] at d7
        refine lv_iconst (v := 1) hx hb dX9_tellsListApart_67 (by decide) ?_
        exact W.zret (v := (1 : Int32)) hx hb hr (by decide) (fun t ht hW => ⟨⟨_, (G, ws), rfl, ⟨rfl, Or.inl ⟨rfl, (fun a9 b9 h9 h8 => j2_1 a9 b9 (by omega) h8)⟩⟩, by show va_P D vwCl ws t.heap; rw [ht]; exact hP, hD, hT⟩, hS.F ht⟩) hS.2.2 dX9_tellsListApart_68
      · skip
        have d7 := c7
        rw [fa_le] at d7
        refine lv_iload_n hx hb dX9_tellsListApart_10 rfl (lv_at hl 0 rfl) ?_
        refine lv_bipush (v := 12) hx hb dX9_tellsListApart_11 (by decide) ?_
        refine lv_icmp_ge (tgt := 67) hx hb dX9_tellsListApart_13 (by decide) (fun c13 => ?_) (fun c13 => ?_)
        · skip
          have d13 := c13
          rw [fa_le] at d13
          refine lv_iconst (v := 1) hx hb dX9_tellsListApart_67 (by decide) ?_
          exact W.zret (v := (1 : Int32)) hx hb hr (by decide) (fun t ht hW => ⟨⟨_, (G, ws), rfl, ⟨rfl, Or.inl ⟨rfl, (fun a9 b9 h9 h8 => j2_1 a9 b9 (by omega) h8)⟩⟩, by show va_P D vwCl ws t.heap; rw [ht]; exact hP, hD, hT⟩, hS.F ht⟩) hS.2.2 dX9_tellsListApart_68
        · skip
          have d13 := c13
          rw [fa_le] at d13
          refine lv_iconst (v := 0) hx hb dX9_tellsListApart_16 (by decide) ?_
          refine lv_istore_n (lv' := [(3, .int (0 : Int32)), (2, .int (nI k)), (0, .ref o), (1, .int set)]) hx hb dX9_tellsListApart_17 rfl hl (by decide) rfl (fun ls hl => ?_)
          have loop_18 : ∀ (n : Nat) (i : Nat), (i ≤ 12) → (∀ b : Nat, b < i → ∃ j, j < 4 ∧ unl lw lh (fl k) (fl b) set j) → 12 - i < n → ∀ (H : Heap) (locs : List Loc), va_P D vwCl ws H → va_S A s.heap H locs → ∀ (ls : Array Slot), lv_has ls 4 [(3, .int (nI i)), (2, .int (nI k)), (0, .ref o), (1, .int set)] → W p l e (headSpec wsX9_tellsListApart ({ frames := 4, cells := 0, slots := 0, locals := 98 })).room s m #[Value.ref o, Value.int set] below meth c H locs 0 0 (MQ below (va_Qi (fun r0 u => u = (G, ws) ∧ (Bo r0 (telA fl lc_o lw lh set))) (cB D cy A) A) #[Value.ref o, Value.int set] s 0 0 A) (F0 m 18 ls []) := by
            intro n
            induction n with
            | zero => intro i j18_0 j18_1 hn; exact absurd hn (Nat.not_lt_zero _)
            | succ n ih_18 =>
              intro i j18_0 j18_1 hn_18 H locs hP hS  ls hl
              have ii : (nI i).toInt = (i : Int) := nI_toInt (by omega)
              refine lv_iload_n hx hb dX9_tellsListApart_18 rfl (lv_at hl 0 rfl) ?_
              refine lv_iload_n hx hb dX9_tellsListApart_19 rfl (lv_at hl 1 rfl) ?_
              refine lv_icmp_ge (tgt := 61) hx hb dX9_tellsListApart_20 (by decide) (fun c20 => ?_) (fun c20 => ?_)
              · skip
                have d20 := c20
                rw [fa_le] at d20
                refine lv_iinc (v := (nI (k + 1))) (lv' := [(2, .int (nI (k + 1))), (3, .int (nI i)), (0, .ref o), (1, .int set)]) hx hb dX9_tellsListApart_61 hl (k := 1) rfl (nI_1 _) (by decide) rfl (fun ls hl => ?_)
                refine lv_goto (tgt := 2) hx hb dX9_tellsListApart_64 (by decide) ?_
                exact ih_2 (k + 1) (by omega) (fun a b h1 h2 => by
            by_cases e9 : a = k
            · rw [e9] at h2 ⊢; exact j18_1 b (by omega)
            · exact j2_1 a b (by omega) h2) (by omega) _ _ hP hS  ls (lv_sub hl [0, 2, 3] rfl)
              · skip
                have d20 := c20
                rw [fa_le] at d20
                refine lv_aload_n hx hb dX9_tellsListApart_23 rfl (lv_at hl 2 rfl) ?_
                have hoq : lb_o = none ∨ ∃ x, lb_o = some x := by cases lb_o; exact Or.inl rfl; exact Or.inr ⟨_, rfl⟩
                rcases hoq with hopt | ⟨x24, hopt⟩
                · skip
                  rw [hopt] at hM_o
                  have hM_o : cIn ws o (.inr (8, [.ref bs_o, .ref js_o, .int jc_o, .ref sh_o, .ref wk_o, va_rf mo_o, .ref ll_o, .int lc_o, .null])) := hM_o
                  have hl0 := hlb9.nil hopt
                  refine t_get (v := .null) (C := RX9) (T := TX9) (N := 9) hx hb hts (by decide +kernel) hown hK hP hM_o rfl 8 (by decide) (hts (.fieldLink RX9 49 "ShadowBench" "listBoard" "LShadowBench$Board;") (by decide +kernel)) (fun _ h9 => h9) rfl dX9_tellsListApart_24 ?_
                  refine lv_ifnullN (tgt := 53) hx hb dX9_tellsListApart_27 (by decide) ?_
                  refine lv_iconst (v := 0) hx hb dX9_tellsListApart_53 (by decide) ?_
                  exact W.zret (v := (0 : Int32)) hx hb hr (by decide) (fun t ht hW => ⟨⟨_, (G, ws), rfl, ⟨rfl, Or.inr ⟨rfl, (fun z9 => by first | (exfalso; omega) | (obtain ⟨j9, h9, y9⟩ := z9 k i (by omega) (by omega); rcases q47 with ⟨k8, h8, e8, -, -⟩ | ⟨e8, y8⟩; (have z8 : (nI k8).toInt = (k8 : Int) := nI_toInt (by omega)); (rw [e8] at d50; omega); exact y8 j9 h9 y9))⟩⟩, by show va_P D vwCl ws t.heap; rw [ht]; exact hP, hD, hT⟩, hS.F ht⟩) hS.2.2 dX9_tellsListApart_54
                · skip
                  obtain ⟨wx24, hx24, hG_x24⟩ := hlb_o x24 hopt
                  rw [hopt] at hM_o
                  have hM_o : cIn ws o (.inr (8, [.ref bs_o, .ref js_o, .int jc_o, .ref sh_o, .ref wk_o, va_rf mo_o, .ref ll_o, .int lc_o, .ref x24])) := hM_o
                  have hl1 := hlb9.one hopt hG_x24
                  refine t_get (v := .ref x24) (C := RX9) (T := TX9) (N := 9) hx hb hts (by decide +kernel) hown hK hP hM_o rfl 8 (by decide) (hts (.fieldLink RX9 49 "ShadowBench" "listBoard" "LShadowBench$Board;") (by decide +kernel)) (fun _ h9 => h9) rfl dX9_tellsListApart_24 ?_
                  refine lv_ifnull hx hb dX9_tellsListApart_27 ?_
                  refine lv_aload_n hx hb dX9_tellsListApart_30 rfl (lv_at hl 2 rfl) ?_
                  refine t_get (v := .ref x24) (C := RX9) (T := TX9) (N := 9) hx hb hts (by decide +kernel) hown hK hP hM_o rfl 8 (by decide) (hts (.fieldLink RX9 49 "ShadowBench" "listBoard" "LShadowBench$Board;") (by decide +kernel)) (fun _ h9 => h9) rfl dX9_tellsListApart_31 ?_
                  refine lv_aload_n hx hb dX9_tellsListApart_34 rfl (lv_at hl 2 rfl) ?_
                  refine t_get (v := .ref ll_o) (C := RX9) (T := TX9) (N := 9) hx hb hts (by decide +kernel) hown hK hP hM_o rfl 6 (by decide) (hts (.fieldLink RX9 42 "ShadowBench" "listed" "[J") (by decide +kernel)) (fun _ h9 => h9) rfl dX9_tellsListApart_35 ?_
                  refine lv_iload_n hx hb dX9_tellsListApart_38 rfl (lv_at hl 1 rfl) ?_
                  refine t_laldM hx hb hK hP hM_ll_o (vp_in_iff.mpr ⟨by omega, by omega⟩) dX9_tellsListApart_39 ?_
                  refine lv_topl (fun v39 e39 => ?_)
                  have f39 : v39 = fl k := by rw [e39, nI_clamp (by omega)]
                  refine lv_aload_n hx hb dX9_tellsListApart_40 rfl (lv_at hl 2 rfl) ?_
                  refine t_get (v := .ref ll_o) (C := RX9) (T := TX9) (N := 9) hx hb hts (by decide +kernel) hown hK hP hM_o rfl 6 (by decide) (hts (.fieldLink RX9 42 "ShadowBench" "listed" "[J") (by decide +kernel)) (fun _ h9 => h9) rfl dX9_tellsListApart_41 ?_
                  refine lv_iload_n hx hb dX9_tellsListApart_44 rfl (lv_at hl 0 rfl) ?_
                  refine t_laldM hx hb hK hP hM_ll_o (vp_in_iff.mpr ⟨by omega, by omega⟩) dX9_tellsListApart_45 ?_
                  refine lv_topl (fun v45 e45 => ?_)
                  have f45 : v45 = fl i := by rw [e45, nI_clamp (by omega)]
                  refine lv_iload_n hx hb dX9_tellsListApart_46 rfl (lv_at hl 3 rfl) ?_
                  obtain ⟨_, hM_x24, hb_x24, l_x24, f_x24, r_x24, rfl, hG_l_x24, hG_f_x24, hG_r_x24⟩ := hT _ _ hG_x24
                  refine t_calli (va_runV (g := F0 m 47 ls ([.int set, .long v45, .long v39, .ref x24])) (As := [.long v39, .long v45, .int set]) (rest := []) ⟨hx, hb, hml, hown, hts⟩ (c_X0_firstUnlikeWay_x l D cy A G ws x24 v39 v45 set hD hT hG_x24 ) (cwV 3 hts gX9_tellsListApart_X0_firstUnlikeWay rfl rfl rfl (by decide +kernel) ⟨Nat.le_of_ble_eq_true rfl, Nat.le_of_ble_eq_true rfl⟩) (c_preV hM_x24 rfl hP hK hA hS hV) rfl rfl hl.1 rfl (lv_room (Nat.le_of_ble_eq_true rfl)) dX9_tellsListApart_47 ⟨Nat.le_of_ble_eq_true rfl, Nat.le_of_ble_eq_true rfl⟩) hS (fun r47 u H locs q47 hP9 hD9 hT9 hS => ?_)
                  obtain ⟨rfl, q47⟩ := q47
                  have hP : va_P D vwCl ws H := hP9
                  rw [hl1.2.1, hl1.2.2, f39, f45] at q47
                  refine lv_if_ge (tgt := 55) hx hb dX9_tellsListApart_50 (by decide) (fun c50 => ?_) (fun c50 => ?_)
                  · skip
                    have d50 := c50
                    rw [fa_le] at d50
                    refine lv_iinc (v := (nI (i + 1))) (lv' := [(3, .int (nI (i + 1))), (2, .int (nI k)), (0, .ref o), (1, .int set)]) hx hb dX9_tellsListApart_55 hl (k := 0) rfl (nI_1 _) (by decide) rfl (fun ls hl => ?_)
                    refine lv_goto (tgt := 18) hx hb dX9_tellsListApart_58 (by decide) ?_
                    exact ih_18 (i + 1) (by omega) (fun b h1 => by
            by_cases e9 : b = i
            · rw [e9]
              rcases q47 with ⟨k8, h8, e8, y8, -⟩ | ⟨e8, y8⟩
              · exact ⟨k8, h8, y8⟩
              · exfalso
                rw [e8] at d50
                have z8 : (-1 : Int32).toInt = -1 := rfl
                omega
            · exact j18_1 b (by omega)) (by omega) _ _ hP hS  ls (lv_sub hl [0, 1, 2, 3] rfl)
                  · skip
                    have d50 := c50
                    rw [fa_le] at d50
                    refine lv_iconst (v := 0) hx hb dX9_tellsListApart_53 (by decide) ?_
                    exact W.zret (v := (0 : Int32)) hx hb hr (by decide) (fun t ht hW => ⟨⟨_, (G, ws), rfl, ⟨rfl, Or.inr ⟨rfl, (fun z9 => by first | (exfalso; omega) | (obtain ⟨j9, h9, y9⟩ := z9 k i (by omega) (by omega); rcases q47 with ⟨k8, h8, e8, -, -⟩ | ⟨e8, y8⟩; (have z8 : (nI k8).toInt = (k8 : Int) := nI_toInt (by omega)); (rw [e8] at d50; omega); exact y8 j9 h9 y9))⟩⟩, by show va_P D vwCl ws t.heap; rw [ht]; exact hP, hD, hT⟩, hS.F ht⟩) hS.2.2 dX9_tellsListApart_54
          exact loop_18 (12 + 1) 0 (by omega) (fun b h => absurd h (Nat.not_lt_zero _)) (by omega) _ _ hP hS  ls (lv_sub hl [0, 1, 2, 3] rfl)
  exact loop_2 (12 + 1) 1 (by omega) (fun a b h1 h2 => by omega) (by omega) _ _ hP hS  ls (lv_sub hl [0, 1, 2] rfl)
set_option maxHeartbeats 4000000 in
set_option maxRecDepth 100000 in
theorem c_X9_ways_x (l : Launch) (D : va_G) (cy : Nat → ClassId) (A : Nat → Prop) (G : cG) (ws : va_W) (o : Nat) {bs_o js_o sh_o wk_o ll_o : Nat} {jc_o lc_o : Int32} {mo_o lb_o : Option Nat} {fl : Nat → Int64} {lw lh : Nat} (hD : va_D A ws) (hT : cT cy G ws) (hG_o : G o = some (7, 0, 0)) (hM_o : cIn ws o (.inr (8, [.ref bs_o, .ref js_o, .int jc_o, .ref sh_o, .ref wk_o, va_rf mo_o, .ref ll_o, .int lc_o, va_rf lb_o]))) (hM_ll_o : cIn ws ll_o (.inl (cy 1, 12, .inr (.inl fl)))) (hlb9 : lsB G lb_o lc_o lw lh) : Ci l D cy A yX9_ways wsX9_ways ({ frames := 5, cells := 0, slots := 0, locals := 121 }) 0 0 ws [.ref o] (fun r0 u => u = (G, ws) ∧ (wyA (fun s => telA fl lc_o lw lh (nI s)) r0)) := by
  refine Met.ofW (cc := cX9_ways) (maxL := 3) (ret := (some .int)) (by decide) rfl ?_
  intro p e s m args below meth c s₁ B hml hv
  obtain ⟨rfl, hP, hK, hA, hV⟩ := hv
  have hx := B.exec
  have hb := B.bytes
  have hr := B.returns
  have hts := atoms_spec (ws := wsX9_ways) B.pre
  have hown : s.vm.findClass RX9 = some m.cls := findClass_of_methodNamed B.named
  have hlocks := B.notSynchronized
  have hS : va_S A s.heap s.heap [] := va_S.rf
  have hl := lv_entry ([.ref o]) (n := 3) (Nat.le_of_ble_eq_true rfl)
  rw [lg_entry_eq]
  generalize (lg_sl ([.ref o]) ++ List.replicate (3 - (lg_sl ([.ref o])).length) Slot.unset).toArray = ls at hl ⊢
  have hl : lv_has ls 3 [(0, .ref o)] := hl
  have k_m2 : (-2 : Int32).toInt = -2 := by decide
  have k_0 : (0 : Int32).toInt = 0 := by decide
  have k_4 : (4 : Int32).toInt = 4 := by decide
  have k_16 : (16 : Int32).toInt = 16 := by decide
  obtain ⟨hjc_o, hlc_o, hG_bs_o, hG_js_o, hG_sh_o, hG_wk_o, hmo_o, hG_ll_o, hlb_o⟩ := w7sh hD hT hG_o hM_o
  refine lv_iconst (v := 0) hx hb dX9_ways_0 (by decide) ?_
  refine lv_istore_n (lv' := [(1, .int (0 : Int32)), (0, .ref o)]) hx hb dX9_ways_1 rfl hl (by decide) rfl (fun ls hl => ?_)
  have loop_2 : ∀ (n : Nat) (k : Nat), (k ≤ 5) → (∀ m t, m < k → t < 16 → ¬ (pc4 t = m ∧ telA fl lc_o lw lh (nI t))) → 5 - k < n → ∀ (H : Heap) (locs : List Loc), va_P D vwCl ws H → va_S A s.heap H locs → ∀ (ls : Array Slot), lv_has ls 3 [(1, .int (nI k)), (0, .ref o)] → W p l e (headSpec wsX9_ways ({ frames := 5, cells := 0, slots := 0, locals := 121 })).room s m #[Value.ref o] below meth c H locs 0 0 (MQ below (va_Qi (fun r0 u => u = (G, ws) ∧ (wyA (fun s => telA fl lc_o lw lh (nI s)) r0)) (cB D cy A) A) #[Value.ref o] s 0 0 A) (F0 m 2 ls []) := by
    intro n
    induction n with
    | zero => intro k j2_0 j2_1 hn; exact absurd hn (Nat.not_lt_zero _)
    | succ n ih_2 =>
      intro k j2_0 j2_1 hn_2 H locs hP hS  ls hl
      have ik : (nI k).toInt = (k : Int) := nI_toInt (by omega)
      refine lv_iload_n hx hb dX9_ways_2 rfl (lv_at hl 0 rfl) ?_
      refine lv_iconst (v := 4) hx hb dX9_ways_3 (by decide) ?_
      refine lv_icmp_gt (tgt := 45) hx hb dX9_ways_4 (by decide) (fun c4 => ?_) (fun c4 => ?_)
      · skip
        have d4 := c4
        rw [fa_lt] at d4
        refine lv_bipush (v := (-2)) hx hb dX9_ways_45 (by decide) ?_
        exact W.iret (v := ((-2) : Int32)) hx hb hr (fun t ht hW => ⟨⟨_, (G, ws), rfl, ⟨rfl, (Or.inr ⟨rfl, fun m9 t9 h9 h8 => j2_1 m9 t9 (by omega) h8⟩)⟩, by show va_P D vwCl ws t.heap; rw [ht]; exact hP, hD, hT⟩, hS.F ht⟩) hS.2.2 dX9_ways_47
      · skip
        have d4 := c4
        rw [fa_lt] at d4
        refine lv_iconst (v := 0) hx hb dX9_ways_7 (by decide) ?_
        refine lv_istore_n (lv' := [(2, .int (0 : Int32)), (1, .int (nI k)), (0, .ref o)]) hx hb dX9_ways_8 rfl hl (by decide) rfl (fun ls hl => ?_)
        have loop_9 : ∀ (n : Nat) (i : Nat), (i ≤ 16) → (∀ t, t < i → ¬ (pc4 t = k ∧ telA fl lc_o lw lh (nI t))) → 16 - i < n → ∀ (H : Heap) (locs : List Loc), va_P D vwCl ws H → va_S A s.heap H locs → ∀ (ls : Array Slot), lv_has ls 3 [(2, .int (nI i)), (1, .int (nI k)), (0, .ref o)] → W p l e (headSpec wsX9_ways ({ frames := 5, cells := 0, slots := 0, locals := 121 })).room s m #[Value.ref o] below meth c H locs 0 0 (MQ below (va_Qi (fun r0 u => u = (G, ws) ∧ (wyA (fun s => telA fl lc_o lw lh (nI s)) r0)) (cB D cy A) A) #[Value.ref o] s 0 0 A) (F0 m 9 ls []) := by
          intro n
          induction n with
          | zero => intro i j9_0 j9_1 hn; exact absurd hn (Nat.not_lt_zero _)
          | succ n ih_9 =>
            intro i j9_0 j9_1 hn_9 H locs hP hS  ls hl
            have ii : (nI i).toInt = (i : Int) := nI_toInt (by omega)
            refine lv_iload_n hx hb dX9_ways_9 rfl (lv_at hl 0 rfl) ?_
            refine lv_bipush (v := 16) hx hb dX9_ways_10 (by decide) ?_
            refine lv_icmp_ge (tgt := 39) hx hb dX9_ways_12 (by decide) (fun c12 => ?_) (fun c12 => ?_)
            · skip
              have d12 := c12
              rw [fa_le] at d12
              refine lv_iinc (v := (nI (k + 1))) (lv' := [(1, .int (nI (k + 1))), (2, .int (nI i)), (0, .ref o)]) hx hb dX9_ways_39 hl (k := 1) rfl (nI_1 _) (by decide) rfl (fun ls hl => ?_)
              refine lv_goto (tgt := 2) hx hb dX9_ways_42 (by decide) ?_
              exact ih_2 (k + 1) (by omega) (fun m t h1 h2 => by
            by_cases e9 : m = k
            · rw [e9]; exact j9_1 t (by omega)
            · exact j2_1 m t (by omega) h2) (by omega) _ _ hP hS  ls (lv_sub hl [0, 2] rfl)
            · skip
              have d12 := c12
              rw [fa_le] at d12
              refine lv_iload_n hx hb dX9_ways_15 rfl (lv_at hl 0 rfl) ?_
              refine t_pu (As := [.int (nI i)]) (rest := []) ⟨hx, hb, hml, hown, hts⟩ (c_J6_x l (nI i) (by omega)) (va_cwS 1 hts gX9_ways_J6_bitCount_0f7a4 rfl rfl rfl (by decide +kernel) ⟨Nat.le_of_ble_eq_true rfl, Nat.le_of_ble_eq_true rfl⟩) hP rfl hl.1 rfl (Nat.le_of_ble_eq_true rfl) dX9_ways_16 ⟨Nat.le_of_ble_eq_true rfl, Nat.le_of_ble_eq_true rfl⟩ hS (fun r16 H locs q16 hP hS => ?_)
              have f16 : r16 = nI (pc4 i) := by rw [q16, nI_clamp (by omega)]
              have b16 := pc4_le i
              have g16 : r16 = nI k ↔ pc4 i = k := by rw [f16]; exact nI_eq (by omega) (by omega)
              refine lv_iload_n hx hb dX9_ways_19 rfl (lv_at hl 1 rfl) ?_
              refine lv_icmp_ne (tgt := 33) hx hb dX9_ways_20 (by decide) (fun c20 => ?_) (fun c20 => ?_)
              · skip
                have d20 := c20
                rw [fa_eq] at d20
                refine lv_iinc (v := (nI (i + 1))) (lv' := [(2, .int (nI (i + 1))), (1, .int (nI k)), (0, .ref o)]) hx hb dX9_ways_33 hl (k := 0) rfl (nI_1 _) (by decide) rfl (fun ls hl => ?_)
                refine lv_goto (tgt := 9) hx hb dX9_ways_36 (by decide) ?_
                exact ih_9 (i + 1) (by omega) (fun t h1 => by
            by_cases e9 : t = i
            · rw [e9]; first | exact fun z9 => c20 (g16.mpr z9.1) | exact fun z9 => b28 z9.2
            · exact j9_1 t (by omega)) (by omega) _ _ hP hS  ls (lv_sub hl [0, 1, 2] rfl)
              · skip
                have d20 := c20
                rw [fa_eq] at d20
                refine lv_aload_n hx hb dX9_ways_23 rfl (lv_at hl 2 rfl) ?_
                refine lv_iload_n hx hb dX9_ways_24 rfl (lv_at hl 0 rfl) ?_
                refine t_calli (va_runV (g := F0 m 25 ls ([.int (nI i), .ref o])) (As := [.int (nI i)]) (rest := []) ⟨hx, hb, hml, hown, hts⟩ (c_X9_tellsListApart_x l D cy A G ws o (nI i) hD hT hG_o hM_o hM_ll_o hlb9) (cwV 1 hts gX9_ways_X9_tellsListApart rfl rfl rfl (by decide +kernel) ⟨Nat.le_of_ble_eq_true rfl, Nat.le_of_ble_eq_true rfl⟩) (c_preV hM_o rfl hP hK hA hS hV) rfl rfl hl.1 rfl (lv_room (Nat.le_of_ble_eq_true rfl)) dX9_ways_25 ⟨Nat.le_of_ble_eq_true rfl, Nat.le_of_ble_eq_true rfl⟩) hS (fun r25 u H locs q25 hP9 hD9 hT9 hS => ?_)
                obtain ⟨rfl, q25⟩ := q25
                have hP : va_P D vwCl ws H := hP9
                refine lv_if_eq (tgt := 33) hx hb dX9_ways_28 (by decide) (fun c28 => ?_) (fun c28 => ?_)
                · skip
                  have b28 := bo_f q25 c28
                  refine lv_iinc (v := (nI (i + 1))) (lv' := [(2, .int (nI (i + 1))), (1, .int (nI k)), (0, .ref o)]) hx hb dX9_ways_33 hl (k := 0) rfl (nI_1 _) (by decide) rfl (fun ls hl => ?_)
                  refine lv_goto (tgt := 9) hx hb dX9_ways_36 (by decide) ?_
                  exact ih_9 (i + 1) (by omega) (fun t h1 => by
            by_cases e9 : t = i
            · rw [e9]; first | exact fun z9 => c20 (g16.mpr z9.1) | exact fun z9 => b28 z9.2
            · exact j9_1 t (by omega)) (by omega) _ _ hP hS  ls (lv_sub hl [0, 1, 2] rfl)
                · skip
                  have b28 := bo_t q25 c28
                  refine lv_iload_n hx hb dX9_ways_31 rfl (lv_at hl 0 rfl) ?_
                  exact W.iret (v := (nI i)) hx hb hr (fun t ht hW => ⟨⟨_, (G, ws), rfl, ⟨rfl, (Or.inl ⟨k, i, (by omega), (by omega), ⟨g16.mp c20, b28⟩, rfl, j2_1, j9_1⟩)⟩, by show va_P D vwCl ws t.heap; rw [ht]; exact hP, hD, hT⟩, hS.F ht⟩) hS.2.2 dX9_ways_32
        exact loop_9 (16 + 1) 0 (by omega) (fun t h => absurd h (Nat.not_lt_zero _)) (by omega) _ _ hP hS  ls (lv_sub hl [0, 1, 2] rfl)
  exact loop_2 (5 + 1) 0 (by omega) (fun m t h => absurd h (Nat.not_lt_zero _)) (by omega) _ _ hP hS  ls (lv_sub hl [0, 1] rfl)

set_option maxHeartbeats 4000000 in
set_option maxRecDepth 100000 in
theorem c_X10_list_x (l : Launch) (D : va_G) (cy : Nat → ClassId) (mo : Nat) (a : Nat → Nat) (f : Nat → Int32) (g : Nat → Int64) (r : Nat → Nat → Int32) (q : Nat → Nat → Int64) (w : Int32) (h : Int32) (p0 : Int64) (hD : DM cy mo a) (hI : MI f r) : Mi l D cy mo a yX10_list wsX10_list ({ frames := 3, cells := 0, slots := 0, locals := 69 }) f g r q [.int w, .int h, .long p0] (fun r0 u => ∃ (lc : Int32), ∃ (lw : Int32), ∃ (lh : Int32), ∃ (ls1 : Nat → Int64), u = ((upd (upd (upd (upd f 0 (0 : Int32)) 23 lc) 24 lw) 25 lh), g, r, (va_up q 26 ls1)) ∧ (lsA (q 26) (f 23) (f 24).toNatClampNeg (f 25).toNatClampNeg w h p0 r0 ∧ ((lsG (q 26) (f 23) (f 24).toNatClampNeg (f 25).toNatClampNeg w h p0 ∧ lc.toInt = (f 23).toInt + 1 ∧ lw = w ∧ lh = h ∧ ls1 = vp_updL (q 26) (f 23).toNatClampNeg p0) ∨ (¬ lsG (q 26) (f 23) (f 24).toNatClampNeg (f 25).toNatClampNeg w h p0 ∧ lc = f 23 ∧ lw = f 24 ∧ lh = f 25 ∧ ls1 = q 26)) ∧ MI (upd (upd (upd (upd f 0 (0 : Int32)) 23 lc) 24 lw) 25 lh) r)) := by
  refine Met.ofW (cc := cX10_list) (maxL := 7) (ret := (some .int)) (by decide) rfl ?_
  intro p e s m args below meth c s₁ B hml hv
  obtain ⟨rfl, hP, hK⟩ := hv
  have hx := B.exec
  have hb := B.bytes
  have hr := B.returns
  have hts := atoms_spec (ws := wsX10_list) B.pre
  have hin : ∀ w ∈ u_ws RX10 TX10 35, w ∈ wsX10_list := by decide +kernel
  have hown : s.vm.findClass RX10 = some m.cls := findClass_of_methodNamed B.named
  have hlocks := B.notSynchronized
  have hS : va_S (AM mo a) s.heap s.heap [] := va_S.rf
  have hl := lv_entry ([.ref mo, .int w, .int h, .long p0]) (n := 7) (Nat.le_of_ble_eq_true rfl)
  rw [lg_entry_eq]
  generalize (lg_sl ([.ref mo, .int w, .int h, .long p0]) ++ List.replicate (7 - (lg_sl ([.ref mo, .int w, .int h, .long p0])).length) Slot.unset).toArray = ls at hl ⊢
  have hl : lv_has ls 7 [(0, .ref mo), (1, .int w), (2, .int h), (3, .long p0)] := hl
  have k_m3 : (-3 : Int32).toInt = -3 := by decide
  have k_m2 : (-2 : Int32).toInt = -2 := by decide
  have k_m1 : (-1 : Int32).toInt = -1 := by decide
  have k_0 : (0 : Int32).toInt = 0 := by decide
  have k_1 : (1 : Int32).toInt = 1 := by decide
  have k_12 : (12 : Int32).toInt = 12 := by decide
  have hI1 := hI.2.2.1
  refine lv_aload_n hx hb dX10_list_0 rfl (lv_at hl 0 rfl) ?_
  refine lv_iconst (v := 0) hx hb dX10_list_1 (by decide) ?_
  refine m_put (v := .int (0 : Int32)) (ty := .int) hx hb hts hin hown hK hP hD hS 0 (by decide) rfl (hts (.fieldLink RX10 79 "ShadowBenchModel" "thrown" "I") (by decide +kernel)) rfl (by decide +kernel) rfl rfl (upd f 0 (0 : Int32)) g rfl dX10_list_2 (fun H locs hP hS => ?_)
  refine lv_iload_n hx hb dX10_list_5 rfl (lv_at hl 1 rfl) ?_
  refine lv_iload_n hx hb dX10_list_6 rfl (lv_at hl 2 rfl) ?_
  refine lv_lload_n hx hb dX10_list_7 rfl (lv_at hl 3 rfl) ?_
  refine m_pu (As := [.int w, .int h, .long p0]) (rest := []) ⟨hx, hb, hml, hown, hts⟩ (c_X10_isPicture l w h p0 ) (va_cwS 3 hts gX10_list_X10_isPicture rfl rfl rfl (by decide +kernel) ⟨Nat.le_of_ble_eq_true rfl, Nat.le_of_ble_eq_true rfl⟩) hP rfl hl.1 rfl (Nat.le_of_ble_eq_true rfl) dX10_list_8 ⟨Nat.le_of_ble_eq_true rfl, Nat.le_of_ble_eq_true rfl⟩ hS (fun r8 H locs q8 hP hS => ?_)
  refine lv_if_ne (tgt := 16) hx hb dX10_list_11 (by decide) (fun c11 => ?_) (fun c11 => ?_)
  · skip
    have b11 := bo_t q8 c11
    refine lv_aload_n hx hb dX10_list_16 rfl (lv_at hl 0 rfl) ?_
    refine m_get (v := .int (f 23)) hx hb hts hin hown hK hP 23 (by decide) rfl (hts (.fieldLink RX10 230 "ShadowBenchModel" "listed" "I") (by decide +kernel)) rfl dX10_list_17 ?_
    refine lv_bipush (v := 12) hx hb dX10_list_20 (by decide) ?_
    refine lv_icmp_ne (tgt := 28) hx hb dX10_list_22 (by decide) (fun c22 => ?_) (fun c22 => ?_)
    · skip
      have d22 := c22
      rw [fa_eq] at d22
      refine lv_aload_n hx hb dX10_list_28 rfl (lv_at hl 0 rfl) ?_
      refine m_get (v := .int (f 23)) hx hb hts hin hown hK hP 23 (by decide) rfl (hts (.fieldLink RX10 230 "ShadowBenchModel" "listed" "I") (by decide +kernel)) rfl dX10_list_29 ?_
      refine lv_if_le (tgt := 55) hx hb dX10_list_32 (by decide) (fun c32 => ?_) (fun c32 => ?_)
      · skip
        have d32 := c32
        rw [fa_le] at d32
        refine lv_iconst (v := 0) hx hb dX10_list_55 (by decide) ?_
        refine lv_istore (lv' := [(5, .int (0 : Int32)), (0, .ref mo), (1, .int w), (2, .int h), (3, .long p0)]) hx hb dX10_list_56 hl (by decide) rfl (fun ls hl => ?_)
        refine lv_iconst (v := 0) hx hb dX10_list_58 (by decide) ?_
        refine lv_istore (lv' := [(6, .int (0 : Int32)), (5, .int (0 : Int32)), (0, .ref mo), (1, .int w), (2, .int h), (3, .long p0)]) hx hb dX10_list_59 hl (by decide) rfl (fun ls hl => ?_)
        have loop_61 : ∀ (n : Nat) (k : Nat) (x5 : Int32), (k ≤ 12 ∧ (k : Int) ≤ (f 23).toInt) → ((x5 = 1 ∧ (lsO (f 23) (f 24).toNatClampNeg (f 25).toNatClampNeg w h ∨ ∃ j, j < k ∧ q 26 j = p0)) ∨ (x5 = 0 ∧ ¬ lsO (f 23) (f 24).toNatClampNeg (f 25).toNatClampNeg w h ∧ ∀ j, j < k → ¬ q 26 j = p0)) → 12 - k < n → ∀ (H : Heap) (locs : List Loc), va_P D vwCl (WM cy mo a (upd f 0 (0 : Int32)) g r q) H → va_S (AM mo a) s.heap H locs → ∀ (ls : Array Slot), lv_has ls 7 [(6, .int (nI k)), (5, .int x5), (0, .ref mo), (1, .int w), (2, .int h), (3, .long p0)] → W p l e (headSpec wsX10_list ({ frames := 3, cells := 0, slots := 0, locals := 69 })).room s m #[Value.ref mo, Value.int w, Value.int h, Value.long p0] below meth c H locs 0 0 (MQ below (va_Qi (fun r0 u => ∃ (lc : Int32), ∃ (lw : Int32), ∃ (lh : Int32), ∃ (ls1 : Nat → Int64), u = ((upd (upd (upd (upd f 0 (0 : Int32)) 23 lc) 24 lw) 25 lh), g, r, (va_up q 26 ls1)) ∧ (lsA (q 26) (f 23) (f 24).toNatClampNeg (f 25).toNatClampNeg w h p0 r0 ∧ ((lsG (q 26) (f 23) (f 24).toNatClampNeg (f 25).toNatClampNeg w h p0 ∧ lc.toInt = (f 23).toInt + 1 ∧ lw = w ∧ lh = h ∧ ls1 = vp_updL (q 26) (f 23).toNatClampNeg p0) ∨ (¬ lsG (q 26) (f 23) (f 24).toNatClampNeg (f 25).toNatClampNeg w h p0 ∧ lc = f 23 ∧ lw = f 24 ∧ lh = f 25 ∧ ls1 = q 26)) ∧ MI (upd (upd (upd (upd f 0 (0 : Int32)) 23 lc) 24 lw) 25 lh) r)) (mB D cy mo a) (AM mo a)) #[Value.ref mo, Value.int w, Value.int h, Value.long p0] s 0 0 (AM mo a)) (F0 m 61 ls []) := by
          intro n
          induction n with
          | zero => intro k x5  j61_0 j61_1 hn; exact absurd hn (Nat.not_lt_zero _)
          | succ n ih_61 =>
            intro k x5  j61_0 j61_1 hn_61 H locs hP hS ls hl
            have ik : (nI k).toInt = (k : Int) := nI_toInt (by omega)
            refine lv_iload hx hb dX10_list_61 (lv_at hl 0 rfl) ?_
            refine lv_aload_n hx hb dX10_list_63 rfl (lv_at hl 2 rfl) ?_
            refine m_get (v := .int (f 23)) hx hb hts hin hown hK hP 23 (by decide) rfl (hts (.fieldLink RX10 230 "ShadowBenchModel" "listed" "I") (by decide +kernel)) rfl dX10_list_64 ?_
            refine lv_icmp_ge (tgt := 100) hx hb dX10_list_67 (by decide) (fun c67 => ?_) (fun c67 => ?_)
            · skip
              have d67 := c67
              rw [fa_le] at d67
              refine lv_iload hx hb dX10_list_100 (lv_at hl 1 rfl) ?_
              refine lv_if_eq (tgt := 108) hx hb dX10_list_102 (by decide) (fun c102 => ?_) (fun c102 => ?_)
              · skip
                have d102 := c102
                rw [fa_eq] at d102
                refine lv_aload_n hx hb dX10_list_108 rfl (lv_at hl 2 rfl) ?_
                refine lv_iload_n hx hb dX10_list_109 rfl (lv_at hl 3 rfl) ?_
                refine m_put (v := .int w) (ty := .int) hx hb hts hin hown hK hP hD hS 24 (by decide) rfl (hts (.fieldLink RX10 233 "ShadowBenchModel" "listWide" "I") (by decide +kernel)) rfl (by decide +kernel) rfl rfl (upd (upd f 0 (0 : Int32)) 24 w) g rfl dX10_list_110 (fun H locs hP hS => ?_)
                refine lv_aload_n hx hb dX10_list_113 rfl (lv_at hl 2 rfl) ?_
                refine lv_iload_n hx hb dX10_list_114 rfl (lv_at hl 4 rfl) ?_
                refine m_put (v := .int h) (ty := .int) hx hb hts hin hown hK hP hD hS 25 (by decide) rfl (hts (.fieldLink RX10 236 "ShadowBenchModel" "listHigh" "I") (by decide +kernel)) rfl (by decide +kernel) rfl rfl (upd (upd (upd f 0 (0 : Int32)) 24 w) 25 h) g rfl dX10_list_115 (fun H locs hP hS => ?_)
                refine lv_aload_n hx hb dX10_list_118 rfl (lv_at hl 2 rfl) ?_
                refine m_get (v := .ref (a 26)) hx hb hts hin hown hK hP 26 (by decide) rfl (hts (.fieldLink RX10 52 "ShadowBenchModel" "list" "[J") (by decide +kernel)) rfl dX10_list_119 ?_
                refine lv_aload_n hx hb dX10_list_122 rfl (lv_at hl 2 rfl) ?_
                refine m_get (v := .int (f 23)) hx hb hts hin hown hK hP 23 (by decide) rfl (hts (.fieldLink RX10 230 "ShadowBenchModel" "listed" "I") (by decide +kernel)) rfl dX10_list_123 ?_
                refine lv_lload_n hx hb dX10_list_126 rfl (lv_at hl 5 rfl) ?_
                refine m_last (w := (q 26)) hx hb hK hP hD hS 14 rfl (vp_in_iff.mpr ⟨by omega, by omega⟩) (va_up q 26 (vp_updL (q 26) (f 23).toNatClampNeg p0)) (ms_26 cy mo a _ _ _ _ _) dX10_list_127 (fun H locs hP hS => ?_)
                refine lv_aload_n hx hb dX10_list_128 rfl (lv_at hl 2 rfl) ?_
                refine lv_dup hx hb dX10_list_129 rfl ?_
                refine m_get (v := .int (f 23)) hx hb hts hin hown hK hP 23 (by decide) rfl (hts (.fieldLink RX10 230 "ShadowBenchModel" "listed" "I") (by decide +kernel)) rfl dX10_list_130 ?_
                refine lv_iconst (v := 1) hx hb dX10_list_133 (by decide) ?_
                refine lv_iadd hx hb dX10_list_134 ?_
                refine lv_topi (fun v134 e134 => ?_)
                have i134 : v134.toInt = (f 23).toInt + (1 : Int32).toInt := by rw [e134]; exact fb_addI (by omega) (by omega)
                refine m_put (v := .int v134) (ty := .int) hx hb hts hin hown hK hP hD hS 23 (by decide) rfl (hts (.fieldLink RX10 230 "ShadowBenchModel" "listed" "I") (by decide +kernel)) rfl (by decide +kernel) rfl rfl (upd (upd (upd (upd f 0 (0 : Int32)) 24 w) 25 h) 23 v134) g rfl dX10_list_135 (fun H locs hP hS => ?_)
                refine lv_aload_n hx hb dX10_list_138 rfl (lv_at hl 2 rfl) ?_
                refine m_get (v := .int v134) hx hb hts hin hown hK hP 23 (by decide) rfl (hts (.fieldLink RX10 230 "ShadowBenchModel" "listed" "I") (by decide +kernel)) rfl dX10_list_139 ?_
                have hP := wm_eq (ec_f_0_24_25_23__0_23_24_25 f (0 : Int32) w h v134) rfl rfl (ec_q_26__26 q ((vp_updL (q 26) (f 23).toNatClampNeg p0))) hP
                exact W.iret (v := v134) hx hb hr (fun t ht hW => ⟨⟨_, ((upd (upd (upd (upd f 0 (0 : Int32)) 23 v134) 24 w) 25 h), g, r, (va_up q 26 (((vp_updL (q 26) (f 23).toNatClampNeg p0))))), rfl, ⟨v134, w, h, ((vp_updL (q 26) (f 23).toNatClampNeg p0)), rfl, ⟨Or.inl ⟨⟨goodP_of b11, (by omega), (by rcases j61_1 with ⟨z9, _⟩ | ⟨_, z9, _⟩; exact absurd (z9.symm.trans c102) (by decide); exact z9), (by rcases j61_1 with ⟨z9, _⟩ | ⟨_, _, z9⟩; exact absurd (z9.symm.trans c102) (by decide); exact fun ⟨j9, h9, y9⟩ => z9 j9 (by omega) y9)⟩, (by omega)⟩, Or.inl ⟨⟨goodP_of b11, (by omega), (by rcases j61_1 with ⟨z9, _⟩ | ⟨_, z9, _⟩; exact absurd (z9.symm.trans c102) (by decide); exact z9), (by rcases j61_1 with ⟨z9, _⟩ | ⟨_, _, z9⟩; exact absurd (z9.symm.trans c102) (by decide); exact fun ⟨j9, h9, y9⟩ => z9 j9 (by omega) y9)⟩, (by omega), rfl, rfl, rfl⟩, (by first | exact hI | exact mi_li hI rfl (show 0 ≤ v134.toInt ∧ v134.toInt ≤ 12 by omega) (fun _ => ⟨show 1 ≤ w.toInt ∧ w.toInt ≤ 6 by omega, show 1 ≤ h.toInt ∧ h.toInt ≤ 6 by omega⟩) rfl rfl rfl rfl)⟩⟩, by unfold mB; rw [ht]; exact hP⟩, hS.F ht⟩) hS.2.2 dX10_list_142
              · skip
                have d102 := c102
                rw [fa_eq] at d102
                refine lv_bipush (v := (-3)) hx hb dX10_list_105 (by decide) ?_
                have hP := wm_eq (ec_f_0__0_23_24_25 f (0 : Int32)) rfl rfl (ec_q___26 q ) hP
                exact W.iret (v := ((-3) : Int32)) hx hb hr (fun t ht hW => ⟨⟨_, ((upd (upd (upd (upd f 0 (0 : Int32)) 23 (f 23)) 24 (f 24)) 25 (f 25)), g, r, (va_up q 26 (q 26))), rfl, ⟨(f 23), (f 24), (f 25), (q 26), rfl, ⟨lsA_3 (goodP_of b11) (by omega) (by rcases j61_1 with ⟨_, z9⟩ | ⟨z9, _⟩; exact z9.imp id (fun ⟨j9, h9, y9⟩ => ⟨j9, (by omega), y9⟩); exact absurd z9 c102), Or.inr ⟨lsG_3 (by rcases j61_1 with ⟨_, z9⟩ | ⟨z9, _⟩; exact z9.imp id (fun ⟨j9, h9, y9⟩ => ⟨j9, (by omega), y9⟩); exact absurd z9 c102), rfl, rfl, rfl, rfl⟩, (by first | exact hI | exact mi_li hI rfl (show 0 ≤ (f 23).toInt ∧ (f 23).toInt ≤ 12 by omega) (fun _ => ⟨show 1 ≤ (f 24).toInt ∧ (f 24).toInt ≤ 6 by omega, show 1 ≤ (f 25).toInt ∧ (f 25).toInt ≤ 6 by omega⟩) rfl rfl rfl rfl)⟩⟩, by unfold mB; rw [ht]; exact hP⟩, hS.F ht⟩) hS.2.2 dX10_list_107
            · skip
              have d67 := c67
              rw [fa_le] at d67
              refine lv_iload hx hb dX10_list_70 (lv_at hl 1 rfl) ?_
              refine lv_if_ne (tgt := 87) hx hb dX10_list_72 (by decide) (fun c72 => ?_) (fun c72 => ?_)
              · skip
                have d72 := c72
                rw [fa_eq] at d72
                refine lv_iconst (v := 1) hx hb dX10_list_87 (by decide) ?_
                refine lv_goto (tgt := 92) hx hb dX10_list_88 (by decide) ?_
                refine lv_istore (lv' := [(5, .int (1 : Int32)), (6, .int (nI k)), (0, .ref mo), (1, .int w), (2, .int h), (3, .long p0)]) hx hb dX10_list_92 hl (by decide) rfl (fun ls hl => ?_)
                refine lv_iinc (v := (nI (k + 1))) (lv' := [(6, .int (nI (k + 1))), (5, .int (1 : Int32)), (0, .ref mo), (1, .int w), (2, .int h), (3, .long p0)]) hx hb dX10_list_94 hl (k := 1) rfl (nI_1 _) (by decide) rfl (fun ls hl => ?_)
                refine lv_goto (tgt := 61) hx hb dX10_list_97 (by decide) ?_
                exact ih_61 (k + 1) (1 : Int32) (by omega) (by
                                                                                          first
                                                                                          | exact Or.inl ⟨rfl, Or.inr ⟨k, by omega, f81.symm.trans ((lg_cmp_eq _ _).mp c84)⟩⟩
                                                                                          | exact Or.inr ⟨rfl, (by rcases j61_1 with ⟨z9, _⟩ | ⟨_, z9, _⟩; exact absurd (z9.symm.trans c72) (by decide); exact z9), fun j hj => by
                                                                                              by_cases e9 : j = k
                                                                                              · rw [e9]; exact fun z9 => c84 ((lg_cmp_eq _ _).mpr (f81.trans z9))
                                                                                              · rcases j61_1 with ⟨z9, _⟩ | ⟨_, _, z9⟩
                                                                                                · exact absurd (z9.symm.trans c72) (by decide)
                                                                                                · exact z9 j (by omega)⟩
                                                                                          | exact Or.inl ⟨rfl, by
                                                                                              rcases j61_1 with ⟨_, z9⟩ | ⟨z9, _⟩
                                                                                              · exact z9.imp id (fun ⟨j9, h9, y9⟩ => ⟨j9, by omega, y9⟩)
                                                                                              · exact absurd z9 c72⟩) (by omega) _ _ hP hS ls (lv_sub hl [0, 1, 2, 3, 4, 5] rfl)
              · skip
                have d72 := c72
                rw [fa_eq] at d72
                refine lv_aload_n hx hb dX10_list_75 rfl (lv_at hl 2 rfl) ?_
                refine m_get (v := .ref (a 26)) hx hb hts hin hown hK hP 26 (by decide) rfl (hts (.fieldLink RX10 52 "ShadowBenchModel" "list" "[J") (by decide +kernel)) rfl dX10_list_76 ?_
                refine lv_iload hx hb dX10_list_79 (lv_at hl 0 rfl) ?_
                refine m_lald (w := (q 26)) hx hb hK hP 14 rfl (vp_in_iff.mpr ⟨by omega, by omega⟩) dX10_list_81 ?_
                refine lv_topl (fun v81 e81 => ?_)
                have f81 : v81 = q 26 k := by rw [e81, nI_clamp (by omega)]
                refine lv_lload_n hx hb dX10_list_82 rfl (lv_at hl 5 rfl) ?_
                refine W.lcmp hx hb dX10_list_83 ?_
                refine lv_if_ne (tgt := 91) hx hb dX10_list_84 (by decide) (fun c84 => ?_) (fun c84 => ?_)
                · skip
                  have d84 := c84
                  rw [lg_cmp_eq, fa_eq64] at d84
                  refine lv_iconst (v := 0) hx hb dX10_list_91 (by decide) ?_
                  refine lv_istore (lv' := [(5, .int (0 : Int32)), (6, .int (nI k)), (0, .ref mo), (1, .int w), (2, .int h), (3, .long p0)]) hx hb dX10_list_92 hl (by decide) rfl (fun ls hl => ?_)
                  refine lv_iinc (v := (nI (k + 1))) (lv' := [(6, .int (nI (k + 1))), (5, .int (0 : Int32)), (0, .ref mo), (1, .int w), (2, .int h), (3, .long p0)]) hx hb dX10_list_94 hl (k := 1) rfl (nI_1 _) (by decide) rfl (fun ls hl => ?_)
                  refine lv_goto (tgt := 61) hx hb dX10_list_97 (by decide) ?_
                  exact ih_61 (k + 1) (0 : Int32) (by omega) (by
                                                                                          first
                                                                                          | exact Or.inl ⟨rfl, Or.inr ⟨k, by omega, f81.symm.trans ((lg_cmp_eq _ _).mp c84)⟩⟩
                                                                                          | exact Or.inr ⟨rfl, (by rcases j61_1 with ⟨z9, _⟩ | ⟨_, z9, _⟩; exact absurd (z9.symm.trans c72) (by decide); exact z9), fun j hj => by
                                                                                              by_cases e9 : j = k
                                                                                              · rw [e9]; exact fun z9 => c84 ((lg_cmp_eq _ _).mpr (f81.trans z9))
                                                                                              · rcases j61_1 with ⟨z9, _⟩ | ⟨_, _, z9⟩
                                                                                                · exact absurd (z9.symm.trans c72) (by decide)
                                                                                                · exact z9 j (by omega)⟩
                                                                                          | exact Or.inl ⟨rfl, by
                                                                                              rcases j61_1 with ⟨_, z9⟩ | ⟨z9, _⟩
                                                                                              · exact z9.imp id (fun ⟨j9, h9, y9⟩ => ⟨j9, by omega, y9⟩)
                                                                                              · exact absurd z9 c72⟩) (by omega) _ _ hP hS ls (lv_sub hl [0, 1, 2, 3, 4, 5] rfl)
                · skip
                  have d84 := c84
                  rw [lg_cmp_eq, fa_eq64] at d84
                  refine lv_iconst (v := 1) hx hb dX10_list_87 (by decide) ?_
                  refine lv_goto (tgt := 92) hx hb dX10_list_88 (by decide) ?_
                  refine lv_istore (lv' := [(5, .int (1 : Int32)), (6, .int (nI k)), (0, .ref mo), (1, .int w), (2, .int h), (3, .long p0)]) hx hb dX10_list_92 hl (by decide) rfl (fun ls hl => ?_)
                  refine lv_iinc (v := (nI (k + 1))) (lv' := [(6, .int (nI (k + 1))), (5, .int (1 : Int32)), (0, .ref mo), (1, .int w), (2, .int h), (3, .long p0)]) hx hb dX10_list_94 hl (k := 1) rfl (nI_1 _) (by decide) rfl (fun ls hl => ?_)
                  refine lv_goto (tgt := 61) hx hb dX10_list_97 (by decide) ?_
                  exact ih_61 (k + 1) (1 : Int32) (by omega) (by
                                                                                          first
                                                                                          | exact Or.inl ⟨rfl, Or.inr ⟨k, by omega, f81.symm.trans ((lg_cmp_eq _ _).mp c84)⟩⟩
                                                                                          | exact Or.inr ⟨rfl, (by rcases j61_1 with ⟨z9, _⟩ | ⟨_, z9, _⟩; exact absurd (z9.symm.trans c72) (by decide); exact z9), fun j hj => by
                                                                                              by_cases e9 : j = k
                                                                                              · rw [e9]; exact fun z9 => c84 ((lg_cmp_eq _ _).mpr (f81.trans z9))
                                                                                              · rcases j61_1 with ⟨z9, _⟩ | ⟨_, _, z9⟩
                                                                                                · exact absurd (z9.symm.trans c72) (by decide)
                                                                                                · exact z9 j (by omega)⟩
                                                                                          | exact Or.inl ⟨rfl, by
                                                                                              rcases j61_1 with ⟨_, z9⟩ | ⟨z9, _⟩
                                                                                              · exact z9.imp id (fun ⟨j9, h9, y9⟩ => ⟨j9, by omega, y9⟩)
                                                                                              · exact absurd z9 c72⟩) (by omega) _ _ hP hS ls (lv_sub hl [0, 1, 2, 3, 4, 5] rfl)
        exact loop_61 (12 + 1) 0 (0 : Int32) (by omega) (by first | exact Or.inr ⟨rfl, (by unfold lsO; omega), fun j hj => absurd hj (Nat.not_lt_zero _)⟩ | exact Or.inl ⟨rfl, Or.inl (by unfold lsO; omega)⟩) (by omega) _ _ hP hS ls (lv_sub hl [0, 1, 2, 3, 4, 5] rfl)
      · skip
        have d32 := c32
        rw [fa_le] at d32
        have hLw := hI.2.2.2.1 (by omega)
        have c24 := m_cl (x := f 24) (by omega)
        have c25 := m_cl (x := f 25) (by omega)
        refine lv_iload_n hx hb dX10_list_35 rfl (lv_at hl 1 rfl) ?_
        refine lv_aload_n hx hb dX10_list_36 rfl (lv_at hl 0 rfl) ?_
        refine m_get (v := .int (f 24)) hx hb hts hin hown hK hP 24 (by decide) rfl (hts (.fieldLink RX10 233 "ShadowBenchModel" "listWide" "I") (by decide +kernel)) rfl dX10_list_37 ?_
        refine lv_icmp_ne (tgt := 51) hx hb dX10_list_40 (by decide) (fun c40 => ?_) (fun c40 => ?_)
        · skip
          have d40 := c40
          rw [fa_eq] at d40
          refine lv_iconst (v := 1) hx hb dX10_list_51 (by decide) ?_
          refine lv_goto (tgt := 56) hx hb dX10_list_52 (by decide) ?_
          refine lv_istore (lv' := [(5, .int (1 : Int32)), (0, .ref mo), (1, .int w), (2, .int h), (3, .long p0)]) hx hb dX10_list_56 hl (by decide) rfl (fun ls hl => ?_)
          refine lv_iconst (v := 0) hx hb dX10_list_58 (by decide) ?_
          refine lv_istore (lv' := [(6, .int (0 : Int32)), (5, .int (1 : Int32)), (0, .ref mo), (1, .int w), (2, .int h), (3, .long p0)]) hx hb dX10_list_59 hl (by decide) rfl (fun ls hl => ?_)
          have loop_61 : ∀ (n : Nat) (k : Nat) (x5 : Int32), (k ≤ 12 ∧ (k : Int) ≤ (f 23).toInt) → ((x5 = 1 ∧ (lsO (f 23) (f 24).toNatClampNeg (f 25).toNatClampNeg w h ∨ ∃ j, j < k ∧ q 26 j = p0)) ∨ (x5 = 0 ∧ ¬ lsO (f 23) (f 24).toNatClampNeg (f 25).toNatClampNeg w h ∧ ∀ j, j < k → ¬ q 26 j = p0)) → 12 - k < n → ∀ (H : Heap) (locs : List Loc), va_P D vwCl (WM cy mo a (upd f 0 (0 : Int32)) g r q) H → va_S (AM mo a) s.heap H locs → ∀ (ls : Array Slot), lv_has ls 7 [(6, .int (nI k)), (5, .int x5), (0, .ref mo), (1, .int w), (2, .int h), (3, .long p0)] → W p l e (headSpec wsX10_list ({ frames := 3, cells := 0, slots := 0, locals := 69 })).room s m #[Value.ref mo, Value.int w, Value.int h, Value.long p0] below meth c H locs 0 0 (MQ below (va_Qi (fun r0 u => ∃ (lc : Int32), ∃ (lw : Int32), ∃ (lh : Int32), ∃ (ls1 : Nat → Int64), u = ((upd (upd (upd (upd f 0 (0 : Int32)) 23 lc) 24 lw) 25 lh), g, r, (va_up q 26 ls1)) ∧ (lsA (q 26) (f 23) (f 24).toNatClampNeg (f 25).toNatClampNeg w h p0 r0 ∧ ((lsG (q 26) (f 23) (f 24).toNatClampNeg (f 25).toNatClampNeg w h p0 ∧ lc.toInt = (f 23).toInt + 1 ∧ lw = w ∧ lh = h ∧ ls1 = vp_updL (q 26) (f 23).toNatClampNeg p0) ∨ (¬ lsG (q 26) (f 23) (f 24).toNatClampNeg (f 25).toNatClampNeg w h p0 ∧ lc = f 23 ∧ lw = f 24 ∧ lh = f 25 ∧ ls1 = q 26)) ∧ MI (upd (upd (upd (upd f 0 (0 : Int32)) 23 lc) 24 lw) 25 lh) r)) (mB D cy mo a) (AM mo a)) #[Value.ref mo, Value.int w, Value.int h, Value.long p0] s 0 0 (AM mo a)) (F0 m 61 ls []) := by
            intro n
            induction n with
            | zero => intro k x5  j61_0 j61_1 hn; exact absurd hn (Nat.not_lt_zero _)
            | succ n ih_61 =>
              intro k x5  j61_0 j61_1 hn_61 H locs hP hS ls hl
              have ik : (nI k).toInt = (k : Int) := nI_toInt (by omega)
              refine lv_iload hx hb dX10_list_61 (lv_at hl 0 rfl) ?_
              refine lv_aload_n hx hb dX10_list_63 rfl (lv_at hl 2 rfl) ?_
              refine m_get (v := .int (f 23)) hx hb hts hin hown hK hP 23 (by decide) rfl (hts (.fieldLink RX10 230 "ShadowBenchModel" "listed" "I") (by decide +kernel)) rfl dX10_list_64 ?_
              refine lv_icmp_ge (tgt := 100) hx hb dX10_list_67 (by decide) (fun c67 => ?_) (fun c67 => ?_)
              · skip
                have d67 := c67
                rw [fa_le] at d67
                refine lv_iload hx hb dX10_list_100 (lv_at hl 1 rfl) ?_
                refine lv_if_eq (tgt := 108) hx hb dX10_list_102 (by decide) (fun c102 => ?_) (fun c102 => ?_)
                · skip
                  have d102 := c102
                  rw [fa_eq] at d102
                  refine lv_aload_n hx hb dX10_list_108 rfl (lv_at hl 2 rfl) ?_
                  refine lv_iload_n hx hb dX10_list_109 rfl (lv_at hl 3 rfl) ?_
                  refine m_put (v := .int w) (ty := .int) hx hb hts hin hown hK hP hD hS 24 (by decide) rfl (hts (.fieldLink RX10 233 "ShadowBenchModel" "listWide" "I") (by decide +kernel)) rfl (by decide +kernel) rfl rfl (upd (upd f 0 (0 : Int32)) 24 w) g rfl dX10_list_110 (fun H locs hP hS => ?_)
                  refine lv_aload_n hx hb dX10_list_113 rfl (lv_at hl 2 rfl) ?_
                  refine lv_iload_n hx hb dX10_list_114 rfl (lv_at hl 4 rfl) ?_
                  refine m_put (v := .int h) (ty := .int) hx hb hts hin hown hK hP hD hS 25 (by decide) rfl (hts (.fieldLink RX10 236 "ShadowBenchModel" "listHigh" "I") (by decide +kernel)) rfl (by decide +kernel) rfl rfl (upd (upd (upd f 0 (0 : Int32)) 24 w) 25 h) g rfl dX10_list_115 (fun H locs hP hS => ?_)
                  refine lv_aload_n hx hb dX10_list_118 rfl (lv_at hl 2 rfl) ?_
                  refine m_get (v := .ref (a 26)) hx hb hts hin hown hK hP 26 (by decide) rfl (hts (.fieldLink RX10 52 "ShadowBenchModel" "list" "[J") (by decide +kernel)) rfl dX10_list_119 ?_
                  refine lv_aload_n hx hb dX10_list_122 rfl (lv_at hl 2 rfl) ?_
                  refine m_get (v := .int (f 23)) hx hb hts hin hown hK hP 23 (by decide) rfl (hts (.fieldLink RX10 230 "ShadowBenchModel" "listed" "I") (by decide +kernel)) rfl dX10_list_123 ?_
                  refine lv_lload_n hx hb dX10_list_126 rfl (lv_at hl 5 rfl) ?_
                  refine m_last (w := (q 26)) hx hb hK hP hD hS 14 rfl (vp_in_iff.mpr ⟨by omega, by omega⟩) (va_up q 26 (vp_updL (q 26) (f 23).toNatClampNeg p0)) (ms_26 cy mo a _ _ _ _ _) dX10_list_127 (fun H locs hP hS => ?_)
                  refine lv_aload_n hx hb dX10_list_128 rfl (lv_at hl 2 rfl) ?_
                  refine lv_dup hx hb dX10_list_129 rfl ?_
                  refine m_get (v := .int (f 23)) hx hb hts hin hown hK hP 23 (by decide) rfl (hts (.fieldLink RX10 230 "ShadowBenchModel" "listed" "I") (by decide +kernel)) rfl dX10_list_130 ?_
                  refine lv_iconst (v := 1) hx hb dX10_list_133 (by decide) ?_
                  refine lv_iadd hx hb dX10_list_134 ?_
                  refine lv_topi (fun v134 e134 => ?_)
                  have i134 : v134.toInt = (f 23).toInt + (1 : Int32).toInt := by rw [e134]; exact fb_addI (by omega) (by omega)
                  refine m_put (v := .int v134) (ty := .int) hx hb hts hin hown hK hP hD hS 23 (by decide) rfl (hts (.fieldLink RX10 230 "ShadowBenchModel" "listed" "I") (by decide +kernel)) rfl (by decide +kernel) rfl rfl (upd (upd (upd (upd f 0 (0 : Int32)) 24 w) 25 h) 23 v134) g rfl dX10_list_135 (fun H locs hP hS => ?_)
                  refine lv_aload_n hx hb dX10_list_138 rfl (lv_at hl 2 rfl) ?_
                  refine m_get (v := .int v134) hx hb hts hin hown hK hP 23 (by decide) rfl (hts (.fieldLink RX10 230 "ShadowBenchModel" "listed" "I") (by decide +kernel)) rfl dX10_list_139 ?_
                  have hP := wm_eq (ec_f_0_24_25_23__0_23_24_25 f (0 : Int32) w h v134) rfl rfl (ec_q_26__26 q ((vp_updL (q 26) (f 23).toNatClampNeg p0))) hP
                  exact W.iret (v := v134) hx hb hr (fun t ht hW => ⟨⟨_, ((upd (upd (upd (upd f 0 (0 : Int32)) 23 v134) 24 w) 25 h), g, r, (va_up q 26 (((vp_updL (q 26) (f 23).toNatClampNeg p0))))), rfl, ⟨v134, w, h, ((vp_updL (q 26) (f 23).toNatClampNeg p0)), rfl, ⟨Or.inl ⟨⟨goodP_of b11, (by omega), (by rcases j61_1 with ⟨z9, _⟩ | ⟨_, z9, _⟩; exact absurd (z9.symm.trans c102) (by decide); exact z9), (by rcases j61_1 with ⟨z9, _⟩ | ⟨_, _, z9⟩; exact absurd (z9.symm.trans c102) (by decide); exact fun ⟨j9, h9, y9⟩ => z9 j9 (by omega) y9)⟩, (by omega)⟩, Or.inl ⟨⟨goodP_of b11, (by omega), (by rcases j61_1 with ⟨z9, _⟩ | ⟨_, z9, _⟩; exact absurd (z9.symm.trans c102) (by decide); exact z9), (by rcases j61_1 with ⟨z9, _⟩ | ⟨_, _, z9⟩; exact absurd (z9.symm.trans c102) (by decide); exact fun ⟨j9, h9, y9⟩ => z9 j9 (by omega) y9)⟩, (by omega), rfl, rfl, rfl⟩, (by first | exact hI | exact mi_li hI rfl (show 0 ≤ v134.toInt ∧ v134.toInt ≤ 12 by omega) (fun _ => ⟨show 1 ≤ w.toInt ∧ w.toInt ≤ 6 by omega, show 1 ≤ h.toInt ∧ h.toInt ≤ 6 by omega⟩) rfl rfl rfl rfl)⟩⟩, by unfold mB; rw [ht]; exact hP⟩, hS.F ht⟩) hS.2.2 dX10_list_142
                · skip
                  have d102 := c102
                  rw [fa_eq] at d102
                  refine lv_bipush (v := (-3)) hx hb dX10_list_105 (by decide) ?_
                  have hP := wm_eq (ec_f_0__0_23_24_25 f (0 : Int32)) rfl rfl (ec_q___26 q ) hP
                  exact W.iret (v := ((-3) : Int32)) hx hb hr (fun t ht hW => ⟨⟨_, ((upd (upd (upd (upd f 0 (0 : Int32)) 23 (f 23)) 24 (f 24)) 25 (f 25)), g, r, (va_up q 26 (q 26))), rfl, ⟨(f 23), (f 24), (f 25), (q 26), rfl, ⟨lsA_3 (goodP_of b11) (by omega) (by rcases j61_1 with ⟨_, z9⟩ | ⟨z9, _⟩; exact z9.imp id (fun ⟨j9, h9, y9⟩ => ⟨j9, (by omega), y9⟩); exact absurd z9 c102), Or.inr ⟨lsG_3 (by rcases j61_1 with ⟨_, z9⟩ | ⟨z9, _⟩; exact z9.imp id (fun ⟨j9, h9, y9⟩ => ⟨j9, (by omega), y9⟩); exact absurd z9 c102), rfl, rfl, rfl, rfl⟩, (by first | exact hI | exact mi_li hI rfl (show 0 ≤ (f 23).toInt ∧ (f 23).toInt ≤ 12 by omega) (fun _ => ⟨show 1 ≤ (f 24).toInt ∧ (f 24).toInt ≤ 6 by omega, show 1 ≤ (f 25).toInt ∧ (f 25).toInt ≤ 6 by omega⟩) rfl rfl rfl rfl)⟩⟩, by unfold mB; rw [ht]; exact hP⟩, hS.F ht⟩) hS.2.2 dX10_list_107
              · skip
                have d67 := c67
                rw [fa_le] at d67
                refine lv_iload hx hb dX10_list_70 (lv_at hl 1 rfl) ?_
                refine lv_if_ne (tgt := 87) hx hb dX10_list_72 (by decide) (fun c72 => ?_) (fun c72 => ?_)
                · skip
                  have d72 := c72
                  rw [fa_eq] at d72
                  refine lv_iconst (v := 1) hx hb dX10_list_87 (by decide) ?_
                  refine lv_goto (tgt := 92) hx hb dX10_list_88 (by decide) ?_
                  refine lv_istore (lv' := [(5, .int (1 : Int32)), (6, .int (nI k)), (0, .ref mo), (1, .int w), (2, .int h), (3, .long p0)]) hx hb dX10_list_92 hl (by decide) rfl (fun ls hl => ?_)
                  refine lv_iinc (v := (nI (k + 1))) (lv' := [(6, .int (nI (k + 1))), (5, .int (1 : Int32)), (0, .ref mo), (1, .int w), (2, .int h), (3, .long p0)]) hx hb dX10_list_94 hl (k := 1) rfl (nI_1 _) (by decide) rfl (fun ls hl => ?_)
                  refine lv_goto (tgt := 61) hx hb dX10_list_97 (by decide) ?_
                  exact ih_61 (k + 1) (1 : Int32) (by omega) (by
                                                                                          first
                                                                                          | exact Or.inl ⟨rfl, Or.inr ⟨k, by omega, f81.symm.trans ((lg_cmp_eq _ _).mp c84)⟩⟩
                                                                                          | exact Or.inr ⟨rfl, (by rcases j61_1 with ⟨z9, _⟩ | ⟨_, z9, _⟩; exact absurd (z9.symm.trans c72) (by decide); exact z9), fun j hj => by
                                                                                              by_cases e9 : j = k
                                                                                              · rw [e9]; exact fun z9 => c84 ((lg_cmp_eq _ _).mpr (f81.trans z9))
                                                                                              · rcases j61_1 with ⟨z9, _⟩ | ⟨_, _, z9⟩
                                                                                                · exact absurd (z9.symm.trans c72) (by decide)
                                                                                                · exact z9 j (by omega)⟩
                                                                                          | exact Or.inl ⟨rfl, by
                                                                                              rcases j61_1 with ⟨_, z9⟩ | ⟨z9, _⟩
                                                                                              · exact z9.imp id (fun ⟨j9, h9, y9⟩ => ⟨j9, by omega, y9⟩)
                                                                                              · exact absurd z9 c72⟩) (by omega) _ _ hP hS ls (lv_sub hl [0, 1, 2, 3, 4, 5] rfl)
                · skip
                  have d72 := c72
                  rw [fa_eq] at d72
                  refine lv_aload_n hx hb dX10_list_75 rfl (lv_at hl 2 rfl) ?_
                  refine m_get (v := .ref (a 26)) hx hb hts hin hown hK hP 26 (by decide) rfl (hts (.fieldLink RX10 52 "ShadowBenchModel" "list" "[J") (by decide +kernel)) rfl dX10_list_76 ?_
                  refine lv_iload hx hb dX10_list_79 (lv_at hl 0 rfl) ?_
                  refine m_lald (w := (q 26)) hx hb hK hP 14 rfl (vp_in_iff.mpr ⟨by omega, by omega⟩) dX10_list_81 ?_
                  refine lv_topl (fun v81 e81 => ?_)
                  have f81 : v81 = q 26 k := by rw [e81, nI_clamp (by omega)]
                  refine lv_lload_n hx hb dX10_list_82 rfl (lv_at hl 5 rfl) ?_
                  refine W.lcmp hx hb dX10_list_83 ?_
                  refine lv_if_ne (tgt := 91) hx hb dX10_list_84 (by decide) (fun c84 => ?_) (fun c84 => ?_)
                  · skip
                    have d84 := c84
                    rw [lg_cmp_eq, fa_eq64] at d84
                    refine lv_iconst (v := 0) hx hb dX10_list_91 (by decide) ?_
                    refine lv_istore (lv' := [(5, .int (0 : Int32)), (6, .int (nI k)), (0, .ref mo), (1, .int w), (2, .int h), (3, .long p0)]) hx hb dX10_list_92 hl (by decide) rfl (fun ls hl => ?_)
                    refine lv_iinc (v := (nI (k + 1))) (lv' := [(6, .int (nI (k + 1))), (5, .int (0 : Int32)), (0, .ref mo), (1, .int w), (2, .int h), (3, .long p0)]) hx hb dX10_list_94 hl (k := 1) rfl (nI_1 _) (by decide) rfl (fun ls hl => ?_)
                    refine lv_goto (tgt := 61) hx hb dX10_list_97 (by decide) ?_
                    exact ih_61 (k + 1) (0 : Int32) (by omega) (by
                                                                                          first
                                                                                          | exact Or.inl ⟨rfl, Or.inr ⟨k, by omega, f81.symm.trans ((lg_cmp_eq _ _).mp c84)⟩⟩
                                                                                          | exact Or.inr ⟨rfl, (by rcases j61_1 with ⟨z9, _⟩ | ⟨_, z9, _⟩; exact absurd (z9.symm.trans c72) (by decide); exact z9), fun j hj => by
                                                                                              by_cases e9 : j = k
                                                                                              · rw [e9]; exact fun z9 => c84 ((lg_cmp_eq _ _).mpr (f81.trans z9))
                                                                                              · rcases j61_1 with ⟨z9, _⟩ | ⟨_, _, z9⟩
                                                                                                · exact absurd (z9.symm.trans c72) (by decide)
                                                                                                · exact z9 j (by omega)⟩
                                                                                          | exact Or.inl ⟨rfl, by
                                                                                              rcases j61_1 with ⟨_, z9⟩ | ⟨z9, _⟩
                                                                                              · exact z9.imp id (fun ⟨j9, h9, y9⟩ => ⟨j9, by omega, y9⟩)
                                                                                              · exact absurd z9 c72⟩) (by omega) _ _ hP hS ls (lv_sub hl [0, 1, 2, 3, 4, 5] rfl)
                  · skip
                    have d84 := c84
                    rw [lg_cmp_eq, fa_eq64] at d84
                    refine lv_iconst (v := 1) hx hb dX10_list_87 (by decide) ?_
                    refine lv_goto (tgt := 92) hx hb dX10_list_88 (by decide) ?_
                    refine lv_istore (lv' := [(5, .int (1 : Int32)), (6, .int (nI k)), (0, .ref mo), (1, .int w), (2, .int h), (3, .long p0)]) hx hb dX10_list_92 hl (by decide) rfl (fun ls hl => ?_)
                    refine lv_iinc (v := (nI (k + 1))) (lv' := [(6, .int (nI (k + 1))), (5, .int (1 : Int32)), (0, .ref mo), (1, .int w), (2, .int h), (3, .long p0)]) hx hb dX10_list_94 hl (k := 1) rfl (nI_1 _) (by decide) rfl (fun ls hl => ?_)
                    refine lv_goto (tgt := 61) hx hb dX10_list_97 (by decide) ?_
                    exact ih_61 (k + 1) (1 : Int32) (by omega) (by
                                                                                          first
                                                                                          | exact Or.inl ⟨rfl, Or.inr ⟨k, by omega, f81.symm.trans ((lg_cmp_eq _ _).mp c84)⟩⟩
                                                                                          | exact Or.inr ⟨rfl, (by rcases j61_1 with ⟨z9, _⟩ | ⟨_, z9, _⟩; exact absurd (z9.symm.trans c72) (by decide); exact z9), fun j hj => by
                                                                                              by_cases e9 : j = k
                                                                                              · rw [e9]; exact fun z9 => c84 ((lg_cmp_eq _ _).mpr (f81.trans z9))
                                                                                              · rcases j61_1 with ⟨z9, _⟩ | ⟨_, _, z9⟩
                                                                                                · exact absurd (z9.symm.trans c72) (by decide)
                                                                                                · exact z9 j (by omega)⟩
                                                                                          | exact Or.inl ⟨rfl, by
                                                                                              rcases j61_1 with ⟨_, z9⟩ | ⟨z9, _⟩
                                                                                              · exact z9.imp id (fun ⟨j9, h9, y9⟩ => ⟨j9, by omega, y9⟩)
                                                                                              · exact absurd z9 c72⟩) (by omega) _ _ hP hS ls (lv_sub hl [0, 1, 2, 3, 4, 5] rfl)
          exact loop_61 (12 + 1) 0 (1 : Int32) (by omega) (by first | exact Or.inr ⟨rfl, (by unfold lsO; omega), fun j hj => absurd hj (Nat.not_lt_zero _)⟩ | exact Or.inl ⟨rfl, Or.inl (by unfold lsO; omega)⟩) (by omega) _ _ hP hS ls (lv_sub hl [0, 1, 2, 3, 4, 5] rfl)
        · skip
          have d40 := c40
          rw [fa_eq] at d40
          refine lv_iload_n hx hb dX10_list_43 rfl (lv_at hl 2 rfl) ?_
          refine lv_aload_n hx hb dX10_list_44 rfl (lv_at hl 0 rfl) ?_
          refine m_get (v := .int (f 25)) hx hb hts hin hown hK hP 25 (by decide) rfl (hts (.fieldLink RX10 236 "ShadowBenchModel" "listHigh" "I") (by decide +kernel)) rfl dX10_list_45 ?_
          refine lv_icmp_eq (tgt := 55) hx hb dX10_list_48 (by decide) (fun c48 => ?_) (fun c48 => ?_)
          · skip
            have d48 := c48
            rw [fa_eq] at d48
            refine lv_iconst (v := 0) hx hb dX10_list_55 (by decide) ?_
            refine lv_istore (lv' := [(5, .int (0 : Int32)), (0, .ref mo), (1, .int w), (2, .int h), (3, .long p0)]) hx hb dX10_list_56 hl (by decide) rfl (fun ls hl => ?_)
            refine lv_iconst (v := 0) hx hb dX10_list_58 (by decide) ?_
            refine lv_istore (lv' := [(6, .int (0 : Int32)), (5, .int (0 : Int32)), (0, .ref mo), (1, .int w), (2, .int h), (3, .long p0)]) hx hb dX10_list_59 hl (by decide) rfl (fun ls hl => ?_)
            have loop_61 : ∀ (n : Nat) (k : Nat) (x5 : Int32), (k ≤ 12 ∧ (k : Int) ≤ (f 23).toInt) → ((x5 = 1 ∧ (lsO (f 23) (f 24).toNatClampNeg (f 25).toNatClampNeg w h ∨ ∃ j, j < k ∧ q 26 j = p0)) ∨ (x5 = 0 ∧ ¬ lsO (f 23) (f 24).toNatClampNeg (f 25).toNatClampNeg w h ∧ ∀ j, j < k → ¬ q 26 j = p0)) → 12 - k < n → ∀ (H : Heap) (locs : List Loc), va_P D vwCl (WM cy mo a (upd f 0 (0 : Int32)) g r q) H → va_S (AM mo a) s.heap H locs → ∀ (ls : Array Slot), lv_has ls 7 [(6, .int (nI k)), (5, .int x5), (0, .ref mo), (1, .int w), (2, .int h), (3, .long p0)] → W p l e (headSpec wsX10_list ({ frames := 3, cells := 0, slots := 0, locals := 69 })).room s m #[Value.ref mo, Value.int w, Value.int h, Value.long p0] below meth c H locs 0 0 (MQ below (va_Qi (fun r0 u => ∃ (lc : Int32), ∃ (lw : Int32), ∃ (lh : Int32), ∃ (ls1 : Nat → Int64), u = ((upd (upd (upd (upd f 0 (0 : Int32)) 23 lc) 24 lw) 25 lh), g, r, (va_up q 26 ls1)) ∧ (lsA (q 26) (f 23) (f 24).toNatClampNeg (f 25).toNatClampNeg w h p0 r0 ∧ ((lsG (q 26) (f 23) (f 24).toNatClampNeg (f 25).toNatClampNeg w h p0 ∧ lc.toInt = (f 23).toInt + 1 ∧ lw = w ∧ lh = h ∧ ls1 = vp_updL (q 26) (f 23).toNatClampNeg p0) ∨ (¬ lsG (q 26) (f 23) (f 24).toNatClampNeg (f 25).toNatClampNeg w h p0 ∧ lc = f 23 ∧ lw = f 24 ∧ lh = f 25 ∧ ls1 = q 26)) ∧ MI (upd (upd (upd (upd f 0 (0 : Int32)) 23 lc) 24 lw) 25 lh) r)) (mB D cy mo a) (AM mo a)) #[Value.ref mo, Value.int w, Value.int h, Value.long p0] s 0 0 (AM mo a)) (F0 m 61 ls []) := by
              intro n
              induction n with
              | zero => intro k x5  j61_0 j61_1 hn; exact absurd hn (Nat.not_lt_zero _)
              | succ n ih_61 =>
                intro k x5  j61_0 j61_1 hn_61 H locs hP hS ls hl
                have ik : (nI k).toInt = (k : Int) := nI_toInt (by omega)
                refine lv_iload hx hb dX10_list_61 (lv_at hl 0 rfl) ?_
                refine lv_aload_n hx hb dX10_list_63 rfl (lv_at hl 2 rfl) ?_
                refine m_get (v := .int (f 23)) hx hb hts hin hown hK hP 23 (by decide) rfl (hts (.fieldLink RX10 230 "ShadowBenchModel" "listed" "I") (by decide +kernel)) rfl dX10_list_64 ?_
                refine lv_icmp_ge (tgt := 100) hx hb dX10_list_67 (by decide) (fun c67 => ?_) (fun c67 => ?_)
                · skip
                  have d67 := c67
                  rw [fa_le] at d67
                  refine lv_iload hx hb dX10_list_100 (lv_at hl 1 rfl) ?_
                  refine lv_if_eq (tgt := 108) hx hb dX10_list_102 (by decide) (fun c102 => ?_) (fun c102 => ?_)
                  · skip
                    have d102 := c102
                    rw [fa_eq] at d102
                    refine lv_aload_n hx hb dX10_list_108 rfl (lv_at hl 2 rfl) ?_
                    refine lv_iload_n hx hb dX10_list_109 rfl (lv_at hl 3 rfl) ?_
                    refine m_put (v := .int w) (ty := .int) hx hb hts hin hown hK hP hD hS 24 (by decide) rfl (hts (.fieldLink RX10 233 "ShadowBenchModel" "listWide" "I") (by decide +kernel)) rfl (by decide +kernel) rfl rfl (upd (upd f 0 (0 : Int32)) 24 w) g rfl dX10_list_110 (fun H locs hP hS => ?_)
                    refine lv_aload_n hx hb dX10_list_113 rfl (lv_at hl 2 rfl) ?_
                    refine lv_iload_n hx hb dX10_list_114 rfl (lv_at hl 4 rfl) ?_
                    refine m_put (v := .int h) (ty := .int) hx hb hts hin hown hK hP hD hS 25 (by decide) rfl (hts (.fieldLink RX10 236 "ShadowBenchModel" "listHigh" "I") (by decide +kernel)) rfl (by decide +kernel) rfl rfl (upd (upd (upd f 0 (0 : Int32)) 24 w) 25 h) g rfl dX10_list_115 (fun H locs hP hS => ?_)
                    refine lv_aload_n hx hb dX10_list_118 rfl (lv_at hl 2 rfl) ?_
                    refine m_get (v := .ref (a 26)) hx hb hts hin hown hK hP 26 (by decide) rfl (hts (.fieldLink RX10 52 "ShadowBenchModel" "list" "[J") (by decide +kernel)) rfl dX10_list_119 ?_
                    refine lv_aload_n hx hb dX10_list_122 rfl (lv_at hl 2 rfl) ?_
                    refine m_get (v := .int (f 23)) hx hb hts hin hown hK hP 23 (by decide) rfl (hts (.fieldLink RX10 230 "ShadowBenchModel" "listed" "I") (by decide +kernel)) rfl dX10_list_123 ?_
                    refine lv_lload_n hx hb dX10_list_126 rfl (lv_at hl 5 rfl) ?_
                    refine m_last (w := (q 26)) hx hb hK hP hD hS 14 rfl (vp_in_iff.mpr ⟨by omega, by omega⟩) (va_up q 26 (vp_updL (q 26) (f 23).toNatClampNeg p0)) (ms_26 cy mo a _ _ _ _ _) dX10_list_127 (fun H locs hP hS => ?_)
                    refine lv_aload_n hx hb dX10_list_128 rfl (lv_at hl 2 rfl) ?_
                    refine lv_dup hx hb dX10_list_129 rfl ?_
                    refine m_get (v := .int (f 23)) hx hb hts hin hown hK hP 23 (by decide) rfl (hts (.fieldLink RX10 230 "ShadowBenchModel" "listed" "I") (by decide +kernel)) rfl dX10_list_130 ?_
                    refine lv_iconst (v := 1) hx hb dX10_list_133 (by decide) ?_
                    refine lv_iadd hx hb dX10_list_134 ?_
                    refine lv_topi (fun v134 e134 => ?_)
                    have i134 : v134.toInt = (f 23).toInt + (1 : Int32).toInt := by rw [e134]; exact fb_addI (by omega) (by omega)
                    refine m_put (v := .int v134) (ty := .int) hx hb hts hin hown hK hP hD hS 23 (by decide) rfl (hts (.fieldLink RX10 230 "ShadowBenchModel" "listed" "I") (by decide +kernel)) rfl (by decide +kernel) rfl rfl (upd (upd (upd (upd f 0 (0 : Int32)) 24 w) 25 h) 23 v134) g rfl dX10_list_135 (fun H locs hP hS => ?_)
                    refine lv_aload_n hx hb dX10_list_138 rfl (lv_at hl 2 rfl) ?_
                    refine m_get (v := .int v134) hx hb hts hin hown hK hP 23 (by decide) rfl (hts (.fieldLink RX10 230 "ShadowBenchModel" "listed" "I") (by decide +kernel)) rfl dX10_list_139 ?_
                    have hP := wm_eq (ec_f_0_24_25_23__0_23_24_25 f (0 : Int32) w h v134) rfl rfl (ec_q_26__26 q ((vp_updL (q 26) (f 23).toNatClampNeg p0))) hP
                    exact W.iret (v := v134) hx hb hr (fun t ht hW => ⟨⟨_, ((upd (upd (upd (upd f 0 (0 : Int32)) 23 v134) 24 w) 25 h), g, r, (va_up q 26 (((vp_updL (q 26) (f 23).toNatClampNeg p0))))), rfl, ⟨v134, w, h, ((vp_updL (q 26) (f 23).toNatClampNeg p0)), rfl, ⟨Or.inl ⟨⟨goodP_of b11, (by omega), (by rcases j61_1 with ⟨z9, _⟩ | ⟨_, z9, _⟩; exact absurd (z9.symm.trans c102) (by decide); exact z9), (by rcases j61_1 with ⟨z9, _⟩ | ⟨_, _, z9⟩; exact absurd (z9.symm.trans c102) (by decide); exact fun ⟨j9, h9, y9⟩ => z9 j9 (by omega) y9)⟩, (by omega)⟩, Or.inl ⟨⟨goodP_of b11, (by omega), (by rcases j61_1 with ⟨z9, _⟩ | ⟨_, z9, _⟩; exact absurd (z9.symm.trans c102) (by decide); exact z9), (by rcases j61_1 with ⟨z9, _⟩ | ⟨_, _, z9⟩; exact absurd (z9.symm.trans c102) (by decide); exact fun ⟨j9, h9, y9⟩ => z9 j9 (by omega) y9)⟩, (by omega), rfl, rfl, rfl⟩, (by first | exact hI | exact mi_li hI rfl (show 0 ≤ v134.toInt ∧ v134.toInt ≤ 12 by omega) (fun _ => ⟨show 1 ≤ w.toInt ∧ w.toInt ≤ 6 by omega, show 1 ≤ h.toInt ∧ h.toInt ≤ 6 by omega⟩) rfl rfl rfl rfl)⟩⟩, by unfold mB; rw [ht]; exact hP⟩, hS.F ht⟩) hS.2.2 dX10_list_142
                  · skip
                    have d102 := c102
                    rw [fa_eq] at d102
                    refine lv_bipush (v := (-3)) hx hb dX10_list_105 (by decide) ?_
                    have hP := wm_eq (ec_f_0__0_23_24_25 f (0 : Int32)) rfl rfl (ec_q___26 q ) hP
                    exact W.iret (v := ((-3) : Int32)) hx hb hr (fun t ht hW => ⟨⟨_, ((upd (upd (upd (upd f 0 (0 : Int32)) 23 (f 23)) 24 (f 24)) 25 (f 25)), g, r, (va_up q 26 (q 26))), rfl, ⟨(f 23), (f 24), (f 25), (q 26), rfl, ⟨lsA_3 (goodP_of b11) (by omega) (by rcases j61_1 with ⟨_, z9⟩ | ⟨z9, _⟩; exact z9.imp id (fun ⟨j9, h9, y9⟩ => ⟨j9, (by omega), y9⟩); exact absurd z9 c102), Or.inr ⟨lsG_3 (by rcases j61_1 with ⟨_, z9⟩ | ⟨z9, _⟩; exact z9.imp id (fun ⟨j9, h9, y9⟩ => ⟨j9, (by omega), y9⟩); exact absurd z9 c102), rfl, rfl, rfl, rfl⟩, (by first | exact hI | exact mi_li hI rfl (show 0 ≤ (f 23).toInt ∧ (f 23).toInt ≤ 12 by omega) (fun _ => ⟨show 1 ≤ (f 24).toInt ∧ (f 24).toInt ≤ 6 by omega, show 1 ≤ (f 25).toInt ∧ (f 25).toInt ≤ 6 by omega⟩) rfl rfl rfl rfl)⟩⟩, by unfold mB; rw [ht]; exact hP⟩, hS.F ht⟩) hS.2.2 dX10_list_107
                · skip
                  have d67 := c67
                  rw [fa_le] at d67
                  refine lv_iload hx hb dX10_list_70 (lv_at hl 1 rfl) ?_
                  refine lv_if_ne (tgt := 87) hx hb dX10_list_72 (by decide) (fun c72 => ?_) (fun c72 => ?_)
                  · skip
                    have d72 := c72
                    rw [fa_eq] at d72
                    refine lv_iconst (v := 1) hx hb dX10_list_87 (by decide) ?_
                    refine lv_goto (tgt := 92) hx hb dX10_list_88 (by decide) ?_
                    refine lv_istore (lv' := [(5, .int (1 : Int32)), (6, .int (nI k)), (0, .ref mo), (1, .int w), (2, .int h), (3, .long p0)]) hx hb dX10_list_92 hl (by decide) rfl (fun ls hl => ?_)
                    refine lv_iinc (v := (nI (k + 1))) (lv' := [(6, .int (nI (k + 1))), (5, .int (1 : Int32)), (0, .ref mo), (1, .int w), (2, .int h), (3, .long p0)]) hx hb dX10_list_94 hl (k := 1) rfl (nI_1 _) (by decide) rfl (fun ls hl => ?_)
                    refine lv_goto (tgt := 61) hx hb dX10_list_97 (by decide) ?_
                    exact ih_61 (k + 1) (1 : Int32) (by omega) (by
                                                                                          first
                                                                                          | exact Or.inl ⟨rfl, Or.inr ⟨k, by omega, f81.symm.trans ((lg_cmp_eq _ _).mp c84)⟩⟩
                                                                                          | exact Or.inr ⟨rfl, (by rcases j61_1 with ⟨z9, _⟩ | ⟨_, z9, _⟩; exact absurd (z9.symm.trans c72) (by decide); exact z9), fun j hj => by
                                                                                              by_cases e9 : j = k
                                                                                              · rw [e9]; exact fun z9 => c84 ((lg_cmp_eq _ _).mpr (f81.trans z9))
                                                                                              · rcases j61_1 with ⟨z9, _⟩ | ⟨_, _, z9⟩
                                                                                                · exact absurd (z9.symm.trans c72) (by decide)
                                                                                                · exact z9 j (by omega)⟩
                                                                                          | exact Or.inl ⟨rfl, by
                                                                                              rcases j61_1 with ⟨_, z9⟩ | ⟨z9, _⟩
                                                                                              · exact z9.imp id (fun ⟨j9, h9, y9⟩ => ⟨j9, by omega, y9⟩)
                                                                                              · exact absurd z9 c72⟩) (by omega) _ _ hP hS ls (lv_sub hl [0, 1, 2, 3, 4, 5] rfl)
                  · skip
                    have d72 := c72
                    rw [fa_eq] at d72
                    refine lv_aload_n hx hb dX10_list_75 rfl (lv_at hl 2 rfl) ?_
                    refine m_get (v := .ref (a 26)) hx hb hts hin hown hK hP 26 (by decide) rfl (hts (.fieldLink RX10 52 "ShadowBenchModel" "list" "[J") (by decide +kernel)) rfl dX10_list_76 ?_
                    refine lv_iload hx hb dX10_list_79 (lv_at hl 0 rfl) ?_
                    refine m_lald (w := (q 26)) hx hb hK hP 14 rfl (vp_in_iff.mpr ⟨by omega, by omega⟩) dX10_list_81 ?_
                    refine lv_topl (fun v81 e81 => ?_)
                    have f81 : v81 = q 26 k := by rw [e81, nI_clamp (by omega)]
                    refine lv_lload_n hx hb dX10_list_82 rfl (lv_at hl 5 rfl) ?_
                    refine W.lcmp hx hb dX10_list_83 ?_
                    refine lv_if_ne (tgt := 91) hx hb dX10_list_84 (by decide) (fun c84 => ?_) (fun c84 => ?_)
                    · skip
                      have d84 := c84
                      rw [lg_cmp_eq, fa_eq64] at d84
                      refine lv_iconst (v := 0) hx hb dX10_list_91 (by decide) ?_
                      refine lv_istore (lv' := [(5, .int (0 : Int32)), (6, .int (nI k)), (0, .ref mo), (1, .int w), (2, .int h), (3, .long p0)]) hx hb dX10_list_92 hl (by decide) rfl (fun ls hl => ?_)
                      refine lv_iinc (v := (nI (k + 1))) (lv' := [(6, .int (nI (k + 1))), (5, .int (0 : Int32)), (0, .ref mo), (1, .int w), (2, .int h), (3, .long p0)]) hx hb dX10_list_94 hl (k := 1) rfl (nI_1 _) (by decide) rfl (fun ls hl => ?_)
                      refine lv_goto (tgt := 61) hx hb dX10_list_97 (by decide) ?_
                      exact ih_61 (k + 1) (0 : Int32) (by omega) (by
                                                                                          first
                                                                                          | exact Or.inl ⟨rfl, Or.inr ⟨k, by omega, f81.symm.trans ((lg_cmp_eq _ _).mp c84)⟩⟩
                                                                                          | exact Or.inr ⟨rfl, (by rcases j61_1 with ⟨z9, _⟩ | ⟨_, z9, _⟩; exact absurd (z9.symm.trans c72) (by decide); exact z9), fun j hj => by
                                                                                              by_cases e9 : j = k
                                                                                              · rw [e9]; exact fun z9 => c84 ((lg_cmp_eq _ _).mpr (f81.trans z9))
                                                                                              · rcases j61_1 with ⟨z9, _⟩ | ⟨_, _, z9⟩
                                                                                                · exact absurd (z9.symm.trans c72) (by decide)
                                                                                                · exact z9 j (by omega)⟩
                                                                                          | exact Or.inl ⟨rfl, by
                                                                                              rcases j61_1 with ⟨_, z9⟩ | ⟨z9, _⟩
                                                                                              · exact z9.imp id (fun ⟨j9, h9, y9⟩ => ⟨j9, by omega, y9⟩)
                                                                                              · exact absurd z9 c72⟩) (by omega) _ _ hP hS ls (lv_sub hl [0, 1, 2, 3, 4, 5] rfl)
                    · skip
                      have d84 := c84
                      rw [lg_cmp_eq, fa_eq64] at d84
                      refine lv_iconst (v := 1) hx hb dX10_list_87 (by decide) ?_
                      refine lv_goto (tgt := 92) hx hb dX10_list_88 (by decide) ?_
                      refine lv_istore (lv' := [(5, .int (1 : Int32)), (6, .int (nI k)), (0, .ref mo), (1, .int w), (2, .int h), (3, .long p0)]) hx hb dX10_list_92 hl (by decide) rfl (fun ls hl => ?_)
                      refine lv_iinc (v := (nI (k + 1))) (lv' := [(6, .int (nI (k + 1))), (5, .int (1 : Int32)), (0, .ref mo), (1, .int w), (2, .int h), (3, .long p0)]) hx hb dX10_list_94 hl (k := 1) rfl (nI_1 _) (by decide) rfl (fun ls hl => ?_)
                      refine lv_goto (tgt := 61) hx hb dX10_list_97 (by decide) ?_
                      exact ih_61 (k + 1) (1 : Int32) (by omega) (by
                                                                                          first
                                                                                          | exact Or.inl ⟨rfl, Or.inr ⟨k, by omega, f81.symm.trans ((lg_cmp_eq _ _).mp c84)⟩⟩
                                                                                          | exact Or.inr ⟨rfl, (by rcases j61_1 with ⟨z9, _⟩ | ⟨_, z9, _⟩; exact absurd (z9.symm.trans c72) (by decide); exact z9), fun j hj => by
                                                                                              by_cases e9 : j = k
                                                                                              · rw [e9]; exact fun z9 => c84 ((lg_cmp_eq _ _).mpr (f81.trans z9))
                                                                                              · rcases j61_1 with ⟨z9, _⟩ | ⟨_, _, z9⟩
                                                                                                · exact absurd (z9.symm.trans c72) (by decide)
                                                                                                · exact z9 j (by omega)⟩
                                                                                          | exact Or.inl ⟨rfl, by
                                                                                              rcases j61_1 with ⟨_, z9⟩ | ⟨z9, _⟩
                                                                                              · exact z9.imp id (fun ⟨j9, h9, y9⟩ => ⟨j9, by omega, y9⟩)
                                                                                              · exact absurd z9 c72⟩) (by omega) _ _ hP hS ls (lv_sub hl [0, 1, 2, 3, 4, 5] rfl)
            exact loop_61 (12 + 1) 0 (0 : Int32) (by omega) (by first | exact Or.inr ⟨rfl, (by unfold lsO; omega), fun j hj => absurd hj (Nat.not_lt_zero _)⟩ | exact Or.inl ⟨rfl, Or.inl (by unfold lsO; omega)⟩) (by omega) _ _ hP hS ls (lv_sub hl [0, 1, 2, 3, 4, 5] rfl)
          · skip
            have d48 := c48
            rw [fa_eq] at d48
            refine lv_iconst (v := 1) hx hb dX10_list_51 (by decide) ?_
            refine lv_goto (tgt := 56) hx hb dX10_list_52 (by decide) ?_
            refine lv_istore (lv' := [(5, .int (1 : Int32)), (0, .ref mo), (1, .int w), (2, .int h), (3, .long p0)]) hx hb dX10_list_56 hl (by decide) rfl (fun ls hl => ?_)
            refine lv_iconst (v := 0) hx hb dX10_list_58 (by decide) ?_
            refine lv_istore (lv' := [(6, .int (0 : Int32)), (5, .int (1 : Int32)), (0, .ref mo), (1, .int w), (2, .int h), (3, .long p0)]) hx hb dX10_list_59 hl (by decide) rfl (fun ls hl => ?_)
            have loop_61 : ∀ (n : Nat) (k : Nat) (x5 : Int32), (k ≤ 12 ∧ (k : Int) ≤ (f 23).toInt) → ((x5 = 1 ∧ (lsO (f 23) (f 24).toNatClampNeg (f 25).toNatClampNeg w h ∨ ∃ j, j < k ∧ q 26 j = p0)) ∨ (x5 = 0 ∧ ¬ lsO (f 23) (f 24).toNatClampNeg (f 25).toNatClampNeg w h ∧ ∀ j, j < k → ¬ q 26 j = p0)) → 12 - k < n → ∀ (H : Heap) (locs : List Loc), va_P D vwCl (WM cy mo a (upd f 0 (0 : Int32)) g r q) H → va_S (AM mo a) s.heap H locs → ∀ (ls : Array Slot), lv_has ls 7 [(6, .int (nI k)), (5, .int x5), (0, .ref mo), (1, .int w), (2, .int h), (3, .long p0)] → W p l e (headSpec wsX10_list ({ frames := 3, cells := 0, slots := 0, locals := 69 })).room s m #[Value.ref mo, Value.int w, Value.int h, Value.long p0] below meth c H locs 0 0 (MQ below (va_Qi (fun r0 u => ∃ (lc : Int32), ∃ (lw : Int32), ∃ (lh : Int32), ∃ (ls1 : Nat → Int64), u = ((upd (upd (upd (upd f 0 (0 : Int32)) 23 lc) 24 lw) 25 lh), g, r, (va_up q 26 ls1)) ∧ (lsA (q 26) (f 23) (f 24).toNatClampNeg (f 25).toNatClampNeg w h p0 r0 ∧ ((lsG (q 26) (f 23) (f 24).toNatClampNeg (f 25).toNatClampNeg w h p0 ∧ lc.toInt = (f 23).toInt + 1 ∧ lw = w ∧ lh = h ∧ ls1 = vp_updL (q 26) (f 23).toNatClampNeg p0) ∨ (¬ lsG (q 26) (f 23) (f 24).toNatClampNeg (f 25).toNatClampNeg w h p0 ∧ lc = f 23 ∧ lw = f 24 ∧ lh = f 25 ∧ ls1 = q 26)) ∧ MI (upd (upd (upd (upd f 0 (0 : Int32)) 23 lc) 24 lw) 25 lh) r)) (mB D cy mo a) (AM mo a)) #[Value.ref mo, Value.int w, Value.int h, Value.long p0] s 0 0 (AM mo a)) (F0 m 61 ls []) := by
              intro n
              induction n with
              | zero => intro k x5  j61_0 j61_1 hn; exact absurd hn (Nat.not_lt_zero _)
              | succ n ih_61 =>
                intro k x5  j61_0 j61_1 hn_61 H locs hP hS ls hl
                have ik : (nI k).toInt = (k : Int) := nI_toInt (by omega)
                refine lv_iload hx hb dX10_list_61 (lv_at hl 0 rfl) ?_
                refine lv_aload_n hx hb dX10_list_63 rfl (lv_at hl 2 rfl) ?_
                refine m_get (v := .int (f 23)) hx hb hts hin hown hK hP 23 (by decide) rfl (hts (.fieldLink RX10 230 "ShadowBenchModel" "listed" "I") (by decide +kernel)) rfl dX10_list_64 ?_
                refine lv_icmp_ge (tgt := 100) hx hb dX10_list_67 (by decide) (fun c67 => ?_) (fun c67 => ?_)
                · skip
                  have d67 := c67
                  rw [fa_le] at d67
                  refine lv_iload hx hb dX10_list_100 (lv_at hl 1 rfl) ?_
                  refine lv_if_eq (tgt := 108) hx hb dX10_list_102 (by decide) (fun c102 => ?_) (fun c102 => ?_)
                  · skip
                    have d102 := c102
                    rw [fa_eq] at d102
                    refine lv_aload_n hx hb dX10_list_108 rfl (lv_at hl 2 rfl) ?_
                    refine lv_iload_n hx hb dX10_list_109 rfl (lv_at hl 3 rfl) ?_
                    refine m_put (v := .int w) (ty := .int) hx hb hts hin hown hK hP hD hS 24 (by decide) rfl (hts (.fieldLink RX10 233 "ShadowBenchModel" "listWide" "I") (by decide +kernel)) rfl (by decide +kernel) rfl rfl (upd (upd f 0 (0 : Int32)) 24 w) g rfl dX10_list_110 (fun H locs hP hS => ?_)
                    refine lv_aload_n hx hb dX10_list_113 rfl (lv_at hl 2 rfl) ?_
                    refine lv_iload_n hx hb dX10_list_114 rfl (lv_at hl 4 rfl) ?_
                    refine m_put (v := .int h) (ty := .int) hx hb hts hin hown hK hP hD hS 25 (by decide) rfl (hts (.fieldLink RX10 236 "ShadowBenchModel" "listHigh" "I") (by decide +kernel)) rfl (by decide +kernel) rfl rfl (upd (upd (upd f 0 (0 : Int32)) 24 w) 25 h) g rfl dX10_list_115 (fun H locs hP hS => ?_)
                    refine lv_aload_n hx hb dX10_list_118 rfl (lv_at hl 2 rfl) ?_
                    refine m_get (v := .ref (a 26)) hx hb hts hin hown hK hP 26 (by decide) rfl (hts (.fieldLink RX10 52 "ShadowBenchModel" "list" "[J") (by decide +kernel)) rfl dX10_list_119 ?_
                    refine lv_aload_n hx hb dX10_list_122 rfl (lv_at hl 2 rfl) ?_
                    refine m_get (v := .int (f 23)) hx hb hts hin hown hK hP 23 (by decide) rfl (hts (.fieldLink RX10 230 "ShadowBenchModel" "listed" "I") (by decide +kernel)) rfl dX10_list_123 ?_
                    refine lv_lload_n hx hb dX10_list_126 rfl (lv_at hl 5 rfl) ?_
                    refine m_last (w := (q 26)) hx hb hK hP hD hS 14 rfl (vp_in_iff.mpr ⟨by omega, by omega⟩) (va_up q 26 (vp_updL (q 26) (f 23).toNatClampNeg p0)) (ms_26 cy mo a _ _ _ _ _) dX10_list_127 (fun H locs hP hS => ?_)
                    refine lv_aload_n hx hb dX10_list_128 rfl (lv_at hl 2 rfl) ?_
                    refine lv_dup hx hb dX10_list_129 rfl ?_
                    refine m_get (v := .int (f 23)) hx hb hts hin hown hK hP 23 (by decide) rfl (hts (.fieldLink RX10 230 "ShadowBenchModel" "listed" "I") (by decide +kernel)) rfl dX10_list_130 ?_
                    refine lv_iconst (v := 1) hx hb dX10_list_133 (by decide) ?_
                    refine lv_iadd hx hb dX10_list_134 ?_
                    refine lv_topi (fun v134 e134 => ?_)
                    have i134 : v134.toInt = (f 23).toInt + (1 : Int32).toInt := by rw [e134]; exact fb_addI (by omega) (by omega)
                    refine m_put (v := .int v134) (ty := .int) hx hb hts hin hown hK hP hD hS 23 (by decide) rfl (hts (.fieldLink RX10 230 "ShadowBenchModel" "listed" "I") (by decide +kernel)) rfl (by decide +kernel) rfl rfl (upd (upd (upd (upd f 0 (0 : Int32)) 24 w) 25 h) 23 v134) g rfl dX10_list_135 (fun H locs hP hS => ?_)
                    refine lv_aload_n hx hb dX10_list_138 rfl (lv_at hl 2 rfl) ?_
                    refine m_get (v := .int v134) hx hb hts hin hown hK hP 23 (by decide) rfl (hts (.fieldLink RX10 230 "ShadowBenchModel" "listed" "I") (by decide +kernel)) rfl dX10_list_139 ?_
                    have hP := wm_eq (ec_f_0_24_25_23__0_23_24_25 f (0 : Int32) w h v134) rfl rfl (ec_q_26__26 q ((vp_updL (q 26) (f 23).toNatClampNeg p0))) hP
                    exact W.iret (v := v134) hx hb hr (fun t ht hW => ⟨⟨_, ((upd (upd (upd (upd f 0 (0 : Int32)) 23 v134) 24 w) 25 h), g, r, (va_up q 26 (((vp_updL (q 26) (f 23).toNatClampNeg p0))))), rfl, ⟨v134, w, h, ((vp_updL (q 26) (f 23).toNatClampNeg p0)), rfl, ⟨Or.inl ⟨⟨goodP_of b11, (by omega), (by rcases j61_1 with ⟨z9, _⟩ | ⟨_, z9, _⟩; exact absurd (z9.symm.trans c102) (by decide); exact z9), (by rcases j61_1 with ⟨z9, _⟩ | ⟨_, _, z9⟩; exact absurd (z9.symm.trans c102) (by decide); exact fun ⟨j9, h9, y9⟩ => z9 j9 (by omega) y9)⟩, (by omega)⟩, Or.inl ⟨⟨goodP_of b11, (by omega), (by rcases j61_1 with ⟨z9, _⟩ | ⟨_, z9, _⟩; exact absurd (z9.symm.trans c102) (by decide); exact z9), (by rcases j61_1 with ⟨z9, _⟩ | ⟨_, _, z9⟩; exact absurd (z9.symm.trans c102) (by decide); exact fun ⟨j9, h9, y9⟩ => z9 j9 (by omega) y9)⟩, (by omega), rfl, rfl, rfl⟩, (by first | exact hI | exact mi_li hI rfl (show 0 ≤ v134.toInt ∧ v134.toInt ≤ 12 by omega) (fun _ => ⟨show 1 ≤ w.toInt ∧ w.toInt ≤ 6 by omega, show 1 ≤ h.toInt ∧ h.toInt ≤ 6 by omega⟩) rfl rfl rfl rfl)⟩⟩, by unfold mB; rw [ht]; exact hP⟩, hS.F ht⟩) hS.2.2 dX10_list_142
                  · skip
                    have d102 := c102
                    rw [fa_eq] at d102
                    refine lv_bipush (v := (-3)) hx hb dX10_list_105 (by decide) ?_
                    have hP := wm_eq (ec_f_0__0_23_24_25 f (0 : Int32)) rfl rfl (ec_q___26 q ) hP
                    exact W.iret (v := ((-3) : Int32)) hx hb hr (fun t ht hW => ⟨⟨_, ((upd (upd (upd (upd f 0 (0 : Int32)) 23 (f 23)) 24 (f 24)) 25 (f 25)), g, r, (va_up q 26 (q 26))), rfl, ⟨(f 23), (f 24), (f 25), (q 26), rfl, ⟨lsA_3 (goodP_of b11) (by omega) (by rcases j61_1 with ⟨_, z9⟩ | ⟨z9, _⟩; exact z9.imp id (fun ⟨j9, h9, y9⟩ => ⟨j9, (by omega), y9⟩); exact absurd z9 c102), Or.inr ⟨lsG_3 (by rcases j61_1 with ⟨_, z9⟩ | ⟨z9, _⟩; exact z9.imp id (fun ⟨j9, h9, y9⟩ => ⟨j9, (by omega), y9⟩); exact absurd z9 c102), rfl, rfl, rfl, rfl⟩, (by first | exact hI | exact mi_li hI rfl (show 0 ≤ (f 23).toInt ∧ (f 23).toInt ≤ 12 by omega) (fun _ => ⟨show 1 ≤ (f 24).toInt ∧ (f 24).toInt ≤ 6 by omega, show 1 ≤ (f 25).toInt ∧ (f 25).toInt ≤ 6 by omega⟩) rfl rfl rfl rfl)⟩⟩, by unfold mB; rw [ht]; exact hP⟩, hS.F ht⟩) hS.2.2 dX10_list_107
                · skip
                  have d67 := c67
                  rw [fa_le] at d67
                  refine lv_iload hx hb dX10_list_70 (lv_at hl 1 rfl) ?_
                  refine lv_if_ne (tgt := 87) hx hb dX10_list_72 (by decide) (fun c72 => ?_) (fun c72 => ?_)
                  · skip
                    have d72 := c72
                    rw [fa_eq] at d72
                    refine lv_iconst (v := 1) hx hb dX10_list_87 (by decide) ?_
                    refine lv_goto (tgt := 92) hx hb dX10_list_88 (by decide) ?_
                    refine lv_istore (lv' := [(5, .int (1 : Int32)), (6, .int (nI k)), (0, .ref mo), (1, .int w), (2, .int h), (3, .long p0)]) hx hb dX10_list_92 hl (by decide) rfl (fun ls hl => ?_)
                    refine lv_iinc (v := (nI (k + 1))) (lv' := [(6, .int (nI (k + 1))), (5, .int (1 : Int32)), (0, .ref mo), (1, .int w), (2, .int h), (3, .long p0)]) hx hb dX10_list_94 hl (k := 1) rfl (nI_1 _) (by decide) rfl (fun ls hl => ?_)
                    refine lv_goto (tgt := 61) hx hb dX10_list_97 (by decide) ?_
                    exact ih_61 (k + 1) (1 : Int32) (by omega) (by
                                                                                          first
                                                                                          | exact Or.inl ⟨rfl, Or.inr ⟨k, by omega, f81.symm.trans ((lg_cmp_eq _ _).mp c84)⟩⟩
                                                                                          | exact Or.inr ⟨rfl, (by rcases j61_1 with ⟨z9, _⟩ | ⟨_, z9, _⟩; exact absurd (z9.symm.trans c72) (by decide); exact z9), fun j hj => by
                                                                                              by_cases e9 : j = k
                                                                                              · rw [e9]; exact fun z9 => c84 ((lg_cmp_eq _ _).mpr (f81.trans z9))
                                                                                              · rcases j61_1 with ⟨z9, _⟩ | ⟨_, _, z9⟩
                                                                                                · exact absurd (z9.symm.trans c72) (by decide)
                                                                                                · exact z9 j (by omega)⟩
                                                                                          | exact Or.inl ⟨rfl, by
                                                                                              rcases j61_1 with ⟨_, z9⟩ | ⟨z9, _⟩
                                                                                              · exact z9.imp id (fun ⟨j9, h9, y9⟩ => ⟨j9, by omega, y9⟩)
                                                                                              · exact absurd z9 c72⟩) (by omega) _ _ hP hS ls (lv_sub hl [0, 1, 2, 3, 4, 5] rfl)
                  · skip
                    have d72 := c72
                    rw [fa_eq] at d72
                    refine lv_aload_n hx hb dX10_list_75 rfl (lv_at hl 2 rfl) ?_
                    refine m_get (v := .ref (a 26)) hx hb hts hin hown hK hP 26 (by decide) rfl (hts (.fieldLink RX10 52 "ShadowBenchModel" "list" "[J") (by decide +kernel)) rfl dX10_list_76 ?_
                    refine lv_iload hx hb dX10_list_79 (lv_at hl 0 rfl) ?_
                    refine m_lald (w := (q 26)) hx hb hK hP 14 rfl (vp_in_iff.mpr ⟨by omega, by omega⟩) dX10_list_81 ?_
                    refine lv_topl (fun v81 e81 => ?_)
                    have f81 : v81 = q 26 k := by rw [e81, nI_clamp (by omega)]
                    refine lv_lload_n hx hb dX10_list_82 rfl (lv_at hl 5 rfl) ?_
                    refine W.lcmp hx hb dX10_list_83 ?_
                    refine lv_if_ne (tgt := 91) hx hb dX10_list_84 (by decide) (fun c84 => ?_) (fun c84 => ?_)
                    · skip
                      have d84 := c84
                      rw [lg_cmp_eq, fa_eq64] at d84
                      refine lv_iconst (v := 0) hx hb dX10_list_91 (by decide) ?_
                      refine lv_istore (lv' := [(5, .int (0 : Int32)), (6, .int (nI k)), (0, .ref mo), (1, .int w), (2, .int h), (3, .long p0)]) hx hb dX10_list_92 hl (by decide) rfl (fun ls hl => ?_)
                      refine lv_iinc (v := (nI (k + 1))) (lv' := [(6, .int (nI (k + 1))), (5, .int (0 : Int32)), (0, .ref mo), (1, .int w), (2, .int h), (3, .long p0)]) hx hb dX10_list_94 hl (k := 1) rfl (nI_1 _) (by decide) rfl (fun ls hl => ?_)
                      refine lv_goto (tgt := 61) hx hb dX10_list_97 (by decide) ?_
                      exact ih_61 (k + 1) (0 : Int32) (by omega) (by
                                                                                          first
                                                                                          | exact Or.inl ⟨rfl, Or.inr ⟨k, by omega, f81.symm.trans ((lg_cmp_eq _ _).mp c84)⟩⟩
                                                                                          | exact Or.inr ⟨rfl, (by rcases j61_1 with ⟨z9, _⟩ | ⟨_, z9, _⟩; exact absurd (z9.symm.trans c72) (by decide); exact z9), fun j hj => by
                                                                                              by_cases e9 : j = k
                                                                                              · rw [e9]; exact fun z9 => c84 ((lg_cmp_eq _ _).mpr (f81.trans z9))
                                                                                              · rcases j61_1 with ⟨z9, _⟩ | ⟨_, _, z9⟩
                                                                                                · exact absurd (z9.symm.trans c72) (by decide)
                                                                                                · exact z9 j (by omega)⟩
                                                                                          | exact Or.inl ⟨rfl, by
                                                                                              rcases j61_1 with ⟨_, z9⟩ | ⟨z9, _⟩
                                                                                              · exact z9.imp id (fun ⟨j9, h9, y9⟩ => ⟨j9, by omega, y9⟩)
                                                                                              · exact absurd z9 c72⟩) (by omega) _ _ hP hS ls (lv_sub hl [0, 1, 2, 3, 4, 5] rfl)
                    · skip
                      have d84 := c84
                      rw [lg_cmp_eq, fa_eq64] at d84
                      refine lv_iconst (v := 1) hx hb dX10_list_87 (by decide) ?_
                      refine lv_goto (tgt := 92) hx hb dX10_list_88 (by decide) ?_
                      refine lv_istore (lv' := [(5, .int (1 : Int32)), (6, .int (nI k)), (0, .ref mo), (1, .int w), (2, .int h), (3, .long p0)]) hx hb dX10_list_92 hl (by decide) rfl (fun ls hl => ?_)
                      refine lv_iinc (v := (nI (k + 1))) (lv' := [(6, .int (nI (k + 1))), (5, .int (1 : Int32)), (0, .ref mo), (1, .int w), (2, .int h), (3, .long p0)]) hx hb dX10_list_94 hl (k := 1) rfl (nI_1 _) (by decide) rfl (fun ls hl => ?_)
                      refine lv_goto (tgt := 61) hx hb dX10_list_97 (by decide) ?_
                      exact ih_61 (k + 1) (1 : Int32) (by omega) (by
                                                                                          first
                                                                                          | exact Or.inl ⟨rfl, Or.inr ⟨k, by omega, f81.symm.trans ((lg_cmp_eq _ _).mp c84)⟩⟩
                                                                                          | exact Or.inr ⟨rfl, (by rcases j61_1 with ⟨z9, _⟩ | ⟨_, z9, _⟩; exact absurd (z9.symm.trans c72) (by decide); exact z9), fun j hj => by
                                                                                              by_cases e9 : j = k
                                                                                              · rw [e9]; exact fun z9 => c84 ((lg_cmp_eq _ _).mpr (f81.trans z9))
                                                                                              · rcases j61_1 with ⟨z9, _⟩ | ⟨_, _, z9⟩
                                                                                                · exact absurd (z9.symm.trans c72) (by decide)
                                                                                                · exact z9 j (by omega)⟩
                                                                                          | exact Or.inl ⟨rfl, by
                                                                                              rcases j61_1 with ⟨_, z9⟩ | ⟨z9, _⟩
                                                                                              · exact z9.imp id (fun ⟨j9, h9, y9⟩ => ⟨j9, by omega, y9⟩)
                                                                                              · exact absurd z9 c72⟩) (by omega) _ _ hP hS ls (lv_sub hl [0, 1, 2, 3, 4, 5] rfl)
            exact loop_61 (12 + 1) 0 (1 : Int32) (by omega) (by first | exact Or.inr ⟨rfl, (by unfold lsO; omega), fun j hj => absurd hj (Nat.not_lt_zero _)⟩ | exact Or.inl ⟨rfl, Or.inl (by unfold lsO; omega)⟩) (by omega) _ _ hP hS ls (lv_sub hl [0, 1, 2, 3, 4, 5] rfl)
    · skip
      have d22 := c22
      rw [fa_eq] at d22
      refine lv_bipush (v := (-2)) hx hb dX10_list_25 (by decide) ?_
      have hP := wm_eq (ec_f_0__0_23_24_25 f (0 : Int32)) rfl rfl (ec_q___26 q ) hP
      exact W.iret (v := ((-2) : Int32)) hx hb hr (fun t ht hW => ⟨⟨_, ((upd (upd (upd (upd f 0 (0 : Int32)) 23 (f 23)) 24 (f 24)) 25 (f 25)), g, r, (va_up q 26 (q 26))), rfl, ⟨(f 23), (f 24), (f 25), (q 26), rfl, ⟨lsA_2 (goodP_of b11) (by omega), Or.inr ⟨lsG_2 (by omega), rfl, rfl, rfl, rfl⟩, (by first | exact hI | exact mi_li hI rfl (show 0 ≤ (f 23).toInt ∧ (f 23).toInt ≤ 12 by omega) (fun _ => ⟨show 1 ≤ (f 24).toInt ∧ (f 24).toInt ≤ 6 by omega, show 1 ≤ (f 25).toInt ∧ (f 25).toInt ≤ 6 by omega⟩) rfl rfl rfl rfl)⟩⟩, by unfold mB; rw [ht]; exact hP⟩, hS.F ht⟩) hS.2.2 dX10_list_27
  · skip
    have b11 := bo_f q8 c11
    refine lv_iconst (v := (-1)) hx hb dX10_list_14 (by decide) ?_
    have hP := wm_eq (ec_f_0__0_23_24_25 f (0 : Int32)) rfl rfl (ec_q___26 q ) hP
    exact W.iret (v := ((-1) : Int32)) hx hb hr (fun t ht hW => ⟨⟨_, ((upd (upd (upd (upd f 0 (0 : Int32)) 23 (f 23)) 24 (f 24)) 25 (f 25)), g, r, (va_up q 26 (q 26))), rfl, ⟨(f 23), (f 24), (f 25), (q 26), rfl, ⟨lsA_1 (goodP_no b11), Or.inr ⟨lsG_1 (goodP_no b11), rfl, rfl, rfl, rfl⟩, (by first | exact hI | exact mi_li hI rfl (show 0 ≤ (f 23).toInt ∧ (f 23).toInt ≤ 12 by omega) (fun _ => ⟨show 1 ≤ (f 24).toInt ∧ (f 24).toInt ≤ 6 by omega, show 1 ≤ (f 25).toInt ∧ (f 25).toInt ≤ 6 by omega⟩) rfl rfl rfl rfl)⟩⟩, by unfold mB; rw [ht]; exact hP⟩, hS.F ht⟩) hS.2.2 dX10_list_15
set_option maxHeartbeats 4000000 in
set_option maxRecDepth 100000 in
theorem c_X10_tells_x (l : Launch) (D : va_G) (cy : Nat → ClassId) (mo : Nat) (a : Nat → Nat) (f : Nat → Int32) (g : Nat → Int64) (r : Nat → Nat → Int32) (q : Nat → Nat → Int64) (ways : Int32) (hD : DM cy mo a) (hI : MI f r) : Mi l D cy mo a yX10_tells wsX10_tells ({ frames := 3, cells := 0, slots := 0, locals := 78 }) f g r q [.int ways] (fun r0 u => u = (f, g, r, q) ∧ (Bo r0 (telA (q 26) (f 23) (f 24).toNatClampNeg (f 25).toNatClampNeg ways))) := by
  refine Met.ofW (cc := cX10_tells) (maxL := 7) (ret := (some .boolean)) (by decide) rfl ?_
  intro p e s m args below meth c s₁ B hml hv
  obtain ⟨rfl, hP, hK⟩ := hv
  have hx := B.exec
  have hb := B.bytes
  have hr := B.returns
  have hts := atoms_spec (ws := wsX10_tells) B.pre
  have hin : ∀ w ∈ u_ws RX10 TX10 35, w ∈ wsX10_tells := by decide +kernel
  have hown : s.vm.findClass RX10 = some m.cls := findClass_of_methodNamed B.named
  have hlocks := B.notSynchronized
  have hS : va_S (AM mo a) s.heap s.heap [] := va_S.rf
  have hl := lv_entry ([.ref mo, .int ways]) (n := 7) (Nat.le_of_ble_eq_true rfl)
  rw [lg_entry_eq]
  generalize (lg_sl ([.ref mo, .int ways]) ++ List.replicate (7 - (lg_sl ([.ref mo, .int ways])).length) Slot.unset).toArray = ls at hl ⊢
  have hl : lv_has ls 7 [(0, .ref mo), (1, .int ways)] := hl
  have k_0 : (0 : Int32).toInt = 0 := by decide
  have k_1 : (1 : Int32).toInt = 1 := by decide
  have k_4 : (4 : Int32).toInt = 4 := by decide
  have hI1 := hI.2.2.1
  refine lv_iconst (v := 1) hx hb dX10_tells_0 (by decide) ?_
  refine lv_istore_n (lv' := [(2, .int (1 : Int32)), (0, .ref mo), (1, .int ways)]) hx hb dX10_tells_1 rfl hl (by decide) rfl (fun ls hl => ?_)
  refine lv_iconst (v := 0) hx hb dX10_tells_2 (by decide) ?_
  refine lv_istore_n (lv' := [(3, .int (0 : Int32)), (2, .int (1 : Int32)), (0, .ref mo), (1, .int ways)]) hx hb dX10_tells_3 rfl hl (by decide) rfl (fun ls hl => ?_)
  have loop_4 : ∀ (n : Nat) (k : Nat) (x2 : Int32), (k ≤ 12 ∧ (k : Int) ≤ (f 23).toInt) → ((x2 = 1 ∧ ∀ a b : Nat, a < k → b < a → ∃ j, j < 4 ∧ unl (f 24).toNatClampNeg (f 25).toNatClampNeg (q 26 a) (q 26 b) ways j) ∨ (x2 = 0 ∧ ¬ ∀ a b : Nat, a < k → b < a → ∃ j, j < 4 ∧ unl (f 24).toNatClampNeg (f 25).toNatClampNeg (q 26 a) (q 26 b) ways j)) → 12 - k < n → ∀ (H : Heap) (locs : List Loc), va_P D vwCl (WM cy mo a f g r q) H → va_S (AM mo a) s.heap H locs → ∀ (ls : Array Slot), lv_has ls 7 [(3, .int (nI k)), (2, .int x2), (0, .ref mo), (1, .int ways)] → W p l e (headSpec wsX10_tells ({ frames := 3, cells := 0, slots := 0, locals := 78 })).room s m #[Value.ref mo, Value.int ways] below meth c H locs 0 0 (MQ below (va_Qi (fun r0 u => u = (f, g, r, q) ∧ (Bo r0 (telA (q 26) (f 23) (f 24).toNatClampNeg (f 25).toNatClampNeg ways))) (mB D cy mo a) (AM mo a)) #[Value.ref mo, Value.int ways] s 0 0 (AM mo a)) (F0 m 4 ls []) := by
    intro n
    induction n with
    | zero => intro k x2  j4_0 j4_1 hn; exact absurd hn (Nat.not_lt_zero _)
    | succ n ih_4 =>
      intro k x2  j4_0 j4_1 hn_4 H locs hP hS ls hl
      have ik : (nI k).toInt = (k : Int) := nI_toInt (by omega)
      refine lv_iload_n hx hb dX10_tells_4 rfl (lv_at hl 0 rfl) ?_
      refine lv_aload_n hx hb dX10_tells_5 rfl (lv_at hl 2 rfl) ?_
      refine m_get (v := .int (f 23)) hx hb hts hin hown hK hP 23 (by decide) rfl (hts (.fieldLink RX10 230 "ShadowBenchModel" "listed" "I") (by decide +kernel)) rfl dX10_tells_6 ?_
      refine lv_icmp_ge (tgt := 117) hx hb dX10_tells_9 (by decide) (fun c9 => ?_) (fun c9 => ?_)
      · skip
        have d9 := c9
        rw [fa_le] at d9
        refine lv_iload_n hx hb dX10_tells_117 rfl (lv_at hl 1 rfl) ?_
        exact W.zret (v := x2) hx hb hr (by rcases j4_1 with ⟨z, _⟩ | ⟨z, _⟩ <;> rw [z] <;> rfl) (fun t ht hW => ⟨⟨_, (f, g, r, q), rfl, ⟨rfl, (by rcases j4_1 with ⟨z, y⟩ | ⟨z, y⟩; exact Or.inl ⟨z, fun a9 b9 h9 h8 => y a9 b9 (by omega) h8⟩; exact Or.inr ⟨z, fun u9 => y (fun a9 b9 h9 h8 => u9 a9 b9 (by omega) h8)⟩)⟩, by unfold mB; rw [ht]; exact hP⟩, hS.F ht⟩) hS.2.2 dX10_tells_118
      · skip
        have d9 := c9
        rw [fa_le] at d9
        refine lv_iconst (v := 0) hx hb dX10_tells_12 (by decide) ?_
        refine lv_istore (lv' := [(4, .int (0 : Int32)), (3, .int (nI k)), (2, .int x2), (0, .ref mo), (1, .int ways)]) hx hb dX10_tells_13 hl (by decide) rfl (fun ls hl => ?_)
        have loop_15 : ∀ (n : Nat) (i : Nat) (y2 : Int32), (i ≤ k) → ((y2 = 1 ∧ (∀ a b : Nat, a < k → b < a → ∃ j, j < 4 ∧ unl (f 24).toNatClampNeg (f 25).toNatClampNeg (q 26 a) (q 26 b) ways j) ∧ ∀ b : Nat, b < i → ∃ j, j < 4 ∧ unl (f 24).toNatClampNeg (f 25).toNatClampNeg (q 26 k) (q 26 b) ways j) ∨ (y2 = 0 ∧ ¬ ((∀ a b : Nat, a < k → b < a → ∃ j, j < 4 ∧ unl (f 24).toNatClampNeg (f 25).toNatClampNeg (q 26 a) (q 26 b) ways j) ∧ ∀ b : Nat, b < i → ∃ j, j < 4 ∧ unl (f 24).toNatClampNeg (f 25).toNatClampNeg (q 26 k) (q 26 b) ways j))) → 12 - i < n → ∀ (H : Heap) (locs : List Loc), va_P D vwCl (WM cy mo a f g r q) H → va_S (AM mo a) s.heap H locs → ∀ (ls : Array Slot), lv_has ls 7 [(4, .int (nI i)), (3, .int (nI k)), (2, .int y2), (0, .ref mo), (1, .int ways)] → W p l e (headSpec wsX10_tells ({ frames := 3, cells := 0, slots := 0, locals := 78 })).room s m #[Value.ref mo, Value.int ways] below meth c H locs 0 0 (MQ below (va_Qi (fun r0 u => u = (f, g, r, q) ∧ (Bo r0 (telA (q 26) (f 23) (f 24).toNatClampNeg (f 25).toNatClampNeg ways))) (mB D cy mo a) (AM mo a)) #[Value.ref mo, Value.int ways] s 0 0 (AM mo a)) (F0 m 15 ls []) := by
          intro n
          induction n with
          | zero => intro i y2  j15_0 j15_1 hn; exact absurd hn (Nat.not_lt_zero _)
          | succ n ih_15 =>
            intro i y2  j15_0 j15_1 hn_15 H locs hP hS ls hl
            have ii : (nI i).toInt = (i : Int) := nI_toInt (by omega)
            refine lv_iload hx hb dX10_tells_15 (lv_at hl 0 rfl) ?_
            refine lv_iload_n hx hb dX10_tells_17 rfl (lv_at hl 1 rfl) ?_
            refine lv_icmp_ge (tgt := 111) hx hb dX10_tells_18 (by decide) (fun c18 => ?_) (fun c18 => ?_)
            · skip
              have d18 := c18
              rw [fa_le] at d18
              refine lv_iinc (v := (nI (k + 1))) (lv' := [(3, .int (nI (k + 1))), (4, .int (nI i)), (2, .int y2), (0, .ref mo), (1, .int ways)]) hx hb dX10_tells_111 hl (k := 1) rfl (nI_1 _) (by decide) rfl (fun ls hl => ?_)
              refine lv_goto (tgt := 4) hx hb dX10_tells_114 (by decide) ?_
              exact ih_4 (k + 1) y2 (by omega) (by
                                                                                          have hik : i = k := by omega
                                                                                          rcases j15_1 with ⟨z, y, x⟩ | ⟨z, y⟩
                                                                                          · exact Or.inl ⟨z, fun a b h1 h2 => by
                                                                                              by_cases e9 : a = k
                                                                                              · rw [e9] at h2 ⊢; exact x b (by omega)
                                                                                              · exact y a b (by omega) h2⟩
                                                                                          · exact Or.inr ⟨z, fun u9 => y ⟨fun a b h1 h2 => u9 a b (by omega) h2, fun b h1 => u9 k b (by omega) (by omega)⟩⟩) (by omega) _ _ hP hS ls (lv_sub hl [0, 2, 3, 4] rfl)
            · skip
              have d18 := c18
              rw [fa_le] at d18
              refine lv_iconst (v := 0) hx hb dX10_tells_21 (by decide) ?_
              refine lv_istore (lv' := [(5, .int (0 : Int32)), (4, .int (nI i)), (3, .int (nI k)), (2, .int y2), (0, .ref mo), (1, .int ways)]) hx hb dX10_tells_22 hl (by decide) rfl (fun ls hl => ?_)
              refine lv_iconst (v := 0) hx hb dX10_tells_24 (by decide) ?_
              refine lv_istore (lv' := [(6, .int (0 : Int32)), (5, .int (0 : Int32)), (4, .int (nI i)), (3, .int (nI k)), (2, .int y2), (0, .ref mo), (1, .int ways)]) hx hb dX10_tells_25 hl (by decide) rfl (fun ls hl => ?_)
              have loop_27 : ∀ (n : Nat) (m1 : Nat) (x5 : Int32), (m1 ≤ 4) → ((x5 = 1 ∧ ∃ j, j < m1 ∧ unl (f 24).toNatClampNeg (f 25).toNatClampNeg (q 26 k) (q 26 i) ways j) ∨ (x5 = 0 ∧ ∀ j, j < m1 → ¬ unl (f 24).toNatClampNeg (f 25).toNatClampNeg (q 26 k) (q 26 i) ways j)) → 4 - m1 < n → ∀ (H : Heap) (locs : List Loc), va_P D vwCl (WM cy mo a f g r q) H → va_S (AM mo a) s.heap H locs → ∀ (ls : Array Slot), lv_has ls 7 [(6, .int (nI m1)), (5, .int x5), (4, .int (nI i)), (3, .int (nI k)), (2, .int y2), (0, .ref mo), (1, .int ways)] → W p l e (headSpec wsX10_tells ({ frames := 3, cells := 0, slots := 0, locals := 78 })).room s m #[Value.ref mo, Value.int ways] below meth c H locs 0 0 (MQ below (va_Qi (fun r0 u => u = (f, g, r, q) ∧ (Bo r0 (telA (q 26) (f 23) (f 24).toNatClampNeg (f 25).toNatClampNeg ways))) (mB D cy mo a) (AM mo a)) #[Value.ref mo, Value.int ways] s 0 0 (AM mo a)) (F0 m 27 ls []) := by
                intro n
                induction n with
                | zero => intro m1 x5  j27_0 j27_1 hn; exact absurd hn (Nat.not_lt_zero _)
                | succ n ih_27 =>
                  intro m1 x5  j27_0 j27_1 hn_27 H locs hP hS ls hl
                  have im1 : (nI m1).toInt = (m1 : Int) := nI_toInt (by omega)
                  refine lv_iload hx hb dX10_tells_27 (lv_at hl 0 rfl) ?_
                  refine lv_iconst (v := 4) hx hb dX10_tells_29 (by decide) ?_
                  refine lv_icmp_ge (tgt := 90) hx hb dX10_tells_30 (by decide) (fun c30 => ?_) (fun c30 => ?_)
                  · skip
                    have d30 := c30
                    rw [fa_le] at d30
                    refine lv_iload_n hx hb dX10_tells_90 rfl (lv_at hl 4 rfl) ?_
                    refine lv_if_eq (tgt := 103) hx hb dX10_tells_91 (by decide) (fun c91 => ?_) (fun c91 => ?_)
                    · skip
                      have d91 := c91
                      rw [fa_eq] at d91
                      refine lv_iconst (v := 0) hx hb dX10_tells_103 (by decide) ?_
                      refine lv_istore_n (lv' := [(2, .int (0 : Int32)), (6, .int (nI m1)), (5, .int x5), (4, .int (nI i)), (3, .int (nI k)), (0, .ref mo), (1, .int ways)]) hx hb dX10_tells_104 rfl hl (by decide) rfl (fun ls hl => ?_)
                      refine lv_iinc (v := (nI (i + 1))) (lv' := [(4, .int (nI (i + 1))), (2, .int (0 : Int32)), (6, .int (nI m1)), (5, .int x5), (3, .int (nI k)), (0, .ref mo), (1, .int ways)]) hx hb dX10_tells_105 hl (k := 3) rfl (nI_1 _) (by decide) rfl (fun ls hl => ?_)
                      refine lv_goto (tgt := 15) hx hb dX10_tells_108 (by decide) ?_
                      exact ih_15 (i + 1) (0 : Int32) (by omega) (by first | exact ts_c (Q := fun b => ∃ j, j < 4 ∧ unl (f 24).toNatClampNeg (f 25).toNatClampNeg (q 26 k) (q 26 b) ways j) j15_1 (ts_27 (show m1 = 4 by omega) j27_1) c91 c96 | exact ts_a (Q := fun b => ∃ j, j < 4 ∧ unl (f 24).toNatClampNeg (f 25).toNatClampNeg (q 26 k) (q 26 b) ways j) j15_1 c91 | exact ts_b (Q := fun b => ∃ j, j < 4 ∧ unl (f 24).toNatClampNeg (f 25).toNatClampNeg (q 26 k) (q 26 b) ways j) (ts_27 (show m1 = 4 by omega) j27_1) c96) (by first | (clear j27_1; omega) | omega) _ _ hP hS ls (lv_sub hl [0, 4, 1, 5, 6] rfl)
                    · skip
                      have d91 := c91
                      rw [fa_eq] at d91
                      refine lv_iload hx hb dX10_tells_94 (lv_at hl 1 rfl) ?_
                      refine lv_if_eq (tgt := 103) hx hb dX10_tells_96 (by decide) (fun c96 => ?_) (fun c96 => ?_)
                      · skip
                        have d96 := c96
                        rw [fa_eq] at d96
                        refine lv_iconst (v := 0) hx hb dX10_tells_103 (by decide) ?_
                        refine lv_istore_n (lv' := [(2, .int (0 : Int32)), (6, .int (nI m1)), (5, .int x5), (4, .int (nI i)), (3, .int (nI k)), (0, .ref mo), (1, .int ways)]) hx hb dX10_tells_104 rfl hl (by decide) rfl (fun ls hl => ?_)
                        refine lv_iinc (v := (nI (i + 1))) (lv' := [(4, .int (nI (i + 1))), (2, .int (0 : Int32)), (6, .int (nI m1)), (5, .int x5), (3, .int (nI k)), (0, .ref mo), (1, .int ways)]) hx hb dX10_tells_105 hl (k := 3) rfl (nI_1 _) (by decide) rfl (fun ls hl => ?_)
                        refine lv_goto (tgt := 15) hx hb dX10_tells_108 (by decide) ?_
                        exact ih_15 (i + 1) (0 : Int32) (by omega) (by first | exact ts_c (Q := fun b => ∃ j, j < 4 ∧ unl (f 24).toNatClampNeg (f 25).toNatClampNeg (q 26 k) (q 26 b) ways j) j15_1 (ts_27 (show m1 = 4 by omega) j27_1) c91 c96 | exact ts_a (Q := fun b => ∃ j, j < 4 ∧ unl (f 24).toNatClampNeg (f 25).toNatClampNeg (q 26 k) (q 26 b) ways j) j15_1 c91 | exact ts_b (Q := fun b => ∃ j, j < 4 ∧ unl (f 24).toNatClampNeg (f 25).toNatClampNeg (q 26 k) (q 26 b) ways j) (ts_27 (show m1 = 4 by omega) j27_1) c96) (by first | (clear j27_1; omega) | omega) _ _ hP hS ls (lv_sub hl [0, 4, 1, 5, 6] rfl)
                      · skip
                        have d96 := c96
                        rw [fa_eq] at d96
                        refine lv_iconst (v := 1) hx hb dX10_tells_99 (by decide) ?_
                        refine lv_goto (tgt := 104) hx hb dX10_tells_100 (by decide) ?_
                        refine lv_istore_n (lv' := [(2, .int (1 : Int32)), (6, .int (nI m1)), (5, .int x5), (4, .int (nI i)), (3, .int (nI k)), (0, .ref mo), (1, .int ways)]) hx hb dX10_tells_104 rfl hl (by decide) rfl (fun ls hl => ?_)
                        refine lv_iinc (v := (nI (i + 1))) (lv' := [(4, .int (nI (i + 1))), (2, .int (1 : Int32)), (6, .int (nI m1)), (5, .int x5), (3, .int (nI k)), (0, .ref mo), (1, .int ways)]) hx hb dX10_tells_105 hl (k := 3) rfl (nI_1 _) (by decide) rfl (fun ls hl => ?_)
                        refine lv_goto (tgt := 15) hx hb dX10_tells_108 (by decide) ?_
                        exact ih_15 (i + 1) (1 : Int32) (by omega) (by first | exact ts_c (Q := fun b => ∃ j, j < 4 ∧ unl (f 24).toNatClampNeg (f 25).toNatClampNeg (q 26 k) (q 26 b) ways j) j15_1 (ts_27 (show m1 = 4 by omega) j27_1) c91 c96 | exact ts_a (Q := fun b => ∃ j, j < 4 ∧ unl (f 24).toNatClampNeg (f 25).toNatClampNeg (q 26 k) (q 26 b) ways j) j15_1 c91 | exact ts_b (Q := fun b => ∃ j, j < 4 ∧ unl (f 24).toNatClampNeg (f 25).toNatClampNeg (q 26 k) (q 26 b) ways j) (ts_27 (show m1 = 4 by omega) j27_1) c96) (by first | (clear j27_1; omega) | omega) _ _ hP hS ls (lv_sub hl [0, 4, 1, 5, 6] rfl)
                  · skip
                    have d30 := c30
                    rw [fa_le] at d30
                    refine lv_iload hx hb dX10_tells_33 (lv_at hl 1 rfl) ?_
                    refine lv_if_ne (tgt := 77) hx hb dX10_tells_35 (by decide) (fun c35 => ?_) (fun c35 => ?_)
                    · skip
                      have d35 := c35
                      rw [fa_eq] at d35
                      refine lv_iconst (v := 1) hx hb dX10_tells_77 (by decide) ?_
                      refine lv_goto (tgt := 82) hx hb dX10_tells_78 (by decide) ?_
                      refine lv_istore (lv' := [(5, .int (1 : Int32)), (6, .int (nI m1)), (4, .int (nI i)), (3, .int (nI k)), (2, .int y2), (0, .ref mo), (1, .int ways)]) hx hb dX10_tells_82 hl (by decide) rfl (fun ls hl => ?_)
                      refine lv_iinc (v := (nI (m1 + 1))) (lv' := [(6, .int (nI (m1 + 1))), (5, .int (1 : Int32)), (4, .int (nI i)), (3, .int (nI k)), (2, .int y2), (0, .ref mo), (1, .int ways)]) hx hb dX10_tells_84 hl (k := 1) rfl (nI_1 _) (by decide) rfl (fun ls hl => ?_)
                      refine lv_goto (tgt := 27) hx hb dX10_tells_87 (by decide) ?_
                      exact ih_27 (m1 + 1) (1 : Int32) (by omega) (by
                                                                                          first
                                                                                          | exact Or.inl ⟨rfl, m1, by omega, hB.trans c45, b74⟩
                                                                                          | exact Or.inl ⟨rfl, by
                                                                                              rcases j27_1 with ⟨_, j9, h9, y9⟩ | ⟨z9, _⟩
                                                                                              · exact ⟨j9, by omega, y9⟩
                                                                                              · exact absurd z9 c35⟩
                                                                                          | exact Or.inr ⟨rfl, fun j hj => by
                                                                                              by_cases e9 : j = m1
                                                                                              · rw [e9]; first | exact fun z9 => c45 (hB.symm.trans z9.1) | exact fun z9 => z9.2 b74
                                                                                              · rcases j27_1 with ⟨z9, _⟩ | ⟨_, z9⟩
                                                                                                · exact absurd (z9.symm.trans c35) (by decide)
                                                                                                · exact z9 j (by omega)⟩) (by omega) _ _ hP hS ls (lv_sub hl [0, 1, 2, 3, 4, 5, 6] rfl)
                    · skip
                      have d35 := c35
                      rw [fa_eq] at d35
                      refine lv_iload_n hx hb dX10_tells_38 rfl (lv_at hl 6 rfl) ?_
                      refine lv_iload hx hb dX10_tells_39 (lv_at hl 0 rfl) ?_
                      refine lv_ishr hx hb dX10_tells_41 ?_
                      refine lv_topi (fun v41 e41 => ?_)
                      refine lv_iconst (v := 1) hx hb dX10_tells_42 (by decide) ?_
                      refine lv_iand hx hb dX10_tells_43 ?_
                      refine lv_topi (fun v43 e43 => ?_)
                      refine lv_iconst (v := 1) hx hb dX10_tells_44 (by decide) ?_
                      have hB : gB ways m1 = v43 := by rw [e43, e41]; rfl
                      refine lv_icmp_ne (tgt := 81) hx hb dX10_tells_45 (by decide) (fun c45 => ?_) (fun c45 => ?_)
                      · skip
                        have d45 := c45
                        rw [fa_eq] at d45
                        refine lv_iconst (v := 0) hx hb dX10_tells_81 (by decide) ?_
                        refine lv_istore (lv' := [(5, .int (0 : Int32)), (6, .int (nI m1)), (4, .int (nI i)), (3, .int (nI k)), (2, .int y2), (0, .ref mo), (1, .int ways)]) hx hb dX10_tells_82 hl (by decide) rfl (fun ls hl => ?_)
                        refine lv_iinc (v := (nI (m1 + 1))) (lv' := [(6, .int (nI (m1 + 1))), (5, .int (0 : Int32)), (4, .int (nI i)), (3, .int (nI k)), (2, .int y2), (0, .ref mo), (1, .int ways)]) hx hb dX10_tells_84 hl (k := 1) rfl (nI_1 _) (by decide) rfl (fun ls hl => ?_)
                        refine lv_goto (tgt := 27) hx hb dX10_tells_87 (by decide) ?_
                        exact ih_27 (m1 + 1) (0 : Int32) (by omega) (by
                                                                                          first
                                                                                          | exact Or.inl ⟨rfl, m1, by omega, hB.trans c45, b74⟩
                                                                                          | exact Or.inl ⟨rfl, by
                                                                                              rcases j27_1 with ⟨_, j9, h9, y9⟩ | ⟨z9, _⟩
                                                                                              · exact ⟨j9, by omega, y9⟩
                                                                                              · exact absurd z9 c35⟩
                                                                                          | exact Or.inr ⟨rfl, fun j hj => by
                                                                                              by_cases e9 : j = m1
                                                                                              · rw [e9]; first | exact fun z9 => c45 (hB.symm.trans z9.1) | exact fun z9 => z9.2 b74
                                                                                              · rcases j27_1 with ⟨z9, _⟩ | ⟨_, z9⟩
                                                                                                · exact absurd (z9.symm.trans c35) (by decide)
                                                                                                · exact z9 j (by omega)⟩) (by omega) _ _ hP hS ls (lv_sub hl [0, 1, 2, 3, 4, 5, 6] rfl)
                      · skip
                        have d45 := c45
                        rw [fa_eq] at d45
                        have hLw := hI.2.2.2.1 (by omega)
                        refine lv_aload_n hx hb dX10_tells_48 rfl (lv_at hl 5 rfl) ?_
                        refine m_get (v := .int (f 24)) hx hb hts hin hown hK hP 24 (by decide) rfl (hts (.fieldLink RX10 233 "ShadowBenchModel" "listWide" "I") (by decide +kernel)) rfl dX10_tells_49 ?_
                        refine lv_aload_n hx hb dX10_tells_52 rfl (lv_at hl 5 rfl) ?_
                        refine m_get (v := .int (f 25)) hx hb hts hin hown hK hP 25 (by decide) rfl (hts (.fieldLink RX10 236 "ShadowBenchModel" "listHigh" "I") (by decide +kernel)) rfl dX10_tells_53 ?_
                        refine lv_aload_n hx hb dX10_tells_56 rfl (lv_at hl 5 rfl) ?_
                        refine m_get (v := .ref (a 26)) hx hb hts hin hown hK hP 26 (by decide) rfl (hts (.fieldLink RX10 52 "ShadowBenchModel" "list" "[J") (by decide +kernel)) rfl dX10_tells_57 ?_
                        refine lv_iload_n hx hb dX10_tells_60 rfl (lv_at hl 3 rfl) ?_
                        refine m_lald (w := (q 26)) hx hb hK hP 14 rfl (vp_in_iff.mpr ⟨by omega, by omega⟩) dX10_tells_61 ?_
                        refine lv_topl (fun v61 e61 => ?_)
                        have f61 : v61 = q 26 k := by rw [e61, nI_clamp (by omega)]
                        refine lv_aload_n hx hb dX10_tells_62 rfl (lv_at hl 5 rfl) ?_
                        refine m_get (v := .ref (a 26)) hx hb hts hin hown hK hP 26 (by decide) rfl (hts (.fieldLink RX10 52 "ShadowBenchModel" "list" "[J") (by decide +kernel)) rfl dX10_tells_63 ?_
                        refine lv_iload hx hb dX10_tells_66 (lv_at hl 2 rfl) ?_
                        refine m_lald (w := (q 26)) hx hb hK hP 14 rfl (vp_in_iff.mpr ⟨by omega, by omega⟩) dX10_tells_68 ?_
                        refine lv_topl (fun v68 e68 => ?_)
                        have f68 : v68 = q 26 i := by rw [e68, nI_clamp (by omega)]
                        refine lv_iload hx hb dX10_tells_69 (lv_at hl 0 rfl) ?_
                        refine m_pu (As := [.int (f 24), .int (f 25), .long v61, .long v68, .int (nI m1)]) (rest := []) ⟨hx, hb, hml, hown, hts⟩ (c_X10_areAlike_x l (f 24) (f 25) v61 v68 (nI m1) hLw.1 hLw.2 (by omega)) (va_cwS 5 hts gX10_tells_X10_areAlike rfl rfl rfl (by decide +kernel) ⟨Nat.le_of_ble_eq_true rfl, Nat.le_of_ble_eq_true rfl⟩) hP rfl hl.1 rfl (Nat.le_of_ble_eq_true rfl) dX10_tells_71 ⟨Nat.le_of_ble_eq_true rfl, Nat.le_of_ble_eq_true rfl⟩ hS (fun r71 H locs q71 hP hS => ?_)
                        rw [nI_clamp (n := m1) (by omega), f61, f68] at q71
                        refine lv_if_ne (tgt := 81) hx hb dX10_tells_74 (by decide) (fun c74 => ?_) (fun c74 => ?_)
                        · skip
                          have b74 := bo_t q71 c74
                          refine lv_iconst (v := 0) hx hb dX10_tells_81 (by decide) ?_
                          refine lv_istore (lv' := [(5, .int (0 : Int32)), (6, .int (nI m1)), (4, .int (nI i)), (3, .int (nI k)), (2, .int y2), (0, .ref mo), (1, .int ways)]) hx hb dX10_tells_82 hl (by decide) rfl (fun ls hl => ?_)
                          refine lv_iinc (v := (nI (m1 + 1))) (lv' := [(6, .int (nI (m1 + 1))), (5, .int (0 : Int32)), (4, .int (nI i)), (3, .int (nI k)), (2, .int y2), (0, .ref mo), (1, .int ways)]) hx hb dX10_tells_84 hl (k := 1) rfl (nI_1 _) (by decide) rfl (fun ls hl => ?_)
                          refine lv_goto (tgt := 27) hx hb dX10_tells_87 (by decide) ?_
                          exact ih_27 (m1 + 1) (0 : Int32) (by omega) (by
                                                                                          first
                                                                                          | exact Or.inl ⟨rfl, m1, by omega, hB.trans c45, b74⟩
                                                                                          | exact Or.inl ⟨rfl, by
                                                                                              rcases j27_1 with ⟨_, j9, h9, y9⟩ | ⟨z9, _⟩
                                                                                              · exact ⟨j9, by omega, y9⟩
                                                                                              · exact absurd z9 c35⟩
                                                                                          | exact Or.inr ⟨rfl, fun j hj => by
                                                                                              by_cases e9 : j = m1
                                                                                              · rw [e9]; first | exact fun z9 => c45 (hB.symm.trans z9.1) | exact fun z9 => z9.2 b74
                                                                                              · rcases j27_1 with ⟨z9, _⟩ | ⟨_, z9⟩
                                                                                                · exact absurd (z9.symm.trans c35) (by decide)
                                                                                                · exact z9 j (by omega)⟩) (by omega) _ _ hP hS ls (lv_sub hl [0, 1, 2, 3, 4, 5, 6] rfl)
                        · skip
                          have b74 := bo_f q71 c74
                          refine lv_iconst (v := 1) hx hb dX10_tells_77 (by decide) ?_
                          refine lv_goto (tgt := 82) hx hb dX10_tells_78 (by decide) ?_
                          refine lv_istore (lv' := [(5, .int (1 : Int32)), (6, .int (nI m1)), (4, .int (nI i)), (3, .int (nI k)), (2, .int y2), (0, .ref mo), (1, .int ways)]) hx hb dX10_tells_82 hl (by decide) rfl (fun ls hl => ?_)
                          refine lv_iinc (v := (nI (m1 + 1))) (lv' := [(6, .int (nI (m1 + 1))), (5, .int (1 : Int32)), (4, .int (nI i)), (3, .int (nI k)), (2, .int y2), (0, .ref mo), (1, .int ways)]) hx hb dX10_tells_84 hl (k := 1) rfl (nI_1 _) (by decide) rfl (fun ls hl => ?_)
                          refine lv_goto (tgt := 27) hx hb dX10_tells_87 (by decide) ?_
                          exact ih_27 (m1 + 1) (1 : Int32) (by omega) (by
                                                                                          first
                                                                                          | exact Or.inl ⟨rfl, m1, by omega, hB.trans c45, b74⟩
                                                                                          | exact Or.inl ⟨rfl, by
                                                                                              rcases j27_1 with ⟨_, j9, h9, y9⟩ | ⟨z9, _⟩
                                                                                              · exact ⟨j9, by omega, y9⟩
                                                                                              · exact absurd z9 c35⟩
                                                                                          | exact Or.inr ⟨rfl, fun j hj => by
                                                                                              by_cases e9 : j = m1
                                                                                              · rw [e9]; first | exact fun z9 => c45 (hB.symm.trans z9.1) | exact fun z9 => z9.2 b74
                                                                                              · rcases j27_1 with ⟨z9, _⟩ | ⟨_, z9⟩
                                                                                                · exact absurd (z9.symm.trans c35) (by decide)
                                                                                                · exact z9 j (by omega)⟩) (by omega) _ _ hP hS ls (lv_sub hl [0, 1, 2, 3, 4, 5, 6] rfl)
              exact loop_27 (4 + 1) 0 (0 : Int32) (by omega) (Or.inr ⟨rfl, fun j h => absurd h (Nat.not_lt_zero _)⟩) (by omega) _ _ hP hS ls (lv_sub hl [0, 1, 2, 3, 4, 5, 6] rfl)
        exact loop_15 (12 + 1) 0 x2 (by omega) (by rcases j4_1 with ⟨z, y⟩ | ⟨z, y⟩; exact Or.inl ⟨z, y, fun b h => absurd h (Nat.not_lt_zero _)⟩; exact Or.inr ⟨z, fun u9 => y u9.1⟩) (by omega) _ _ hP hS ls (lv_sub hl [0, 1, 2, 3, 4] rfl)
  exact loop_4 (12 + 1) 0 (1 : Int32) (by omega) (Or.inl ⟨rfl, fun a b h => absurd h (Nat.not_lt_zero _)⟩) (by omega) _ _ hP hS ls (lv_sub hl [0, 1, 2, 3] rfl)
set_option maxHeartbeats 4000000 in
set_option maxRecDepth 100000 in
theorem c_X10_ways_x (l : Launch) (D : va_G) (cy : Nat → ClassId) (mo : Nat) (a : Nat → Nat) (f : Nat → Int32) (g : Nat → Int64) (r : Nat → Nat → Int32) (q : Nat → Nat → Int64)  (hD : DM cy mo a) (hI : MI f r) : Mi l D cy mo a yX10_ways wsX10_ways ({ frames := 4, cells := 0, slots := 0, locals := 104 }) f g r q [] (fun r0 u => u = ((upd f 0 (0 : Int32)), g, r, q) ∧ (wyA (fun s => telA (q 26) (f 23) (f 24).toNatClampNeg (f 25).toNatClampNeg (nI s)) r0)) := by
  refine Met.ofW (cc := cX10_ways) (maxL := 3) (ret := (some .int)) (by decide) rfl ?_
  intro p e s m args below meth c s₁ B hml hv
  obtain ⟨rfl, hP, hK⟩ := hv
  have hx := B.exec
  have hb := B.bytes
  have hr := B.returns
  have hts := atoms_spec (ws := wsX10_ways) B.pre
  have hin : ∀ w ∈ u_ws RX10 TX10 35, w ∈ wsX10_ways := by decide +kernel
  have hown : s.vm.findClass RX10 = some m.cls := findClass_of_methodNamed B.named
  have hlocks := B.notSynchronized
  have hS : va_S (AM mo a) s.heap s.heap [] := va_S.rf
  have hl := lv_entry ([.ref mo]) (n := 3) (Nat.le_of_ble_eq_true rfl)
  rw [lg_entry_eq]
  generalize (lg_sl ([.ref mo]) ++ List.replicate (3 - (lg_sl ([.ref mo])).length) Slot.unset).toArray = ls at hl ⊢
  have hl : lv_has ls 3 [(0, .ref mo)] := hl
  have k_m2 : (-2 : Int32).toInt = -2 := by decide
  have k_0 : (0 : Int32).toInt = 0 := by decide
  have k_4 : (4 : Int32).toInt = 4 := by decide
  have k_16 : (16 : Int32).toInt = 16 := by decide
  refine lv_aload_n hx hb dX10_ways_0 rfl (lv_at hl 0 rfl) ?_
  refine lv_iconst (v := 0) hx hb dX10_ways_1 (by decide) ?_
  refine m_put (v := .int (0 : Int32)) (ty := .int) hx hb hts hin hown hK hP hD hS 0 (by decide) rfl (hts (.fieldLink RX10 79 "ShadowBenchModel" "thrown" "I") (by decide +kernel)) rfl (by decide +kernel) rfl rfl (upd f 0 (0 : Int32)) g rfl dX10_ways_2 (fun H locs hP hS => ?_)
  refine lv_iconst (v := 0) hx hb dX10_ways_5 (by decide) ?_
  refine lv_istore_n (lv' := [(1, .int (0 : Int32)), (0, .ref mo)]) hx hb dX10_ways_6 rfl hl (by decide) rfl (fun ls hl => ?_)
  have loop_7 : ∀ (n : Nat) (k : Nat), (k ≤ 5) → (∀ m t, m < k → t < 16 → ¬ (pc4 t = m ∧ telA (q 26) (f 23) (f 24).toNatClampNeg (f 25).toNatClampNeg (nI t))) → 5 - k < n → ∀ (H : Heap) (locs : List Loc), va_P D vwCl (WM cy mo a (upd f 0 (0 : Int32)) g r q) H → va_S (AM mo a) s.heap H locs → ∀ (ls : Array Slot), lv_has ls 3 [(1, .int (nI k)), (0, .ref mo)] → W p l e (headSpec wsX10_ways ({ frames := 4, cells := 0, slots := 0, locals := 104 })).room s m #[Value.ref mo] below meth c H locs 0 0 (MQ below (va_Qi (fun r0 u => u = ((upd f 0 (0 : Int32)), g, r, q) ∧ (wyA (fun s => telA (q 26) (f 23) (f 24).toNatClampNeg (f 25).toNatClampNeg (nI s)) r0)) (mB D cy mo a) (AM mo a)) #[Value.ref mo] s 0 0 (AM mo a)) (F0 m 7 ls []) := by
    intro n
    induction n with
    | zero => intro k  j7_0 j7_1 hn; exact absurd hn (Nat.not_lt_zero _)
    | succ n ih_7 =>
      intro k  j7_0 j7_1 hn_7 H locs hP hS ls hl
      have ik : (nI k).toInt = (k : Int) := nI_toInt (by omega)
      refine lv_iload_n hx hb dX10_ways_7 rfl (lv_at hl 0 rfl) ?_
      refine lv_iconst (v := 4) hx hb dX10_ways_8 (by decide) ?_
      refine lv_icmp_gt (tgt := 51) hx hb dX10_ways_9 (by decide) (fun c9 => ?_) (fun c9 => ?_)
      · skip
        have d9 := c9
        rw [fa_lt] at d9
        refine lv_bipush (v := (-2)) hx hb dX10_ways_51 (by decide) ?_
        exact W.iret (v := ((-2) : Int32)) hx hb hr (fun t ht hW => ⟨⟨_, ((upd f 0 (0 : Int32)), g, r, q), rfl, ⟨rfl, (Or.inr ⟨rfl, fun m9 t9 h9 h8 => j7_1 m9 t9 (by omega) h8⟩)⟩, by unfold mB; rw [ht]; exact hP⟩, hS.F ht⟩) hS.2.2 dX10_ways_53
      · skip
        have d9 := c9
        rw [fa_lt] at d9
        refine lv_iconst (v := 0) hx hb dX10_ways_12 (by decide) ?_
        refine lv_istore_n (lv' := [(2, .int (0 : Int32)), (1, .int (nI k)), (0, .ref mo)]) hx hb dX10_ways_13 rfl hl (by decide) rfl (fun ls hl => ?_)
        have loop_14 : ∀ (n : Nat) (i : Nat), (i ≤ 16) → (∀ t, t < i → ¬ (pc4 t = k ∧ telA (q 26) (f 23) (f 24).toNatClampNeg (f 25).toNatClampNeg (nI t))) → 16 - i < n → ∀ (H : Heap) (locs : List Loc), va_P D vwCl (WM cy mo a (upd f 0 (0 : Int32)) g r q) H → va_S (AM mo a) s.heap H locs → ∀ (ls : Array Slot), lv_has ls 3 [(2, .int (nI i)), (1, .int (nI k)), (0, .ref mo)] → W p l e (headSpec wsX10_ways ({ frames := 4, cells := 0, slots := 0, locals := 104 })).room s m #[Value.ref mo] below meth c H locs 0 0 (MQ below (va_Qi (fun r0 u => u = ((upd f 0 (0 : Int32)), g, r, q) ∧ (wyA (fun s => telA (q 26) (f 23) (f 24).toNatClampNeg (f 25).toNatClampNeg (nI s)) r0)) (mB D cy mo a) (AM mo a)) #[Value.ref mo] s 0 0 (AM mo a)) (F0 m 14 ls []) := by
          intro n
          induction n with
          | zero => intro i  j14_0 j14_1 hn; exact absurd hn (Nat.not_lt_zero _)
          | succ n ih_14 =>
            intro i  j14_0 j14_1 hn_14 H locs hP hS ls hl
            have ii : (nI i).toInt = (i : Int) := nI_toInt (by omega)
            refine lv_iload_n hx hb dX10_ways_14 rfl (lv_at hl 0 rfl) ?_
            refine lv_bipush (v := 16) hx hb dX10_ways_15 (by decide) ?_
            refine lv_icmp_ge (tgt := 45) hx hb dX10_ways_17 (by decide) (fun c17 => ?_) (fun c17 => ?_)
            · skip
              have d17 := c17
              rw [fa_le] at d17
              refine lv_iinc (v := (nI (k + 1))) (lv' := [(1, .int (nI (k + 1))), (2, .int (nI i)), (0, .ref mo)]) hx hb dX10_ways_45 hl (k := 1) rfl (nI_1 _) (by decide) rfl (fun ls hl => ?_)
              refine lv_goto (tgt := 7) hx hb dX10_ways_48 (by decide) ?_
              exact ih_7 (k + 1) (by omega) (fun m t h1 h2 => by
                                                                                          by_cases e9 : m = k
                                                                                          · rw [e9]; exact j14_1 t (by omega)
                                                                                          · exact j7_1 m t (by omega) h2) (by omega) _ _ hP hS ls (lv_sub hl [0, 2] rfl)
            · skip
              have d17 := c17
              rw [fa_le] at d17
              refine lv_iload_n hx hb dX10_ways_20 rfl (lv_at hl 0 rfl) ?_
              refine lv_i2l (v := (nI i).toInt64) hx hb dX10_ways_21 rfl ?_
              refine m_pu (As := [.long ((nI i).toInt64)]) (rest := []) ⟨hx, hb, hml, hown, hts⟩ (c_X10_countOnes l ((nI i).toInt64) ) (va_cwS 1 hts gX10_ways_X10_countOnes rfl rfl rfl (by decide +kernel) ⟨Nat.le_of_ble_eq_true rfl, Nat.le_of_ble_eq_true rfl⟩) hP rfl hl.1 rfl (Nat.le_of_ble_eq_true rfl) dX10_ways_22 ⟨Nat.le_of_ble_eq_true rfl, Nat.le_of_ble_eq_true rfl⟩ hS (fun r22 H locs q22 hP hS => ?_)
              have f22 : r22 = nI (pc4 i) := by rw [q22, rn_ones _ 36 (Nat.le_refl _), pc4_lb i (by omega)]
              have b22 := pc4_le i
              have g22 : r22 = nI k ↔ pc4 i = k := by rw [f22]; exact nI_eq (by omega) (by omega)
              refine lv_iload_n hx hb dX10_ways_25 rfl (lv_at hl 1 rfl) ?_
              refine lv_icmp_ne (tgt := 39) hx hb dX10_ways_26 (by decide) (fun c26 => ?_) (fun c26 => ?_)
              · skip
                have d26 := c26
                rw [fa_eq] at d26
                refine lv_iinc (v := (nI (i + 1))) (lv' := [(2, .int (nI (i + 1))), (1, .int (nI k)), (0, .ref mo)]) hx hb dX10_ways_39 hl (k := 0) rfl (nI_1 _) (by decide) rfl (fun ls hl => ?_)
                refine lv_goto (tgt := 14) hx hb dX10_ways_42 (by decide) ?_
                exact ih_14 (i + 1) (by omega) (fun t h1 => by
                                                                                          by_cases e9 : t = i
                                                                                          · rw [e9]; first | exact fun z9 => c26 (g22.mpr z9.1) | exact fun z9 => b34 z9.2
                                                                                          · exact j14_1 t (by omega)) (by omega) _ _ hP hS ls (lv_sub hl [0, 1, 2] rfl)
              · skip
                have d26 := c26
                rw [fa_eq] at d26
                refine lv_aload_n hx hb dX10_ways_29 rfl (lv_at hl 2 rfl) ?_
                refine lv_iload_n hx hb dX10_ways_30 rfl (lv_at hl 0 rfl) ?_
                refine m_calli (As := [.int (nI i)]) (rest := []) ⟨hx, hb, hml, hown, hts⟩ (c_X10_tells_x l D cy mo a (upd f 0 (0 : Int32)) g r q (nI i) hD hI) (cwV 1 hts gX10_ways_X10_tells rfl rfl rfl (by decide +kernel) ⟨Nat.le_of_ble_eq_true rfl, Nat.le_of_ble_eq_true rfl⟩) hK hP rfl hl.1 rfl (Nat.le_of_ble_eq_true rfl) dX10_ways_31 ⟨Nat.le_of_ble_eq_true rfl, Nat.le_of_ble_eq_true rfl⟩ hS (fun r31 u H locs q31 hP hS => ?_)
                obtain ⟨rfl, q31⟩ := q31
                have hP : va_P D vwCl (WM cy mo a (upd f 0 (0 : Int32)) g r q) H := hP
                have q31 : Bo r31 (telA ((q 26)) ((f 23)) ((f 24)).toNatClampNeg ((f 25)).toNatClampNeg (nI i)) := q31
                refine lv_if_eq (tgt := 39) hx hb dX10_ways_34 (by decide) (fun c34 => ?_) (fun c34 => ?_)
                · skip
                  have b34 := bo_f q31 c34
                  refine lv_iinc (v := (nI (i + 1))) (lv' := [(2, .int (nI (i + 1))), (1, .int (nI k)), (0, .ref mo)]) hx hb dX10_ways_39 hl (k := 0) rfl (nI_1 _) (by decide) rfl (fun ls hl => ?_)
                  refine lv_goto (tgt := 14) hx hb dX10_ways_42 (by decide) ?_
                  exact ih_14 (i + 1) (by omega) (fun t h1 => by
                                                                                          by_cases e9 : t = i
                                                                                          · rw [e9]; first | exact fun z9 => c26 (g22.mpr z9.1) | exact fun z9 => b34 z9.2
                                                                                          · exact j14_1 t (by omega)) (by omega) _ _ hP hS ls (lv_sub hl [0, 1, 2] rfl)
                · skip
                  have b34 := bo_t q31 c34
                  refine lv_iload_n hx hb dX10_ways_37 rfl (lv_at hl 0 rfl) ?_
                  exact W.iret (v := (nI i)) hx hb hr (fun t ht hW => ⟨⟨_, ((upd f 0 (0 : Int32)), g, r, q), rfl, ⟨rfl, (Or.inl ⟨k, i, (by omega), (by omega), ⟨g22.mp c26, b34⟩, rfl, j7_1, j14_1⟩)⟩, by unfold mB; rw [ht]; exact hP⟩, hS.F ht⟩) hS.2.2 dX10_ways_38
        exact loop_14 (16 + 1) 0 (by omega) (fun t h => absurd h (Nat.not_lt_zero _)) (by omega) _ _ hP hS ls (lv_sub hl [0, 1, 2] rfl)
  exact loop_7 (5 + 1) 0 (by omega) (fun m t h => absurd h (Nat.not_lt_zero _)) (by omega) _ _ hP hS ls (lv_sub hl [0, 1] rfl)

def jA (k w h jc : Int32) : Int := if (0 ≤ k.toInt ∧ k.toInt ≤ 3) ∧ (1 ≤ w.toInt ∧ w.toInt ≤ 6) ∧ (1 ≤ h.toInt ∧ h.toInt ≤ 6) then (if jc.toInt < 8 then jc.toInt else -2) else -1
def jN (k w h jc : Int32) : Int := if ((0 ≤ k.toInt ∧ k.toInt ≤ 3) ∧ (1 ≤ w.toInt ∧ w.toInt ≤ 6) ∧ (1 ≤ h.toInt ∧ h.toInt ≤ 6)) ∧ jc.toInt < 8 then jc.toInt + 1 else jc.toInt

section CAR9
variable {p : Program} {l : Launch} {e : Env} {R : Room} {s : State} {m : MethodId} {args : Array Value} {below : List Frame} {meth : Method} {c : Code} {H : Heap} {locs : List Loc} {cells slots : Nat} {Q : State → Prop}
variable {cc : ByteArray} {pc : Nat} {ls : Array Slot} {rest : List Value} {D : va_G} {cy : Nat → ClassId} {A : Nat → Prop} {ws : va_W} {G : cG} {H0 : Heap}
theorem w9sh {a n z : Nat} {fa : Nat → Option Nat} (hD : va_D A ws) (hT : cT cy G ws) (hg : G a = some (9, n, z)) (hM : cIn ws a (.inl (cy 4, cqa n fa))) : ∀ i x, i < n → fa i = some x → ∃ k n, G x = some (3, k, n) := by
  obtain ⟨_, h9, f, rfl, hf⟩ := hT _ _ hg
  have z := cIn.eq hD hM h9
  simp only [Sum.inl.injEq, Prod.mk.injEq, Sum.inr.injEq, true_and] at z
  subst z
  exact hf
theorem t_aald9f (hx : p.tables.exec = Jvm.exec) (hb : c.code = cc) (hK : va_K D vwCl (cTy cy) s) (hP : va_P D vwCl ws H) {a n : Nat} {f : Nat → Option Nat} (hM : cIn ws a (.inl (cy 4, cqa n f))) (hf : ∀ i x, i < n → f i = some x → ∃ k n, G x = some (3, k, n)) {i : Int32} (hin : vp_in i n) (hdg : decode cc pc = .ok (.aaload, 1))
    (kn : f i.toNatClampNeg = none → W p l e R s m args below meth c H locs cells slots Q (F0 m (pc + 1) ls (.null :: rest)))
    (ks : ∀ x k n, G x = some (3, k, n) → f i.toNatClampNeg = some x → W p l e R s m args below meth c H locs cells slots Q (F0 m (pc + 1) ls (.ref x :: rest))) : W p l e R s m args below meth c H locs cells slots Q (F0 m pc ls (.int i :: .ref a :: rest)) := by
  obtain ⟨q0, hq⟩ := hM
  have hlt : i.toNatClampNeg < n := Nat.not_le.mp fun q => hin (Or.inr q)
  refine va_aldq hx hb hK hP q0 4 hq rfl hin hdg ?_
  cases hv : f i.toNatClampNeg with
  | none => exact kn hv
  | some x =>
    obtain ⟨k, n', hg⟩ := hf _ x hlt hv
    exact ks x k n' hg hv
theorem t_aast9f (hx : p.tables.exec = Jvm.exec) (hb : c.code = cc) (hV : cV s) (hK : va_K D vwCl (cTy cy) s) (hP : va_P D vwCl ws H) (hD : va_D A ws) (hS : va_S A H0 H locs) (hT : cT cy G ws) {a n z v k1 k2 : Nat} (hg : G a = some (9, n, z)) {f : Nat → Option Nat} (hM : cIn ws a (.inl (cy 4, cqa n f))) (hf : ∀ i x, i < n → f i = some x → ∃ k n, G x = some (3, k, n)) {i : Int32} (hv : G v = some (3, k1, k2)) (hin : vp_in i n) (hdg : decode cc pc = .ok (.aastore, 1))
    (kk : ∀ (H1 : Heap) (locs1 : List Loc) (ws1 : va_W), cF (fun b => b = a) ws ws1 → cIn ws1 a (.inl (cy 4, cqa n (va_up f i.toNatClampNeg (some v)))) → (∀ j x, j < n → va_up f i.toNatClampNeg (some v) j = some x → ∃ k n, G x = some (3, k, n)) → va_P D vwCl ws1 H1 → va_D A ws1 → cT cy G ws1 → va_S A H0 H1 locs1 → W p l e R s m args below meth c H1 locs1 cells slots Q (F0 m (pc + 1) ls rest)) : W p l e R s m args below meth c H locs cells slots Q (F0 m pc ls (.ref v :: .int i :: .ref a :: rest)) := by
  obtain ⟨q0, hq⟩ := hM
  obtain ⟨_, ⟨qk, hqk⟩, b, s', w, h, tw, x, y, ms, rfl, -, -, hJ⟩ := hT _ _ hv
  have hf1 : ∀ j x, j < n → va_up f i.toNatClampNeg (some v) j = some x → ∃ k n, G x = some (3, k, n) := fun j x hj hx => c_upf (P := fun i x => ∃ k n, G x = some (3, k, n)) hf ⟨_, _, hv⟩ hj hx
  have k : ∀ (H1 : Heap) (locs1 : List Loc), va_P D vwCl (ws.set q0 (a, .inl (cy 4, cqa n (va_up f i.toNatClampNeg (some v))))) H1 → va_D A (ws.set q0 (a, .inl (cy 4, cqa n (va_up f i.toNatClampNeg (some v))))) → va_S A H0 H1 locs1 → W p l e R s m args below meth c H1 locs1 cells slots Q (F0 m (pc + 1) ls rest) := fun H1 locs1 k1 k2 k3 => kk H1 locs1 _ (cF.up (cUp.set hq) rfl) (cUp.set hq).1 hf1 k1 k2 (hT.up (cUp.set hq) hg ⟨_, rfl, hf1⟩) k3
  rcases hJ.kc with rfl | rfl | rfl | rfl
  · exact va_astqO (r := (RX1, TX1, 5)) hx hb hK hP hD hS q0 4 qk 1 hq rfl hV.2.1.1 hqk rfl hin hdg k
  · exact va_astq (r := (RX3, TX3, 5)) hx hb hK hP hD hS q0 4 qk 2 hq rfl hqk rfl hin hdg k
  · exact va_astqO (r := (RX4, TX4, 5)) hx hb hK hP hD hS q0 4 qk 3 hq rfl hV.2.1.2.1 hqk rfl hin hdg k
  · exact va_astqO (r := (RX5, TX5, 6)) hx hb hK hP hD hS q0 4 qk 4 hq rfl hV.2.1.2.2 hqk rfl hin hdg k
end CAR9

def kcl (kind : Int32) : Nat := if kind.toInt = 1 then 3 else if kind.toInt = 2 then 1 else if kind.toInt = 3 then 4 else 2
def okJ (k w h jc : Int32) : Prop := ((0 ≤ k.toInt ∧ k.toInt ≤ 3) ∧ (1 ≤ w.toInt ∧ w.toInt ≤ 6) ∧ (1 ≤ h.toInt ∧ h.toInt ≤ 6)) ∧ jc.toInt < 8
/-- the jobs that the class holds: each place below the count has a job of that size -/
def jobsAre (G : cG) (fa : Nat → Option Nat) (jc : Int32) (Wd Ht : Nat → Nat) : Prop := ∀ j : Nat, (j : Int) < jc.toInt → (1 ≤ Wd j ∧ Wd j ≤ 6 ∧ 1 ≤ Ht j ∧ Ht j ≤ 6) ∧ ∃ x k, fa j = some x ∧ G x = some (3, k, 8 * Wd j + Ht j)
def okJob (jc j : Int32) : Prop := 0 ≤ j.toInt ∧ j.toInt < jc.toInt
def okSum (jc : Int32) (Wd Ht : Nat → Nat) (j way line v : Int32) : Prop := okJob jc j ∧ okL (Wd j.toNatClampNeg) (Ht j.toNatClampNeg) way line ∧ 0 ≤ v.toInt ∧ v.toInt ≤ 6
def okCast (jc : Int32) (Wd Ht : Nat → Nat) (j way : Int32) (p : Int64) : Prop := okJob jc j ∧ (0 ≤ way.toInt ∧ way.toInt ≤ 3) ∧ isPic (Wd j.toNatClampNeg * Ht j.toNatClampNeg) p
def okKeep (jc : Int32) (Wd Ht : Nat → Nat) (d what j : Int32) (p : Int64) : Prop := (0 ≤ d.toInt ∧ d.toInt < 8) ∧ (what.toInt = 0 ∨ ((what.toInt = 1 ∨ what.toInt = 4) ∧ okJob jc j) ∨ (what.toInt = 3 ∧ okJob jc j ∧ isPic (Wd j.toNatClampNeg * Ht j.toNatClampNeg) p))
def yesNo (P : Prop) (a b x : Int32) : Prop := (P ∧ x = a) ∨ (¬ P ∧ x = b)
theorem yesNo_eq {P : Prop} {a b x y : Int32} (hx : yesNo P a b x) (hy : yesNo P a b y) : x = y := by
  rcases hx with ⟨h, e⟩ | ⟨h, e⟩ <;> rcases hy with ⟨h2, e2⟩ | ⟨h2, e2⟩
  · rw [e, e2]
  · exact absurd h h2
  · exact absurd h2 h
  · rw [e, e2]
theorem bs_36 {p : Int64} {n : Nat} (hn : n ≤ 36) (hp : isPic n p) : bs (lb p) 64 = bs (lb p) 36 := by
  rw [show (64 : Nat) = 36 + 28 from rfl, bs_add, bs_z (k := 28) (fun i hi => pic_hi hn hp (by omega)), Nat.add_zero]
theorem r_onesN (p : Int64) : ∀ n, n ≤ 36 → r_ones p n = nI (bs (lb p) n) := by
  intro n
  induction n with
  | zero => intro _; rfl
  | succ n ih =>
    intro hn
    simp only [r_ones, bs]
    rw [ih (by omega), one_lb p (by omega)]
    cases lb p n
    · exact nI_add _ 0
    · exact nI_1 _

/-- which ways are told, as a number below 16 -/
def tB (t way : Nat) : Bool := t / 2 ^ way % 2 == 1
def tU (t way : Nat) : Nat := if tB t way then t else t + 2 ^ way
def tD (t way : Nat) : Nat := if tB t way then t - 2 ^ way else t
theorem tU_0 : ∀ t, t < 16 → ∀ k, k < 4 → nI t ||| ((1 : Int32) <<< (nI k &&& 31)) = nI (tU t k) ∧ tU t k < 16 ∧ tD t k < 16 ∧ nI t &&& (((1 : Int32) <<< (nI k &&& 31)) ^^^ (-1)) = nI (tD t k) ∧ tD (tU t k) k = tD t k ∧ tU (tU t k) k = tU t k := by decide +kernel
theorem tB_0 : ∀ t, t < 16 → ∀ k, k < 4 → ((nI t >>> (nI k &&& 31)) &&& 1 = 1 ↔ tB t k = true) := by decide +kernel
theorem tB_1 : ∀ t, t < 16 → ∀ k, k < 4 → ∀ j, j < 4 → tB (tU t k) j = (decide (j = k) || tB t j) ∧ tB (tD t k) j = (!decide (j = k) && tB t j) := by decide +kernel
section TLD
variable {t : Nat} {way : Int32} (ht : t < 16) (hw : 0 ≤ way.toInt ∧ way.toInt ≤ 3)
theorem tU_eq (ht : t < 16) (hw : 0 ≤ way.toInt ∧ way.toInt ≤ 3) : nI t ||| ((1 : Int32) <<< (way &&& 31)) = nI (tU t way.toNatClampNeg) := by
  have c := m_cl (x := way) hw.1
  have z := (tU_0 t ht way.toNatClampNeg (by omega)).1
  rw [cl_nI hw.1] at z
  exact z
theorem tD_eq (ht : t < 16) (hw : 0 ≤ way.toInt ∧ way.toInt ≤ 3) : nI t &&& (((1 : Int32) <<< (way &&& 31)) ^^^ (-1)) = nI (tD t way.toNatClampNeg) := by
  have c := m_cl (x := way) hw.1
  have z := (tU_0 t ht way.toNatClampNeg (by omega)).2.2.2.1
  rw [cl_nI hw.1] at z
  exact z
theorem tU_lt (ht : t < 16) (hw : 0 ≤ way.toInt ∧ way.toInt ≤ 3) : tU t way.toNatClampNeg < 16 ∧ tD t way.toNatClampNeg < 16 ∧ tD (tU t way.toNatClampNeg) way.toNatClampNeg = tD t way.toNatClampNeg ∧ tU (tU t way.toNatClampNeg) way.toNatClampNeg = tU t way.toNatClampNeg := by
  have c := m_cl (x := way) hw.1
  have z := tU_0 t ht way.toNatClampNeg (by omega)
  exact ⟨z.2.1, z.2.2.1, z.2.2.2.2.1, z.2.2.2.2.2⟩
theorem tB_eq (ht : t < 16) (hw : 0 ≤ way.toInt ∧ way.toInt ≤ 3) : ((nI t >>> (way &&& 31)) &&& 1 = 1 ↔ tB t way.toNatClampNeg = true) := by
  have c := m_cl (x := way) hw.1
  have z := tB_0 t ht way.toNatClampNeg (by omega)
  rw [cl_nI hw.1] at z
  exact z
end TLD
/-- lines of a way set one after the other -/
def setL (fs : Nat → Int32) (way : Nat) (g : Nat → Int32) (n : Nat) : Nat → Int32 := fun e => if way * 11 ≤ e ∧ e < way * 11 + n then g (e - way * 11) else fs e
theorem setL_0 (fs : Nat → Int32) (way : Nat) (g : Nat → Int32) : setL fs way g 0 = fs := by
  funext e
  unfold setL
  rw [if_neg (by omega)]
theorem setL_s (fs : Nat → Int32) (way : Nat) (g : Nat → Int32) (n : Nat) : upd (setL fs way g n) (way * 11 + n) (g n) = setL fs way g (n + 1) := by
  funext e
  unfold upd setL
  by_cases h : e = way * 11 + n
  · rw [if_pos h, if_pos (by omega), show e - way * 11 = n by omega]
  · rw [if_neg h]
    by_cases h2 : way * 11 ≤ e ∧ e < way * 11 + n
    · rw [if_pos h2, if_pos (by omega)]
    · rw [if_neg h2, if_neg (by omega)]
theorem upd_same {f : Nat → Int32} {i : Nat} {v : Int32} (h : f i = v) : upd f i v = f := by
  funext e
  unfold upd
  by_cases z : e = i
  · rw [if_pos z, z, h]
  · rw [if_neg z]
/-- how a square is held: ones, noughts as bits -/
def hH (o n : Int64) (s : Nat) : Int32 := if lb o s then 1 else if lb n s then 0 else 2
theorem ub_lb (p : Int64) {k : Nat} (hk : k < 64) : ((p.toUInt64 >>> ((nI k).toInt64.toUInt64 &&& Int64.toUInt64 63)).toInt64 &&& 1) = if lb p k then 1 else 0 := by
  apply lb_ext
  intro i hi
  rw [lb_and, lb_ushr k hk, lb_1]
  by_cases z : i = 0
  · rw [z, Nat.add_zero, decide_eq_true rfl, Bool.and_true]
    cases lb p k
    · exact (lb_0 0).symm
    · show true = lb 1 0
      rw [lb_1]; rfl
  · rw [decide_eq_false z, Bool.and_false]
    cases lb p k
    · exact (lb_0 i).symm
    · show false = lb 1 i
      rw [lb_1, decide_eq_false z]
def hO (x : Int64) (s : Nat) (b : Bool) (y : Int64) : Prop := ∀ i, i < 64 → lb y i = if i = s then b else lb x i
theorem hO_1 {x v : Int64} {s : Nat} (hs : s < 64) (e : v = x ||| l1 s) : hO x s true v := fun i hi => by
  rw [e, lb_or, lb_l1 hs hi]
  by_cases z : i = s
  · rw [if_pos z, decide_eq_true z, Bool.or_true]
  · rw [if_neg z, decide_eq_false z, Bool.or_false]
theorem hO_0 {x v v1 : Int64} {s : Nat} (hs : s < 64) (e1 : v1 = l1 s ^^^ (-1)) (e : v = x &&& v1) : hO x s false v := fun i hi => by
  rw [e, e1, lb_and, lb_xor, lb_l1 hs hi, lb_m1 i hi, Bool.xor_true]
  by_cases z : i = s
  · rw [if_pos z, decide_eq_true z, Bool.not_true, Bool.and_false]
  · rw [if_neg z, decide_eq_false z, Bool.not_false, Bool.and_true]
/-- the cells of a job whose content is told -/
def jobS (cy : Nat → ClassId) (G : cG) (W : va_W) (fa : Nat → Option Nat) (j x k b s t w h : Nat) (o n : Int64) (ms : List Value) (fs : Nat → Int32) : Prop := fa j = some x ∧ G x = some (3, k, 8 * w + h) ∧ (1 ≤ w ∧ w ≤ 6 ∧ 1 ≤ h ∧ h ≤ 6) ∧ t < 16 ∧ cIn W x (.inr (k, .ref b :: .ref s :: .int (nI t) :: .long o :: .long n :: ms)) ∧ cIn W s (.inl (cy 0, 44, .inl fs))
theorem w3sh {cy : Nat → ClassId} {A : Nat → Prop} {G : cG} {ws : va_W} {x k b s w h : Nat} {t : Int32} {o n : Int64} {ms : List Value} (hD : va_D A ws) (hT : cT cy G ws) (hG : G x = some (3, k, 8 * w + h)) (hb : 1 ≤ w ∧ w ≤ 6 ∧ 1 ≤ h ∧ h ≤ 6) (hM : cIn ws x (.inr (k, .ref b :: .ref s :: .int t :: .long o :: .long n :: ms))) : G b = some (2, w, h) ∧ G s = some (14, 44, 0) ∧ cJk G k (8 * w + h) w h ms := by
  obtain ⟨_, hi, b', s', w', h', t', x', y', ms', rfl, h1, h2, h3⟩ := hT _ _ hG
  have z := cIn.eq hD hM hi
  simp only [Sum.inr.injEq, Prod.mk.injEq, List.cons.injEq, Value.int.injEq, Value.ref.injEq, Value.long.injEq, true_and] at z
  obtain ⟨e1, e2, -, -, -, e6⟩ := z
  have hb' := c_hb hT h1
  have e7 := h3.1
  have ew : w' = w := by omega
  have eh : h' = h := by omega
  subst ew
  subst eh
  rw [e1, e2, e6]
  exact ⟨h1, h2, h3⟩

theorem lnC_0 {w h : Nat} (hb : 1 ≤ w ∧ w ≤ 6 ∧ 1 ≤ h ∧ h ≤ 6) (way : Nat) : 0 < lnC w h way := by
  unfold lnC
  split
  · omega
  · split <;> omega
set_option maxHeartbeats 4000000 in
set_option maxRecDepth 100000 in
theorem c_X3_isTold_x (l : Launch) (D : va_G) (cy : Nat → ClassId) (A : Nat → Prop) (G : cG) (ws : va_W) (o : Nat) (way : Int32) {kq w h b_o s_o t_o : Nat} {x_o y_o : Int64} {ms_o : List Value} (hD : va_D A ws) (hT : cT cy G ws) (hG_o : G o = some (3, kq, 8 * w + h)) (hM_o : cIn ws o (.inr (kq, .ref b_o :: .ref s_o :: .int (nI t_o) :: .long x_o :: .long y_o :: ms_o))) (hb9 : 1 ≤ w ∧ w ≤ 6 ∧ 1 ≤ h ∧ h ≤ 6) (ht9 : t_o < 16) (hw1 : 0 ≤ way.toInt ∧ way.toInt ≤ 3) : Ci l D cy A yX3_isTold wsX3_isTold ({ frames := 0, cells := 0, slots := 0, locals := 0 }) 0 0 ws [.ref o, .int way] (fun r0 u => u = (G, ws) ∧ (Bo r0 (tB t_o way.toNatClampNeg = true))) := by
  refine Met.ofW (cc := cX3_isTold) (maxL := 2) (ret := (some .boolean)) (by decide) rfl ?_
  intro p e s m args below meth c s₁ B hml hv
  obtain ⟨rfl, hP, hK, hA, hV⟩ := hv
  have hx := B.exec
  have hb := B.bytes
  have hr := B.returns
  have hts := atoms_spec (ws := wsX3_isTold) B.pre
  have hown : s.vm.findClass RX3 = some m.cls := findClass_of_methodNamed B.named
  have hlocks := B.notSynchronized
  have hS : va_S A s.heap s.heap [] := va_S.rf
  have hinJ : ∀ w ∈ wsX10 ++ wsX30 ++ wsX40 ++ wsX50, w ∈ wsX3_isTold := by decide +kernel
  have hl := lv_entry ([.ref o, .int way]) (n := 2) (Nat.le_of_ble_eq_true rfl)
  rw [lg_entry_eq]
  generalize (lg_sl ([.ref o, .int way]) ++ List.replicate (2 - (lg_sl ([.ref o, .int way])).length) Slot.unset).toArray = ls at hl ⊢
  have hl : lv_has ls 2 [(0, .ref o), (1, .int way)] := hl
  have k_0 : (0 : Int32).toInt = 0 := by decide
  have k_1 : (1 : Int32).toInt = 1 := by decide
  obtain ⟨hG_b_o, hG_s_o, hJ_o⟩ := w3sh hD hT hG_o hb9 hM_o
  refine lv_aload_n hx hb dX3_isTold_0 rfl (lv_at hl 0 rfl) ?_
  refine t_getJ (v := .int (nI t_o)) hx hb hts hinJ hown hK hP hJ_o.kc hM_o 2 (by decide) (hts (.fieldLink RX3 17 "ShadowBench$Job" "toldWays" "I") (by decide +kernel)) (fun _ h9 => h9) rfl dX3_isTold_1 ?_
  refine lv_iload_n hx hb dX3_isTold_4 rfl (lv_at hl 1 rfl) ?_
  refine lv_ishr hx hb dX3_isTold_5 ?_
  refine lv_topi (fun v5 e5 => ?_)
  refine lv_iconst (v := 1) hx hb dX3_isTold_6 (by decide) ?_
  refine lv_iand hx hb dX3_isTold_7 ?_
  refine lv_topi (fun v7 e7 => ?_)
  refine lv_iconst (v := 1) hx hb dX3_isTold_8 (by decide) ?_
  refine lv_icmp_ne (tgt := 16) hx hb dX3_isTold_9 (by decide) (fun c9 => ?_) (fun c9 => ?_)
  · skip
    have d9 := c9
    rw [fa_eq] at d9
    refine lv_iconst (v := 0) hx hb dX3_isTold_16 (by decide) ?_
    exact W.zret (v := (0 : Int32)) hx hb hr (by decide) (fun t ht hW => ⟨⟨_, (G, ws), rfl, ⟨rfl, Or.inr ⟨rfl, (fun z9 => c9 (by rw [e7, e5]; exact (tB_eq ht9 hw1).mpr z9))⟩⟩, by show va_P D vwCl ws t.heap; rw [ht]; exact hP, hD, hT⟩, hS.F ht⟩) hS.2.2 dX3_isTold_17
  · skip
    have d9 := c9
    rw [fa_eq] at d9
    refine lv_iconst (v := 1) hx hb dX3_isTold_12 (by decide) ?_
    refine lv_goto (tgt := 17) hx hb dX3_isTold_13 (by decide) ?_
    exact W.zret (v := (1 : Int32)) hx hb hr (by decide) (fun t ht hW => ⟨⟨_, (G, ws), rfl, ⟨rfl, Or.inl ⟨rfl, ((tB_eq ht9 hw1).mp (by rw [← e5, ← e7]; exact c9))⟩⟩, by show va_P D vwCl ws t.heap; rw [ht]; exact hP, hD, hT⟩, hS.F ht⟩) hS.2.2 dX3_isTold_17
set_option maxHeartbeats 4000000 in
set_option maxRecDepth 100000 in
theorem c_X3_sumOf_x (l : Launch) (D : va_G) (cy : Nat → ClassId) (A : Nat → Prop) (G : cG) (ws : va_W) (o : Nat) (way : Int32) (line : Int32) {kq w h b_o s_o t_o : Nat} {x_o y_o : Int64} {ms_o : List Value} {fs : Nat → Int32} (hD : va_D A ws) (hT : cT cy G ws) (hG_o : G o = some (3, kq, 8 * w + h)) (hM_o : cIn ws o (.inr (kq, .ref b_o :: .ref s_o :: .int (nI t_o) :: .long x_o :: .long y_o :: ms_o))) (hM_s_o : cIn ws s_o (.inl (cy 0, 44, .inl fs))) (hb9 : 1 ≤ w ∧ w ≤ 6 ∧ 1 ≤ h ∧ h ≤ 6) (ht9 : t_o < 16) (hw1 : 0 ≤ way.toInt ∧ way.toInt ≤ 3) (hl1 : 0 ≤ line.toInt ∧ line.toInt < 11) : Ci l D cy A yX3_sumOf wsX3_sumOf ({ frames := 0, cells := 0, slots := 0, locals := 0 }) 0 0 ws [.ref o, .int way, .int line] (fun r0 u => u = (G, ws) ∧ (r0 = fs (way.toNatClampNeg * 11 + line.toNatClampNeg))) := by
  refine Met.ofW (cc := cX3_sumOf) (maxL := 4) (ret := (some .int)) (by decide) rfl ?_
  intro p e s m args below meth c s₁ B hml hv
  obtain ⟨rfl, hP, hK, hA, hV⟩ := hv
  have hx := B.exec
  have hb := B.bytes
  have hr := B.returns
  have hts := atoms_spec (ws := wsX3_sumOf) B.pre
  have hown : s.vm.findClass RX3 = some m.cls := findClass_of_methodNamed B.named
  have hlocks := B.notSynchronized
  have hS : va_S A s.heap s.heap [] := va_S.rf
  have hinJ : ∀ w ∈ wsX10 ++ wsX30 ++ wsX40 ++ wsX50, w ∈ wsX3_sumOf := by decide +kernel
  have hl := lv_entry ([.ref o, .int way, .int line]) (n := 4) (Nat.le_of_ble_eq_true rfl)
  rw [lg_entry_eq]
  generalize (lg_sl ([.ref o, .int way, .int line]) ++ List.replicate (4 - (lg_sl ([.ref o, .int way, .int line])).length) Slot.unset).toArray = ls at hl ⊢
  have hl : lv_has ls 4 [(0, .ref o), (1, .int way), (2, .int line)] := hl
  have k_0 : (0 : Int32).toInt = 0 := by decide
  have k_11 : (11 : Int32).toInt = 11 := by decide
  obtain ⟨hG_b_o, hG_s_o, hJ_o⟩ := w3sh hD hT hG_o hb9 hM_o
  refine lv_iload_n hx hb dX3_sumOf_0 rfl (lv_at hl 1 rfl) ?_
  refine lv_bipush (v := 11) hx hb dX3_sumOf_1 (by decide) ?_
  refine lv_imul hx hb dX3_sumOf_3 ?_
  refine lv_topi (fun v3 e3 => ?_)
  have i3 : v3.toInt = way.toInt * 11 := by rw [e3]; exact mulcR rfl (by omega) (by omega)
  refine lv_iload_n hx hb dX3_sumOf_4 rfl (lv_at hl 2 rfl) ?_
  refine lv_iadd hx hb dX3_sumOf_5 ?_
  refine lv_topi (fun v5 e5 => ?_)
  have i5 : v5.toInt = v3.toInt + line.toInt := by rw [e5]; exact fb_addI (by omega) (by omega)
  have cw := m_cl (x := way) hw1.1
  have cl := m_cl (x := line) hl1.1
  have cp := m_cl (x := v5) (by omega)
  have f5 : v5.toNatClampNeg = way.toNatClampNeg * 11 + line.toNatClampNeg := by omega
  refine lv_istore_n (lv' := [(3, .int v5), (0, .ref o), (1, .int way), (2, .int line)]) hx hb dX3_sumOf_6 rfl hl (by decide) rfl (fun ls hl => ?_)
  refine lv_iload_n hx hb dX3_sumOf_7 rfl (lv_at hl 0 rfl) ?_
  refine lv_if_lt (tgt := 29) hx hb dX3_sumOf_8 (by decide) (fun c8 => ?_) (fun c8 => ?_)
  · skip
    have d8 := c8
    rw [fa_lt] at d8
    refine lv_iconst (v := 0) hx hb dX3_sumOf_29 (by decide) ?_
    exact W.iret (v := (0 : Int32)) hx hb hr (fun t ht hW => ⟨⟨_, (G, ws), rfl, ⟨rfl, (by exfalso; omega)⟩, by show va_P D vwCl ws t.heap; rw [ht]; exact hP, hD, hT⟩, hS.F ht⟩) hS.2.2 dX3_sumOf_30
  · skip
    have d8 := c8
    rw [fa_lt] at d8
    refine lv_iload_n hx hb dX3_sumOf_11 rfl (lv_at hl 0 rfl) ?_
    refine lv_aload_n hx hb dX3_sumOf_12 rfl (lv_at hl 1 rfl) ?_
    refine t_getJ (v := .ref s_o) hx hb hts hinJ hown hK hP hJ_o.kc hM_o 1 (by decide) (hts (.fieldLink RX3 11 "ShadowBench$Job" "sums" "[I") (by decide +kernel)) (fun _ h9 => h9) rfl dX3_sumOf_13 ?_
    refine t_alenI hx hb hK hP hT (Or.inr (Or.inl rfl)) hG_s_o dX3_sumOf_16 ?_
    have i16 : (nI 44).toInt = _ := nI_toInt (by omega)
    refine lv_icmp_ge (tgt := 29) hx hb dX3_sumOf_17 (by decide) (fun c17 => ?_) (fun c17 => ?_)
    · skip
      have d17 := c17
      rw [fa_le] at d17
      refine lv_iconst (v := 0) hx hb dX3_sumOf_29 (by decide) ?_
      exact W.iret (v := (0 : Int32)) hx hb hr (fun t ht hW => ⟨⟨_, (G, ws), rfl, ⟨rfl, (by exfalso; omega)⟩, by show va_P D vwCl ws t.heap; rw [ht]; exact hP, hD, hT⟩, hS.F ht⟩) hS.2.2 dX3_sumOf_30
    · skip
      have d17 := c17
      rw [fa_le] at d17
      refine lv_aload_n hx hb dX3_sumOf_20 rfl (lv_at hl 1 rfl) ?_
      refine t_getJ (v := .ref s_o) hx hb hts hinJ hown hK hP hJ_o.kc hM_o 1 (by decide) (hts (.fieldLink RX3 11 "ShadowBench$Job" "sums" "[I") (by decide +kernel)) (fun _ h9 => h9) rfl dX3_sumOf_21 ?_
      refine lv_iload_n hx hb dX3_sumOf_24 rfl (lv_at hl 0 rfl) ?_
      refine t_ialdM hx hb hK hP hM_s_o (vp_in_iff.mpr ⟨by omega, by omega⟩) dX3_sumOf_25 ?_
      refine lv_topi (fun v25 e25 => ?_)
      refine lv_goto (tgt := 30) hx hb dX3_sumOf_26 (by decide) ?_
      exact W.iret (v := v25) hx hb hr (fun t ht hW => ⟨⟨_, (G, ws), rfl, ⟨rfl, (by rw [e25, f5])⟩, by show va_P D vwCl ws t.heap; rw [ht]; exact hP, hD, hT⟩, hS.F ht⟩) hS.2.2 dX3_sumOf_30
set_option maxHeartbeats 4000000 in
set_option maxRecDepth 100000 in
theorem c_X3_tellLine_x (l : Launch) (D : va_G) (cy : Nat → ClassId) (A : Nat → Prop) (G : cG) (ws : va_W) (o : Nat) (way : Int32) (line : Int32) (v : Int32) {kq w h b_o s_o t_o : Nat} {x_o y_o : Int64} {ms_o : List Value} {fs : Nat → Int32} (hD : va_D A ws) (hT : cT cy G ws) (hG_o : G o = some (3, kq, 8 * w + h)) (hM_o : cIn ws o (.inr (kq, .ref b_o :: .ref s_o :: .int (nI t_o) :: .long x_o :: .long y_o :: ms_o))) (hM_s_o : cIn ws s_o (.inl (cy 0, 44, .inl fs))) (hb9 : 1 ≤ w ∧ w ≤ 6 ∧ 1 ≤ h ∧ h ≤ 6) (ht9 : t_o < 16) (hL9 : okL w h way line) : Cv l D cy A yX3_tellLine wsX3_tellLine ({ frames := 2, cells := 0, slots := 0, locals := 43 }) 0 0 ws [.ref o, .int way, .int line, .int v] (fun u => ∃ w1, u = (G, w1) ∧ cF (fun b9 => b9 = o ∨ b9 = s_o) ws w1 ∧ (cIn w1 o (.inr (kq, .ref b_o :: .ref s_o :: .int (nI (tU t_o way.toNatClampNeg)) :: .long x_o :: .long y_o :: ms_o)) ∧ cIn w1 s_o (.inl (cy 0, 44, .inl (upd fs (way.toNatClampNeg * 11 + line.toNatClampNeg) v))))) := by
  refine Met.ofW (cc := cX3_tellLine) (maxL := 4) (ret := none) (by decide) rfl ?_
  intro p e s m args below meth c s₁ B hml hv
  obtain ⟨rfl, hP, hK, hA, hV⟩ := hv
  have hx := B.exec
  have hb := B.bytes
  have hr := B.returns
  have hts := atoms_spec (ws := wsX3_tellLine) B.pre
  have hown : s.vm.findClass RX3 = some m.cls := findClass_of_methodNamed B.named
  have hlocks := B.notSynchronized
  have hS : va_S A s.heap s.heap [] := va_S.rf
  have hinJ : ∀ w ∈ wsX10 ++ wsX30 ++ wsX40 ++ wsX50, w ∈ wsX3_tellLine := by decide +kernel
  have hF : cF (fun b9 => b9 = o ∨ b9 = s_o) ws ws := cF.rf
  have hl := lv_entry ([.ref o, .int way, .int line, .int v]) (n := 4) (Nat.le_of_ble_eq_true rfl)
  rw [lg_entry_eq]
  generalize (lg_sl ([.ref o, .int way, .int line, .int v]) ++ List.replicate (4 - (lg_sl ([.ref o, .int way, .int line, .int v])).length) Slot.unset).toArray = ls at hl ⊢
  have hl : lv_has ls 4 [(0, .ref o), (1, .int way), (2, .int line), (3, .int v)] := hl
  have k_0 : (0 : Int32).toInt = 0 := by decide
  have k_1 : (1 : Int32).toInt = 1 := by decide
  have k_11 : (11 : Int32).toInt = 11 := by decide
  obtain ⟨hG_b_o, hG_s_o, hJ_o⟩ := w3sh hD hT hG_o hb9 hM_o
  refine lv_aload_n hx hb dX3_tellLine_0 rfl (lv_at hl 0 rfl) ?_
  refine t_getJ (v := .ref b_o) hx hb hts hinJ hown hK hP hJ_o.kc hM_o 0 (by decide) (hts (.fieldLink RX3 28 "ShadowBench$Job" "board" "LShadowBench$Board;") (by decide +kernel)) (fun _ h9 => h9) rfl dX3_tellLine_1 ?_
  refine lv_iload_n hx hb dX3_tellLine_4 rfl (lv_at hl 1 rfl) ?_
  refine lv_iload_n hx hb dX3_tellLine_5 rfl (lv_at hl 2 rfl) ?_
  obtain ⟨_, hM_b_o, hb_b_o, l_b_o, f_b_o, r_b_o, rfl, hG_l_b_o, hG_f_b_o, hG_r_b_o⟩ := hT _ _ hG_b_o
  refine t_calli (va_runV (g := F0 m 6 ls ([.int line, .int way, .ref b_o])) (As := [.int way, .int line]) (rest := []) ⟨hx, hb, hml, hown, hts⟩ (c_X0_isLine l D cy A G ws b_o way line hD hT hG_b_o ) (cwV 2 hts gX3_tellLine_X0_isLine rfl rfl rfl (by decide +kernel) ⟨Nat.le_of_ble_eq_true rfl, Nat.le_of_ble_eq_true rfl⟩) (c_preV hM_b_o rfl hP hK hA hS hV) rfl rfl hl.1 rfl (lv_room (Nat.le_of_ble_eq_true rfl)) dX3_tellLine_6 ⟨Nat.le_of_ble_eq_true rfl, Nat.le_of_ble_eq_true rfl⟩) hS (fun r6 u H locs q6 hP9 hD9 hT9 hS => ?_)
  obtain ⟨rfl, q6⟩ := q6
  have hP : va_P D vwCl ws H := hP9
  have hw1 := hL9.1
  have hl1 := hL9.2
  have lc9 := lnC_b hb9 way.toNatClampNeg
  have cL9 := cLn hb9 (way := way) hw1.1
  refine lv_if_eq (tgt := 36) hx hb dX3_tellLine_9 (by decide) (fun c9 => ?_) (fun c9 => ?_)
  · skip
    have b9 := bo_f q6 c9
    exact W.vret hx hb hr (fun t ht hW => ⟨⟨(G, ws), rfl, ⟨ws, rfl, hF, (by exfalso; omega)⟩, by show va_P D vwCl ws t.heap; rw [ht]; exact hP, hD, hT⟩, hS.F ht⟩) hS.2.2 dX3_tellLine_36
  · skip
    have b9 := bo_t q6 c9
    refine lv_aload_n hx hb dX3_tellLine_12 rfl (lv_at hl 0 rfl) ?_
    refine t_getJ (v := .ref s_o) hx hb hts hinJ hown hK hP hJ_o.kc hM_o 1 (by decide) (hts (.fieldLink RX3 11 "ShadowBench$Job" "sums" "[I") (by decide +kernel)) (fun _ h9 => h9) rfl dX3_tellLine_13 ?_
    refine lv_iload_n hx hb dX3_tellLine_16 rfl (lv_at hl 1 rfl) ?_
    refine lv_bipush (v := 11) hx hb dX3_tellLine_17 (by decide) ?_
    refine lv_imul hx hb dX3_tellLine_19 ?_
    refine lv_topi (fun v19 e19 => ?_)
    have i19 : v19.toInt = way.toInt * 11 := by rw [e19]; exact mulcR rfl (by omega) (by omega)
    refine lv_iload_n hx hb dX3_tellLine_20 rfl (lv_at hl 2 rfl) ?_
    refine lv_iadd hx hb dX3_tellLine_21 ?_
    refine lv_topi (fun v21 e21 => ?_)
    have i21 : v21.toInt = v19.toInt + line.toInt := by rw [e21]; exact fb_addI (by omega) (by omega)
    refine lv_iload_n hx hb dX3_tellLine_22 rfl (lv_at hl 3 rfl) ?_
    refine t_iastK hx hb hK hP hD hS hT (Or.inr (Or.inl rfl)) hG_s_o hM_s_o (vp_in_iff.mpr ⟨by omega, by omega⟩) dX3_tellLine_23 (fun H locs w23 hU23 hP hD hT hS => ?_)
    have hM_o := hU23.2 _ _ (cne hG_o hG_s_o (show (3 : Nat) ≠ 14 by decide)) hM_o
    have hM_b_o := hU23.2 _ _ (cne hG_b_o hG_s_o (show (2 : Nat) ≠ 14 by decide)) hM_b_o
    have hM_s_o := hU23.1
    have hF := hF.tr (cF.up hU23 (Or.inr (rfl)))
    have cw := m_cl (x := way) hw1.1
    have cl := m_cl (x := line) hl1.1
    have cp := m_cl (x := v21) (by omega)
    have f21 : v21.toNatClampNeg = way.toNatClampNeg * 11 + line.toNatClampNeg := by omega
    refine lv_aload_n hx hb dX3_tellLine_24 rfl (lv_at hl 0 rfl) ?_
    refine lv_dup hx hb dX3_tellLine_25 rfl ?_
    refine t_getJ (v := .int (nI t_o)) hx hb hts hinJ hown hK hP hJ_o.kc hM_o 2 (by decide) (hts (.fieldLink RX3 17 "ShadowBench$Job" "toldWays" "I") (by decide +kernel)) (fun _ h9 => h9) rfl dX3_tellLine_26 ?_
    refine lv_iconst (v := 1) hx hb dX3_tellLine_29 (by decide) ?_
    refine lv_iload_n hx hb dX3_tellLine_30 rfl (lv_at hl 1 rfl) ?_
    refine lv_ishl hx hb dX3_tellLine_31 ?_
    refine lv_topi (fun v31 e31 => ?_)
    refine lv_ior hx hb dX3_tellLine_32 ?_
    refine lv_topi (fun v32 e32 => ?_)
    obtain rfl : v32 = nI (tU t_o way.toNatClampNeg) := by rw [e32, e31]; exact tU_eq ht9 hw1
    refine t_putJ (v := .int (nI (tU t_o way.toNatClampNeg))) hx hb hts hinJ hown hK hP hD hS hJ_o.kc hM_o 2 (by decide) (hts (.fieldLink RX3 17 "ShadowBench$Job" "toldWays" "I") (by decide +kernel)) (fun _ h9 => h9) rfl rfl rfl (Nat.le_of_ble_eq_true rfl) dX3_tellLine_33 (fun H locs w33 hU33 hP hD hS => ?_)
    have hM_s_o := hU33.2 _ _ (cne hG_s_o hG_o (show (14 : Nat) ≠ 3 by decide)) hM_s_o
    have hM_b_o := hU33.2 _ _ (cne hG_b_o hG_o (show (2 : Nat) ≠ 3 by decide)) hM_b_o
    have hT := hT.up hU33 hG_o ⟨_, _, _, _, _, _, _, _, rfl, hG_b_o, hG_s_o, hJ_o⟩
    have hM_o : cIn w33 o (.inr (kq, .ref b_o :: .ref s_o :: .int (nI (tU t_o way.toNatClampNeg)) :: .long x_o :: .long y_o :: ms_o)) := hU33.1
    have hF := hF.tr (cF.up hU33 (Or.inl rfl))
    exact W.vret hx hb hr (fun t ht hW => ⟨⟨(G, w33), rfl, ⟨w33, rfl, hF, ⟨hM_o, (by rw [← f21]; exact hM_s_o)⟩⟩, by show va_P D vwCl w33 t.heap; rw [ht]; exact hP, hD, hT⟩, hS.F ht⟩) hS.2.2 dX3_tellLine_36
set_option maxHeartbeats 4000000 in
set_option maxRecDepth 100000 in
theorem c_X3_tellShadow_x (l : Launch) (D : va_G) (cy : Nat → ClassId) (A : Nat → Prop) (G : cG) (ws : va_W) (o : Nat) (way : Int32) (p0 : Int64) {kq w h b_o s_o t_o : Nat} {x_o y_o : Int64} {ms_o : List Value} {fs : Nat → Int32} (hD : va_D A ws) (hT : cT cy G ws) (hG_o : G o = some (3, kq, 8 * w + h)) (hM_o : cIn ws o (.inr (kq, .ref b_o :: .ref s_o :: .int (nI t_o) :: .long x_o :: .long y_o :: ms_o))) (hM_s_o : cIn ws s_o (.inl (cy 0, 44, .inl fs))) (hb9 : 1 ≤ w ∧ w ≤ 6 ∧ 1 ≤ h ∧ h ≤ 6) (ht9 : t_o < 16) (hw1 : 0 ≤ way.toInt ∧ way.toInt ≤ 3) : Cv l D cy A yX3_tellShadow wsX3_tellShadow ({ frames := 3, cells := 0, slots := 0, locals := 66 }) 0 0 ws [.ref o, .int way, .long p0] (fun u => ∃ w1, u = (G, w1) ∧ cF (fun b9 => b9 = o ∨ b9 = s_o) ws w1 ∧ (cIn w1 o (.inr (kq, .ref b_o :: .ref s_o :: .int (nI (tU t_o way.toNatClampNeg)) :: .long x_o :: .long y_o :: ms_o)) ∧ cIn w1 s_o (.inl (cy 0, 44, .inl (setL fs way.toNatClampNeg (fun l => nI (shN w h p0 way.toNatClampNeg l)) (lnC w h way.toNatClampNeg)))))) := by
  refine Met.ofW (cc := cX3_tellShadow) (maxL := 5) (ret := none) (by decide) rfl ?_
  intro p e s m args below meth c s₁ B hml hv
  obtain ⟨rfl, hP, hK, hA, hV⟩ := hv
  have hx := B.exec
  have hb := B.bytes
  have hr := B.returns
  have hts := atoms_spec (ws := wsX3_tellShadow) B.pre
  have hown : s.vm.findClass RX3 = some m.cls := findClass_of_methodNamed B.named
  have hlocks := B.notSynchronized
  have hS : va_S A s.heap s.heap [] := va_S.rf
  have hinJ : ∀ w ∈ wsX10 ++ wsX30 ++ wsX40 ++ wsX50, w ∈ wsX3_tellShadow := by decide +kernel
  have hF : cF (fun b9 => b9 = o ∨ b9 = s_o) ws ws := cF.rf
  have hl := lv_entry ([.ref o, .int way, .long p0]) (n := 5) (Nat.le_of_ble_eq_true rfl)
  rw [lg_entry_eq]
  generalize (lg_sl ([.ref o, .int way, .long p0]) ++ List.replicate (5 - (lg_sl ([.ref o, .int way, .long p0])).length) Slot.unset).toArray = ls at hl ⊢
  have hl : lv_has ls 5 [(0, .ref o), (1, .int way), (2, .long p0)] := hl
  have k_0 : (0 : Int32).toInt = 0 := by decide
  obtain ⟨hG_b_o, hG_s_o, hJ_o⟩ := w3sh hD hT hG_o hb9 hM_o
  refine lv_iconst (v := 0) hx hb dX3_tellShadow_0 (by decide) ?_
  refine lv_istore (lv' := [(4, .int (0 : Int32)), (0, .ref o), (1, .int way), (2, .long p0)]) hx hb dX3_tellShadow_1 hl (by decide) rfl (fun ls hl => ?_)
  have loop_3 : ∀ (n : Nat) (i : Nat) (tl_ : Nat) (fl_ : Nat → Int32), (i ≤ lnC w h way.toNatClampNeg ∧ lnC w h way.toNatClampNeg ≤ 11) → (tl_ < 16) → (fl_ = setL fs way.toNatClampNeg (fun l => nI (shN w h p0 way.toNatClampNeg l)) i) → (0 < i → tl_ = tU t_o way.toNatClampNeg) → (i = 0 → tl_ = t_o) → 11 - i < n → ∀ (wl3 : va_W), cF (fun b9 => b9 = o ∨ b9 = s_o) ws wl3 → va_D A wl3 → cT cy G wl3 → cIn wl3 o (.inr (kq, .ref b_o :: .ref s_o :: .int (nI tl_) :: .long x_o :: .long y_o :: ms_o)) → cIn wl3 s_o (.inl (cy 0, 44, .inl fl_)) → ∀ (H : Heap) (locs : List Loc), va_P D vwCl wl3 H → va_S A s.heap H locs → ∀ (ls : Array Slot), lv_has ls 5 [(4, .int (nI i)), (0, .ref o), (1, .int way), (2, .long p0)] → W p l e (headSpec wsX3_tellShadow ({ frames := 3, cells := 0, slots := 0, locals := 66 })).room s m #[Value.ref o, Value.int way, Value.long p0] below meth c H locs 0 0 (MQ below (va_Qv (fun u => ∃ w1, u = (G, w1) ∧ cF (fun b9 => b9 = o ∨ b9 = s_o) ws w1 ∧ (cIn w1 o (.inr (kq, .ref b_o :: .ref s_o :: .int (nI (tU t_o way.toNatClampNeg)) :: .long x_o :: .long y_o :: ms_o)) ∧ cIn w1 s_o (.inl (cy 0, 44, .inl (setL fs way.toNatClampNeg (fun l => nI (shN w h p0 way.toNatClampNeg l)) (lnC w h way.toNatClampNeg)))))) (cB D cy A) A) #[Value.ref o, Value.int way, Value.long p0] s 0 0 A) (F0 m 3 ls []) := by
    intro n
    induction n with
    | zero => intro i tl_ fl_ j3_0 j3_1 j3_2 j3_3 j3_4 hn; exact absurd hn (Nat.not_lt_zero _)
    | succ n ih_3 =>
      intro i tl_ fl_ j3_0 j3_1 j3_2 j3_3 j3_4 hn_3 wl3 hF hD hT hM_o hM_s_o H locs hP hS ls hl
      have ii : (nI i).toInt = (i : Int) := nI_toInt (by omega)
      have tl9 := j3_1
      refine lv_iload hx hb dX3_tellShadow_3 (lv_at hl 0 rfl) ?_
      refine lv_aload_n hx hb dX3_tellShadow_5 rfl (lv_at hl 1 rfl) ?_
      refine t_getJ (v := .ref b_o) hx hb hts hinJ hown hK hP hJ_o.kc hM_o 0 (by decide) (hts (.fieldLink RX3 28 "ShadowBench$Job" "board" "LShadowBench$Board;") (by decide +kernel)) (fun _ h9 => h9) rfl dX3_tellShadow_6 ?_
      refine lv_iload_n hx hb dX3_tellShadow_9 rfl (lv_at hl 2 rfl) ?_
      obtain ⟨_, hM_b_o, hb_b_o, l_b_o, f_b_o, r_b_o, rfl, hG_l_b_o, hG_f_b_o, hG_r_b_o⟩ := hT _ _ hG_b_o
      refine t_calli (va_runV (g := F0 m 10 ls ([.int way, .ref b_o, .int (nI i)])) (As := [.int way]) (rest := [.int (nI i)]) ⟨hx, hb, hml, hown, hts⟩ (c_X0_lineCount l D cy A G wl3 b_o way hD hT hG_b_o ) (cwV 1 hts gX3_tellShadow_X0_lineCount rfl rfl rfl (by decide +kernel) ⟨Nat.le_of_ble_eq_true rfl, Nat.le_of_ble_eq_true rfl⟩) (c_preV hM_b_o rfl hP hK hA hS hV) rfl rfl hl.1 rfl (lv_room (Nat.le_of_ble_eq_true rfl)) dX3_tellShadow_10 ⟨Nat.le_of_ble_eq_true rfl, Nat.le_of_ble_eq_true rfl⟩) hS (fun r10 u H locs q10 hP9 hD9 hT9 hS => ?_)
      obtain ⟨rfl, q10⟩ := q10
      have hP : va_P D vwCl wl3 H := hP9
      have lc9 := lnC_b hb9 way.toNatClampNeg
      have z10 := congrArg Int32.toInt q10
      rw [cLn hb9 hw1.1] at z10
      refine lv_icmp_ge (tgt := 40) hx hb dX3_tellShadow_13 (by decide) (fun c13 => ?_) (fun c13 => ?_)
      · skip
        have d13 := c13
        rw [fa_le] at d13
        exact W.vret hx hb hr (fun t ht hW => ⟨⟨(G, wl3), rfl, ⟨wl3, rfl, hF, (by have e9 : i = lnC w h way.toNatClampNeg := (by omega); rw [← e9]; have z9 : 0 < i := (by have := lnC_0 hb9 way.toNatClampNeg; omega); rw [← j3_2]; have y9 := j3_3 z9; rw [y9] at hM_o; exact ⟨hM_o, hM_s_o⟩)⟩, by show va_P D vwCl wl3 t.heap; rw [ht]; exact hP, hD, hT⟩, hS.F ht⟩) hS.2.2 dX3_tellShadow_40
      · skip
        have d13 := c13
        rw [fa_le] at d13
        refine lv_aload_n hx hb dX3_tellShadow_16 rfl (lv_at hl 1 rfl) ?_
        refine lv_iload_n hx hb dX3_tellShadow_17 rfl (lv_at hl 2 rfl) ?_
        refine lv_iload hx hb dX3_tellShadow_18 (lv_at hl 0 rfl) ?_
        refine lv_aload_n hx hb dX3_tellShadow_20 rfl (lv_at hl 1 rfl) ?_
        refine t_getJ (v := .ref b_o) hx hb hts hinJ hown hK hP hJ_o.kc hM_o 0 (by decide) (hts (.fieldLink RX3 28 "ShadowBench$Job" "board" "LShadowBench$Board;") (by decide +kernel)) (fun _ h9 => h9) rfl dX3_tellShadow_21 ?_
        refine lv_iload_n hx hb dX3_tellShadow_24 rfl (lv_at hl 2 rfl) ?_
        refine lv_iload hx hb dX3_tellShadow_25 (lv_at hl 0 rfl) ?_
        refine lv_lload_n hx hb dX3_tellShadow_27 rfl (lv_at hl 3 rfl) ?_
        refine t_calli (va_runV (g := F0 m 28 ls ([.long p0, .int (nI i), .int way, .ref b_o, .int (nI i), .int way, .ref o])) (As := [.int way, .int (nI i), .long p0]) (rest := [.int (nI i), .int way, .ref o]) ⟨hx, hb, hml, hown, hts⟩ (c_X0_onesOfLine_x l D cy A G wl3 b_o way (nI i) p0 hD hT hG_b_o (by omega) (by omega)) (cwV 3 hts gX3_tellShadow_X0_onesOfLine rfl rfl rfl (by decide +kernel) ⟨Nat.le_of_ble_eq_true rfl, Nat.le_of_ble_eq_true rfl⟩) (c_preV hM_b_o rfl hP hK hA hS hV) rfl rfl hl.1 rfl (lv_room (Nat.le_of_ble_eq_true rfl)) dX3_tellShadow_28 ⟨Nat.le_of_ble_eq_true rfl, Nat.le_of_ble_eq_true rfl⟩) hS (fun r28 u H locs q28 hP9 hD9 hT9 hS => ?_)
        obtain ⟨rfl, q28⟩ := q28
        have hP : va_P D vwCl wl3 H := hP9
        have ck9 : (nI i).toNatClampNeg = i := nI_clamp (by omega)
        rw [ck9] at q28
        refine t_callv (t_runJ (g := F0 m 31 ls ([.int r28, .int (nI i), .int way, .ref o])) (As := [.int way, .int (nI i), .int r28]) (rest := []) ⟨hx, hb, hml, hown, hts⟩ (c_X3_tellLine_x l D cy A G wl3 o way (nI i) r28 hD hT hG_o hM_o hM_s_o hb9 tl9 (by unfold okL; omega)) (va_cwU 3 hts gX3_tellShadow_X3_tellLine_u44X1 rfl rfl rfl rfl (by decide +kernel) ⟨Nat.le_of_ble_eq_true rfl, Nat.le_of_ble_eq_true rfl⟩) (cwV 3 hts gX3_tellShadow_X3_tellLine rfl rfl rfl (by decide +kernel) ⟨Nat.le_of_ble_eq_true rfl, Nat.le_of_ble_eq_true rfl⟩) (va_cwU 3 hts gX3_tellShadow_X3_tellLine_u44X4 rfl rfl rfl rfl (by decide +kernel) ⟨Nat.le_of_ble_eq_true rfl, Nat.le_of_ble_eq_true rfl⟩) (va_cwU 3 hts gX3_tellShadow_X3_tellLine_u44X5 rfl rfl rfl rfl (by decide +kernel) ⟨Nat.le_of_ble_eq_true rfl, Nat.le_of_ble_eq_true rfl⟩) hJ_o.kc hM_o hP hK c_blind (c_preS hP hK hA hS hV).2 rfl rfl hl.1 rfl (lv_room (Nat.le_of_ble_eq_true rfl)) dX3_tellShadow_31 ⟨Nat.le_of_ble_eq_true rfl, Nat.le_of_ble_eq_true rfl⟩) hS (fun u H locs q31 hP9 hD9 hT9 hS => ?_)
        obtain ⟨w31, rfl, hF31, q31⟩ := q31
        have hP : va_P D vwCl w31 H := hP9
        have hD : va_D A w31 := hD9
        have hT : cT cy G w31 := hT9
        have hM_b_o := hF31 _ _ (fun z9 => z9.elim (cne hG_b_o hG_o (show (2 : Nat) ≠ 3 by decide)) (cne hG_b_o hG_s_o (show (2 : Nat) ≠ 14 by decide))) hM_b_o
        have hF := hF.tr hF31
        have hM_o : cIn w31 o (.inr (kq, .ref b_o :: .ref s_o :: .int (nI (tU tl_ way.toNatClampNeg)) :: .long x_o :: .long y_o :: ms_o)) := q31.1
        have hM_s_o : cIn w31 s_o (.inl (cy 0, 44, .inl (upd fl_ (way.toNatClampNeg * 11 + (nI i).toNatClampNeg) r28))) := q31.2
        refine lv_iinc (v := (nI (i + 1))) (lv' := [(4, .int (nI (i + 1))), (0, .ref o), (1, .int way), (2, .long p0)]) hx hb dX3_tellShadow_34 hl (k := 0) rfl (nI_1 _) (by decide) rfl (fun ls hl => ?_)
        refine lv_goto (tgt := 3) hx hb dX3_tellShadow_37 (by decide) ?_
        exact ih_3 (i + 1) (tU tl_ way.toNatClampNeg) ((upd fl_ (way.toNatClampNeg * 11 + (nI i).toNatClampNeg) r28)) (by omega) ((tU_lt tl9 hw1).1) (by rw [ck9, q28, j3_2]; exact setL_s _ _ _ _) (fun _ => by by_cases z9 : i = 0; rw [j3_4 z9]; rw [j3_3 (by omega)]; exact (tU_lt ht9 hw1).2.2.2) (fun z9 => absurd z9 (Nat.succ_ne_zero _)) (by omega) w31 hF hD hT hM_o hM_s_o _ _ hP hS ls (lv_sub hl [0, 1, 2, 3] rfl)
  exact loop_3 (11 + 1) 0 t_o fs (by have := lnC_b hb9 way.toNatClampNeg; omega) (ht9) ((setL_0 _ _ _).symm) (fun z9 => absurd z9 (Nat.lt_irrefl _)) (fun _ => rfl) (by omega) ws hF hD hT hM_o hM_s_o _ _ hP hS ls (lv_sub hl [0, 1, 2, 3] rfl)
set_option maxHeartbeats 4000000 in
set_option maxRecDepth 100000 in
theorem c_X3_forgetWay_x (l : Launch) (D : va_G) (cy : Nat → ClassId) (A : Nat → Prop) (G : cG) (ws : va_W) (o : Nat) (way : Int32) {kq w h b_o s_o t_o : Nat} {x_o y_o : Int64} {ms_o : List Value} {fs : Nat → Int32} (hD : va_D A ws) (hT : cT cy G ws) (hG_o : G o = some (3, kq, 8 * w + h)) (hM_o : cIn ws o (.inr (kq, .ref b_o :: .ref s_o :: .int (nI t_o) :: .long x_o :: .long y_o :: ms_o))) (hM_s_o : cIn ws s_o (.inl (cy 0, 44, .inl fs))) (hb9 : 1 ≤ w ∧ w ≤ 6 ∧ 1 ≤ h ∧ h ≤ 6) (ht9 : t_o < 16) (hw1 : 0 ≤ way.toInt ∧ way.toInt ≤ 3) : Cv l D cy A yX3_forgetWay wsX3_forgetWay ({ frames := 3, cells := 0, slots := 0, locals := 66 }) 0 0 ws [.ref o, .int way] (fun u => ∃ w1, u = (G, w1) ∧ cF (fun b9 => b9 = o ∨ b9 = s_o) ws w1 ∧ (cIn w1 o (.inr (kq, .ref b_o :: .ref s_o :: .int (nI (tD t_o way.toNatClampNeg)) :: .long x_o :: .long y_o :: ms_o)) ∧ cIn w1 s_o (.inl (cy 0, 44, .inl (setL fs way.toNatClampNeg (fun _ => 0) (lnC w h way.toNatClampNeg)))))) := by
  refine Met.ofW (cc := cX3_forgetWay) (maxL := 3) (ret := none) (by decide) rfl ?_
  intro p e s m args below meth c s₁ B hml hv
  obtain ⟨rfl, hP, hK, hA, hV⟩ := hv
  have hx := B.exec
  have hb := B.bytes
  have hr := B.returns
  have hts := atoms_spec (ws := wsX3_forgetWay) B.pre
  have hown : s.vm.findClass RX3 = some m.cls := findClass_of_methodNamed B.named
  have hlocks := B.notSynchronized
  have hS : va_S A s.heap s.heap [] := va_S.rf
  have hinJ : ∀ w ∈ wsX10 ++ wsX30 ++ wsX40 ++ wsX50, w ∈ wsX3_forgetWay := by decide +kernel
  have hF : cF (fun b9 => b9 = o ∨ b9 = s_o) ws ws := cF.rf
  have hl := lv_entry ([.ref o, .int way]) (n := 3) (Nat.le_of_ble_eq_true rfl)
  rw [lg_entry_eq]
  generalize (lg_sl ([.ref o, .int way]) ++ List.replicate (3 - (lg_sl ([.ref o, .int way])).length) Slot.unset).toArray = ls at hl ⊢
  have hl : lv_has ls 3 [(0, .ref o), (1, .int way)] := hl
  have k_m1 : (-1 : Int32).toInt = -1 := by decide
  have k_0 : (0 : Int32).toInt = 0 := by decide
  have k_1 : (1 : Int32).toInt = 1 := by decide
  obtain ⟨hG_b_o, hG_s_o, hJ_o⟩ := w3sh hD hT hG_o hb9 hM_o
  refine lv_iconst (v := 0) hx hb dX3_forgetWay_0 (by decide) ?_
  refine lv_istore_n (lv' := [(2, .int (0 : Int32)), (0, .ref o), (1, .int way)]) hx hb dX3_forgetWay_1 rfl hl (by decide) rfl (fun ls hl => ?_)
  have loop_2 : ∀ (n : Nat) (i : Nat) (tl_ : Nat) (fl_ : Nat → Int32), (i ≤ lnC w h way.toNatClampNeg ∧ lnC w h way.toNatClampNeg ≤ 11) → (tl_ < 16) → (fl_ = setL fs way.toNatClampNeg (fun _ => 0) i) → (0 < i → tl_ = tU t_o way.toNatClampNeg) → (i = 0 → tl_ = t_o) → 11 - i < n → ∀ (wl2 : va_W), cF (fun b9 => b9 = o ∨ b9 = s_o) ws wl2 → va_D A wl2 → cT cy G wl2 → cIn wl2 o (.inr (kq, .ref b_o :: .ref s_o :: .int (nI tl_) :: .long x_o :: .long y_o :: ms_o)) → cIn wl2 s_o (.inl (cy 0, 44, .inl fl_)) → ∀ (H : Heap) (locs : List Loc), va_P D vwCl wl2 H → va_S A s.heap H locs → ∀ (ls : Array Slot), lv_has ls 3 [(2, .int (nI i)), (0, .ref o), (1, .int way)] → W p l e (headSpec wsX3_forgetWay ({ frames := 3, cells := 0, slots := 0, locals := 66 })).room s m #[Value.ref o, Value.int way] below meth c H locs 0 0 (MQ below (va_Qv (fun u => ∃ w1, u = (G, w1) ∧ cF (fun b9 => b9 = o ∨ b9 = s_o) ws w1 ∧ (cIn w1 o (.inr (kq, .ref b_o :: .ref s_o :: .int (nI (tD t_o way.toNatClampNeg)) :: .long x_o :: .long y_o :: ms_o)) ∧ cIn w1 s_o (.inl (cy 0, 44, .inl (setL fs way.toNatClampNeg (fun _ => 0) (lnC w h way.toNatClampNeg)))))) (cB D cy A) A) #[Value.ref o, Value.int way] s 0 0 A) (F0 m 2 ls []) := by
    intro n
    induction n with
    | zero => intro i tl_ fl_ j2_0 j2_1 j2_2 j2_3 j2_4 hn; exact absurd hn (Nat.not_lt_zero _)
    | succ n ih_2 =>
      intro i tl_ fl_ j2_0 j2_1 j2_2 j2_3 j2_4 hn_2 wl2 hF hD hT hM_o hM_s_o H locs hP hS ls hl
      have ii : (nI i).toInt = (i : Int) := nI_toInt (by omega)
      have tl9 := j2_1
      refine lv_iload_n hx hb dX3_forgetWay_2 rfl (lv_at hl 0 rfl) ?_
      refine lv_aload_n hx hb dX3_forgetWay_3 rfl (lv_at hl 1 rfl) ?_
      refine t_getJ (v := .ref b_o) hx hb hts hinJ hown hK hP hJ_o.kc hM_o 0 (by decide) (hts (.fieldLink RX3 28 "ShadowBench$Job" "board" "LShadowBench$Board;") (by decide +kernel)) (fun _ h9 => h9) rfl dX3_forgetWay_4 ?_
      refine lv_iload_n hx hb dX3_forgetWay_7 rfl (lv_at hl 2 rfl) ?_
      obtain ⟨_, hM_b_o, hb_b_o, l_b_o, f_b_o, r_b_o, rfl, hG_l_b_o, hG_f_b_o, hG_r_b_o⟩ := hT _ _ hG_b_o
      refine t_calli (va_runV (g := F0 m 8 ls ([.int way, .ref b_o, .int (nI i)])) (As := [.int way]) (rest := [.int (nI i)]) ⟨hx, hb, hml, hown, hts⟩ (c_X0_lineCount l D cy A G wl2 b_o way hD hT hG_b_o ) (cwV 1 hts gX3_forgetWay_X0_lineCount rfl rfl rfl (by decide +kernel) ⟨Nat.le_of_ble_eq_true rfl, Nat.le_of_ble_eq_true rfl⟩) (c_preV hM_b_o rfl hP hK hA hS hV) rfl rfl hl.1 rfl (lv_room (Nat.le_of_ble_eq_true rfl)) dX3_forgetWay_8 ⟨Nat.le_of_ble_eq_true rfl, Nat.le_of_ble_eq_true rfl⟩) hS (fun r8 u H locs q8 hP9 hD9 hT9 hS => ?_)
      obtain ⟨rfl, q8⟩ := q8
      have hP : va_P D vwCl wl2 H := hP9
      have lc9 := lnC_b hb9 way.toNatClampNeg
      have z8 := congrArg Int32.toInt q8
      rw [cLn hb9 hw1.1] at z8
      refine lv_icmp_ge (tgt := 27) hx hb dX3_forgetWay_11 (by decide) (fun c11 => ?_) (fun c11 => ?_)
      · skip
        have d11 := c11
        rw [fa_le] at d11
        refine lv_aload_n hx hb dX3_forgetWay_27 rfl (lv_at hl 1 rfl) ?_
        refine lv_dup hx hb dX3_forgetWay_28 rfl ?_
        refine t_getJ (v := .int (nI tl_)) hx hb hts hinJ hown hK hP hJ_o.kc hM_o 2 (by decide) (hts (.fieldLink RX3 17 "ShadowBench$Job" "toldWays" "I") (by decide +kernel)) (fun _ h9 => h9) rfl dX3_forgetWay_29 ?_
        refine lv_iconst (v := 1) hx hb dX3_forgetWay_32 (by decide) ?_
        refine lv_iload_n hx hb dX3_forgetWay_33 rfl (lv_at hl 2 rfl) ?_
        refine lv_ishl hx hb dX3_forgetWay_34 ?_
        refine lv_topi (fun v34 e34 => ?_)
        refine lv_iconst (v := (-1)) hx hb dX3_forgetWay_35 (by decide) ?_
        refine lv_ixor hx hb dX3_forgetWay_36 ?_
        refine lv_topi (fun v36 e36 => ?_)
        refine lv_iand hx hb dX3_forgetWay_37 ?_
        refine lv_topi (fun v37 e37 => ?_)
        obtain rfl : v37 = nI (tD t_o way.toNatClampNeg) := by rw [e37, e36, e34, tD_eq tl9 hw1]; by_cases z9 : i = 0; rw [j2_4 z9]; rw [j2_3 (by omega), (tU_lt ht9 hw1).2.2.1]
        refine t_putJ (v := .int (nI (tD t_o way.toNatClampNeg))) hx hb hts hinJ hown hK hP hD hS hJ_o.kc hM_o 2 (by decide) (hts (.fieldLink RX3 17 "ShadowBench$Job" "toldWays" "I") (by decide +kernel)) (fun _ h9 => h9) rfl rfl rfl (Nat.le_of_ble_eq_true rfl) dX3_forgetWay_38 (fun H locs w38 hU38 hP hD hS => ?_)
        have hM_s_o := hU38.2 _ _ (cne hG_s_o hG_o (show (14 : Nat) ≠ 3 by decide)) hM_s_o
        have hM_b_o := hU38.2 _ _ (cne hG_b_o hG_o (show (2 : Nat) ≠ 3 by decide)) hM_b_o
        have hT := hT.up hU38 hG_o ⟨_, _, _, _, _, _, _, _, rfl, hG_b_o, hG_s_o, hJ_o⟩
        have hM_o : cIn w38 o (.inr (kq, .ref b_o :: .ref s_o :: .int (nI (tD t_o way.toNatClampNeg)) :: .long x_o :: .long y_o :: ms_o)) := hU38.1
        have hF := hF.tr (cF.up hU38 (Or.inl rfl))
        exact W.vret hx hb hr (fun t ht hW => ⟨⟨(G, w38), rfl, ⟨w38, rfl, hF, (by have e9 : i = lnC w h way.toNatClampNeg := (by omega); rw [← e9, ← j2_2]; exact ⟨hM_o, hM_s_o⟩)⟩, by show va_P D vwCl w38 t.heap; rw [ht]; exact hP, hD, hT⟩, hS.F ht⟩) hS.2.2 dX3_forgetWay_41
      · skip
        have d11 := c11
        rw [fa_le] at d11
        refine lv_aload_n hx hb dX3_forgetWay_14 rfl (lv_at hl 1 rfl) ?_
        refine lv_iload_n hx hb dX3_forgetWay_15 rfl (lv_at hl 2 rfl) ?_
        refine lv_iload_n hx hb dX3_forgetWay_16 rfl (lv_at hl 0 rfl) ?_
        refine lv_iconst (v := 0) hx hb dX3_forgetWay_17 (by decide) ?_
        have ck9 : (nI i).toNatClampNeg = i := nI_clamp (by omega)
        refine t_callv (t_runJ (g := F0 m 18 ls ([.int (0 : Int32), .int (nI i), .int way, .ref o])) (As := [.int way, .int (nI i), .int (0 : Int32)]) (rest := []) ⟨hx, hb, hml, hown, hts⟩ (c_X3_tellLine_x l D cy A G wl2 o way (nI i) (0 : Int32) hD hT hG_o hM_o hM_s_o hb9 tl9 (by unfold okL; omega)) (va_cwU 3 hts gX3_forgetWay_X3_tellLine_u44X1 rfl rfl rfl rfl (by decide +kernel) ⟨Nat.le_of_ble_eq_true rfl, Nat.le_of_ble_eq_true rfl⟩) (cwV 3 hts gX3_forgetWay_X3_tellLine rfl rfl rfl (by decide +kernel) ⟨Nat.le_of_ble_eq_true rfl, Nat.le_of_ble_eq_true rfl⟩) (va_cwU 3 hts gX3_forgetWay_X3_tellLine_u44X4 rfl rfl rfl rfl (by decide +kernel) ⟨Nat.le_of_ble_eq_true rfl, Nat.le_of_ble_eq_true rfl⟩) (va_cwU 3 hts gX3_forgetWay_X3_tellLine_u44X5 rfl rfl rfl rfl (by decide +kernel) ⟨Nat.le_of_ble_eq_true rfl, Nat.le_of_ble_eq_true rfl⟩) hJ_o.kc hM_o hP hK c_blind (c_preS hP hK hA hS hV).2 rfl rfl hl.1 rfl (lv_room (Nat.le_of_ble_eq_true rfl)) dX3_forgetWay_18 ⟨Nat.le_of_ble_eq_true rfl, Nat.le_of_ble_eq_true rfl⟩) hS (fun u H locs q18 hP9 hD9 hT9 hS => ?_)
        obtain ⟨w18, rfl, hF18, q18⟩ := q18
        have hP : va_P D vwCl w18 H := hP9
        have hD : va_D A w18 := hD9
        have hT : cT cy G w18 := hT9
        have hM_b_o := hF18 _ _ (fun z9 => z9.elim (cne hG_b_o hG_o (show (2 : Nat) ≠ 3 by decide)) (cne hG_b_o hG_s_o (show (2 : Nat) ≠ 14 by decide))) hM_b_o
        have hF := hF.tr hF18
        have hM_o : cIn w18 o (.inr (kq, .ref b_o :: .ref s_o :: .int (nI (tU tl_ way.toNatClampNeg)) :: .long x_o :: .long y_o :: ms_o)) := q18.1
        have hM_s_o : cIn w18 s_o (.inl (cy 0, 44, .inl (upd fl_ (way.toNatClampNeg * 11 + (nI i).toNatClampNeg) (0 : Int32)))) := q18.2
        refine lv_iinc (v := (nI (i + 1))) (lv' := [(2, .int (nI (i + 1))), (0, .ref o), (1, .int way)]) hx hb dX3_forgetWay_21 hl (k := 0) rfl (nI_1 _) (by decide) rfl (fun ls hl => ?_)
        refine lv_goto (tgt := 2) hx hb dX3_forgetWay_24 (by decide) ?_
        exact ih_2 (i + 1) (tU tl_ way.toNatClampNeg) ((upd fl_ (way.toNatClampNeg * 11 + (nI i).toNatClampNeg) (0 : Int32))) (by omega) ((tU_lt tl9 hw1).1) (by rw [ck9, j2_2]; exact setL_s _ _ _ _) (fun _ => by by_cases z9 : i = 0; rw [j2_4 z9]; rw [j2_3 (by omega)]; exact (tU_lt ht9 hw1).2.2.2) (fun z9 => absurd z9 (Nat.succ_ne_zero _)) (by omega) w18 hF hD hT hM_o hM_s_o _ _ hP hS ls (lv_sub hl [0, 1, 2] rfl)
  exact loop_2 (11 + 1) 0 t_o fs (by have := lnC_b hb9 way.toNatClampNeg; omega) (ht9) ((setL_0 _ _ _).symm) (fun z9 => absurd z9 (Nat.lt_irrefl _)) (fun _ => rfl) (by omega) ws hF hD hT hM_o hM_s_o _ _ hP hS ls (lv_sub hl [0, 1, 2] rfl)
set_option maxHeartbeats 4000000 in
set_option maxRecDepth 100000 in
theorem c_X3_howHeld_x (l : Launch) (D : va_G) (cy : Nat → ClassId) (A : Nat → Prop) (G : cG) (ws : va_W) (o : Nat) (s0 : Int32) {kq w h b_o s_o t_o : Nat} {x_o y_o : Int64} {ms_o : List Value} (hD : va_D A ws) (hT : cT cy G ws) (hG_o : G o = some (3, kq, 8 * w + h)) (hM_o : cIn ws o (.inr (kq, .ref b_o :: .ref s_o :: .int (nI t_o) :: .long x_o :: .long y_o :: ms_o))) (hb9 : 1 ≤ w ∧ w ≤ 6 ∧ 1 ≤ h ∧ h ≤ 6) (ht9 : t_o < 16) (hs1 : 0 ≤ s0.toInt ∧ s0.toInt < 36) : Ci l D cy A yX3_howHeld wsX3_howHeld ({ frames := 0, cells := 0, slots := 0, locals := 0 }) 0 0 ws [.ref o, .int s0] (fun r0 u => u = (G, ws) ∧ (r0 = hH x_o y_o s0.toNatClampNeg)) := by
  refine Met.ofW (cc := cX3_howHeld) (maxL := 2) (ret := (some .int)) (by decide) rfl ?_
  intro p e s m args below meth c s₁ B hml hv
  obtain ⟨rfl, hP, hK, hA, hV⟩ := hv
  have hx := B.exec
  have hb := B.bytes
  have hr := B.returns
  have hts := atoms_spec (ws := wsX3_howHeld) B.pre
  have hown : s.vm.findClass RX3 = some m.cls := findClass_of_methodNamed B.named
  have hlocks := B.notSynchronized
  have hS : va_S A s.heap s.heap [] := va_S.rf
  have hinJ : ∀ w ∈ wsX10 ++ wsX30 ++ wsX40 ++ wsX50, w ∈ wsX3_howHeld := by decide +kernel
  have hl := lv_entry ([.ref o, .int s0]) (n := 2) (Nat.le_of_ble_eq_true rfl)
  rw [lg_entry_eq]
  generalize (lg_sl ([.ref o, .int s0]) ++ List.replicate (2 - (lg_sl ([.ref o, .int s0])).length) Slot.unset).toArray = ls at hl ⊢
  have hl : lv_has ls 2 [(0, .ref o), (1, .int s0)] := hl
  have k_0 : (0 : Int32).toInt = 0 := by decide
  have k_1 : (1 : Int32).toInt = 1 := by decide
  have k_2 : (2 : Int32).toInt = 2 := by decide
  have k_1L : (1 : Int64).toInt = 1 := by decide
  obtain ⟨hG_b_o, hG_s_o, hJ_o⟩ := w3sh hD hT hG_o hb9 hM_o
  refine lv_aload_n hx hb dX3_howHeld_0 rfl (lv_at hl 0 rfl) ?_
  refine t_getJ (v := .long x_o) hx hb hts hinJ hown hK hP hJ_o.kc hM_o 3 (by decide) (hts (.fieldLink RX3 21 "ShadowBench$Job" "heldOnes" "J") (by decide +kernel)) (fun _ h9 => h9) rfl dX3_howHeld_1 ?_
  refine lv_iload_n hx hb dX3_howHeld_4 rfl (lv_at hl 1 rfl) ?_
  refine lv_lushr (v := (x_o.toUInt64 >>> (s0.toInt64.toUInt64 &&& Int64.toUInt64 63)).toInt64) hx hb dX3_howHeld_5 rfl ?_
  refine lv_lconst (v := 1) hx hb dX3_howHeld_6 (by decide) ?_
  refine lv_land hx hb dX3_howHeld_7 ?_
  refine lv_topl (fun v7 e7 => ?_)
  refine lv_lconst (v := 1) hx hb dX3_howHeld_8 (by decide) ?_
  refine W.lcmp hx hb dX3_howHeld_9 ?_
  have cs := m_cl (x := s0) hs1.1
  have f7 : v7 = if lb x_o s0.toNatClampNeg then 1 else 0 := by rw [e7, ← ub_lb x_o (by omega), cl_nI hs1.1]
  refine lv_if_ne (tgt := 15) hx hb dX3_howHeld_10 (by decide) (fun c10 => ?_) (fun c10 => ?_)
  · skip
    have d10 := c10
    rw [lg_cmp_eq, fa_eq64] at d10
    refine lv_aload_n hx hb dX3_howHeld_15 rfl (lv_at hl 0 rfl) ?_
    refine t_getJ (v := .long y_o) hx hb hts hinJ hown hK hP hJ_o.kc hM_o 4 (by decide) (hts (.fieldLink RX3 25 "ShadowBench$Job" "heldNoughts" "J") (by decide +kernel)) (fun _ h9 => h9) rfl dX3_howHeld_16 ?_
    refine lv_iload_n hx hb dX3_howHeld_19 rfl (lv_at hl 1 rfl) ?_
    refine lv_lushr (v := (y_o.toUInt64 >>> (s0.toInt64.toUInt64 &&& Int64.toUInt64 63)).toInt64) hx hb dX3_howHeld_20 rfl ?_
    refine lv_lconst (v := 1) hx hb dX3_howHeld_21 (by decide) ?_
    refine lv_land hx hb dX3_howHeld_22 ?_
    refine lv_topl (fun v22 e22 => ?_)
    refine lv_lconst (v := 1) hx hb dX3_howHeld_23 (by decide) ?_
    refine W.lcmp hx hb dX3_howHeld_24 ?_
    have f22 : v22 = if lb y_o s0.toNatClampNeg then 1 else 0 := by rw [e22, ← ub_lb y_o (by omega), cl_nI hs1.1]
    refine lv_if_ne (tgt := 32) hx hb dX3_howHeld_25 (by decide) (fun c25 => ?_) (fun c25 => ?_)
    · skip
      have d25 := c25
      rw [lg_cmp_eq, fa_eq64] at d25
      refine lv_iconst (v := 2) hx hb dX3_howHeld_32 (by decide) ?_
      exact W.iret (v := (2 : Int32)) hx hb hr (fun t ht hW => ⟨⟨_, (G, ws), rfl, ⟨rfl, (by have z9 : lb x_o s0.toNatClampNeg = false := (by cases hb : lb x_o s0.toNatClampNeg; rfl; (rw [hb] at f7; exact absurd ((lg_cmp_eq _ _).mpr f7) c10)); unfold hH; rw [z9]; cases hb : lb y_o s0.toNatClampNeg; (first | rfl | (rw [hb] at f22; exact absurd (f22.symm.trans ((lg_cmp_eq _ _).mp c25)) (by decide))); (first | rfl | (rw [hb] at f22; exact absurd ((lg_cmp_eq _ _).mpr f22) c25)))⟩, by show va_P D vwCl ws t.heap; rw [ht]; exact hP, hD, hT⟩, hS.F ht⟩) hS.2.2 dX3_howHeld_33
    · skip
      have d25 := c25
      rw [lg_cmp_eq, fa_eq64] at d25
      refine lv_iconst (v := 0) hx hb dX3_howHeld_28 (by decide) ?_
      refine lv_goto (tgt := 33) hx hb dX3_howHeld_29 (by decide) ?_
      exact W.iret (v := (0 : Int32)) hx hb hr (fun t ht hW => ⟨⟨_, (G, ws), rfl, ⟨rfl, (by have z9 : lb x_o s0.toNatClampNeg = false := (by cases hb : lb x_o s0.toNatClampNeg; rfl; (rw [hb] at f7; exact absurd ((lg_cmp_eq _ _).mpr f7) c10)); unfold hH; rw [z9]; cases hb : lb y_o s0.toNatClampNeg; (first | rfl | (rw [hb] at f22; exact absurd (f22.symm.trans ((lg_cmp_eq _ _).mp c25)) (by decide))); (first | rfl | (rw [hb] at f22; exact absurd ((lg_cmp_eq _ _).mpr f22) c25)))⟩, by show va_P D vwCl ws t.heap; rw [ht]; exact hP, hD, hT⟩, hS.F ht⟩) hS.2.2 dX3_howHeld_33
  · skip
    have d10 := c10
    rw [lg_cmp_eq, fa_eq64] at d10
    refine lv_iconst (v := 1) hx hb dX3_howHeld_13 (by decide) ?_
    exact W.iret (v := (1 : Int32)) hx hb hr (fun t ht hW => ⟨⟨_, (G, ws), rfl, ⟨rfl, (by have z9 := (lg_cmp_eq _ _).mp c10; unfold hH; cases hb : lb x_o s0.toNatClampNeg; (rw [hb] at f7; exact absurd (f7.symm.trans z9) (by decide)); rfl)⟩, by show va_P D vwCl ws t.heap; rw [ht]; exact hP, hD, hT⟩, hS.F ht⟩) hS.2.2 dX3_howHeld_14
set_option maxHeartbeats 4000000 in
set_option maxRecDepth 100000 in
theorem c_X3_holdSquare_x (l : Launch) (D : va_G) (cy : Nat → ClassId) (A : Nat → Prop) (G : cG) (ws : va_W) (o : Nat) (s0 : Int32) (how : Int32) {kq w h b_o s_o t_o : Nat} {x_o y_o : Int64} {ms_o : List Value} (hD : va_D A ws) (hT : cT cy G ws) (hG_o : G o = some (3, kq, 8 * w + h)) (hM_o : cIn ws o (.inr (kq, .ref b_o :: .ref s_o :: .int (nI t_o) :: .long x_o :: .long y_o :: ms_o))) (hb9 : 1 ≤ w ∧ w ≤ 6 ∧ 1 ≤ h ∧ h ≤ 6) (ht9 : t_o < 16) (hs1 : 0 ≤ s0.toInt ∧ s0.toInt < 36) : Cv l D cy A yX3_holdSquare wsX3_holdSquare ({ frames := 0, cells := 0, slots := 0, locals := 0 }) 0 0 ws [.ref o, .int s0, .int how] (fun u => ∃ w1, u = (G, w1) ∧ cF (fun b9 => b9 = o) ws w1 ∧ (∃ x1 y1, cIn w1 o (.inr (kq, .ref b_o :: .ref s_o :: .int (nI t_o) :: .long x1 :: .long y1 :: ms_o)) ∧ hO x_o s0.toNatClampNeg (decide (how.toInt = 1)) x1 ∧ hO y_o s0.toNatClampNeg (decide (how.toInt = 0)) y1)) := by
  refine Met.ofW (cc := cX3_holdSquare) (maxL := 5) (ret := none) (by decide) rfl ?_
  intro p e s m args below meth c s₁ B hml hv
  obtain ⟨rfl, hP, hK, hA, hV⟩ := hv
  have hx := B.exec
  have hb := B.bytes
  have hr := B.returns
  have hts := atoms_spec (ws := wsX3_holdSquare) B.pre
  have hown : s.vm.findClass RX3 = some m.cls := findClass_of_methodNamed B.named
  have hlocks := B.notSynchronized
  have hS : va_S A s.heap s.heap [] := va_S.rf
  have hinJ : ∀ w ∈ wsX10 ++ wsX30 ++ wsX40 ++ wsX50, w ∈ wsX3_holdSquare := by decide +kernel
  have hF : cF (fun b9 => b9 = o) ws ws := cF.rf
  have hl := lv_entry ([.ref o, .int s0, .int how]) (n := 5) (Nat.le_of_ble_eq_true rfl)
  rw [lg_entry_eq]
  generalize (lg_sl ([.ref o, .int s0, .int how]) ++ List.replicate (5 - (lg_sl ([.ref o, .int s0, .int how])).length) Slot.unset).toArray = ls at hl ⊢
  have hl : lv_has ls 5 [(0, .ref o), (1, .int s0), (2, .int how)] := hl
  have k_0 : (0 : Int32).toInt = 0 := by decide
  have k_1 : (1 : Int32).toInt = 1 := by decide
  have k_m1L : (-1 : Int64).toInt = -1 := by decide
  have k_1L : (1 : Int64).toInt = 1 := by decide
  obtain ⟨hG_b_o, hG_s_o, hJ_o⟩ := w3sh hD hT hG_o hb9 hM_o
  have cs := m_cl (x := s0) hs1.1
  have el : (1 : Int64) <<< (s0.toInt64 &&& 63) = l1 s0.toNatClampNeg := by unfold l1; rw [cl_nI hs1.1]
  refine lv_lconst (v := 1) hx hb dX3_holdSquare_0 (by decide) ?_
  refine lv_iload_n hx hb dX3_holdSquare_1 rfl (lv_at hl 1 rfl) ?_
  refine lv_lshl (v := (1 : Int64) <<< (s0.toInt64 &&& 63)) hx hb dX3_holdSquare_2 rfl ?_
  refine lv_lstore_n (lv' := [(3, .long ((1 : Int64) <<< (s0.toInt64 &&& 63))), (0, .ref o), (1, .int s0), (2, .int how)]) hx hb dX3_holdSquare_3 rfl hl (by decide) rfl (fun ls hl => ?_)
  refine lv_aload_n hx hb dX3_holdSquare_4 rfl (lv_at hl 1 rfl) ?_
  refine lv_iload_n hx hb dX3_holdSquare_5 rfl (lv_at hl 3 rfl) ?_
  refine lv_iconst (v := 1) hx hb dX3_holdSquare_6 (by decide) ?_
  refine lv_icmp_ne (tgt := 19) hx hb dX3_holdSquare_7 (by decide) (fun c7 => ?_) (fun c7 => ?_)
  · skip
    have d7 := c7
    rw [fa_eq] at d7
    refine lv_aload_n hx hb dX3_holdSquare_19 rfl (lv_at hl 1 rfl) ?_
    refine t_getJ (v := .long x_o) hx hb hts hinJ hown hK hP hJ_o.kc hM_o 3 (by decide) (hts (.fieldLink RX3 21 "ShadowBench$Job" "heldOnes" "J") (by decide +kernel)) (fun _ h9 => h9) rfl dX3_holdSquare_20 ?_
    refine lv_lload_n hx hb dX3_holdSquare_23 rfl (lv_at hl 0 rfl) ?_
    refine lv_ldc2 hx hb hown (hts (.constantLong RX3 48 (-1)) (by decide +kernel)) dX3_holdSquare_24 ?_
    refine lv_lxor hx hb dX3_holdSquare_27 ?_
    refine lv_topl (fun v27 e27 => ?_)
    refine lv_land hx hb dX3_holdSquare_28 ?_
    refine lv_topl (fun v28 e28 => ?_)
    refine t_putJ (v := .long v28) hx hb hts hinJ hown hK hP hD hS hJ_o.kc hM_o 3 (by decide) (hts (.fieldLink RX3 21 "ShadowBench$Job" "heldOnes" "J") (by decide +kernel)) (fun _ h9 => h9) rfl rfl rfl (Nat.le_of_ble_eq_true rfl) dX3_holdSquare_29 (fun H locs w29 hU29 hP hD hS => ?_)
    have hT := hT.up hU29 hG_o ⟨_, _, _, _, _, _, _, _, rfl, hG_b_o, hG_s_o, hJ_o⟩
    have hM_o : cIn w29 o (.inr (kq, .ref b_o :: .ref s_o :: .int (nI t_o) :: .long v28 :: .long y_o :: ms_o)) := hU29.1
    have hF := hF.tr (cF.up hU29 rfl)
    refine lv_aload_n hx hb dX3_holdSquare_32 rfl (lv_at hl 1 rfl) ?_
    refine lv_iload_n hx hb dX3_holdSquare_33 rfl (lv_at hl 3 rfl) ?_
    refine lv_if_ne (tgt := 46) hx hb dX3_holdSquare_34 (by decide) (fun c34 => ?_) (fun c34 => ?_)
    · skip
      have d34 := c34
      rw [fa_eq] at d34
      refine lv_aload_n hx hb dX3_holdSquare_46 rfl (lv_at hl 1 rfl) ?_
      refine t_getJ (v := .long y_o) hx hb hts hinJ hown hK hP hJ_o.kc hM_o 4 (by decide) (hts (.fieldLink RX3 25 "ShadowBench$Job" "heldNoughts" "J") (by decide +kernel)) (fun _ h9 => h9) rfl dX3_holdSquare_47 ?_
      refine lv_lload_n hx hb dX3_holdSquare_50 rfl (lv_at hl 0 rfl) ?_
      refine lv_ldc2 hx hb hown (hts (.constantLong RX3 48 (-1)) (by decide +kernel)) dX3_holdSquare_51 ?_
      refine lv_lxor hx hb dX3_holdSquare_54 ?_
      refine lv_topl (fun v54 e54 => ?_)
      refine lv_land hx hb dX3_holdSquare_55 ?_
      refine lv_topl (fun v55 e55 => ?_)
      refine t_putJ (v := .long v55) hx hb hts hinJ hown hK hP hD hS hJ_o.kc hM_o 4 (by decide) (hts (.fieldLink RX3 25 "ShadowBench$Job" "heldNoughts" "J") (by decide +kernel)) (fun _ h9 => h9) rfl rfl rfl (Nat.le_of_ble_eq_true rfl) dX3_holdSquare_56 (fun H locs w56 hU56 hP hD hS => ?_)
      have hT := hT.up hU56 hG_o ⟨_, _, _, _, _, _, _, _, rfl, hG_b_o, hG_s_o, hJ_o⟩
      have hM_o : cIn w56 o (.inr (kq, .ref b_o :: .ref s_o :: .int (nI t_o) :: .long v28 :: .long v55 :: ms_o)) := hU56.1
      have hF := hF.tr (cF.up hU56 rfl)
      exact W.vret hx hb hr (fun t ht hW => ⟨⟨(G, w56), rfl, ⟨w56, rfl, hF, ⟨_, _, hM_o, (by first | (rw [decide_eq_true (show how.toInt = 1 by omega)]; exact hO_1 (by omega) (by rw [e15, el])) | (rw [decide_eq_false (show ¬ how.toInt = 1 by omega)]; exact hO_0 (by omega) (by rw [e27, el]) e28)), (by first | (rw [decide_eq_true (show how.toInt = 0 by omega)]; exact hO_1 (by omega) (by rw [e42, el])) | (rw [decide_eq_false (show ¬ how.toInt = 0 by omega)]; exact hO_0 (by omega) (by rw [e54, el]) e55))⟩⟩, by show va_P D vwCl w56 t.heap; rw [ht]; exact hP, hD, hT⟩, hS.F ht⟩) hS.2.2 dX3_holdSquare_59
    · skip
      have d34 := c34
      rw [fa_eq] at d34
      refine lv_aload_n hx hb dX3_holdSquare_37 rfl (lv_at hl 1 rfl) ?_
      refine t_getJ (v := .long y_o) hx hb hts hinJ hown hK hP hJ_o.kc hM_o 4 (by decide) (hts (.fieldLink RX3 25 "ShadowBench$Job" "heldNoughts" "J") (by decide +kernel)) (fun _ h9 => h9) rfl dX3_holdSquare_38 ?_
      refine lv_lload_n hx hb dX3_holdSquare_41 rfl (lv_at hl 0 rfl) ?_
      refine lv_lor hx hb dX3_holdSquare_42 ?_
      refine lv_topl (fun v42 e42 => ?_)
      refine lv_goto (tgt := 56) hx hb dX3_holdSquare_43 (by decide) ?_
      refine t_putJ (v := .long v42) hx hb hts hinJ hown hK hP hD hS hJ_o.kc hM_o 4 (by decide) (hts (.fieldLink RX3 25 "ShadowBench$Job" "heldNoughts" "J") (by decide +kernel)) (fun _ h9 => h9) rfl rfl rfl (Nat.le_of_ble_eq_true rfl) dX3_holdSquare_56 (fun H locs w56 hU56 hP hD hS => ?_)
      have hT := hT.up hU56 hG_o ⟨_, _, _, _, _, _, _, _, rfl, hG_b_o, hG_s_o, hJ_o⟩
      have hM_o : cIn w56 o (.inr (kq, .ref b_o :: .ref s_o :: .int (nI t_o) :: .long v28 :: .long v42 :: ms_o)) := hU56.1
      have hF := hF.tr (cF.up hU56 rfl)
      exact W.vret hx hb hr (fun t ht hW => ⟨⟨(G, w56), rfl, ⟨w56, rfl, hF, ⟨_, _, hM_o, (by first | (rw [decide_eq_true (show how.toInt = 1 by omega)]; exact hO_1 (by omega) (by rw [e15, el])) | (rw [decide_eq_false (show ¬ how.toInt = 1 by omega)]; exact hO_0 (by omega) (by rw [e27, el]) e28)), (by first | (rw [decide_eq_true (show how.toInt = 0 by omega)]; exact hO_1 (by omega) (by rw [e42, el])) | (rw [decide_eq_false (show ¬ how.toInt = 0 by omega)]; exact hO_0 (by omega) (by rw [e54, el]) e55))⟩⟩, by show va_P D vwCl w56 t.heap; rw [ht]; exact hP, hD, hT⟩, hS.F ht⟩) hS.2.2 dX3_holdSquare_59
  · skip
    have d7 := c7
    rw [fa_eq] at d7
    refine lv_aload_n hx hb dX3_holdSquare_10 rfl (lv_at hl 1 rfl) ?_
    refine t_getJ (v := .long x_o) hx hb hts hinJ hown hK hP hJ_o.kc hM_o 3 (by decide) (hts (.fieldLink RX3 21 "ShadowBench$Job" "heldOnes" "J") (by decide +kernel)) (fun _ h9 => h9) rfl dX3_holdSquare_11 ?_
    refine lv_lload_n hx hb dX3_holdSquare_14 rfl (lv_at hl 0 rfl) ?_
    refine lv_lor hx hb dX3_holdSquare_15 ?_
    refine lv_topl (fun v15 e15 => ?_)
    refine lv_goto (tgt := 29) hx hb dX3_holdSquare_16 (by decide) ?_
    refine t_putJ (v := .long v15) hx hb hts hinJ hown hK hP hD hS hJ_o.kc hM_o 3 (by decide) (hts (.fieldLink RX3 21 "ShadowBench$Job" "heldOnes" "J") (by decide +kernel)) (fun _ h9 => h9) rfl rfl rfl (Nat.le_of_ble_eq_true rfl) dX3_holdSquare_29 (fun H locs w29 hU29 hP hD hS => ?_)
    have hT := hT.up hU29 hG_o ⟨_, _, _, _, _, _, _, _, rfl, hG_b_o, hG_s_o, hJ_o⟩
    have hM_o : cIn w29 o (.inr (kq, .ref b_o :: .ref s_o :: .int (nI t_o) :: .long v15 :: .long y_o :: ms_o)) := hU29.1
    have hF := hF.tr (cF.up hU29 rfl)
    refine lv_aload_n hx hb dX3_holdSquare_32 rfl (lv_at hl 1 rfl) ?_
    refine lv_iload_n hx hb dX3_holdSquare_33 rfl (lv_at hl 3 rfl) ?_
    refine lv_if_ne (tgt := 46) hx hb dX3_holdSquare_34 (by decide) (fun c34 => ?_) (fun c34 => ?_)
    · skip
      have d34 := c34
      rw [fa_eq] at d34
      refine lv_aload_n hx hb dX3_holdSquare_46 rfl (lv_at hl 1 rfl) ?_
      refine t_getJ (v := .long y_o) hx hb hts hinJ hown hK hP hJ_o.kc hM_o 4 (by decide) (hts (.fieldLink RX3 25 "ShadowBench$Job" "heldNoughts" "J") (by decide +kernel)) (fun _ h9 => h9) rfl dX3_holdSquare_47 ?_
      refine lv_lload_n hx hb dX3_holdSquare_50 rfl (lv_at hl 0 rfl) ?_
      refine lv_ldc2 hx hb hown (hts (.constantLong RX3 48 (-1)) (by decide +kernel)) dX3_holdSquare_51 ?_
      refine lv_lxor hx hb dX3_holdSquare_54 ?_
      refine lv_topl (fun v54 e54 => ?_)
      refine lv_land hx hb dX3_holdSquare_55 ?_
      refine lv_topl (fun v55 e55 => ?_)
      refine t_putJ (v := .long v55) hx hb hts hinJ hown hK hP hD hS hJ_o.kc hM_o 4 (by decide) (hts (.fieldLink RX3 25 "ShadowBench$Job" "heldNoughts" "J") (by decide +kernel)) (fun _ h9 => h9) rfl rfl rfl (Nat.le_of_ble_eq_true rfl) dX3_holdSquare_56 (fun H locs w56 hU56 hP hD hS => ?_)
      have hT := hT.up hU56 hG_o ⟨_, _, _, _, _, _, _, _, rfl, hG_b_o, hG_s_o, hJ_o⟩
      have hM_o : cIn w56 o (.inr (kq, .ref b_o :: .ref s_o :: .int (nI t_o) :: .long v15 :: .long v55 :: ms_o)) := hU56.1
      have hF := hF.tr (cF.up hU56 rfl)
      exact W.vret hx hb hr (fun t ht hW => ⟨⟨(G, w56), rfl, ⟨w56, rfl, hF, ⟨_, _, hM_o, (by first | (rw [decide_eq_true (show how.toInt = 1 by omega)]; exact hO_1 (by omega) (by rw [e15, el])) | (rw [decide_eq_false (show ¬ how.toInt = 1 by omega)]; exact hO_0 (by omega) (by rw [e27, el]) e28)), (by first | (rw [decide_eq_true (show how.toInt = 0 by omega)]; exact hO_1 (by omega) (by rw [e42, el])) | (rw [decide_eq_false (show ¬ how.toInt = 0 by omega)]; exact hO_0 (by omega) (by rw [e54, el]) e55))⟩⟩, by show va_P D vwCl w56 t.heap; rw [ht]; exact hP, hD, hT⟩, hS.F ht⟩) hS.2.2 dX3_holdSquare_59
    · skip
      have d34 := c34
      rw [fa_eq] at d34
      refine lv_aload_n hx hb dX3_holdSquare_37 rfl (lv_at hl 1 rfl) ?_
      refine t_getJ (v := .long y_o) hx hb hts hinJ hown hK hP hJ_o.kc hM_o 4 (by decide) (hts (.fieldLink RX3 25 "ShadowBench$Job" "heldNoughts" "J") (by decide +kernel)) (fun _ h9 => h9) rfl dX3_holdSquare_38 ?_
      refine lv_lload_n hx hb dX3_holdSquare_41 rfl (lv_at hl 0 rfl) ?_
      refine lv_lor hx hb dX3_holdSquare_42 ?_
      refine lv_topl (fun v42 e42 => ?_)
      refine lv_goto (tgt := 56) hx hb dX3_holdSquare_43 (by decide) ?_
      refine t_putJ (v := .long v42) hx hb hts hinJ hown hK hP hD hS hJ_o.kc hM_o 4 (by decide) (hts (.fieldLink RX3 25 "ShadowBench$Job" "heldNoughts" "J") (by decide +kernel)) (fun _ h9 => h9) rfl rfl rfl (Nat.le_of_ble_eq_true rfl) dX3_holdSquare_56 (fun H locs w56 hU56 hP hD hS => ?_)
      have hT := hT.up hU56 hG_o ⟨_, _, _, _, _, _, _, _, rfl, hG_b_o, hG_s_o, hJ_o⟩
      have hM_o : cIn w56 o (.inr (kq, .ref b_o :: .ref s_o :: .int (nI t_o) :: .long v15 :: .long v42 :: ms_o)) := hU56.1
      have hF := hF.tr (cF.up hU56 rfl)
      exact W.vret hx hb hr (fun t ht hW => ⟨⟨(G, w56), rfl, ⟨w56, rfl, hF, ⟨_, _, hM_o, (by first | (rw [decide_eq_true (show how.toInt = 1 by omega)]; exact hO_1 (by omega) (by rw [e15, el])) | (rw [decide_eq_false (show ¬ how.toInt = 1 by omega)]; exact hO_0 (by omega) (by rw [e27, el]) e28)), (by first | (rw [decide_eq_true (show how.toInt = 0 by omega)]; exact hO_1 (by omega) (by rw [e42, el])) | (rw [decide_eq_false (show ¬ how.toInt = 0 by omega)]; exact hO_0 (by omega) (by rw [e54, el]) e55))⟩⟩, by show va_P D vwCl w56 t.heap; rw [ht]; exact hP, hD, hT⟩, hS.F ht⟩) hS.2.2 dX3_holdSquare_59

def okSum9 (jc : Int32) (w h : Nat) (j way line v : Int32) : Prop := okJob jc j ∧ okL w h way line ∧ 0 ≤ v.toInt ∧ v.toInt ≤ 6
def okCast9 (jc : Int32) (w h : Nat) (j way : Int32) (p : Int64) : Prop := okJob jc j ∧ (0 ≤ way.toInt ∧ way.toInt ≤ 3) ∧ isPic (w * h) p
def okUn9 (jc : Int32) (j way : Int32) : Prop := okJob jc j ∧ (2 ≤ way.toInt ∧ way.toInt ≤ 3)
def okHold9 (jc : Int32) (w h : Nat) (j s how : Int32) : Prop := okJob jc j ∧ (0 ≤ s.toInt ∧ s.toInt < ((w * h : Nat) : Int)) ∧ 0 ≤ how.toInt ∧ how.toInt ≤ 2
def okMark9 (jc : Int32) (w h : Nat) (j s v : Int32) : Prop := okJob jc j ∧ (0 ≤ s.toInt ∧ s.toInt < ((w * h : Nat) : Int)) ∧ -99 ≤ v.toInt ∧ v.toInt ≤ 99
def okTold9 (jc : Int32) (j way : Int32) : Prop := okJob jc j ∧ 0 ≤ way.toInt ∧ way.toInt ≤ 3

/-- what told answers: the number of lines, a sum, or -2 -/
def toA (jc : Int32) (w h : Nat) (sm : Nat → Int32) (j way line x : Int32) : Prop := ((okTold9 jc j way ∧ (line.toInt = -1 ∨ okL w h way line)) ∧ (if line.toInt = -1 then x.toInt = (lnC w h way.toNatClampNeg : Int) else x = sm line.toNatClampNeg)) ∨ (¬ (okTold9 jc j way ∧ (line.toInt = -1 ∨ okL w h way line)) ∧ x = -1)
set_option maxHeartbeats 4000000 in
set_option maxRecDepth 100000 in
theorem c_X9_jobOf_j (l : Launch) (D : va_G) (cy : Nat → ClassId) (A : Nat → Prop) (G : cG) (ws : va_W) (o : Nat) (j : Int32) {bs_o js_o sh_o wk_o ll_o : Nat} {jc_o lc_o : Int32} {mo_o lb_o : Option Nat} {fa : Nat → Option Nat} (hD : va_D A ws) (hT : cT cy G ws) (hG_o : G o = some (7, 0, 0)) (hM_o : cIn ws o (.inr (8, [.ref bs_o, .ref js_o, .int jc_o, .ref sh_o, .ref wk_o, va_rf mo_o, .ref ll_o, .int lc_o, va_rf lb_o]))) (hM_js_o : cIn ws js_o (.inl (cy 4, cqa 8 fa))) (hJ1 : ∀ i : Nat, (i : Int) < jc_o.toInt → ∃ x, fa i = some x) : Ca l D cy A yX9_jobOf wsX9_jobOf ({ frames := 0, cells := 0, slots := 0, locals := 0 }) 0 0 ws [.ref o, .int j] (fun r0 u => u = (G, ws) ∧ ((∀ x, r0 = some x → okJob jc_o j ∧ fa j.toNatClampNeg = some x) ∧ (r0 = none → ¬ okJob jc_o j))) := by
  refine Met.ofW (cc := cX9_jobOf) (maxL := 2) (ret := (some (.object "ShadowBench$Job"))) (by decide) rfl ?_
  intro p e s m args below meth c s₁ B hml hv
  obtain ⟨rfl, hP, hK, hA, hV⟩ := hv
  have hx := B.exec
  have hb := B.bytes
  have hr := B.returns
  have hts := atoms_spec (ws := wsX9_jobOf) B.pre
  have hown : s.vm.findClass RX9 = some m.cls := findClass_of_methodNamed B.named
  have hlocks := B.notSynchronized
  have hS : va_S A s.heap s.heap [] := va_S.rf
  have hl := lv_entry ([.ref o, .int j]) (n := 2) (Nat.le_of_ble_eq_true rfl)
  rw [lg_entry_eq]
  generalize (lg_sl ([.ref o, .int j]) ++ List.replicate (2 - (lg_sl ([.ref o, .int j])).length) Slot.unset).toArray = ls at hl ⊢
  have hl : lv_has ls 2 [(0, .ref o), (1, .int j)] := hl
  have k_0 : (0 : Int32).toInt = 0 := by decide
  have k_8 : (8 : Int32).toInt = 8 := by decide
  obtain ⟨hjc_o, hlc_o, hG_bs_o, hG_js_o, hG_sh_o, hG_wk_o, hmo_o, hG_ll_o, hlb_o⟩ := w7sh hD hT hG_o hM_o
  have hf_js_o := w9sh hD hT hG_js_o hM_js_o
  refine lv_iload_n hx hb dX9_jobOf_0 rfl (lv_at hl 1 rfl) ?_
  refine lv_if_lt (tgt := 27) hx hb dX9_jobOf_1 (by decide) (fun c1 => ?_) (fun c1 => ?_)
  · skip
    have d1 := c1
    rw [fa_lt] at d1
    refine lv_null hx hb dX9_jobOf_27 ?_
    exact W.aret (v := .null) hx hb hr (Or.inl ⟨_, rfl⟩) (Or.inl rfl) (fun t ht hW => ⟨⟨none, (G, ws), rfl, ⟨rfl, ⟨(fun _ z => nomatch z), (fun _ z9 => by unfold okJob at z9; first | omega | exact absurd (nf23.symm.trans ex9) (by simp))⟩⟩, by show va_P D vwCl ws t.heap; rw [ht]; exact hP, hD, hT⟩, hS.F ht⟩) hS.2.2 dX9_jobOf_28
  · skip
    have d1 := c1
    rw [fa_lt] at d1
    refine lv_iload_n hx hb dX9_jobOf_4 rfl (lv_at hl 1 rfl) ?_
    refine lv_aload_n hx hb dX9_jobOf_5 rfl (lv_at hl 0 rfl) ?_
    refine t_get (v := .int jc_o) (C := RX9) (T := TX9) (N := 9) hx hb hts (by decide +kernel) hown hK hP hM_o rfl 2 (by decide) (hts (.fieldLink RX9 21 "ShadowBench" "jobCount" "I") (by decide +kernel)) (fun _ h9 => h9) rfl dX9_jobOf_6 ?_
    refine lv_icmp_ge (tgt := 27) hx hb dX9_jobOf_9 (by decide) (fun c9 => ?_) (fun c9 => ?_)
    · skip
      have d9 := c9
      rw [fa_le] at d9
      refine lv_null hx hb dX9_jobOf_27 ?_
      exact W.aret (v := .null) hx hb hr (Or.inl ⟨_, rfl⟩) (Or.inl rfl) (fun t ht hW => ⟨⟨none, (G, ws), rfl, ⟨rfl, ⟨(fun _ z => nomatch z), (fun _ z9 => by unfold okJob at z9; first | omega | exact absurd (nf23.symm.trans ex9) (by simp))⟩⟩, by show va_P D vwCl ws t.heap; rw [ht]; exact hP, hD, hT⟩, hS.F ht⟩) hS.2.2 dX9_jobOf_28
    · skip
      have d9 := c9
      rw [fa_le] at d9
      refine lv_iload_n hx hb dX9_jobOf_12 rfl (lv_at hl 1 rfl) ?_
      refine lv_bipush (v := 8) hx hb dX9_jobOf_13 (by decide) ?_
      refine lv_icmp_ge (tgt := 27) hx hb dX9_jobOf_15 (by decide) (fun c15 => ?_) (fun c15 => ?_)
      · skip
        have d15 := c15
        rw [fa_le] at d15
        refine lv_null hx hb dX9_jobOf_27 ?_
        exact W.aret (v := .null) hx hb hr (Or.inl ⟨_, rfl⟩) (Or.inl rfl) (fun t ht hW => ⟨⟨none, (G, ws), rfl, ⟨rfl, ⟨(fun _ z => nomatch z), (fun _ z9 => by unfold okJob at z9; first | omega | exact absurd (nf23.symm.trans ex9) (by simp))⟩⟩, by show va_P D vwCl ws t.heap; rw [ht]; exact hP, hD, hT⟩, hS.F ht⟩) hS.2.2 dX9_jobOf_28
      · skip
        have d15 := c15
        rw [fa_le] at d15
        refine lv_aload_n hx hb dX9_jobOf_18 rfl (lv_at hl 0 rfl) ?_
        refine t_get (v := .ref js_o) (C := RX9) (T := TX9) (N := 9) hx hb hts (by decide +kernel) hown hK hP hM_o rfl 1 (by decide) (hts (.fieldLink RX9 17 "ShadowBench" "jobs" "[LShadowBench$Job;") (by decide +kernel)) (fun _ h9 => h9) rfl dX9_jobOf_19 ?_
        refine lv_iload_n hx hb dX9_jobOf_22 rfl (lv_at hl 1 rfl) ?_
        have cj := m_cl (x := j) (by omega)
        obtain ⟨x9, ex9⟩ := hJ1 j.toNatClampNeg (by omega)
        refine t_aald9f hx hb hK hP hM_js_o hf_js_o (vp_in_iff.mpr ⟨by omega, by omega⟩) dX9_jobOf_23 (fun nf23 => ?_) (fun x23 kx23 nx23 hG_x23 nf23 => ?_)
        · skip
          refine lv_goto (tgt := 28) hx hb dX9_jobOf_24 (by decide) ?_
          exact W.aret (v := .null) hx hb hr (Or.inl ⟨_, rfl⟩) (Or.inl rfl) (fun t ht hW => ⟨⟨none, (G, ws), rfl, ⟨rfl, ⟨(fun _ z => nomatch z), (fun _ z9 => by unfold okJob at z9; first | omega | exact absurd (nf23.symm.trans ex9) (by simp))⟩⟩, by show va_P D vwCl ws t.heap; rw [ht]; exact hP, hD, hT⟩, hS.F ht⟩) hS.2.2 dX9_jobOf_28
        · skip
          refine lv_goto (tgt := 28) hx hb dX9_jobOf_24 (by decide) ?_
          exact W.aret (v := .ref x23) hx hb hr (Or.inl ⟨_, rfl⟩) (Or.inr ⟨_, rfl⟩) (fun t ht hW => ⟨⟨(some x23), (G, ws), rfl, ⟨rfl, ⟨(fun z9 e9 => by cases e9; exact ⟨(by unfold okJob; omega), nf23⟩), (fun z => nomatch z)⟩⟩, by show va_P D vwCl ws t.heap; rw [ht]; exact hP, hD, hT⟩, hS.F ht⟩) hS.2.2 dX9_jobOf_28
set_option maxHeartbeats 4000000 in
set_option maxRecDepth 100000 in
theorem c_X9_sum_j (l : Launch) (D : va_G) (cy : Nat → ClassId) (A : Nat → Prop) (G : cG) (ws : va_W) (o : Nat) (j : Int32) (way : Int32) (line : Int32) (v : Int32) {bs_o js_o sh_o wk_o ll_o : Nat} {jc_o lc_o : Int32} {mo_o lb_o : Option Nat} {fa : Nat → Option Nat} {xj kj bj sj tj wj hj : Nat} {oj nj : Int64} {msj : List Value} {fsj : Nat → Int32} (hD : va_D A ws) (hT : cT cy G ws) (hG_o : G o = some (7, 0, 0)) (hM_o : cIn ws o (.inr (8, [.ref bs_o, .ref js_o, .int jc_o, .ref sh_o, .ref wk_o, va_rf mo_o, .ref ll_o, .int lc_o, va_rf lb_o]))) (hM_js_o : cIn ws js_o (.inl (cy 4, cqa 8 fa))) (hJ1 : ∀ i : Nat, (i : Int) < jc_o.toInt → ∃ x, fa i = some x) (hJ : okJob jc_o j → jobS cy G ws fa j.toNatClampNeg xj kj bj sj tj wj hj oj nj msj fsj) : Ci l D cy A yX9_sum wsX9_sum ({ frames := 3, cells := 0, slots := 0, locals := 66 }) 0 0 ws [.ref o, .int j, .int way, .int line, .int v] (fun r0 u => ∃ w1, u = (G, w1) ∧ cF (fun b9 => b9 = xj ∨ b9 = sj) ws w1 ∧ ((okSum9 jc_o wj hj j way line v ∧ r0 = 0 ∧ cIn w1 xj (.inr (kj, .ref bj :: .ref sj :: .int (nI (tU tj way.toNatClampNeg)) :: .long oj :: .long nj :: msj)) ∧ cIn w1 sj (.inl (cy 0, 44, .inl (upd fsj (way.toNatClampNeg * 11 + line.toNatClampNeg) v)))) ∨ (¬ okSum9 jc_o wj hj j way line v ∧ r0 = -1 ∧ w1 = ws))) := by
  refine Met.ofW (cc := cX9_sum) (maxL := 6) (ret := (some .int)) (by decide) rfl ?_
  intro p e s m args below meth c s₁ B hml hv
  obtain ⟨rfl, hP, hK, hA, hV⟩ := hv
  have hx := B.exec
  have hb := B.bytes
  have hr := B.returns
  have hts := atoms_spec (ws := wsX9_sum) B.pre
  have hown : s.vm.findClass RX9 = some m.cls := findClass_of_methodNamed B.named
  have hlocks := B.notSynchronized
  have hS : va_S A s.heap s.heap [] := va_S.rf
  have hinJ : ∀ w ∈ wsX10 ++ wsX30 ++ wsX40 ++ wsX50, w ∈ wsX9_sum := by decide +kernel
  have hF : cF (fun b9 => b9 = xj ∨ b9 = sj) ws ws := cF.rf
  have hl := lv_entry ([.ref o, .int j, .int way, .int line, .int v]) (n := 6) (Nat.le_of_ble_eq_true rfl)
  rw [lg_entry_eq]
  generalize (lg_sl ([.ref o, .int j, .int way, .int line, .int v]) ++ List.replicate (6 - (lg_sl ([.ref o, .int j, .int way, .int line, .int v])).length) Slot.unset).toArray = ls at hl ⊢
  have hl : lv_has ls 6 [(0, .ref o), (1, .int j), (2, .int way), (3, .int line), (4, .int v)] := hl
  have k_m1 : (-1 : Int32).toInt = -1 := by decide
  have k_0 : (0 : Int32).toInt = 0 := by decide
  have k_6 : (6 : Int32).toInt = 6 := by decide
  obtain ⟨hjc_o, hlc_o, hG_bs_o, hG_js_o, hG_sh_o, hG_wk_o, hmo_o, hG_ll_o, hlb_o⟩ := w7sh hD hT hG_o hM_o
  have hf_js_o := w9sh hD hT hG_js_o hM_js_o
  refine lv_aload_n hx hb dX9_sum_0 rfl (lv_at hl 0 rfl) ?_
  refine lv_iload_n hx hb dX9_sum_1 rfl (lv_at hl 1 rfl) ?_
  refine t_calla (va_runV (g := F0 m 2 ls ([.int j, .ref o])) (As := [.int j]) (rest := []) ⟨hx, hb, hml, hown, hts⟩ (c_X9_jobOf_j l D cy A G ws o j hD hT hG_o hM_o hM_js_o hJ1) (cwV 1 hts gX9_sum_X9_jobOf rfl rfl rfl (by decide +kernel) ⟨Nat.le_of_ble_eq_true rfl, Nat.le_of_ble_eq_true rfl⟩) (c_preV hM_o rfl hP hK hA hS hV) rfl rfl hl.1 rfl (lv_room (Nat.le_of_ble_eq_true rfl)) dX9_sum_2 ⟨Nat.le_of_ble_eq_true rfl, Nat.le_of_ble_eq_true rfl⟩) hS (fun r2 u H locs q2 hP9 hD9 hT9 hS => ?_)
  obtain ⟨rfl, q2⟩ := q2
  have hP : va_P D vwCl ws H := hP9
  rcases r2 with _ | x2
  · skip
    have vn2 := q2.2 rfl
    refine lv_astoreN (lv' := [(5, .null), (0, .ref o), (1, .int j), (2, .int way), (3, .int line), (4, .int v)]) hx hb dX9_sum_5 hl (by decide) rfl (fun ls hl => ?_)
    refine lv_aloadN hx hb dX9_sum_7 (lv_at hl 0 rfl) ?_
    refine lv_ifnullN (tgt := 37) hx hb dX9_sum_9 (by decide) ?_
    refine lv_iconst (v := (-1)) hx hb dX9_sum_37 (by decide) ?_
    exact W.iret (v := ((-1) : Int32)) hx hb hr (fun t ht hW => ⟨⟨_, (G, ws), rfl, ⟨ws, rfl, hF, (Or.inr ⟨(fun z9 => by first | exact vn2 z9.1 | (have z7 := z9.2.1; unfold okL at z7; have z8 := cL9 z7.1.1; have z6 := z9.2.2; omega)), rfl, rfl⟩)⟩, by show va_P D vwCl ws t.heap; rw [ht]; exact hP, hD, hT⟩, hS.F ht⟩) hS.2.2 dX9_sum_38
  · skip
    obtain ⟨vj2, fj2⟩ := q2.1 x2 rfl
    obtain ⟨hfa9, hG_xj, hb9, ht9, hM_xj, hM_sj⟩ := hJ vj2
    obtain rfl : xj = x2 := Option.some.inj (hfa9.symm.trans fj2)
    obtain ⟨hG_bj, hG_sj, hJ_xj⟩ := w3sh hD hT hG_xj hb9 hM_xj
    refine lv_astore (lv' := [(5, .ref xj), (0, .ref o), (1, .int j), (2, .int way), (3, .int line), (4, .int v)]) hx hb dX9_sum_5 hl (by decide) rfl (fun ls hl => ?_)
    refine lv_aload hx hb dX9_sum_7 (lv_at hl 0 rfl) ?_
    refine lv_ifnull hx hb dX9_sum_9 ?_
    refine lv_aload hx hb dX9_sum_12 (lv_at hl 0 rfl) ?_
    refine t_getJ (v := .ref bj) hx hb hts hinJ hown hK hP hJ_xj.kc hM_xj 0 (by decide) (hts (.fieldLink RX9 65 "ShadowBench$Job" "board" "LShadowBench$Board;") (by decide +kernel)) (fun _ h9 => h9) rfl dX9_sum_14 ?_
    refine lv_iload_n hx hb dX9_sum_17 rfl (lv_at hl 3 rfl) ?_
    refine lv_iload_n hx hb dX9_sum_18 rfl (lv_at hl 4 rfl) ?_
    obtain ⟨_, hM_bj, hb_bj, l_bj, f_bj, r_bj, rfl, hG_l_bj, hG_f_bj, hG_r_bj⟩ := hT _ _ hG_bj
    refine t_calli (va_runV (g := F0 m 19 ls ([.int line, .int way, .ref bj])) (As := [.int way, .int line]) (rest := []) ⟨hx, hb, hml, hown, hts⟩ (c_X0_isLine l D cy A G ws bj way line hD hT hG_bj ) (cwV 2 hts gX9_sum_X0_isLine rfl rfl rfl (by decide +kernel) ⟨Nat.le_of_ble_eq_true rfl, Nat.le_of_ble_eq_true rfl⟩) (c_preV hM_bj rfl hP hK hA hS hV) rfl rfl hl.1 rfl (lv_room (Nat.le_of_ble_eq_true rfl)) dX9_sum_19 ⟨Nat.le_of_ble_eq_true rfl, Nat.le_of_ble_eq_true rfl⟩) hS (fun r19 u H locs q19 hP9 hD9 hT9 hS => ?_)
    obtain ⟨rfl, q19⟩ := q19
    have hP : va_P D vwCl ws H := hP9
    have cL9 := fun z9 : 0 ≤ way.toInt => cLn hb9 (way := way) z9
    refine lv_if_eq (tgt := 37) hx hb dX9_sum_22 (by decide) (fun c22 => ?_) (fun c22 => ?_)
    · skip
      have b22 := bo_f q19 c22
      refine lv_iconst (v := (-1)) hx hb dX9_sum_37 (by decide) ?_
      exact W.iret (v := ((-1) : Int32)) hx hb hr (fun t ht hW => ⟨⟨_, (G, ws), rfl, ⟨ws, rfl, hF, (Or.inr ⟨(fun z9 => by first | exact vn2 z9.1 | (have z7 := z9.2.1; unfold okL at z7; have z8 := cL9 z7.1.1; have z6 := z9.2.2; omega)), rfl, rfl⟩)⟩, by show va_P D vwCl ws t.heap; rw [ht]; exact hP, hD, hT⟩, hS.F ht⟩) hS.2.2 dX9_sum_38
    · skip
      have b22 := bo_t q19 c22
      refine lv_iload hx hb dX9_sum_25 (lv_at hl 5 rfl) ?_
      refine lv_if_lt (tgt := 37) hx hb dX9_sum_27 (by decide) (fun c27 => ?_) (fun c27 => ?_)
      · skip
        have d27 := c27
        rw [fa_lt] at d27
        refine lv_iconst (v := (-1)) hx hb dX9_sum_37 (by decide) ?_
        exact W.iret (v := ((-1) : Int32)) hx hb hr (fun t ht hW => ⟨⟨_, (G, ws), rfl, ⟨ws, rfl, hF, (Or.inr ⟨(fun z9 => by first | exact vn2 z9.1 | (have z7 := z9.2.1; unfold okL at z7; have z8 := cL9 z7.1.1; have z6 := z9.2.2; omega)), rfl, rfl⟩)⟩, by show va_P D vwCl ws t.heap; rw [ht]; exact hP, hD, hT⟩, hS.F ht⟩) hS.2.2 dX9_sum_38
      · skip
        have d27 := c27
        rw [fa_lt] at d27
        refine lv_iload hx hb dX9_sum_30 (lv_at hl 5 rfl) ?_
        refine lv_bipush (v := 6) hx hb dX9_sum_32 (by decide) ?_
        refine lv_icmp_le (tgt := 39) hx hb dX9_sum_34 (by decide) (fun c34 => ?_) (fun c34 => ?_)
        · skip
          have d34 := c34
          rw [fa_le] at d34
          refine lv_aload hx hb dX9_sum_39 (lv_at hl 0 rfl) ?_
          refine lv_iload_n hx hb dX9_sum_41 rfl (lv_at hl 3 rfl) ?_
          refine lv_iload_n hx hb dX9_sum_42 rfl (lv_at hl 4 rfl) ?_
          refine lv_iload hx hb dX9_sum_43 (lv_at hl 5 rfl) ?_
          refine t_callv (t_runJ (g := F0 m 45 ls ([.int v, .int line, .int way, .ref xj])) (As := [.int way, .int line, .int v]) (rest := []) ⟨hx, hb, hml, hown, hts⟩ (c_X3_tellLine_x l D cy A G ws xj way line v hD hT hG_xj hM_xj hM_sj hb9 ht9 (by have z8 := cL9 (by omega); unfold okL; omega)) (va_cwU 3 hts gX9_sum_X3_tellLine_u72X1 rfl rfl rfl rfl (by decide +kernel) ⟨Nat.le_of_ble_eq_true rfl, Nat.le_of_ble_eq_true rfl⟩) (cwV 3 hts gX9_sum_X3_tellLine rfl rfl rfl (by decide +kernel) ⟨Nat.le_of_ble_eq_true rfl, Nat.le_of_ble_eq_true rfl⟩) (va_cwU 3 hts gX9_sum_X3_tellLine_u72X4 rfl rfl rfl rfl (by decide +kernel) ⟨Nat.le_of_ble_eq_true rfl, Nat.le_of_ble_eq_true rfl⟩) (va_cwU 3 hts gX9_sum_X3_tellLine_u72X5 rfl rfl rfl rfl (by decide +kernel) ⟨Nat.le_of_ble_eq_true rfl, Nat.le_of_ble_eq_true rfl⟩) hJ_xj.kc hM_xj hP hK c_blind (c_preS hP hK hA hS hV).2 rfl rfl hl.1 rfl (lv_room (Nat.le_of_ble_eq_true rfl)) dX9_sum_45 ⟨Nat.le_of_ble_eq_true rfl, Nat.le_of_ble_eq_true rfl⟩) hS (fun u H locs q45 hP9 hD9 hT9 hS => ?_)
          obtain ⟨w45, rfl, hF45, q45⟩ := q45
          have hP : va_P D vwCl w45 H := hP9
          have hD : va_D A w45 := hD9
          have hT : cT cy G w45 := hT9
          have hM_o := hF45 _ _ (fun z9 => z9.elim (cne hG_o hG_xj (show (7 : Nat) ≠ 3 by decide)) (cne hG_o hG_sj (show (7 : Nat) ≠ 14 by decide))) hM_o
          have hM_js_o := hF45 _ _ (fun z9 => z9.elim (cne hG_js_o hG_xj (show (9 : Nat) ≠ 3 by decide)) (cne hG_js_o hG_sj (show (9 : Nat) ≠ 14 by decide))) hM_js_o
          have hM_bj := hF45 _ _ (fun z9 => z9.elim (cne hG_bj hG_xj (show (2 : Nat) ≠ 3 by decide)) (cne hG_bj hG_sj (show (2 : Nat) ≠ 14 by decide))) hM_bj
          have hF := hF.tr hF45
          have hM_xj : cIn w45 xj (.inr (kj, .ref bj :: .ref sj :: .int (nI (tU tj way.toNatClampNeg)) :: .long oj :: .long nj :: msj)) := q45.1
          have hM_sj : cIn w45 sj (.inl (cy 0, 44, .inl (upd fsj (way.toNatClampNeg * 11 + line.toNatClampNeg) v))) := q45.2
          refine lv_iconst (v := 0) hx hb dX9_sum_48 (by decide) ?_
          exact W.iret (v := (0 : Int32)) hx hb hr (fun t ht hW => ⟨⟨_, (G, w45), rfl, ⟨w45, rfl, hF, (Or.inl ⟨⟨vj2, (by have z8 := cL9 (by omega); unfold okL; omega), (by omega)⟩, rfl, hM_xj, hM_sj⟩)⟩, by show va_P D vwCl w45 t.heap; rw [ht]; exact hP, hD, hT⟩, hS.F ht⟩) hS.2.2 dX9_sum_49
        · skip
          have d34 := c34
          rw [fa_le] at d34
          refine lv_iconst (v := (-1)) hx hb dX9_sum_37 (by decide) ?_
          exact W.iret (v := ((-1) : Int32)) hx hb hr (fun t ht hW => ⟨⟨_, (G, ws), rfl, ⟨ws, rfl, hF, (Or.inr ⟨(fun z9 => by first | exact vn2 z9.1 | (have z7 := z9.2.1; unfold okL at z7; have z8 := cL9 z7.1.1; have z6 := z9.2.2; omega)), rfl, rfl⟩)⟩, by show va_P D vwCl ws t.heap; rw [ht]; exact hP, hD, hT⟩, hS.F ht⟩) hS.2.2 dX9_sum_38
set_option maxHeartbeats 4000000 in
set_option maxRecDepth 100000 in
theorem c_X9_cast_j (l : Launch) (D : va_G) (cy : Nat → ClassId) (A : Nat → Prop) (G : cG) (ws : va_W) (o : Nat) (j : Int32) (way : Int32) (p0 : Int64) {bs_o js_o sh_o wk_o ll_o : Nat} {jc_o lc_o : Int32} {mo_o lb_o : Option Nat} {fa : Nat → Option Nat} {xj kj bj sj tj wj hj : Nat} {oj nj : Int64} {msj : List Value} {fsj : Nat → Int32} (hD : va_D A ws) (hT : cT cy G ws) (hG_o : G o = some (7, 0, 0)) (hM_o : cIn ws o (.inr (8, [.ref bs_o, .ref js_o, .int jc_o, .ref sh_o, .ref wk_o, va_rf mo_o, .ref ll_o, .int lc_o, va_rf lb_o]))) (hM_js_o : cIn ws js_o (.inl (cy 4, cqa 8 fa))) (hJ1 : ∀ i : Nat, (i : Int) < jc_o.toInt → ∃ x, fa i = some x) (hJ : okJob jc_o j → jobS cy G ws fa j.toNatClampNeg xj kj bj sj tj wj hj oj nj msj fsj) : Ci l D cy A yX9_cast wsX9_cast ({ frames := 4, cells := 0, slots := 0, locals := 90 }) 0 0 ws [.ref o, .int j, .int way, .long p0] (fun r0 u => ∃ w1, u = (G, w1) ∧ cF (fun b9 => b9 = xj ∨ b9 = sj) ws w1 ∧ ((okCast9 jc_o wj hj j way p0 ∧ r0 = nI (bs (lb p0) 36) ∧ cIn w1 xj (.inr (kj, .ref bj :: .ref sj :: .int (nI (tU tj way.toNatClampNeg)) :: .long oj :: .long nj :: msj)) ∧ cIn w1 sj (.inl (cy 0, 44, .inl (setL fsj way.toNatClampNeg (fun l => nI (shN wj hj p0 way.toNatClampNeg l)) (lnC wj hj way.toNatClampNeg))))) ∨ (¬ okCast9 jc_o wj hj j way p0 ∧ r0 = -1 ∧ w1 = ws))) := by
  refine Met.ofW (cc := cX9_cast) (maxL := 6) (ret := (some .int)) (by decide) rfl ?_
  intro p e s m args below meth c s₁ B hml hv
  obtain ⟨rfl, hP, hK, hA, hV⟩ := hv
  have hx := B.exec
  have hb := B.bytes
  have hr := B.returns
  have hts := atoms_spec (ws := wsX9_cast) B.pre
  have hown : s.vm.findClass RX9 = some m.cls := findClass_of_methodNamed B.named
  have hlocks := B.notSynchronized
  have hS : va_S A s.heap s.heap [] := va_S.rf
  have hinJ : ∀ w ∈ wsX10 ++ wsX30 ++ wsX40 ++ wsX50, w ∈ wsX9_cast := by decide +kernel
  have hF : cF (fun b9 => b9 = xj ∨ b9 = sj) ws ws := cF.rf
  have hl := lv_entry ([.ref o, .int j, .int way, .long p0]) (n := 6) (Nat.le_of_ble_eq_true rfl)
  rw [lg_entry_eq]
  generalize (lg_sl ([.ref o, .int j, .int way, .long p0]) ++ List.replicate (6 - (lg_sl ([.ref o, .int j, .int way, .long p0])).length) Slot.unset).toArray = ls at hl ⊢
  have hl : lv_has ls 6 [(0, .ref o), (1, .int j), (2, .int way), (3, .long p0)] := hl
  have k_m1 : (-1 : Int32).toInt = -1 := by decide
  have k_0 : (0 : Int32).toInt = 0 := by decide
  obtain ⟨hjc_o, hlc_o, hG_bs_o, hG_js_o, hG_sh_o, hG_wk_o, hmo_o, hG_ll_o, hlb_o⟩ := w7sh hD hT hG_o hM_o
  have hf_js_o := w9sh hD hT hG_js_o hM_js_o
  refine lv_aload_n hx hb dX9_cast_0 rfl (lv_at hl 0 rfl) ?_
  refine lv_iload_n hx hb dX9_cast_1 rfl (lv_at hl 1 rfl) ?_
  refine t_calla (va_runV (g := F0 m 2 ls ([.int j, .ref o])) (As := [.int j]) (rest := []) ⟨hx, hb, hml, hown, hts⟩ (c_X9_jobOf_j l D cy A G ws o j hD hT hG_o hM_o hM_js_o hJ1) (cwV 1 hts gX9_cast_X9_jobOf rfl rfl rfl (by decide +kernel) ⟨Nat.le_of_ble_eq_true rfl, Nat.le_of_ble_eq_true rfl⟩) (c_preV hM_o rfl hP hK hA hS hV) rfl rfl hl.1 rfl (lv_room (Nat.le_of_ble_eq_true rfl)) dX9_cast_2 ⟨Nat.le_of_ble_eq_true rfl, Nat.le_of_ble_eq_true rfl⟩) hS (fun r2 u H locs q2 hP9 hD9 hT9 hS => ?_)
  obtain ⟨rfl, q2⟩ := q2
  have hP : va_P D vwCl ws H := hP9
  rcases r2 with _ | x2
  · skip
    have vn2 := q2.2 rfl
    refine lv_astoreN (lv' := [(5, .null), (0, .ref o), (1, .int j), (2, .int way), (3, .long p0)]) hx hb dX9_cast_5 hl (by decide) rfl (fun ls hl => ?_)
    refine lv_aloadN hx hb dX9_cast_7 (lv_at hl 0 rfl) ?_
    refine lv_ifnullN (tgt := 31) hx hb dX9_cast_9 (by decide) ?_
    refine lv_iconst (v := (-1)) hx hb dX9_cast_31 (by decide) ?_
    exact W.iret (v := ((-1) : Int32)) hx hb hr (fun t ht hW => ⟨⟨_, (G, ws), rfl, ⟨ws, rfl, hF, (Or.inr ⟨(fun z9 => by first | exact vn2 z9.1 | exact b28 z9.2.2 | (have z7 := z9.2.1; omega)), rfl, rfl⟩)⟩, by show va_P D vwCl ws t.heap; rw [ht]; exact hP, hD, hT⟩, hS.F ht⟩) hS.2.2 dX9_cast_32
  · skip
    obtain ⟨vj2, fj2⟩ := q2.1 x2 rfl
    obtain ⟨hfa9, hG_xj, hb9, ht9, hM_xj, hM_sj⟩ := hJ vj2
    obtain rfl : xj = x2 := Option.some.inj (hfa9.symm.trans fj2)
    obtain ⟨hG_bj, hG_sj, hJ_xj⟩ := w3sh hD hT hG_xj hb9 hM_xj
    refine lv_astore (lv' := [(5, .ref xj), (0, .ref o), (1, .int j), (2, .int way), (3, .long p0)]) hx hb dX9_cast_5 hl (by decide) rfl (fun ls hl => ?_)
    refine lv_aload hx hb dX9_cast_7 (lv_at hl 0 rfl) ?_
    refine lv_ifnull hx hb dX9_cast_9 ?_
    refine lv_iload_n hx hb dX9_cast_12 rfl (lv_at hl 3 rfl) ?_
    refine t_pu (As := [.int way]) (rest := []) ⟨hx, hb, hml, hown, hts⟩ (c_X9_isWay l way ) (va_cwS 1 hts gX9_cast_X9_isWay rfl rfl rfl (by decide +kernel) ⟨Nat.le_of_ble_eq_true rfl, Nat.le_of_ble_eq_true rfl⟩) hP rfl hl.1 rfl (Nat.le_of_ble_eq_true rfl) dX9_cast_13 ⟨Nat.le_of_ble_eq_true rfl, Nat.le_of_ble_eq_true rfl⟩ hS (fun r13 H locs q13 hP hS => ?_)
    refine lv_if_eq (tgt := 31) hx hb dX9_cast_16 (by decide) (fun c16 => ?_) (fun c16 => ?_)
    · skip
      have b16 := bo_f q13 c16
      refine lv_iconst (v := (-1)) hx hb dX9_cast_31 (by decide) ?_
      exact W.iret (v := ((-1) : Int32)) hx hb hr (fun t ht hW => ⟨⟨_, (G, ws), rfl, ⟨ws, rfl, hF, (Or.inr ⟨(fun z9 => by first | exact vn2 z9.1 | exact b28 z9.2.2 | (have z7 := z9.2.1; omega)), rfl, rfl⟩)⟩, by show va_P D vwCl ws t.heap; rw [ht]; exact hP, hD, hT⟩, hS.F ht⟩) hS.2.2 dX9_cast_32
    · skip
      have b16 := bo_t q13 c16
      refine lv_aload hx hb dX9_cast_19 (lv_at hl 0 rfl) ?_
      refine t_getJ (v := .ref bj) hx hb hts hinJ hown hK hP hJ_xj.kc hM_xj 0 (by decide) (hts (.fieldLink RX9 65 "ShadowBench$Job" "board" "LShadowBench$Board;") (by decide +kernel)) (fun _ h9 => h9) rfl dX9_cast_21 ?_
      refine lv_lload_n hx hb dX9_cast_24 rfl (lv_at hl 4 rfl) ?_
      obtain ⟨_, hM_bj, hb_bj, l_bj, f_bj, r_bj, rfl, hG_l_bj, hG_f_bj, hG_r_bj⟩ := hT _ _ hG_bj
      refine t_calli (va_runV (g := F0 m 25 ls ([.long p0, .ref bj])) (As := [.long p0]) (rest := []) ⟨hx, hb, hml, hown, hts⟩ (c_X0_isPicture_x l D cy A G ws bj p0 hD hT hG_bj ) (cwV 1 hts gX9_cast_X0_isPicture rfl rfl rfl (by decide +kernel) ⟨Nat.le_of_ble_eq_true rfl, Nat.le_of_ble_eq_true rfl⟩) (c_preV hM_bj rfl hP hK hA hS hV) rfl rfl hl.1 rfl (lv_room (Nat.le_of_ble_eq_true rfl)) dX9_cast_25 ⟨Nat.le_of_ble_eq_true rfl, Nat.le_of_ble_eq_true rfl⟩) hS (fun r25 u H locs q25 hP9 hD9 hT9 hS => ?_)
      obtain ⟨rfl, q25⟩ := q25
      have hP : va_P D vwCl ws H := hP9
      have m36 := cb_mul hb9
      refine lv_if_ne (tgt := 33) hx hb dX9_cast_28 (by decide) (fun c28 => ?_) (fun c28 => ?_)
      · skip
        have b28 := bo_t q25 c28
        refine lv_aload hx hb dX9_cast_33 (lv_at hl 0 rfl) ?_
        refine lv_iload_n hx hb dX9_cast_35 rfl (lv_at hl 3 rfl) ?_
        refine lv_lload_n hx hb dX9_cast_36 rfl (lv_at hl 4 rfl) ?_
        refine t_callv (t_runJ (g := F0 m 37 ls ([.long p0, .int way, .ref xj])) (As := [.int way, .long p0]) (rest := []) ⟨hx, hb, hml, hown, hts⟩ (c_X3_tellShadow_x l D cy A G ws xj way p0 hD hT hG_xj hM_xj hM_sj hb9 ht9 (by omega)) (va_cwU 2 hts gX9_cast_X3_tellShadow_u84X1 rfl rfl rfl rfl (by decide +kernel) ⟨Nat.le_of_ble_eq_true rfl, Nat.le_of_ble_eq_true rfl⟩) (cwV 2 hts gX9_cast_X3_tellShadow rfl rfl rfl (by decide +kernel) ⟨Nat.le_of_ble_eq_true rfl, Nat.le_of_ble_eq_true rfl⟩) (va_cwU 2 hts gX9_cast_X3_tellShadow_u84X4 rfl rfl rfl rfl (by decide +kernel) ⟨Nat.le_of_ble_eq_true rfl, Nat.le_of_ble_eq_true rfl⟩) (va_cwU 2 hts gX9_cast_X3_tellShadow_u84X5 rfl rfl rfl rfl (by decide +kernel) ⟨Nat.le_of_ble_eq_true rfl, Nat.le_of_ble_eq_true rfl⟩) hJ_xj.kc hM_xj hP hK c_blind (c_preS hP hK hA hS hV).2 rfl rfl hl.1 rfl (lv_room (Nat.le_of_ble_eq_true rfl)) dX9_cast_37 ⟨Nat.le_of_ble_eq_true rfl, Nat.le_of_ble_eq_true rfl⟩) hS (fun u H locs q37 hP9 hD9 hT9 hS => ?_)
        obtain ⟨w37, rfl, hF37, q37⟩ := q37
        have hP : va_P D vwCl w37 H := hP9
        have hD : va_D A w37 := hD9
        have hT : cT cy G w37 := hT9
        have hM_o := hF37 _ _ (fun z9 => z9.elim (cne hG_o hG_xj (show (7 : Nat) ≠ 3 by decide)) (cne hG_o hG_sj (show (7 : Nat) ≠ 14 by decide))) hM_o
        have hM_js_o := hF37 _ _ (fun z9 => z9.elim (cne hG_js_o hG_xj (show (9 : Nat) ≠ 3 by decide)) (cne hG_js_o hG_sj (show (9 : Nat) ≠ 14 by decide))) hM_js_o
        have hM_bj := hF37 _ _ (fun z9 => z9.elim (cne hG_bj hG_xj (show (2 : Nat) ≠ 3 by decide)) (cne hG_bj hG_sj (show (2 : Nat) ≠ 14 by decide))) hM_bj
        have hF := hF.tr hF37
        have hM_xj : cIn w37 xj (.inr (kj, .ref bj :: .ref sj :: .int (nI (tU tj way.toNatClampNeg)) :: .long oj :: .long nj :: msj)) := q37.1
        have hM_sj : cIn w37 sj (.inl (cy 0, 44, .inl (setL fsj way.toNatClampNeg (fun l => nI (shN wj hj p0 way.toNatClampNeg l)) (lnC wj hj way.toNatClampNeg)))) := q37.2
        refine lv_lload_n hx hb dX9_cast_40 rfl (lv_at hl 4 rfl) ?_
        refine t_pu (As := [.long p0]) (rest := []) ⟨hx, hb, hml, hown, hts⟩ (c_J13_x l p0 ) (va_cwS 1 hts gX9_cast_J13_bitCount_95d88 rfl rfl rfl (by decide +kernel) ⟨Nat.le_of_ble_eq_true rfl, Nat.le_of_ble_eq_true rfl⟩) hP rfl hl.1 rfl (Nat.le_of_ble_eq_true rfl) dX9_cast_41 ⟨Nat.le_of_ble_eq_true rfl, Nat.le_of_ble_eq_true rfl⟩ hS (fun r41 H locs q41 hP hS => ?_)
        exact W.iret (v := r41) hx hb hr (fun t ht hW => ⟨⟨_, (G, w37), rfl, ⟨w37, rfl, hF, (Or.inl ⟨⟨vj2, (by omega), b28⟩, (by rw [q41, bs_36 m36.2 b28]), hM_xj, hM_sj⟩)⟩, by show va_P D vwCl w37 t.heap; rw [ht]; exact hP, hD, hT⟩, hS.F ht⟩) hS.2.2 dX9_cast_44
      · skip
        have b28 := bo_f q25 c28
        refine lv_iconst (v := (-1)) hx hb dX9_cast_31 (by decide) ?_
        exact W.iret (v := ((-1) : Int32)) hx hb hr (fun t ht hW => ⟨⟨_, (G, ws), rfl, ⟨ws, rfl, hF, (Or.inr ⟨(fun z9 => by first | exact vn2 z9.1 | exact b28 z9.2.2 | (have z7 := z9.2.1; omega)), rfl, rfl⟩)⟩, by show va_P D vwCl ws t.heap; rw [ht]; exact hP, hD, hT⟩, hS.F ht⟩) hS.2.2 dX9_cast_32
set_option maxHeartbeats 4000000 in
set_option maxRecDepth 100000 in
theorem c_X9_untell_j (l : Launch) (D : va_G) (cy : Nat → ClassId) (A : Nat → Prop) (G : cG) (ws : va_W) (o : Nat) (j : Int32) (way : Int32) {bs_o js_o sh_o wk_o ll_o : Nat} {jc_o lc_o : Int32} {mo_o lb_o : Option Nat} {fa : Nat → Option Nat} {xj kj bj sj tj wj hj : Nat} {oj nj : Int64} {msj : List Value} {fsj : Nat → Int32} (hD : va_D A ws) (hT : cT cy G ws) (hG_o : G o = some (7, 0, 0)) (hM_o : cIn ws o (.inr (8, [.ref bs_o, .ref js_o, .int jc_o, .ref sh_o, .ref wk_o, va_rf mo_o, .ref ll_o, .int lc_o, va_rf lb_o]))) (hM_js_o : cIn ws js_o (.inl (cy 4, cqa 8 fa))) (hJ1 : ∀ i : Nat, (i : Int) < jc_o.toInt → ∃ x, fa i = some x) (hJ : okJob jc_o j → jobS cy G ws fa j.toNatClampNeg xj kj bj sj tj wj hj oj nj msj fsj) : Ci l D cy A yX9_untell wsX9_untell ({ frames := 4, cells := 0, slots := 0, locals := 88 }) 0 0 ws [.ref o, .int j, .int way] (fun r0 u => ∃ w1, u = (G, w1) ∧ cF (fun b9 => b9 = xj ∨ b9 = sj) ws w1 ∧ ((okUn9 jc_o j way ∧ r0 = (if tB tj way.toNatClampNeg then 1 else 0) ∧ cIn w1 xj (.inr (kj, .ref bj :: .ref sj :: .int (nI (tD tj way.toNatClampNeg)) :: .long oj :: .long nj :: msj)) ∧ cIn w1 sj (.inl (cy 0, 44, .inl (setL fsj way.toNatClampNeg (fun _ => 0) (lnC wj hj way.toNatClampNeg))))) ∨ (¬ okUn9 jc_o j way ∧ r0 = -1 ∧ w1 = ws))) := by
  refine Met.ofW (cc := cX9_untell) (maxL := 5) (ret := (some .int)) (by decide) rfl ?_
  intro p e s m args below meth c s₁ B hml hv
  obtain ⟨rfl, hP, hK, hA, hV⟩ := hv
  have hx := B.exec
  have hb := B.bytes
  have hr := B.returns
  have hts := atoms_spec (ws := wsX9_untell) B.pre
  have hown : s.vm.findClass RX9 = some m.cls := findClass_of_methodNamed B.named
  have hlocks := B.notSynchronized
  have hS : va_S A s.heap s.heap [] := va_S.rf
  have hF : cF (fun b9 => b9 = xj ∨ b9 = sj) ws ws := cF.rf
  have hl := lv_entry ([.ref o, .int j, .int way]) (n := 5) (Nat.le_of_ble_eq_true rfl)
  rw [lg_entry_eq]
  generalize (lg_sl ([.ref o, .int j, .int way]) ++ List.replicate (5 - (lg_sl ([.ref o, .int j, .int way])).length) Slot.unset).toArray = ls at hl ⊢
  have hl : lv_has ls 5 [(0, .ref o), (1, .int j), (2, .int way)] := hl
  have k_m1 : (-1 : Int32).toInt = -1 := by decide
  have k_0 : (0 : Int32).toInt = 0 := by decide
  have k_1 : (1 : Int32).toInt = 1 := by decide
  have k_2 : (2 : Int32).toInt = 2 := by decide
  obtain ⟨hjc_o, hlc_o, hG_bs_o, hG_js_o, hG_sh_o, hG_wk_o, hmo_o, hG_ll_o, hlb_o⟩ := w7sh hD hT hG_o hM_o
  have hf_js_o := w9sh hD hT hG_js_o hM_js_o
  refine lv_aload_n hx hb dX9_untell_0 rfl (lv_at hl 0 rfl) ?_
  refine lv_iload_n hx hb dX9_untell_1 rfl (lv_at hl 1 rfl) ?_
  refine t_calla (va_runV (g := F0 m 2 ls ([.int j, .ref o])) (As := [.int j]) (rest := []) ⟨hx, hb, hml, hown, hts⟩ (c_X9_jobOf_j l D cy A G ws o j hD hT hG_o hM_o hM_js_o hJ1) (cwV 1 hts gX9_untell_X9_jobOf rfl rfl rfl (by decide +kernel) ⟨Nat.le_of_ble_eq_true rfl, Nat.le_of_ble_eq_true rfl⟩) (c_preV hM_o rfl hP hK hA hS hV) rfl rfl hl.1 rfl (lv_room (Nat.le_of_ble_eq_true rfl)) dX9_untell_2 ⟨Nat.le_of_ble_eq_true rfl, Nat.le_of_ble_eq_true rfl⟩) hS (fun r2 u H locs q2 hP9 hD9 hT9 hS => ?_)
  obtain ⟨rfl, q2⟩ := q2
  have hP : va_P D vwCl ws H := hP9
  rcases r2 with _ | x2
  · skip
    have vn2 := q2.2 rfl
    refine lv_astore_nN (lv' := [(3, .null), (0, .ref o), (1, .int j), (2, .int way)]) hx hb dX9_untell_5 rfl hl (by decide) rfl (fun ls hl => ?_)
    refine lv_aload_nN hx hb dX9_untell_6 rfl (lv_at hl 0 rfl) ?_
    refine lv_ifnullN (tgt := 22) hx hb dX9_untell_7 (by decide) ?_
    refine lv_iconst (v := (-1)) hx hb dX9_untell_22 (by decide) ?_
    exact W.iret (v := ((-1) : Int32)) hx hb hr (fun t ht hW => ⟨⟨_, (G, ws), rfl, ⟨ws, rfl, hF, (Or.inr ⟨(fun z9 => by first | exact vn2 z9.1 | (have z7 := z9.2; omega)), rfl, rfl⟩)⟩, by show va_P D vwCl ws t.heap; rw [ht]; exact hP, hD, hT⟩, hS.F ht⟩) hS.2.2 dX9_untell_23
  · skip
    obtain ⟨vj2, fj2⟩ := q2.1 x2 rfl
    obtain ⟨hfa9, hG_xj, hb9, ht9, hM_xj, hM_sj⟩ := hJ vj2
    obtain rfl : xj = x2 := Option.some.inj (hfa9.symm.trans fj2)
    obtain ⟨hG_bj, hG_sj, hJ_xj⟩ := w3sh hD hT hG_xj hb9 hM_xj
    refine lv_astore_n (lv' := [(3, .ref xj), (0, .ref o), (1, .int j), (2, .int way)]) hx hb dX9_untell_5 rfl hl (by decide) rfl (fun ls hl => ?_)
    refine lv_aload_n hx hb dX9_untell_6 rfl (lv_at hl 0 rfl) ?_
    refine lv_ifnull hx hb dX9_untell_7 ?_
    refine lv_iload_n hx hb dX9_untell_10 rfl (lv_at hl 3 rfl) ?_
    refine t_pu (As := [.int way]) (rest := []) ⟨hx, hb, hml, hown, hts⟩ (c_X9_isWay l way ) (va_cwS 1 hts gX9_untell_X9_isWay rfl rfl rfl (by decide +kernel) ⟨Nat.le_of_ble_eq_true rfl, Nat.le_of_ble_eq_true rfl⟩) hP rfl hl.1 rfl (Nat.le_of_ble_eq_true rfl) dX9_untell_11 ⟨Nat.le_of_ble_eq_true rfl, Nat.le_of_ble_eq_true rfl⟩ hS (fun r11 H locs q11 hP hS => ?_)
    refine lv_if_eq (tgt := 22) hx hb dX9_untell_14 (by decide) (fun c14 => ?_) (fun c14 => ?_)
    · skip
      have b14 := bo_f q11 c14
      refine lv_iconst (v := (-1)) hx hb dX9_untell_22 (by decide) ?_
      exact W.iret (v := ((-1) : Int32)) hx hb hr (fun t ht hW => ⟨⟨_, (G, ws), rfl, ⟨ws, rfl, hF, (Or.inr ⟨(fun z9 => by first | exact vn2 z9.1 | (have z7 := z9.2; omega)), rfl, rfl⟩)⟩, by show va_P D vwCl ws t.heap; rw [ht]; exact hP, hD, hT⟩, hS.F ht⟩) hS.2.2 dX9_untell_23
    · skip
      have b14 := bo_t q11 c14
      refine lv_iload_n hx hb dX9_untell_17 rfl (lv_at hl 3 rfl) ?_
      refine lv_iconst (v := 2) hx hb dX9_untell_18 (by decide) ?_
      refine lv_icmp_ge (tgt := 24) hx hb dX9_untell_19 (by decide) (fun c19 => ?_) (fun c19 => ?_)
      · skip
        have d19 := c19
        rw [fa_le] at d19
        refine lv_aload_n hx hb dX9_untell_24 rfl (lv_at hl 0 rfl) ?_
        refine lv_iload_n hx hb dX9_untell_25 rfl (lv_at hl 3 rfl) ?_
        refine t_calli (t_runJ (g := F0 m 26 ls ([.int way, .ref xj])) (As := [.int way]) (rest := []) ⟨hx, hb, hml, hown, hts⟩ (c_X3_isTold_x l D cy A G ws xj way hD hT hG_xj hM_xj hb9 ht9 (by omega)) (va_cwU 1 hts gX9_untell_X3_isTold_u94X1 rfl rfl rfl rfl (by decide +kernel) ⟨Nat.le_of_ble_eq_true rfl, Nat.le_of_ble_eq_true rfl⟩) (cwV 1 hts gX9_untell_X3_isTold rfl rfl rfl (by decide +kernel) ⟨Nat.le_of_ble_eq_true rfl, Nat.le_of_ble_eq_true rfl⟩) (va_cwU 1 hts gX9_untell_X3_isTold_u94X4 rfl rfl rfl rfl (by decide +kernel) ⟨Nat.le_of_ble_eq_true rfl, Nat.le_of_ble_eq_true rfl⟩) (va_cwU 1 hts gX9_untell_X3_isTold_u94X5 rfl rfl rfl rfl (by decide +kernel) ⟨Nat.le_of_ble_eq_true rfl, Nat.le_of_ble_eq_true rfl⟩) hJ_xj.kc hM_xj hP hK c_blind (c_preS hP hK hA hS hV).2 rfl rfl hl.1 rfl (lv_room (Nat.le_of_ble_eq_true rfl)) dX9_untell_26 ⟨Nat.le_of_ble_eq_true rfl, Nat.le_of_ble_eq_true rfl⟩) hS (fun r26 u H locs q26 hP9 hD9 hT9 hS => ?_)
        obtain ⟨rfl, q26⟩ := q26
        have hP : va_P D vwCl ws H := hP9
        refine lv_if_eq (tgt := 36) hx hb dX9_untell_29 (by decide) (fun c29 => ?_) (fun c29 => ?_)
        · skip
          have b29 := bo_f q26 c29
          refine lv_iconst (v := 0) hx hb dX9_untell_36 (by decide) ?_
          refine lv_istore (lv' := [(4, .int (0 : Int32)), (3, .ref xj), (0, .ref o), (1, .int j), (2, .int way)]) hx hb dX9_untell_37 hl (by decide) rfl (fun ls hl => ?_)
          refine lv_aload_n hx hb dX9_untell_39 rfl (lv_at hl 1 rfl) ?_
          refine lv_iload_n hx hb dX9_untell_40 rfl (lv_at hl 4 rfl) ?_
          refine t_callv (t_runJ (g := F0 m 41 ls ([.int way, .ref xj])) (As := [.int way]) (rest := []) ⟨hx, hb, hml, hown, hts⟩ (c_X3_forgetWay_x l D cy A G ws xj way hD hT hG_xj hM_xj hM_sj hb9 ht9 (by omega)) (va_cwU 1 hts gX9_untell_X3_forgetWay_u97X1 rfl rfl rfl rfl (by decide +kernel) ⟨Nat.le_of_ble_eq_true rfl, Nat.le_of_ble_eq_true rfl⟩) (cwV 1 hts gX9_untell_X3_forgetWay rfl rfl rfl (by decide +kernel) ⟨Nat.le_of_ble_eq_true rfl, Nat.le_of_ble_eq_true rfl⟩) (va_cwU 1 hts gX9_untell_X3_forgetWay_u97X4 rfl rfl rfl rfl (by decide +kernel) ⟨Nat.le_of_ble_eq_true rfl, Nat.le_of_ble_eq_true rfl⟩) (va_cwU 1 hts gX9_untell_X3_forgetWay_u97X5 rfl rfl rfl rfl (by decide +kernel) ⟨Nat.le_of_ble_eq_true rfl, Nat.le_of_ble_eq_true rfl⟩) hJ_xj.kc hM_xj hP hK c_blind (c_preS hP hK hA hS hV).2 rfl rfl hl.1 rfl (lv_room (Nat.le_of_ble_eq_true rfl)) dX9_untell_41 ⟨Nat.le_of_ble_eq_true rfl, Nat.le_of_ble_eq_true rfl⟩) hS (fun u H locs q41 hP9 hD9 hT9 hS => ?_)
          obtain ⟨w41, rfl, hF41, q41⟩ := q41
          have hP : va_P D vwCl w41 H := hP9
          have hD : va_D A w41 := hD9
          have hT : cT cy G w41 := hT9
          have hM_o := hF41 _ _ (fun z9 => z9.elim (cne hG_o hG_xj (show (7 : Nat) ≠ 3 by decide)) (cne hG_o hG_sj (show (7 : Nat) ≠ 14 by decide))) hM_o
          have hM_js_o := hF41 _ _ (fun z9 => z9.elim (cne hG_js_o hG_xj (show (9 : Nat) ≠ 3 by decide)) (cne hG_js_o hG_sj (show (9 : Nat) ≠ 14 by decide))) hM_js_o
          have hF := hF.tr hF41
          have hM_xj : cIn w41 xj (.inr (kj, .ref bj :: .ref sj :: .int (nI (tD tj way.toNatClampNeg)) :: .long oj :: .long nj :: msj)) := q41.1
          have hM_sj : cIn w41 sj (.inl (cy 0, 44, .inl (setL fsj way.toNatClampNeg (fun _ => 0) (lnC wj hj way.toNatClampNeg)))) := q41.2
          refine lv_iload hx hb dX9_untell_44 (lv_at hl 0 rfl) ?_
          exact W.iret (v := (0 : Int32)) hx hb hr (fun t ht hW => ⟨⟨_, (G, w41), rfl, ⟨w41, rfl, hF, (Or.inl ⟨⟨vj2, (by omega)⟩, (by first | (rw [if_pos b29]; done) | (rw [if_neg b29]; done)), hM_xj, hM_sj⟩)⟩, by show va_P D vwCl w41 t.heap; rw [ht]; exact hP, hD, hT⟩, hS.F ht⟩) hS.2.2 dX9_untell_46
        · skip
          have b29 := bo_t q26 c29
          refine lv_iconst (v := 1) hx hb dX9_untell_32 (by decide) ?_
          refine lv_goto (tgt := 37) hx hb dX9_untell_33 (by decide) ?_
          refine lv_istore (lv' := [(4, .int (1 : Int32)), (3, .ref xj), (0, .ref o), (1, .int j), (2, .int way)]) hx hb dX9_untell_37 hl (by decide) rfl (fun ls hl => ?_)
          refine lv_aload_n hx hb dX9_untell_39 rfl (lv_at hl 1 rfl) ?_
          refine lv_iload_n hx hb dX9_untell_40 rfl (lv_at hl 4 rfl) ?_
          refine t_callv (t_runJ (g := F0 m 41 ls ([.int way, .ref xj])) (As := [.int way]) (rest := []) ⟨hx, hb, hml, hown, hts⟩ (c_X3_forgetWay_x l D cy A G ws xj way hD hT hG_xj hM_xj hM_sj hb9 ht9 (by omega)) (va_cwU 1 hts gX9_untell_X3_forgetWay_u97X1 rfl rfl rfl rfl (by decide +kernel) ⟨Nat.le_of_ble_eq_true rfl, Nat.le_of_ble_eq_true rfl⟩) (cwV 1 hts gX9_untell_X3_forgetWay rfl rfl rfl (by decide +kernel) ⟨Nat.le_of_ble_eq_true rfl, Nat.le_of_ble_eq_true rfl⟩) (va_cwU 1 hts gX9_untell_X3_forgetWay_u97X4 rfl rfl rfl rfl (by decide +kernel) ⟨Nat.le_of_ble_eq_true rfl, Nat.le_of_ble_eq_true rfl⟩) (va_cwU 1 hts gX9_untell_X3_forgetWay_u97X5 rfl rfl rfl rfl (by decide +kernel) ⟨Nat.le_of_ble_eq_true rfl, Nat.le_of_ble_eq_true rfl⟩) hJ_xj.kc hM_xj hP hK c_blind (c_preS hP hK hA hS hV).2 rfl rfl hl.1 rfl (lv_room (Nat.le_of_ble_eq_true rfl)) dX9_untell_41 ⟨Nat.le_of_ble_eq_true rfl, Nat.le_of_ble_eq_true rfl⟩) hS (fun u H locs q41 hP9 hD9 hT9 hS => ?_)
          obtain ⟨w41, rfl, hF41, q41⟩ := q41
          have hP : va_P D vwCl w41 H := hP9
          have hD : va_D A w41 := hD9
          have hT : cT cy G w41 := hT9
          have hM_o := hF41 _ _ (fun z9 => z9.elim (cne hG_o hG_xj (show (7 : Nat) ≠ 3 by decide)) (cne hG_o hG_sj (show (7 : Nat) ≠ 14 by decide))) hM_o
          have hM_js_o := hF41 _ _ (fun z9 => z9.elim (cne hG_js_o hG_xj (show (9 : Nat) ≠ 3 by decide)) (cne hG_js_o hG_sj (show (9 : Nat) ≠ 14 by decide))) hM_js_o
          have hF := hF.tr hF41
          have hM_xj : cIn w41 xj (.inr (kj, .ref bj :: .ref sj :: .int (nI (tD tj way.toNatClampNeg)) :: .long oj :: .long nj :: msj)) := q41.1
          have hM_sj : cIn w41 sj (.inl (cy 0, 44, .inl (setL fsj way.toNatClampNeg (fun _ => 0) (lnC wj hj way.toNatClampNeg)))) := q41.2
          refine lv_iload hx hb dX9_untell_44 (lv_at hl 0 rfl) ?_
          exact W.iret (v := (1 : Int32)) hx hb hr (fun t ht hW => ⟨⟨_, (G, w41), rfl, ⟨w41, rfl, hF, (Or.inl ⟨⟨vj2, (by omega)⟩, (by first | (rw [if_pos b29]; done) | (rw [if_neg b29]; done)), hM_xj, hM_sj⟩)⟩, by show va_P D vwCl w41 t.heap; rw [ht]; exact hP, hD, hT⟩, hS.F ht⟩) hS.2.2 dX9_untell_46
      · skip
        have d19 := c19
        rw [fa_le] at d19
        refine lv_iconst (v := (-1)) hx hb dX9_untell_22 (by decide) ?_
        exact W.iret (v := ((-1) : Int32)) hx hb hr (fun t ht hW => ⟨⟨_, (G, ws), rfl, ⟨ws, rfl, hF, (Or.inr ⟨(fun z9 => by first | exact vn2 z9.1 | (have z7 := z9.2; omega)), rfl, rfl⟩)⟩, by show va_P D vwCl ws t.heap; rw [ht]; exact hP, hD, hT⟩, hS.F ht⟩) hS.2.2 dX9_untell_23
set_option maxHeartbeats 4000000 in
set_option maxRecDepth 100000 in
theorem c_X9_hold_j (l : Launch) (D : va_G) (cy : Nat → ClassId) (A : Nat → Prop) (G : cG) (ws : va_W) (o : Nat) (j : Int32) (s0 : Int32) (how : Int32) {bs_o js_o sh_o wk_o ll_o : Nat} {jc_o lc_o : Int32} {mo_o lb_o : Option Nat} {fa : Nat → Option Nat} {xj kj bj sj tj wj hj : Nat} {oj nj : Int64} {msj : List Value} {fsj : Nat → Int32} (hD : va_D A ws) (hT : cT cy G ws) (hG_o : G o = some (7, 0, 0)) (hM_o : cIn ws o (.inr (8, [.ref bs_o, .ref js_o, .int jc_o, .ref sh_o, .ref wk_o, va_rf mo_o, .ref ll_o, .int lc_o, va_rf lb_o]))) (hM_js_o : cIn ws js_o (.inl (cy 4, cqa 8 fa))) (hJ1 : ∀ i : Nat, (i : Int) < jc_o.toInt → ∃ x, fa i = some x) (hJ : okJob jc_o j → jobS cy G ws fa j.toNatClampNeg xj kj bj sj tj wj hj oj nj msj fsj) : Ci l D cy A yX9_hold wsX9_hold ({ frames := 1, cells := 0, slots := 0, locals := 24 }) 0 0 ws [.ref o, .int j, .int s0, .int how] (fun r0 u => ∃ w1, u = (G, w1) ∧ cF (fun b9 => b9 = xj) ws w1 ∧ ((okHold9 jc_o wj hj j s0 how ∧ r0 = hH oj nj s0.toNatClampNeg ∧ ∃ x1 y1, cIn w1 xj (.inr (kj, .ref bj :: .ref sj :: .int (nI tj) :: .long x1 :: .long y1 :: msj)) ∧ hO oj s0.toNatClampNeg (decide (how.toInt = 1)) x1 ∧ hO nj s0.toNatClampNeg (decide (how.toInt = 0)) y1) ∨ (¬ okHold9 jc_o wj hj j s0 how ∧ r0 = -1 ∧ w1 = ws))) := by
  refine Met.ofW (cc := cX9_hold) (maxL := 6) (ret := (some .int)) (by decide) rfl ?_
  intro p e s m args below meth c s₁ B hml hv
  obtain ⟨rfl, hP, hK, hA, hV⟩ := hv
  have hx := B.exec
  have hb := B.bytes
  have hr := B.returns
  have hts := atoms_spec (ws := wsX9_hold) B.pre
  have hown : s.vm.findClass RX9 = some m.cls := findClass_of_methodNamed B.named
  have hlocks := B.notSynchronized
  have hS : va_S A s.heap s.heap [] := va_S.rf
  have hinJ : ∀ w ∈ wsX10 ++ wsX30 ++ wsX40 ++ wsX50, w ∈ wsX9_hold := by decide +kernel
  have hF : cF (fun b9 => b9 = xj) ws ws := cF.rf
  have hl := lv_entry ([.ref o, .int j, .int s0, .int how]) (n := 6) (Nat.le_of_ble_eq_true rfl)
  rw [lg_entry_eq]
  generalize (lg_sl ([.ref o, .int j, .int s0, .int how]) ++ List.replicate (6 - (lg_sl ([.ref o, .int j, .int s0, .int how])).length) Slot.unset).toArray = ls at hl ⊢
  have hl : lv_has ls 6 [(0, .ref o), (1, .int j), (2, .int s0), (3, .int how)] := hl
  have k_m1 : (-1 : Int32).toInt = -1 := by decide
  have k_0 : (0 : Int32).toInt = 0 := by decide
  have k_2 : (2 : Int32).toInt = 2 := by decide
  obtain ⟨hjc_o, hlc_o, hG_bs_o, hG_js_o, hG_sh_o, hG_wk_o, hmo_o, hG_ll_o, hlb_o⟩ := w7sh hD hT hG_o hM_o
  have hf_js_o := w9sh hD hT hG_js_o hM_js_o
  refine lv_aload_n hx hb dX9_hold_0 rfl (lv_at hl 0 rfl) ?_
  refine lv_iload_n hx hb dX9_hold_1 rfl (lv_at hl 1 rfl) ?_
  refine t_calla (va_runV (g := F0 m 2 ls ([.int j, .ref o])) (As := [.int j]) (rest := []) ⟨hx, hb, hml, hown, hts⟩ (c_X9_jobOf_j l D cy A G ws o j hD hT hG_o hM_o hM_js_o hJ1) (cwV 1 hts gX9_hold_X9_jobOf rfl rfl rfl (by decide +kernel) ⟨Nat.le_of_ble_eq_true rfl, Nat.le_of_ble_eq_true rfl⟩) (c_preV hM_o rfl hP hK hA hS hV) rfl rfl hl.1 rfl (lv_room (Nat.le_of_ble_eq_true rfl)) dX9_hold_2 ⟨Nat.le_of_ble_eq_true rfl, Nat.le_of_ble_eq_true rfl⟩) hS (fun r2 u H locs q2 hP9 hD9 hT9 hS => ?_)
  obtain ⟨rfl, q2⟩ := q2
  have hP : va_P D vwCl ws H := hP9
  rcases r2 with _ | x2
  · skip
    have vn2 := q2.2 rfl
    refine lv_astoreN (lv' := [(4, .null), (0, .ref o), (1, .int j), (2, .int s0), (3, .int how)]) hx hb dX9_hold_5 hl (by decide) rfl (fun ls hl => ?_)
    refine lv_aloadN hx hb dX9_hold_7 (lv_at hl 0 rfl) ?_
    refine lv_ifnullN (tgt := 33) hx hb dX9_hold_9 (by decide) ?_
    refine lv_iconst (v := (-1)) hx hb dX9_hold_33 (by decide) ?_
    exact W.iret (v := ((-1) : Int32)) hx hb hr (fun t ht hW => ⟨⟨_, (G, ws), rfl, ⟨ws, rfl, hF, (Or.inr ⟨(fun z9 => by first | exact vn2 z9.1 | (have z7 := z9.2; omega)), rfl, rfl⟩)⟩, by show va_P D vwCl ws t.heap; rw [ht]; exact hP, hD, hT⟩, hS.F ht⟩) hS.2.2 dX9_hold_34
  · skip
    obtain ⟨vj2, fj2⟩ := q2.1 x2 rfl
    obtain ⟨hfa9, hG_xj, hb9, ht9, hM_xj, hM_sj⟩ := hJ vj2
    obtain rfl : xj = x2 := Option.some.inj (hfa9.symm.trans fj2)
    obtain ⟨hG_bj, hG_sj, hJ_xj⟩ := w3sh hD hT hG_xj hb9 hM_xj
    refine lv_astore (lv' := [(4, .ref xj), (0, .ref o), (1, .int j), (2, .int s0), (3, .int how)]) hx hb dX9_hold_5 hl (by decide) rfl (fun ls hl => ?_)
    refine lv_aload hx hb dX9_hold_7 (lv_at hl 0 rfl) ?_
    refine lv_ifnull hx hb dX9_hold_9 ?_
    refine lv_aload hx hb dX9_hold_12 (lv_at hl 0 rfl) ?_
    refine t_getJ (v := .ref bj) hx hb hts hinJ hown hK hP hJ_xj.kc hM_xj 0 (by decide) (hts (.fieldLink RX9 65 "ShadowBench$Job" "board" "LShadowBench$Board;") (by decide +kernel)) (fun _ h9 => h9) rfl dX9_hold_14 ?_
    refine lv_iload_n hx hb dX9_hold_17 rfl (lv_at hl 3 rfl) ?_
    obtain ⟨_, hM_bj, hb_bj, l_bj, f_bj, r_bj, rfl, hG_l_bj, hG_f_bj, hG_r_bj⟩ := hT _ _ hG_bj
    refine t_calli (va_runV (g := F0 m 18 ls ([.int s0, .ref bj])) (As := [.int s0]) (rest := []) ⟨hx, hb, hml, hown, hts⟩ (c_X0_isSquare l D cy A G ws bj s0 hD hT hG_bj ) (cwV 1 hts gX9_hold_X0_isSquare rfl rfl rfl (by decide +kernel) ⟨Nat.le_of_ble_eq_true rfl, Nat.le_of_ble_eq_true rfl⟩) (c_preV hM_bj rfl hP hK hA hS hV) rfl rfl hl.1 rfl (lv_room (Nat.le_of_ble_eq_true rfl)) dX9_hold_18 ⟨Nat.le_of_ble_eq_true rfl, Nat.le_of_ble_eq_true rfl⟩) hS (fun r18 u H locs q18 hP9 hD9 hT9 hS => ?_)
    obtain ⟨rfl, q18⟩ := q18
    have hP : va_P D vwCl ws H := hP9
    have m36 := cb_mul hb9
    refine lv_if_eq (tgt := 33) hx hb dX9_hold_21 (by decide) (fun c21 => ?_) (fun c21 => ?_)
    · skip
      have b21 := bo_f q18 c21
      refine lv_iconst (v := (-1)) hx hb dX9_hold_33 (by decide) ?_
      exact W.iret (v := ((-1) : Int32)) hx hb hr (fun t ht hW => ⟨⟨_, (G, ws), rfl, ⟨ws, rfl, hF, (Or.inr ⟨(fun z9 => by first | exact vn2 z9.1 | (have z7 := z9.2; omega)), rfl, rfl⟩)⟩, by show va_P D vwCl ws t.heap; rw [ht]; exact hP, hD, hT⟩, hS.F ht⟩) hS.2.2 dX9_hold_34
    · skip
      have b21 := bo_t q18 c21
      refine lv_iload_n hx hb dX9_hold_24 rfl (lv_at hl 4 rfl) ?_
      refine lv_if_lt (tgt := 33) hx hb dX9_hold_25 (by decide) (fun c25 => ?_) (fun c25 => ?_)
      · skip
        have d25 := c25
        rw [fa_lt] at d25
        refine lv_iconst (v := (-1)) hx hb dX9_hold_33 (by decide) ?_
        exact W.iret (v := ((-1) : Int32)) hx hb hr (fun t ht hW => ⟨⟨_, (G, ws), rfl, ⟨ws, rfl, hF, (Or.inr ⟨(fun z9 => by first | exact vn2 z9.1 | (have z7 := z9.2; omega)), rfl, rfl⟩)⟩, by show va_P D vwCl ws t.heap; rw [ht]; exact hP, hD, hT⟩, hS.F ht⟩) hS.2.2 dX9_hold_34
      · skip
        have d25 := c25
        rw [fa_lt] at d25
        refine lv_iload_n hx hb dX9_hold_28 rfl (lv_at hl 4 rfl) ?_
        refine lv_iconst (v := 2) hx hb dX9_hold_29 (by decide) ?_
        refine lv_icmp_le (tgt := 35) hx hb dX9_hold_30 (by decide) (fun c30 => ?_) (fun c30 => ?_)
        · skip
          have d30 := c30
          rw [fa_le] at d30
          refine lv_aload hx hb dX9_hold_35 (lv_at hl 0 rfl) ?_
          refine lv_iload_n hx hb dX9_hold_37 rfl (lv_at hl 3 rfl) ?_
          refine t_calli (t_runJ (g := F0 m 38 ls ([.int s0, .ref xj])) (As := [.int s0]) (rest := []) ⟨hx, hb, hml, hown, hts⟩ (c_X3_howHeld_x l D cy A G ws xj s0 hD hT hG_xj hM_xj hb9 ht9 (by omega)) (va_cwU 1 hts gX9_hold_X3_howHeld_u104X1 rfl rfl rfl rfl (by decide +kernel) ⟨Nat.le_of_ble_eq_true rfl, Nat.le_of_ble_eq_true rfl⟩) (cwV 1 hts gX9_hold_X3_howHeld rfl rfl rfl (by decide +kernel) ⟨Nat.le_of_ble_eq_true rfl, Nat.le_of_ble_eq_true rfl⟩) (va_cwU 1 hts gX9_hold_X3_howHeld_u104X4 rfl rfl rfl rfl (by decide +kernel) ⟨Nat.le_of_ble_eq_true rfl, Nat.le_of_ble_eq_true rfl⟩) (va_cwU 1 hts gX9_hold_X3_howHeld_u104X5 rfl rfl rfl rfl (by decide +kernel) ⟨Nat.le_of_ble_eq_true rfl, Nat.le_of_ble_eq_true rfl⟩) hJ_xj.kc hM_xj hP hK c_blind (c_preS hP hK hA hS hV).2 rfl rfl hl.1 rfl (lv_room (Nat.le_of_ble_eq_true rfl)) dX9_hold_38 ⟨Nat.le_of_ble_eq_true rfl, Nat.le_of_ble_eq_true rfl⟩) hS (fun r38 u H locs q38 hP9 hD9 hT9 hS => ?_)
          obtain ⟨rfl, q38⟩ := q38
          have hP : va_P D vwCl ws H := hP9
          refine lv_istore (lv' := [(5, .int r38), (4, .ref xj), (0, .ref o), (1, .int j), (2, .int s0), (3, .int how)]) hx hb dX9_hold_41 hl (by decide) rfl (fun ls hl => ?_)
          refine lv_aload hx hb dX9_hold_43 (lv_at hl 1 rfl) ?_
          refine lv_iload_n hx hb dX9_hold_45 rfl (lv_at hl 4 rfl) ?_
          refine lv_iload_n hx hb dX9_hold_46 rfl (lv_at hl 5 rfl) ?_
          refine t_callv (t_runJ (g := F0 m 47 ls ([.int how, .int s0, .ref xj])) (As := [.int s0, .int how]) (rest := []) ⟨hx, hb, hml, hown, hts⟩ (c_X3_holdSquare_x l D cy A G ws xj s0 how hD hT hG_xj hM_xj hb9 ht9 (by omega)) (va_cwU 2 hts gX9_hold_X3_holdSquare_u108X1 rfl rfl rfl rfl (by decide +kernel) ⟨Nat.le_of_ble_eq_true rfl, Nat.le_of_ble_eq_true rfl⟩) (cwV 2 hts gX9_hold_X3_holdSquare rfl rfl rfl (by decide +kernel) ⟨Nat.le_of_ble_eq_true rfl, Nat.le_of_ble_eq_true rfl⟩) (va_cwU 2 hts gX9_hold_X3_holdSquare_u108X4 rfl rfl rfl rfl (by decide +kernel) ⟨Nat.le_of_ble_eq_true rfl, Nat.le_of_ble_eq_true rfl⟩) (va_cwU 2 hts gX9_hold_X3_holdSquare_u108X5 rfl rfl rfl rfl (by decide +kernel) ⟨Nat.le_of_ble_eq_true rfl, Nat.le_of_ble_eq_true rfl⟩) hJ_xj.kc hM_xj hP hK c_blind (c_preS hP hK hA hS hV).2 rfl rfl hl.1 rfl (lv_room (Nat.le_of_ble_eq_true rfl)) dX9_hold_47 ⟨Nat.le_of_ble_eq_true rfl, Nat.le_of_ble_eq_true rfl⟩) hS (fun u H locs q47 hP9 hD9 hT9 hS => ?_)
          obtain ⟨w47, rfl, hF47, q47⟩ := q47
          have hP : va_P D vwCl w47 H := hP9
          have hD : va_D A w47 := hD9
          have hT : cT cy G w47 := hT9
          have hM_o := hF47 _ _ (cne hG_o hG_xj (show (7 : Nat) ≠ 3 by decide)) hM_o
          have hM_js_o := hF47 _ _ (cne hG_js_o hG_xj (show (9 : Nat) ≠ 3 by decide)) hM_js_o
          have hM_sj := hF47 _ _ (cne hG_sj hG_xj (show (14 : Nat) ≠ 3 by decide)) hM_sj
          have hM_bj := hF47 _ _ (cne hG_bj hG_xj (show (2 : Nat) ≠ 3 by decide)) hM_bj
          have hF := hF.tr hF47
          obtain ⟨x1_47, y1_47, hM9, hx1_47, hy1_47⟩ := q47
          have hM_xj : cIn w47 xj (.inr (kj, .ref bj :: .ref sj :: .int (nI tj) :: .long x1_47 :: .long y1_47 :: msj)) := hM9
          refine lv_iload hx hb dX9_hold_50 (lv_at hl 0 rfl) ?_
          exact W.iret (v := r38) hx hb hr (fun t ht hW => ⟨⟨_, (G, w47), rfl, ⟨w47, rfl, hF, (Or.inl ⟨⟨vj2, (by omega), (by omega)⟩, q38, _, _, hM_xj, hx1_47, hy1_47⟩)⟩, by show va_P D vwCl w47 t.heap; rw [ht]; exact hP, hD, hT⟩, hS.F ht⟩) hS.2.2 dX9_hold_52
        · skip
          have d30 := c30
          rw [fa_le] at d30
          refine lv_iconst (v := (-1)) hx hb dX9_hold_33 (by decide) ?_
          exact W.iret (v := ((-1) : Int32)) hx hb hr (fun t ht hW => ⟨⟨_, (G, ws), rfl, ⟨ws, rfl, hF, (Or.inr ⟨(fun z9 => by first | exact vn2 z9.1 | (have z7 := z9.2; omega)), rfl, rfl⟩)⟩, by show va_P D vwCl ws t.heap; rw [ht]; exact hP, hD, hT⟩, hS.F ht⟩) hS.2.2 dX9_hold_34
set_option maxHeartbeats 4000000 in
set_option maxRecDepth 100000 in
theorem c_X9_told_j (l : Launch) (D : va_G) (cy : Nat → ClassId) (A : Nat → Prop) (G : cG) (ws : va_W) (o : Nat) (j : Int32) (way : Int32) (line : Int32) {bs_o js_o sh_o wk_o ll_o : Nat} {jc_o lc_o : Int32} {mo_o lb_o : Option Nat} {fa : Nat → Option Nat} {xj kj bj sj tj wj hj : Nat} {oj nj : Int64} {msj : List Value} {fsj : Nat → Int32} (hD : va_D A ws) (hT : cT cy G ws) (hG_o : G o = some (7, 0, 0)) (hM_o : cIn ws o (.inr (8, [.ref bs_o, .ref js_o, .int jc_o, .ref sh_o, .ref wk_o, va_rf mo_o, .ref ll_o, .int lc_o, va_rf lb_o]))) (hM_js_o : cIn ws js_o (.inl (cy 4, cqa 8 fa))) (hJ1 : ∀ i : Nat, (i : Int) < jc_o.toInt → ∃ x, fa i = some x) (hJ : okJob jc_o j → jobS cy G ws fa j.toNatClampNeg xj kj bj sj tj wj hj oj nj msj fsj) : Ci l D cy A yX9_told wsX9_told ({ frames := 2, cells := 0, slots := 0, locals := 43 }) 0 0 ws [.ref o, .int j, .int way, .int line] (fun r0 u => u = (G, ws) ∧ (toA jc_o wj hj (fun l => if tB tj way.toNatClampNeg then fsj (way.toNatClampNeg * 11 + l) else -2) j way line r0)) := by
  refine Met.ofW (cc := cX9_told) (maxL := 5) (ret := (some .int)) (by decide) rfl ?_
  intro p e s m args below meth c s₁ B hml hv
  obtain ⟨rfl, hP, hK, hA, hV⟩ := hv
  have hx := B.exec
  have hb := B.bytes
  have hr := B.returns
  have hts := atoms_spec (ws := wsX9_told) B.pre
  have hown : s.vm.findClass RX9 = some m.cls := findClass_of_methodNamed B.named
  have hlocks := B.notSynchronized
  have hS : va_S A s.heap s.heap [] := va_S.rf
  have hinJ : ∀ w ∈ wsX10 ++ wsX30 ++ wsX40 ++ wsX50, w ∈ wsX9_told := by decide +kernel
  have hl := lv_entry ([.ref o, .int j, .int way, .int line]) (n := 5) (Nat.le_of_ble_eq_true rfl)
  rw [lg_entry_eq]
  generalize (lg_sl ([.ref o, .int j, .int way, .int line]) ++ List.replicate (5 - (lg_sl ([.ref o, .int j, .int way, .int line])).length) Slot.unset).toArray = ls at hl ⊢
  have hl : lv_has ls 5 [(0, .ref o), (1, .int j), (2, .int way), (3, .int line)] := hl
  have k_m2 : (-2 : Int32).toInt = -2 := by decide
  have k_m1 : (-1 : Int32).toInt = -1 := by decide
  have k_0 : (0 : Int32).toInt = 0 := by decide
  obtain ⟨hjc_o, hlc_o, hG_bs_o, hG_js_o, hG_sh_o, hG_wk_o, hmo_o, hG_ll_o, hlb_o⟩ := w7sh hD hT hG_o hM_o
  have hf_js_o := w9sh hD hT hG_js_o hM_js_o
  refine lv_aload_n hx hb dX9_told_0 rfl (lv_at hl 0 rfl) ?_
  refine lv_iload_n hx hb dX9_told_1 rfl (lv_at hl 1 rfl) ?_
  refine t_calla (va_runV (g := F0 m 2 ls ([.int j, .ref o])) (As := [.int j]) (rest := []) ⟨hx, hb, hml, hown, hts⟩ (c_X9_jobOf_j l D cy A G ws o j hD hT hG_o hM_o hM_js_o hJ1) (cwV 1 hts gX9_told_X9_jobOf rfl rfl rfl (by decide +kernel) ⟨Nat.le_of_ble_eq_true rfl, Nat.le_of_ble_eq_true rfl⟩) (c_preV hM_o rfl hP hK hA hS hV) rfl rfl hl.1 rfl (lv_room (Nat.le_of_ble_eq_true rfl)) dX9_told_2 ⟨Nat.le_of_ble_eq_true rfl, Nat.le_of_ble_eq_true rfl⟩) hS (fun r2 u H locs q2 hP9 hD9 hT9 hS => ?_)
  obtain ⟨rfl, q2⟩ := q2
  have hP : va_P D vwCl ws H := hP9
  rcases r2 with _ | x2
  · skip
    have vn2 := q2.2 rfl
    refine lv_astoreN (lv' := [(4, .null), (0, .ref o), (1, .int j), (2, .int way), (3, .int line)]) hx hb dX9_told_5 hl (by decide) rfl (fun ls hl => ?_)
    refine lv_aloadN hx hb dX9_told_7 (lv_at hl 0 rfl) ?_
    refine lv_ifnullN (tgt := 19) hx hb dX9_told_9 (by decide) ?_
    refine lv_iconst (v := (-1)) hx hb dX9_told_19 (by decide) ?_
    exact W.iret (v := ((-1) : Int32)) hx hb hr (fun t ht hW => ⟨⟨_, (G, ws), rfl, ⟨rfl, (Or.inr ⟨(fun z9 => by first | exact vn2 z9.1.1 | (have z7 := z9.1.2; omega)), rfl⟩)⟩, by show va_P D vwCl ws t.heap; rw [ht]; exact hP, hD, hT⟩, hS.F ht⟩) hS.2.2 dX9_told_20
  · skip
    obtain ⟨vj2, fj2⟩ := q2.1 x2 rfl
    obtain ⟨hfa9, hG_xj, hb9, ht9, hM_xj, hM_sj⟩ := hJ vj2
    obtain rfl : xj = x2 := Option.some.inj (hfa9.symm.trans fj2)
    obtain ⟨hG_bj, hG_sj, hJ_xj⟩ := w3sh hD hT hG_xj hb9 hM_xj
    refine lv_astore (lv' := [(4, .ref xj), (0, .ref o), (1, .int j), (2, .int way), (3, .int line)]) hx hb dX9_told_5 hl (by decide) rfl (fun ls hl => ?_)
    refine lv_aload hx hb dX9_told_7 (lv_at hl 0 rfl) ?_
    refine lv_ifnull hx hb dX9_told_9 ?_
    refine lv_iload_n hx hb dX9_told_12 rfl (lv_at hl 3 rfl) ?_
    refine t_pu (As := [.int way]) (rest := []) ⟨hx, hb, hml, hown, hts⟩ (c_X9_isWay l way ) (va_cwS 1 hts gX9_told_X9_isWay rfl rfl rfl (by decide +kernel) ⟨Nat.le_of_ble_eq_true rfl, Nat.le_of_ble_eq_true rfl⟩) hP rfl hl.1 rfl (Nat.le_of_ble_eq_true rfl) dX9_told_13 ⟨Nat.le_of_ble_eq_true rfl, Nat.le_of_ble_eq_true rfl⟩ hS (fun r13 H locs q13 hP hS => ?_)
    refine lv_if_ne (tgt := 21) hx hb dX9_told_16 (by decide) (fun c16 => ?_) (fun c16 => ?_)
    · skip
      have b16 := bo_t q13 c16
      have cL9 := fun z9 : 0 ≤ way.toInt => cLn hb9 (way := way) z9
      refine lv_iload_n hx hb dX9_told_21 rfl (lv_at hl 4 rfl) ?_
      refine lv_iconst (v := (-1)) hx hb dX9_told_22 (by decide) ?_
      refine lv_icmp_ne (tgt := 36) hx hb dX9_told_23 (by decide) (fun c23 => ?_) (fun c23 => ?_)
      · skip
        have d23 := c23
        rw [fa_eq] at d23
        refine lv_aload hx hb dX9_told_36 (lv_at hl 0 rfl) ?_
        refine t_getJ (v := .ref bj) hx hb hts hinJ hown hK hP hJ_xj.kc hM_xj 0 (by decide) (hts (.fieldLink RX9 65 "ShadowBench$Job" "board" "LShadowBench$Board;") (by decide +kernel)) (fun _ h9 => h9) rfl dX9_told_38 ?_
        refine lv_iload_n hx hb dX9_told_41 rfl (lv_at hl 3 rfl) ?_
        refine lv_iload_n hx hb dX9_told_42 rfl (lv_at hl 4 rfl) ?_
        obtain ⟨_, hM_bj, hb_bj, l_bj, f_bj, r_bj, rfl, hG_l_bj, hG_f_bj, hG_r_bj⟩ := hT _ _ hG_bj
        refine t_calli (va_runV (g := F0 m 43 ls ([.int line, .int way, .ref bj])) (As := [.int way, .int line]) (rest := []) ⟨hx, hb, hml, hown, hts⟩ (c_X0_isLine l D cy A G ws bj way line hD hT hG_bj ) (cwV 2 hts gX9_told_X0_isLine rfl rfl rfl (by decide +kernel) ⟨Nat.le_of_ble_eq_true rfl, Nat.le_of_ble_eq_true rfl⟩) (c_preV hM_bj rfl hP hK hA hS hV) rfl rfl hl.1 rfl (lv_room (Nat.le_of_ble_eq_true rfl)) dX9_told_43 ⟨Nat.le_of_ble_eq_true rfl, Nat.le_of_ble_eq_true rfl⟩) hS (fun r43 u H locs q43 hP9 hD9 hT9 hS => ?_)
        obtain ⟨rfl, q43⟩ := q43
        have hP : va_P D vwCl ws H := hP9
        refine lv_if_ne (tgt := 51) hx hb dX9_told_46 (by decide) (fun c46 => ?_) (fun c46 => ?_)
        · skip
          have b46 := bo_t q43 c46
          refine lv_aload hx hb dX9_told_51 (lv_at hl 0 rfl) ?_
          refine lv_iload_n hx hb dX9_told_53 rfl (lv_at hl 3 rfl) ?_
          refine t_calli (t_runJ (g := F0 m 54 ls ([.int way, .ref xj])) (As := [.int way]) (rest := []) ⟨hx, hb, hml, hown, hts⟩ (c_X3_isTold_x l D cy A G ws xj way hD hT hG_xj hM_xj hb9 ht9 (by omega)) (va_cwU 1 hts gX9_told_X3_isTold_u94X1 rfl rfl rfl rfl (by decide +kernel) ⟨Nat.le_of_ble_eq_true rfl, Nat.le_of_ble_eq_true rfl⟩) (cwV 1 hts gX9_told_X3_isTold rfl rfl rfl (by decide +kernel) ⟨Nat.le_of_ble_eq_true rfl, Nat.le_of_ble_eq_true rfl⟩) (va_cwU 1 hts gX9_told_X3_isTold_u94X4 rfl rfl rfl rfl (by decide +kernel) ⟨Nat.le_of_ble_eq_true rfl, Nat.le_of_ble_eq_true rfl⟩) (va_cwU 1 hts gX9_told_X3_isTold_u94X5 rfl rfl rfl rfl (by decide +kernel) ⟨Nat.le_of_ble_eq_true rfl, Nat.le_of_ble_eq_true rfl⟩) hJ_xj.kc hM_xj hP hK c_blind (c_preS hP hK hA hS hV).2 rfl rfl hl.1 rfl (lv_room (Nat.le_of_ble_eq_true rfl)) dX9_told_54 ⟨Nat.le_of_ble_eq_true rfl, Nat.le_of_ble_eq_true rfl⟩) hS (fun r54 u H locs q54 hP9 hD9 hT9 hS => ?_)
          obtain ⟨rfl, q54⟩ := q54
          have hP : va_P D vwCl ws H := hP9
          refine lv_if_eq (tgt := 70) hx hb dX9_told_57 (by decide) (fun c57 => ?_) (fun c57 => ?_)
          · skip
            have b57 := bo_f q54 c57
            refine lv_bipush (v := (-2)) hx hb dX9_told_70 (by decide) ?_
            exact W.iret (v := ((-2) : Int32)) hx hb hr (fun t ht hW => ⟨⟨_, (G, ws), rfl, ⟨rfl, (Or.inl ⟨⟨⟨vj2, by omega⟩, Or.inr (by have z8 := cL9 (by omega); unfold okL; omega)⟩, (by rw [if_neg (by omega)]; show _ = if tB tj way.toNatClampNeg then _ else _; first | (rw [if_pos b57, q64]; done) | (rw [if_neg b57]; done))⟩)⟩, by show va_P D vwCl ws t.heap; rw [ht]; exact hP, hD, hT⟩, hS.F ht⟩) hS.2.2 dX9_told_72
          · skip
            have b57 := bo_t q54 c57
            refine lv_aload hx hb dX9_told_60 (lv_at hl 0 rfl) ?_
            refine lv_iload_n hx hb dX9_told_62 rfl (lv_at hl 3 rfl) ?_
            refine lv_iload_n hx hb dX9_told_63 rfl (lv_at hl 4 rfl) ?_
            refine t_calli (t_runJ (g := F0 m 64 ls ([.int line, .int way, .ref xj])) (As := [.int way, .int line]) (rest := []) ⟨hx, hb, hml, hown, hts⟩ (c_X3_sumOf_x l D cy A G ws xj way line hD hT hG_xj hM_xj hM_sj hb9 ht9 (by omega) (by have z9 := lnC_b hb9 way.toNatClampNeg; have z8 := cL9 (by omega); omega)) (va_cwU 2 hts gX9_told_X3_sumOf_u120X1 rfl rfl rfl rfl (by decide +kernel) ⟨Nat.le_of_ble_eq_true rfl, Nat.le_of_ble_eq_true rfl⟩) (cwV 2 hts gX9_told_X3_sumOf rfl rfl rfl (by decide +kernel) ⟨Nat.le_of_ble_eq_true rfl, Nat.le_of_ble_eq_true rfl⟩) (va_cwU 2 hts gX9_told_X3_sumOf_u120X4 rfl rfl rfl rfl (by decide +kernel) ⟨Nat.le_of_ble_eq_true rfl, Nat.le_of_ble_eq_true rfl⟩) (va_cwU 2 hts gX9_told_X3_sumOf_u120X5 rfl rfl rfl rfl (by decide +kernel) ⟨Nat.le_of_ble_eq_true rfl, Nat.le_of_ble_eq_true rfl⟩) hJ_xj.kc hM_xj hP hK c_blind (c_preS hP hK hA hS hV).2 rfl rfl hl.1 rfl (lv_room (Nat.le_of_ble_eq_true rfl)) dX9_told_64 ⟨Nat.le_of_ble_eq_true rfl, Nat.le_of_ble_eq_true rfl⟩) hS (fun r64 u H locs q64 hP9 hD9 hT9 hS => ?_)
            obtain ⟨rfl, q64⟩ := q64
            have hP : va_P D vwCl ws H := hP9
            refine lv_goto (tgt := 72) hx hb dX9_told_67 (by decide) ?_
            exact W.iret (v := r64) hx hb hr (fun t ht hW => ⟨⟨_, (G, ws), rfl, ⟨rfl, (Or.inl ⟨⟨⟨vj2, by omega⟩, Or.inr (by have z8 := cL9 (by omega); unfold okL; omega)⟩, (by rw [if_neg (by omega)]; show _ = if tB tj way.toNatClampNeg then _ else _; first | (rw [if_pos b57, q64]; done) | (rw [if_neg b57]; done))⟩)⟩, by show va_P D vwCl ws t.heap; rw [ht]; exact hP, hD, hT⟩, hS.F ht⟩) hS.2.2 dX9_told_72
        · skip
          have b46 := bo_f q43 c46
          refine lv_iconst (v := (-1)) hx hb dX9_told_49 (by decide) ?_
          exact W.iret (v := ((-1) : Int32)) hx hb hr (fun t ht hW => ⟨⟨_, (G, ws), rfl, ⟨rfl, (Or.inr ⟨(fun z9 => by rcases z9.2 with z8 | z8; omega; (unfold okL at z8; have z7 := cL9 z8.1.1; omega)), rfl⟩)⟩, by show va_P D vwCl ws t.heap; rw [ht]; exact hP, hD, hT⟩, hS.F ht⟩) hS.2.2 dX9_told_50
      · skip
        have d23 := c23
        rw [fa_eq] at d23
        refine lv_aload hx hb dX9_told_26 (lv_at hl 0 rfl) ?_
        refine t_getJ (v := .ref bj) hx hb hts hinJ hown hK hP hJ_xj.kc hM_xj 0 (by decide) (hts (.fieldLink RX9 65 "ShadowBench$Job" "board" "LShadowBench$Board;") (by decide +kernel)) (fun _ h9 => h9) rfl dX9_told_28 ?_
        refine lv_iload_n hx hb dX9_told_31 rfl (lv_at hl 3 rfl) ?_
        obtain ⟨_, hM_bj, hb_bj, l_bj, f_bj, r_bj, rfl, hG_l_bj, hG_f_bj, hG_r_bj⟩ := hT _ _ hG_bj
        refine t_calli (va_runV (g := F0 m 32 ls ([.int way, .ref bj])) (As := [.int way]) (rest := []) ⟨hx, hb, hml, hown, hts⟩ (c_X0_lineCount l D cy A G ws bj way hD hT hG_bj ) (cwV 1 hts gX9_told_X0_lineCount rfl rfl rfl (by decide +kernel) ⟨Nat.le_of_ble_eq_true rfl, Nat.le_of_ble_eq_true rfl⟩) (c_preV hM_bj rfl hP hK hA hS hV) rfl rfl hl.1 rfl (lv_room (Nat.le_of_ble_eq_true rfl)) dX9_told_32 ⟨Nat.le_of_ble_eq_true rfl, Nat.le_of_ble_eq_true rfl⟩) hS (fun r32 u H locs q32 hP9 hD9 hT9 hS => ?_)
        obtain ⟨rfl, q32⟩ := q32
        have hP : va_P D vwCl ws H := hP9
        exact W.iret (v := r32) hx hb hr (fun t ht hW => ⟨⟨_, (G, ws), rfl, ⟨rfl, (Or.inl ⟨⟨⟨vj2, by omega⟩, Or.inl (by omega)⟩, (by rw [if_pos (by omega), q32]; exact cL9 (by omega))⟩)⟩, by show va_P D vwCl ws t.heap; rw [ht]; exact hP, hD, hT⟩, hS.F ht⟩) hS.2.2 dX9_told_35
    · skip
      have b16 := bo_f q13 c16
      refine lv_iconst (v := (-1)) hx hb dX9_told_19 (by decide) ?_
      exact W.iret (v := ((-1) : Int32)) hx hb hr (fun t ht hW => ⟨⟨_, (G, ws), rfl, ⟨rfl, (Or.inr ⟨(fun z9 => by first | exact vn2 z9.1.1 | (have z7 := z9.1.2; omega)), rfl⟩)⟩, by show va_P D vwCl ws t.heap; rw [ht]; exact hP, hD, hT⟩, hS.F ht⟩) hS.2.2 dX9_told_20

def zL (f : Nat → Int32) (b n : Nat) : Nat → Int32 := fun e => if b ≤ e ∧ e < b + n then 0 else f e
theorem zL_0 (f : Nat → Int32) (b : Nat) : zL f b 0 = f := by
  funext e
  unfold zL
  rw [if_neg (by omega)]
theorem zL_s (f : Nat → Int32) (b n : Nat) : upd (zL f b n) (b + n) 0 = zL f b (n + 1) := by
  funext e
  unfold upd zL
  by_cases h : e = b + n
  · rw [if_pos h, if_pos (by omega)]
  · rw [if_neg h]
    by_cases h2 : b ≤ e ∧ e < b + n
    · rw [if_pos h2, if_pos (by omega)]
    · rw [if_neg h2, if_neg (by omega)]
/-- lines of a way from a place on set one after the other -/
def setB (fs : Nat → Int32) (b : Nat) (g : Nat → Int32) (n : Nat) : Nat → Int32 := fun e => if b ≤ e ∧ e < b + n then g (e - b) else fs e
theorem setB_0 (fs : Nat → Int32) (b : Nat) (g : Nat → Int32) : setB fs b g 0 = fs := by
  funext e
  unfold setB
  rw [if_neg (by omega)]
theorem setB_s (fs : Nat → Int32) (b : Nat) (g : Nat → Int32) (n : Nat) : upd (setB fs b g n) (b + n) (g n) = setB fs b g (n + 1) := by
  funext e
  unfold upd setB
  by_cases h : e = b + n
  · rw [if_pos h, if_pos (by omega), show e - b = n by omega]
  · rw [if_neg h]
    by_cases h2 : b ≤ e ∧ e < b + n
    · rw [if_pos h2, if_pos (by omega)]
    · rw [if_neg h2, if_neg (by omega)]

theorem sq_eq {f : Nat → Int32} {r : Nat → Nat → Int32} (hI : MI f r) {j : Int32} (h0 : 0 ≤ j.toInt) (h1 : j.toInt < (f 1).toInt) : (((r 3 j.toNatClampNeg).toNatClampNeg * (r 4 j.toNatClampNeg).toNatClampNeg : Nat) : Int) = (r 3 j.toNatClampNeg).toInt * (r 4 j.toNatClampNeg).toInt := by
  have a := mi_w hI (x := j) h0 h1 rfl
  have b := mi_h hI (x := j) h0 h1 rfl
  rw [Int.natCast_mul, m_cl (x := r 3 j.toNatClampNeg) (by omega), m_cl (x := r 4 j.toNatClampNeg) (by omega)]

set_option maxHeartbeats 4000000 in
set_option maxRecDepth 100000 in
theorem c_X10_tell_x (l : Launch) (D : va_G) (cy : Nat → ClassId) (mo : Nat) (a : Nat → Nat) (f : Nat → Int32) (g : Nat → Int64) (r : Nat → Nat → Int32) (q : Nat → Nat → Int64) (j : Int32) (way : Int32) (hD : DM cy mo a) (hj : 0 ≤ j.toInt ∧ j.toInt < 8) (hy : 0 ≤ way.toInt ∧ way.toInt ≤ 3) : Mv l D cy mo a yX10_tell wsX10_tell ({ frames := 0, cells := 0, slots := 0, locals := 0 }) f g r q [.int j, .int way] (fun u => ∃ (sm : Nat → Int32), ∃ (tl : Nat → Int32), u = (f, g, (va_up (va_up r 5 sm) 6 tl), q) ∧ (tl = upd (r 6) (4 * j.toNatClampNeg + way.toNatClampNeg) 1 ∧ sm = (if r 6 (4 * j.toNatClampNeg + way.toNatClampNeg) = 0 then zL (r 5) (44 * j.toNatClampNeg + 11 * way.toNatClampNeg) 11 else r 5))) := by
  refine Met.ofW (cc := cX10_tell) (maxL := 4) (ret := none) (by decide) rfl ?_
  intro p e s m args below meth c s₁ B hml hv
  obtain ⟨rfl, hP, hK⟩ := hv
  have hx := B.exec
  have hb := B.bytes
  have hr := B.returns
  have hts := atoms_spec (ws := wsX10_tell) B.pre
  have hin : ∀ w ∈ u_ws RX10 TX10 35, w ∈ wsX10_tell := by decide +kernel
  have hown : s.vm.findClass RX10 = some m.cls := findClass_of_methodNamed B.named
  have hlocks := B.notSynchronized
  have hS : va_S (AM mo a) s.heap s.heap [] := va_S.rf
  have hl := lv_entry ([.ref mo, .int j, .int way]) (n := 4) (Nat.le_of_ble_eq_true rfl)
  rw [lg_entry_eq]
  generalize (lg_sl ([.ref mo, .int j, .int way]) ++ List.replicate (4 - (lg_sl ([.ref mo, .int j, .int way])).length) Slot.unset).toArray = ls at hl ⊢
  have hl : lv_has ls 4 [(0, .ref mo), (1, .int j), (2, .int way)] := hl
  have k_0 : (0 : Int32).toInt = 0 := by decide
  have k_1 : (1 : Int32).toInt = 1 := by decide
  have k_4 : (4 : Int32).toInt = 4 := by decide
  have k_11 : (11 : Int32).toInt = 11 := by decide
  have k_44 : (44 : Int32).toInt = 44 := by decide
  refine lv_iconst (v := 0) hx hb dX10_tell_0 (by decide) ?_
  refine lv_istore_n (lv' := [(3, .int (0 : Int32)), (0, .ref mo), (1, .int j), (2, .int way)]) hx hb dX10_tell_1 rfl hl (by decide) rfl (fun ls hl => ?_)
  have loop_2 : ∀ (n : Nat) (k : Nat) (sm : Nat → Int32), (k ≤ 11) → (sm = if r 6 (4 * j.toNatClampNeg + way.toNatClampNeg) = 0 then zL (r 5) (44 * j.toNatClampNeg + 11 * way.toNatClampNeg) k else r 5) → 11 - k < n → ∀ (H : Heap) (locs : List Loc), va_P D vwCl (WM cy mo a f g (va_up r 5 sm) q) H → va_S (AM mo a) s.heap H locs → ∀ (ls : Array Slot), lv_has ls 4 [(3, .int (nI k)), (0, .ref mo), (1, .int j), (2, .int way)] → W p l e (headSpec wsX10_tell ({ frames := 0, cells := 0, slots := 0, locals := 0 })).room s m #[Value.ref mo, Value.int j, Value.int way] below meth c H locs 0 0 (MQ below (va_Qv (fun u => ∃ (sm : Nat → Int32), ∃ (tl : Nat → Int32), u = (f, g, (va_up (va_up r 5 sm) 6 tl), q) ∧ (tl = upd (r 6) (4 * j.toNatClampNeg + way.toNatClampNeg) 1 ∧ sm = (if r 6 (4 * j.toNatClampNeg + way.toNatClampNeg) = 0 then zL (r 5) (44 * j.toNatClampNeg + 11 * way.toNatClampNeg) 11 else r 5))) (mB D cy mo a) (AM mo a)) #[Value.ref mo, Value.int j, Value.int way] s 0 0 (AM mo a)) (F0 m 2 ls []) := by
    intro n
    induction n with
    | zero => intro k sm j2_0 j2_1 hn; exact absurd hn (Nat.not_lt_zero _)
    | succ n ih_2 =>
      intro k sm j2_0 j2_1 hn_2 H locs hP hS ls hl
      have ik : (nI k).toInt = (k : Int) := nI_toInt (by omega)
      refine lv_iload_n hx hb dX10_tell_2 rfl (lv_at hl 0 rfl) ?_
      refine lv_bipush (v := 11) hx hb dX10_tell_3 (by decide) ?_
      refine lv_icmp_ge (tgt := 44) hx hb dX10_tell_5 (by decide) (fun c5 => ?_) (fun c5 => ?_)
      · skip
        have d5 := c5
        rw [fa_le] at d5
        refine lv_aload_n hx hb dX10_tell_44 rfl (lv_at hl 1 rfl) ?_
        refine m_get (v := .ref (a 6)) hx hb hts hin hown hK hP 6 (by decide) rfl (hts (.fieldLink RX10 22 "ShadowBenchModel" "isTold" "[Z") (by decide +kernel)) rfl dX10_tell_45 ?_
        refine lv_iconst (v := 4) hx hb dX10_tell_48 (by decide) ?_
        refine lv_iload_n hx hb dX10_tell_49 rfl (lv_at hl 2 rfl) ?_
        refine lv_imul hx hb dX10_tell_50 ?_
        refine lv_topi (fun v50 e50 => ?_)
        have i50 : v50.toInt = 4 * j.toInt := by rw [e50]; exact mulcL rfl (by omega) (by omega)
        refine lv_iload_n hx hb dX10_tell_51 rfl (lv_at hl 3 rfl) ?_
        refine lv_iadd hx hb dX10_tell_52 ?_
        refine lv_topi (fun v52 e52 => ?_)
        have i52 : v52.toInt = v50.toInt + way.toInt := by rw [e52]; exact fb_addI (by omega) (by omega)
        have cj9 := m_cl (x := j) (by omega)
        have cw9 := m_cl (x := way) (by omega)
        have cv7 := m_cl (x := v52) (by omega)
        have f52 : v52.toNatClampNeg = (4 * j.toNatClampNeg + way.toNatClampNeg) := by omega
        refine lv_iconst (v := 1) hx hb dX10_tell_53 (by decide) ?_
        refine m_zast (w := (r 6)) hx hb hK hP hD hS 5 rfl (vp_in_iff.mpr ⟨by omega, by omega⟩) (va_up (va_up r 5 sm) 6 ((upd (r 6) v52.toNatClampNeg ((1 : Int32) &&& 1)))) rfl dX10_tell_54 (fun H locs hP hS => ?_)
        exact W.vret hx hb hr (fun t ht hW => ⟨⟨(f, g, (va_up (va_up r 5 sm) 6 (((upd (r 6) v52.toNatClampNeg ((1 : Int32) &&& 1))))), q), rfl, ⟨sm, ((upd (r 6) v52.toNatClampNeg ((1 : Int32) &&& 1))), rfl, ⟨(by rw [f52]; rfl), (by first | (rw [j2_1, show k = 11 by omega]; done) | (have n6 : ¬ r 6 (4 * j.toNatClampNeg + way.toNatClampNeg) = 0 := (fun z9 => c18 (e17.trans (by rw [f16]; exact z9))); rw [j2_1, if_neg n6, if_neg n6]))⟩⟩, by unfold mB; rw [ht]; exact hP⟩, hS.F ht⟩) hS.2.2 dX10_tell_55
      · skip
        have d5 := c5
        rw [fa_le] at d5
        refine lv_aload_n hx hb dX10_tell_8 rfl (lv_at hl 1 rfl) ?_
        refine m_get (v := .ref (a 6)) hx hb hts hin hown hK hP 6 (by decide) rfl (hts (.fieldLink RX10 22 "ShadowBenchModel" "isTold" "[Z") (by decide +kernel)) rfl dX10_tell_9 ?_
        refine lv_iconst (v := 4) hx hb dX10_tell_12 (by decide) ?_
        refine lv_iload_n hx hb dX10_tell_13 rfl (lv_at hl 2 rfl) ?_
        refine lv_imul hx hb dX10_tell_14 ?_
        refine lv_topi (fun v14 e14 => ?_)
        have i14 : v14.toInt = 4 * j.toInt := by rw [e14]; exact mulcL rfl (by omega) (by omega)
        refine lv_iload_n hx hb dX10_tell_15 rfl (lv_at hl 3 rfl) ?_
        refine lv_iadd hx hb dX10_tell_16 ?_
        refine lv_topi (fun v16 e16 => ?_)
        have i16 : v16.toInt = v14.toInt + way.toInt := by rw [e16]; exact fb_addI (by omega) (by omega)
        refine m_zald (w := (r 6)) hx hb hK hP 5 rfl (vp_in_iff.mpr ⟨by omega, by omega⟩) dX10_tell_17 ?_
        refine lv_topi (fun v17 e17 => ?_)
        have i17 : v17.toInt = ((r 6) v16.toNatClampNeg).toInt := congrArg Int32.toInt e17
        have cj9 := m_cl (x := j) (by omega)
        have cw9 := m_cl (x := way) (by omega)
        have cv9 := m_cl (x := v16) (by omega)
        have f16 : v16.toNatClampNeg = (4 * j.toNatClampNeg + way.toNatClampNeg) := by omega
        refine lv_if_ne (tgt := 44) hx hb dX10_tell_18 (by decide) (fun c18 => ?_) (fun c18 => ?_)
        · skip
          have d18 := c18
          rw [fa_eq] at d18
          refine lv_aload_n hx hb dX10_tell_44 rfl (lv_at hl 1 rfl) ?_
          refine m_get (v := .ref (a 6)) hx hb hts hin hown hK hP 6 (by decide) rfl (hts (.fieldLink RX10 22 "ShadowBenchModel" "isTold" "[Z") (by decide +kernel)) rfl dX10_tell_45 ?_
          refine lv_iconst (v := 4) hx hb dX10_tell_48 (by decide) ?_
          refine lv_iload_n hx hb dX10_tell_49 rfl (lv_at hl 2 rfl) ?_
          refine lv_imul hx hb dX10_tell_50 ?_
          refine lv_topi (fun v50 e50 => ?_)
          have i50 : v50.toInt = 4 * j.toInt := by rw [e50]; exact mulcL rfl (by omega) (by omega)
          refine lv_iload_n hx hb dX10_tell_51 rfl (lv_at hl 3 rfl) ?_
          refine lv_iadd hx hb dX10_tell_52 ?_
          refine lv_topi (fun v52 e52 => ?_)
          have i52 : v52.toInt = v50.toInt + way.toInt := by rw [e52]; exact fb_addI (by omega) (by omega)
          have cj9 := m_cl (x := j) (by omega)
          have cw9 := m_cl (x := way) (by omega)
          have cv7 := m_cl (x := v52) (by omega)
          have f52 : v52.toNatClampNeg = (4 * j.toNatClampNeg + way.toNatClampNeg) := by omega
          refine lv_iconst (v := 1) hx hb dX10_tell_53 (by decide) ?_
          refine m_zast (w := (r 6)) hx hb hK hP hD hS 5 rfl (vp_in_iff.mpr ⟨by omega, by omega⟩) (va_up (va_up r 5 sm) 6 ((upd (r 6) v52.toNatClampNeg ((1 : Int32) &&& 1)))) rfl dX10_tell_54 (fun H locs hP hS => ?_)
          exact W.vret hx hb hr (fun t ht hW => ⟨⟨(f, g, (va_up (va_up r 5 sm) 6 (((upd (r 6) v52.toNatClampNeg ((1 : Int32) &&& 1))))), q), rfl, ⟨sm, ((upd (r 6) v52.toNatClampNeg ((1 : Int32) &&& 1))), rfl, ⟨(by rw [f52]; rfl), (by first | (rw [j2_1, show k = 11 by omega]; done) | (have n6 : ¬ r 6 (4 * j.toNatClampNeg + way.toNatClampNeg) = 0 := (fun z9 => c18 (e17.trans (by rw [f16]; exact z9))); rw [j2_1, if_neg n6, if_neg n6]))⟩⟩, by unfold mB; rw [ht]; exact hP⟩, hS.F ht⟩) hS.2.2 dX10_tell_55
        · skip
          have d18 := c18
          rw [fa_eq] at d18
          refine lv_aload_n hx hb dX10_tell_21 rfl (lv_at hl 1 rfl) ?_
          refine m_get (v := .ref (a 5)) hx hb hts hin hown hK hP 5 (by decide) rfl (hts (.fieldLink RX10 19 "ShadowBenchModel" "sums" "[I") (by decide +kernel)) rfl dX10_tell_22 ?_
          refine lv_bipush (v := 44) hx hb dX10_tell_25 (by decide) ?_
          refine lv_iload_n hx hb dX10_tell_27 rfl (lv_at hl 2 rfl) ?_
          refine lv_imul hx hb dX10_tell_28 ?_
          refine lv_topi (fun v28 e28 => ?_)
          have i28 : v28.toInt = 44 * j.toInt := by rw [e28]; exact mulcL rfl (by omega) (by omega)
          refine lv_bipush (v := 11) hx hb dX10_tell_29 (by decide) ?_
          refine lv_iload_n hx hb dX10_tell_31 rfl (lv_at hl 3 rfl) ?_
          refine lv_imul hx hb dX10_tell_32 ?_
          refine lv_topi (fun v32 e32 => ?_)
          have i32 : v32.toInt = 11 * way.toInt := by rw [e32]; exact mulcL rfl (by omega) (by omega)
          refine lv_iadd hx hb dX10_tell_33 ?_
          refine lv_topi (fun v33 e33 => ?_)
          have i33 : v33.toInt = v28.toInt + v32.toInt := by rw [e33]; exact fb_addI (by omega) (by omega)
          refine lv_iload_n hx hb dX10_tell_34 rfl (lv_at hl 0 rfl) ?_
          refine lv_iadd hx hb dX10_tell_35 ?_
          refine lv_topi (fun v35 e35 => ?_)
          have i35 : v35.toInt = v33.toInt + (nI k).toInt := by rw [e35]; exact fb_addI (by omega) (by omega)
          refine lv_iconst (v := 0) hx hb dX10_tell_36 (by decide) ?_
          refine m_iast (w := sm) hx hb hK hP hD hS 4 rfl (vp_in_iff.mpr ⟨by omega, by omega⟩) (va_up r 5 ((upd sm v35.toNatClampNeg (0 : Int32)))) rfl dX10_tell_37 (fun H locs hP hS => ?_)
          have cv8 := m_cl (x := v35) (by omega)
          have f35 : v35.toNatClampNeg = (44 * j.toNatClampNeg + 11 * way.toNatClampNeg) + k := by omega
          have z6 : r 6 (4 * j.toNatClampNeg + way.toNatClampNeg) = 0 := by rw [← f16, ← e17]; exact c18
          refine lv_iinc (v := (nI (k + 1))) (lv' := [(3, .int (nI (k + 1))), (0, .ref mo), (1, .int j), (2, .int way)]) hx hb dX10_tell_38 hl (k := 0) rfl (nI_1 _) (by decide) rfl (fun ls hl => ?_)
          refine lv_goto (tgt := 2) hx hb dX10_tell_41 (by decide) ?_
          exact ih_2 (k + 1) (((upd sm v35.toNatClampNeg (0 : Int32)))) (by omega) (by rw [j2_1, if_pos z6, if_pos z6, f35]; exact zL_s _ _ _) (by omega) _ _ hP hS ls (lv_sub hl [0, 1, 2, 3] rfl)
  exact loop_2 (11 + 1) 0 (r 5) (by omega) (by rw [zL_0]; split <;> rfl) (by omega) _ _ hP hS ls (lv_sub hl [0, 1, 2, 3] rfl)
set_option maxHeartbeats 4000000 in
set_option maxRecDepth 100000 in
theorem c_X10_sum_y (l : Launch) (D : va_G) (cy : Nat → ClassId) (mo : Nat) (a : Nat → Nat) (f : Nat → Int32) (g : Nat → Int64) (r : Nat → Nat → Int32) (q : Nat → Nat → Int64) (j : Int32) (way : Int32) (line : Int32) (v0 : Int32) (hD : DM cy mo a) (hI : MI f r) : Mi l D cy mo a yX10_sum wsX10_sum ({ frames := 2, cells := 0, slots := 0, locals := 48 }) f g r q [.int j, .int way, .int line, .int v0] (fun r0 u => ∃ (sm : Nat → Int32), ∃ (tl : Nat → Int32), u = ((upd f 0 (0 : Int32)), g, (va_up (va_up r 5 sm) 6 tl), q) ∧ ((okSum9 (f 1) (r 3 j.toNatClampNeg).toNatClampNeg (r 4 j.toNatClampNeg).toNatClampNeg j way line v0 ∧ r0 = 0 ∧ tl = upd (r 6) (4 * j.toNatClampNeg + way.toNatClampNeg) 1 ∧ sm = upd (if r 6 (4 * j.toNatClampNeg + way.toNatClampNeg) = 0 then zL (r 5) (44 * j.toNatClampNeg + 11 * way.toNatClampNeg) 11 else r 5) ((44 * j.toNatClampNeg + 11 * way.toNatClampNeg) + line.toNatClampNeg) v0) ∨ (¬ okSum9 (f 1) (r 3 j.toNatClampNeg).toNatClampNeg (r 4 j.toNatClampNeg).toNatClampNeg j way line v0 ∧ r0 = -1 ∧ tl = r 6 ∧ sm = r 5))) := by
  refine Met.ofW (cc := cX10_sum) (maxL := 5) (ret := (some .int)) (by decide) rfl ?_
  intro p e s m args below meth c s₁ B hml hv
  obtain ⟨rfl, hP, hK⟩ := hv
  have hx := B.exec
  have hb := B.bytes
  have hr := B.returns
  have hts := atoms_spec (ws := wsX10_sum) B.pre
  have hin : ∀ w ∈ u_ws RX10 TX10 35, w ∈ wsX10_sum := by decide +kernel
  have hown : s.vm.findClass RX10 = some m.cls := findClass_of_methodNamed B.named
  have hlocks := B.notSynchronized
  have hS : va_S (AM mo a) s.heap s.heap [] := va_S.rf
  have hl := lv_entry ([.ref mo, .int j, .int way, .int line, .int v0]) (n := 5) (Nat.le_of_ble_eq_true rfl)
  rw [lg_entry_eq]
  generalize (lg_sl ([.ref mo, .int j, .int way, .int line, .int v0]) ++ List.replicate (5 - (lg_sl ([.ref mo, .int j, .int way, .int line, .int v0])).length) Slot.unset).toArray = ls at hl ⊢
  have hl : lv_has ls 5 [(0, .ref mo), (1, .int j), (2, .int way), (3, .int line), (4, .int v0)] := hl
  have k_m1 : (-1 : Int32).toInt = -1 := by decide
  have k_0 : (0 : Int32).toInt = 0 := by decide
  have k_11 : (11 : Int32).toInt = 11 := by decide
  have k_44 : (44 : Int32).toInt = 44 := by decide
  have k_0L : (0 : Int64).toInt = 0 := by decide
  have k_6L : (6 : Int64).toInt = 6 := by decide
  have hI1 := hI.1
  refine lv_aload_n hx hb dX10_sum_0 rfl (lv_at hl 0 rfl) ?_
  refine lv_iconst (v := 0) hx hb dX10_sum_1 (by decide) ?_
  refine m_put (v := .int (0 : Int32)) (ty := .int) hx hb hts hin hown hK hP hD hS 0 (by decide) rfl (hts (.fieldLink RX10 79 "ShadowBenchModel" "thrown" "I") (by decide +kernel)) rfl (by decide +kernel) rfl rfl (upd f 0 (0 : Int32)) g rfl dX10_sum_2 (fun H locs hP hS => ?_)
  refine lv_aload_n hx hb dX10_sum_5 rfl (lv_at hl 0 rfl) ?_
  refine lv_iload_n hx hb dX10_sum_6 rfl (lv_at hl 1 rfl) ?_
  refine lv_iload_n hx hb dX10_sum_7 rfl (lv_at hl 2 rfl) ?_
  refine lv_iload_n hx hb dX10_sum_8 rfl (lv_at hl 3 rfl) ?_
  refine m_calli (As := [.int j, .int way, .int line]) (rest := []) ⟨hx, hb, hml, hown, hts⟩ (c_X10_isLine l D cy mo a (upd f 0 (0 : Int32)) g r q j way line hD hI) (cwV 3 hts gX10_sum_X10_isLine rfl rfl rfl (by decide +kernel) ⟨Nat.le_of_ble_eq_true rfl, Nat.le_of_ble_eq_true rfl⟩) hK hP rfl hl.1 rfl (Nat.le_of_ble_eq_true rfl) dX10_sum_9 ⟨Nat.le_of_ble_eq_true rfl, Nat.le_of_ble_eq_true rfl⟩ hS (fun r9 u H locs q9 hP hS => ?_)
  obtain ⟨rfl, q9⟩ := q9
  have hP : va_P D vwCl (WM cy mo a (upd f 0 (0 : Int32)) g r q) H := hP
  have q9 : Bo r9 (((0 ≤ j.toInt ∧ j.toInt < ((f 1)).toInt) ∧ 0 ≤ way.toInt ∧ way.toInt ≤ 3) ∧ 0 ≤ line.toInt ∧ line.toInt < (r_lines ((r 3) j.toNatClampNeg) ((r 4) j.toNatClampNeg) way).toInt) := q9
  refine lv_if_eq (tgt := 28) hx hb dX10_sum_12 (by decide) (fun c12 => ?_) (fun c12 => ?_)
  · skip
    have b12 := bo_f q9 c12
    refine lv_iconst (v := (-1)) hx hb dX10_sum_28 (by decide) ?_
    exact W.iret (v := ((-1) : Int32)) hx hb hr (fun t ht hW => ⟨⟨_, ((upd f 0 (0 : Int32)), g, (va_up (va_up r 5 (r 5)) 6 (r 6)), q), rfl, ⟨(r 5), (r 6), rfl, (Or.inr ⟨(fun z9 => by have z8 := z9.1; unfold okJob at z8; have z7 := z9.2.1; unfold okL at z7; have szw := mi_w hI (x := j) (by omega) (by omega) rfl; have szh := mi_h hI (x := j) (by omega) (by omega) rfl; have rl9 := rLn szw szh (way := way) (by omega); have z6 := z9.2.2; first | exact b12 ⟨⟨⟨by omega, by omega⟩, by omega⟩, by omega, by omega⟩ | (have y25 := b25; simp only [k64, show (0 : Int64).toInt = 0 from rfl, show (6 : Int64).toInt = 6 from rfl] at y25; omega) | exact b25 z6), rfl, rfl, rfl⟩)⟩, by unfold mB; rw [ht]; exact hP⟩, hS.F ht⟩) hS.2.2 dX10_sum_29
  · skip
    have b12 := bo_t q9 c12
    refine lv_iload hx hb dX10_sum_15 (lv_at hl 4 rfl) ?_
    refine lv_i2l (v := v0.toInt64) hx hb dX10_sum_17 rfl ?_
    refine lv_lconst (v := 0) hx hb dX10_sum_18 (by decide) ?_
    refine lv_ldc2 hx hb hown (hts (.constantLong RX10 83 (6)) (by decide +kernel)) dX10_sum_19 ?_
    refine m_pu (As := [.long (v0.toInt64), .long (0 : Int64), .long (6 : Int64)]) (rest := []) ⟨hx, hb, hml, hown, hts⟩ (c_X10_isIn l v0.toInt64 (0 : Int64) (6 : Int64) ) (va_cwS 3 hts gX10_sum_X10_isIn rfl rfl rfl (by decide +kernel) ⟨Nat.le_of_ble_eq_true rfl, Nat.le_of_ble_eq_true rfl⟩) hP rfl hl.1 rfl (Nat.le_of_ble_eq_true rfl) dX10_sum_22 ⟨Nat.le_of_ble_eq_true rfl, Nat.le_of_ble_eq_true rfl⟩ hS (fun r22 H locs q22 hP hS => ?_)
    have q22 := q22
    simp only [k64, show (0 : Int64).toInt = 0 from rfl, show (1 : Int64).toInt = 1 from rfl, show (2 : Int64).toInt = 2 from rfl, show (3 : Int64).toInt = 3 from rfl, show (6 : Int64).toInt = 6 from rfl] at q22
    refine lv_if_ne (tgt := 30) hx hb dX10_sum_25 (by decide) (fun c25 => ?_) (fun c25 => ?_)
    · skip
      have b25 := bo_t q22 c25
      have szw := mi_w hI (x := j) (by omega) (by omega) rfl
      have szh := mi_h hI (x := j) (by omega) (by omega) rfl
      have rl9 := fun z9 : 0 ≤ way.toInt => rLn szw szh (way := way) z9
      refine lv_aload_n hx hb dX10_sum_30 rfl (lv_at hl 0 rfl) ?_
      refine lv_iload_n hx hb dX10_sum_31 rfl (lv_at hl 1 rfl) ?_
      refine lv_iload_n hx hb dX10_sum_32 rfl (lv_at hl 2 rfl) ?_
      refine m_callv (As := [.int j, .int way]) (rest := []) ⟨hx, hb, hml, hown, hts⟩ (c_X10_tell_x l D cy mo a (upd f 0 (0 : Int32)) g r q j way hD (show 0 ≤ j.toInt ∧ j.toInt < 8 by omega) (show 0 ≤ way.toInt ∧ way.toInt ≤ 3 by omega)) (cwV 2 hts gX10_sum_X10_tell rfl rfl rfl (by decide +kernel) ⟨Nat.le_of_ble_eq_true rfl, Nat.le_of_ble_eq_true rfl⟩) hK hP rfl hl.1 rfl (Nat.le_of_ble_eq_true rfl) dX10_sum_33 ⟨Nat.le_of_ble_eq_true rfl, Nat.le_of_ble_eq_true rfl⟩ hS (fun u H locs q33 hP hS => ?_)
      obtain ⟨sm_33, tl_33, rfl, q33⟩ := q33
      have hP : va_P D vwCl (WM cy mo a (upd f 0 (0 : Int32)) g (va_up (va_up r 5 sm_33) 6 tl_33) q) H := hP
      have q33 : tl_33 = upd ((r 6)) (4 * j.toNatClampNeg + way.toNatClampNeg) 1 ∧ sm_33 = (if r 6 (4 * j.toNatClampNeg + way.toNatClampNeg) = 0 then zL ((r 5)) (44 * j.toNatClampNeg + 11 * way.toNatClampNeg) 11 else r 5) := q33
      have hlb := lines_lt (mi_w hI (x := j) (by omega) (by omega) rfl) (mi_h hI (x := j) (by omega) (by omega) rfl) way
      refine lv_aload_n hx hb dX10_sum_36 rfl (lv_at hl 0 rfl) ?_
      refine m_get (v := .ref (a 5)) hx hb hts hin hown hK hP 5 (by decide) rfl (hts (.fieldLink RX10 19 "ShadowBenchModel" "sums" "[I") (by decide +kernel)) rfl dX10_sum_37 ?_
      refine lv_bipush (v := 44) hx hb dX10_sum_40 (by decide) ?_
      refine lv_iload_n hx hb dX10_sum_42 rfl (lv_at hl 1 rfl) ?_
      refine lv_imul hx hb dX10_sum_43 ?_
      refine lv_topi (fun v43 e43 => ?_)
      have i43 : v43.toInt = 44 * j.toInt := by rw [e43]; exact mulcL rfl (by omega) (by omega)
      refine lv_bipush (v := 11) hx hb dX10_sum_44 (by decide) ?_
      refine lv_iload_n hx hb dX10_sum_46 rfl (lv_at hl 2 rfl) ?_
      refine lv_imul hx hb dX10_sum_47 ?_
      refine lv_topi (fun v47 e47 => ?_)
      have i47 : v47.toInt = 11 * way.toInt := by rw [e47]; exact mulcL rfl (by omega) (by omega)
      refine lv_iadd hx hb dX10_sum_48 ?_
      refine lv_topi (fun v48 e48 => ?_)
      have i48 : v48.toInt = v43.toInt + v47.toInt := by rw [e48]; exact fb_addI (by omega) (by omega)
      refine lv_iload_n hx hb dX10_sum_49 rfl (lv_at hl 3 rfl) ?_
      refine lv_iadd hx hb dX10_sum_50 ?_
      refine lv_topi (fun v50 e50 => ?_)
      have i50 : v50.toInt = v48.toInt + line.toInt := by rw [e50]; exact fb_addI (by omega) (by omega)
      refine lv_iload hx hb dX10_sum_51 (lv_at hl 4 rfl) ?_
      have cj9 := m_cl (x := j) (by omega)
      have cw9 := m_cl (x := way) (by omega)
      have cl9 := m_cl (x := line) (by omega)
      have cv9 := m_cl (x := v50) (by omega)
      have f50 : v50.toNatClampNeg = (44 * j.toNatClampNeg + 11 * way.toNatClampNeg) + line.toNatClampNeg := by omega
      refine m_iast (w := sm_33) hx hb hK hP hD hS 4 rfl (vp_in_iff.mpr ⟨by omega, by omega⟩) (va_up (va_up r 6 tl_33) 5 (upd sm_33 v50.toNatClampNeg v0)) rfl dX10_sum_53 (fun H locs hP hS => ?_)
      refine lv_iconst (v := 0) hx hb dX10_sum_54 (by decide) ?_
      exact W.iret (v := (0 : Int32)) hx hb hr (fun t ht hW => ⟨⟨_, ((upd f 0 (0 : Int32)), g, (va_up (va_up r 5 (upd sm_33 v50.toNatClampNeg v0)) 6 tl_33), q), rfl, ⟨(upd sm_33 v50.toNatClampNeg v0), tl_33, rfl, (Or.inl ⟨⟨(by unfold okJob; omega), (by have z9 := rl9 (by omega); unfold okL; omega), (by first | exact b25 | (have y25 := b25; simp only [k64, show (0 : Int64).toInt = 0 from rfl, show (6 : Int64).toInt = 6 from rfl] at y25; exact y25))⟩, rfl, q33.1, (by rw [f50, q33.2])⟩)⟩, by unfold mB; rw [ht]; exact hP⟩, hS.F ht⟩) hS.2.2 dX10_sum_55
    · skip
      have b25 := bo_f q22 c25
      refine lv_iconst (v := (-1)) hx hb dX10_sum_28 (by decide) ?_
      exact W.iret (v := ((-1) : Int32)) hx hb hr (fun t ht hW => ⟨⟨_, ((upd f 0 (0 : Int32)), g, (va_up (va_up r 5 (r 5)) 6 (r 6)), q), rfl, ⟨(r 5), (r 6), rfl, (Or.inr ⟨(fun z9 => by have z8 := z9.1; unfold okJob at z8; have z7 := z9.2.1; unfold okL at z7; have szw := mi_w hI (x := j) (by omega) (by omega) rfl; have szh := mi_h hI (x := j) (by omega) (by omega) rfl; have rl9 := rLn szw szh (way := way) (by omega); have z6 := z9.2.2; first | exact b12 ⟨⟨⟨by omega, by omega⟩, by omega⟩, by omega, by omega⟩ | (have y25 := b25; simp only [k64, show (0 : Int64).toInt = 0 from rfl, show (6 : Int64).toInt = 6 from rfl] at y25; omega) | exact b25 z6), rfl, rfl, rfl⟩)⟩, by unfold mB; rw [ht]; exact hP⟩, hS.F ht⟩) hS.2.2 dX10_sum_29
set_option maxHeartbeats 4000000 in
set_option maxRecDepth 100000 in
theorem c_X10_cast_y (l : Launch) (D : va_G) (cy : Nat → ClassId) (mo : Nat) (a : Nat → Nat) (f : Nat → Int32) (g : Nat → Int64) (r : Nat → Nat → Int32) (q : Nat → Nat → Int64) (j : Int32) (way : Int32) (p0 : Int64) (hD : DM cy mo a) (hI : MI f r) : Mi l D cy mo a yX10_cast wsX10_cast ({ frames := 3, cells := 0, slots := 0, locals := 69 }) f g r q [.int j, .int way, .long p0] (fun r0 u => ∃ (sm : Nat → Int32), ∃ (tl : Nat → Int32), u = ((upd f 0 (0 : Int32)), g, (va_up (va_up r 5 sm) 6 tl), q) ∧ ((okCast9 (f 1) (r 3 j.toNatClampNeg).toNatClampNeg (r 4 j.toNatClampNeg).toNatClampNeg j way p0 ∧ r0 = nI (bs (lb p0) 36) ∧ tl = upd (r 6) (4 * j.toNatClampNeg + way.toNatClampNeg) 1 ∧ sm = setB (if r 6 (4 * j.toNatClampNeg + way.toNatClampNeg) = 0 then zL (r 5) (44 * j.toNatClampNeg + 11 * way.toNatClampNeg) 11 else r 5) (44 * j.toNatClampNeg + 11 * way.toNatClampNeg) (fun l => nI (shN (r 3 j.toNatClampNeg).toNatClampNeg (r 4 j.toNatClampNeg).toNatClampNeg p0 way.toNatClampNeg l)) (lnC (r 3 j.toNatClampNeg).toNatClampNeg (r 4 j.toNatClampNeg).toNatClampNeg way.toNatClampNeg)) ∨ (¬ okCast9 (f 1) (r 3 j.toNatClampNeg).toNatClampNeg (r 4 j.toNatClampNeg).toNatClampNeg j way p0 ∧ r0 = -1 ∧ tl = r 6 ∧ sm = r 5))) := by
  refine Met.ofW (cc := cX10_cast) (maxL := 6) (ret := (some .int)) (by decide) rfl ?_
  intro p e s m args below meth c s₁ B hml hv
  obtain ⟨rfl, hP, hK⟩ := hv
  have hx := B.exec
  have hb := B.bytes
  have hr := B.returns
  have hts := atoms_spec (ws := wsX10_cast) B.pre
  have hin : ∀ w ∈ u_ws RX10 TX10 35, w ∈ wsX10_cast := by decide +kernel
  have hown : s.vm.findClass RX10 = some m.cls := findClass_of_methodNamed B.named
  have hlocks := B.notSynchronized
  have hS : va_S (AM mo a) s.heap s.heap [] := va_S.rf
  have hl := lv_entry ([.ref mo, .int j, .int way, .long p0]) (n := 6) (Nat.le_of_ble_eq_true rfl)
  rw [lg_entry_eq]
  generalize (lg_sl ([.ref mo, .int j, .int way, .long p0]) ++ List.replicate (6 - (lg_sl ([.ref mo, .int j, .int way, .long p0])).length) Slot.unset).toArray = ls at hl ⊢
  have hl : lv_has ls 6 [(0, .ref mo), (1, .int j), (2, .int way), (3, .long p0)] := hl
  have k_m1 : (-1 : Int32).toInt = -1 := by decide
  have k_0 : (0 : Int32).toInt = 0 := by decide
  have k_11 : (11 : Int32).toInt = 11 := by decide
  have k_44 : (44 : Int32).toInt = 44 := by decide
  have hI1 := hI.1
  refine lv_aload_n hx hb dX10_cast_0 rfl (lv_at hl 0 rfl) ?_
  refine lv_iconst (v := 0) hx hb dX10_cast_1 (by decide) ?_
  refine m_put (v := .int (0 : Int32)) (ty := .int) hx hb hts hin hown hK hP hD hS 0 (by decide) rfl (hts (.fieldLink RX10 79 "ShadowBenchModel" "thrown" "I") (by decide +kernel)) rfl (by decide +kernel) rfl rfl (upd f 0 (0 : Int32)) g rfl dX10_cast_2 (fun H locs hP hS => ?_)
  refine lv_aload_n hx hb dX10_cast_5 rfl (lv_at hl 0 rfl) ?_
  refine lv_iload_n hx hb dX10_cast_6 rfl (lv_at hl 1 rfl) ?_
  refine lv_iload_n hx hb dX10_cast_7 rfl (lv_at hl 2 rfl) ?_
  refine lv_iconst (v := 0) hx hb dX10_cast_8 (by decide) ?_
  refine m_calli (As := [.int j, .int way, .int (0 : Int32)]) (rest := []) ⟨hx, hb, hml, hown, hts⟩ (c_X10_isLine l D cy mo a (upd f 0 (0 : Int32)) g r q j way (0 : Int32) hD hI) (cwV 3 hts gX10_cast_X10_isLine rfl rfl rfl (by decide +kernel) ⟨Nat.le_of_ble_eq_true rfl, Nat.le_of_ble_eq_true rfl⟩) hK hP rfl hl.1 rfl (Nat.le_of_ble_eq_true rfl) dX10_cast_9 ⟨Nat.le_of_ble_eq_true rfl, Nat.le_of_ble_eq_true rfl⟩ hS (fun r9 u H locs q9 hP hS => ?_)
  obtain ⟨rfl, q9⟩ := q9
  have hP : va_P D vwCl (WM cy mo a (upd f 0 (0 : Int32)) g r q) H := hP
  have q9 : Bo r9 (((0 ≤ j.toInt ∧ j.toInt < ((f 1)).toInt) ∧ 0 ≤ way.toInt ∧ way.toInt ≤ 3) ∧ 0 ≤ (0 : Int32).toInt ∧ (0 : Int32).toInt < (r_lines ((r 3) j.toNatClampNeg) ((r 4) j.toNatClampNeg) way).toInt) := q9
  refine lv_if_eq (tgt := 34) hx hb dX10_cast_12 (by decide) (fun c12 => ?_) (fun c12 => ?_)
  · skip
    have b12 := bo_f q9 c12
    refine lv_iconst (v := (-1)) hx hb dX10_cast_34 (by decide) ?_
    exact W.iret (v := ((-1) : Int32)) hx hb hr (fun t ht hW => ⟨⟨_, ((upd f 0 (0 : Int32)), g, (va_up (va_up r 5 (r 5)) 6 (r 6)), q), rfl, ⟨(r 5), (r 6), rfl, (Or.inr ⟨(fun z9 => by have z8 := z9.1; unfold okJob at z8; have szw := mi_w hI (x := j) (by omega) (by omega) rfl; have szh := mi_h hI (x := j) (by omega) (by omega) rfl; have z7 := z9.2.1; have rl9 := lines_lt szw szh way; first | exact b12 ⟨⟨⟨by omega, by omega⟩, by omega⟩, by omega, by omega⟩ | (subst e20; subst e26; exact goodP_no b31 ⟨⟨szw, szh⟩, z9.2.2⟩)), rfl, rfl, rfl⟩)⟩, by unfold mB; rw [ht]; exact hP⟩, hS.F ht⟩) hS.2.2 dX10_cast_35
  · skip
    have b12 := bo_t q9 c12
    refine lv_aload_n hx hb dX10_cast_15 rfl (lv_at hl 0 rfl) ?_
    refine m_get (v := .ref (a 3)) hx hb hts hin hown hK hP 3 (by decide) rfl (hts (.fieldLink RX10 13 "ShadowBenchModel" "wide" "[I") (by decide +kernel)) rfl dX10_cast_16 ?_
    refine lv_iload_n hx hb dX10_cast_19 rfl (lv_at hl 1 rfl) ?_
    refine m_iald (w := (r 3)) hx hb hK hP 2 rfl (vp_in_iff.mpr ⟨by omega, by omega⟩) dX10_cast_20 ?_
    refine lv_topi (fun v20 e20 => ?_)
    have i20 : v20.toInt = ((r 3) j.toNatClampNeg).toInt := congrArg Int32.toInt e20
    have w20 := mi_w hI (x := j) (by omega) (by omega) e20
    refine lv_aload_n hx hb dX10_cast_21 rfl (lv_at hl 0 rfl) ?_
    refine m_get (v := .ref (a 4)) hx hb hts hin hown hK hP 4 (by decide) rfl (hts (.fieldLink RX10 16 "ShadowBenchModel" "high" "[I") (by decide +kernel)) rfl dX10_cast_22 ?_
    refine lv_iload_n hx hb dX10_cast_25 rfl (lv_at hl 1 rfl) ?_
    refine m_iald (w := (r 4)) hx hb hK hP 3 rfl (vp_in_iff.mpr ⟨by omega, by omega⟩) dX10_cast_26 ?_
    refine lv_topi (fun v26 e26 => ?_)
    have i26 : v26.toInt = ((r 4) j.toNatClampNeg).toInt := congrArg Int32.toInt e26
    have w26 := mi_h hI (x := j) (by omega) (by omega) e26
    refine lv_lload_n hx hb dX10_cast_27 rfl (lv_at hl 3 rfl) ?_
    refine m_pu (As := [.int v20, .int v26, .long p0]) (rest := []) ⟨hx, hb, hml, hown, hts⟩ (c_X10_isPicture l v20 v26 p0 ) (va_cwS 3 hts gX10_cast_X10_isPicture rfl rfl rfl (by decide +kernel) ⟨Nat.le_of_ble_eq_true rfl, Nat.le_of_ble_eq_true rfl⟩) hP rfl hl.1 rfl (Nat.le_of_ble_eq_true rfl) dX10_cast_28 ⟨Nat.le_of_ble_eq_true rfl, Nat.le_of_ble_eq_true rfl⟩ hS (fun r28 H locs q28 hP hS => ?_)
    refine lv_if_ne (tgt := 36) hx hb dX10_cast_31 (by decide) (fun c31 => ?_) (fun c31 => ?_)
    · skip
      have b31 := bo_t q28 c31
      refine lv_aload_n hx hb dX10_cast_36 rfl (lv_at hl 0 rfl) ?_
      refine lv_iload_n hx hb dX10_cast_37 rfl (lv_at hl 1 rfl) ?_
      refine lv_iload_n hx hb dX10_cast_38 rfl (lv_at hl 2 rfl) ?_
      refine m_callv (As := [.int j, .int way]) (rest := []) ⟨hx, hb, hml, hown, hts⟩ (c_X10_tell_x l D cy mo a (upd f 0 (0 : Int32)) g r q j way hD (show 0 ≤ j.toInt ∧ j.toInt < 8 by omega) (show 0 ≤ way.toInt ∧ way.toInt ≤ 3 by omega)) (cwV 2 hts gX10_cast_X10_tell rfl rfl rfl (by decide +kernel) ⟨Nat.le_of_ble_eq_true rfl, Nat.le_of_ble_eq_true rfl⟩) hK hP rfl hl.1 rfl (Nat.le_of_ble_eq_true rfl) dX10_cast_39 ⟨Nat.le_of_ble_eq_true rfl, Nat.le_of_ble_eq_true rfl⟩ hS (fun u H locs q39 hP hS => ?_)
      obtain ⟨sm_39, tl_39, rfl, q39⟩ := q39
      have hP : va_P D vwCl (WM cy mo a (upd f 0 (0 : Int32)) g (va_up (va_up r 5 sm_39) 6 tl_39) q) H := hP
      have q39 : tl_39 = upd ((r 6)) (4 * j.toNatClampNeg + way.toNatClampNeg) 1 ∧ sm_39 = (if r 6 (4 * j.toNatClampNeg + way.toNatClampNeg) = 0 then zL ((r 5)) (44 * j.toNatClampNeg + 11 * way.toNatClampNeg) 11 else r 5) := q39
      refine lv_iconst (v := 0) hx hb dX10_cast_42 (by decide) ?_
      refine lv_istore (lv' := [(5, .int (0 : Int32)), (0, .ref mo), (1, .int j), (2, .int way), (3, .long p0)]) hx hb dX10_cast_43 hl (by decide) rfl (fun ls hl => ?_)
      have loop_45 : ∀ (n : Nat) (k : Nat) (sm : Nat → Int32), (k ≤ 11 ∧ (k : Int) ≤ (lnC (r 3 j.toNatClampNeg).toNatClampNeg (r 4 j.toNatClampNeg).toNatClampNeg way.toNatClampNeg : Int)) → (sm = setB sm_39 (44 * j.toNatClampNeg + 11 * way.toNatClampNeg) (fun l => nI (shN (r 3 j.toNatClampNeg).toNatClampNeg (r 4 j.toNatClampNeg).toNatClampNeg p0 way.toNatClampNeg l)) k) → 11 - k < n → ∀ (H : Heap) (locs : List Loc), va_P D vwCl (WM cy mo a (upd f 0 (0 : Int32)) g (va_up (va_up r 6 tl_39) 5 sm) q) H → va_S (AM mo a) s.heap H locs → ∀ (ls : Array Slot), lv_has ls 6 [(5, .int (nI k)), (0, .ref mo), (1, .int j), (2, .int way), (3, .long p0)] → W p l e (headSpec wsX10_cast ({ frames := 3, cells := 0, slots := 0, locals := 69 })).room s m #[Value.ref mo, Value.int j, Value.int way, Value.long p0] below meth c H locs 0 0 (MQ below (va_Qi (fun r0 u => ∃ (sm : Nat → Int32), ∃ (tl : Nat → Int32), u = ((upd f 0 (0 : Int32)), g, (va_up (va_up r 5 sm) 6 tl), q) ∧ ((okCast9 (f 1) (r 3 j.toNatClampNeg).toNatClampNeg (r 4 j.toNatClampNeg).toNatClampNeg j way p0 ∧ r0 = nI (bs (lb p0) 36) ∧ tl = upd (r 6) (4 * j.toNatClampNeg + way.toNatClampNeg) 1 ∧ sm = setB (if r 6 (4 * j.toNatClampNeg + way.toNatClampNeg) = 0 then zL (r 5) (44 * j.toNatClampNeg + 11 * way.toNatClampNeg) 11 else r 5) (44 * j.toNatClampNeg + 11 * way.toNatClampNeg) (fun l => nI (shN (r 3 j.toNatClampNeg).toNatClampNeg (r 4 j.toNatClampNeg).toNatClampNeg p0 way.toNatClampNeg l)) (lnC (r 3 j.toNatClampNeg).toNatClampNeg (r 4 j.toNatClampNeg).toNatClampNeg way.toNatClampNeg)) ∨ (¬ okCast9 (f 1) (r 3 j.toNatClampNeg).toNatClampNeg (r 4 j.toNatClampNeg).toNatClampNeg j way p0 ∧ r0 = -1 ∧ tl = r 6 ∧ sm = r 5))) (mB D cy mo a) (AM mo a)) #[Value.ref mo, Value.int j, Value.int way, Value.long p0] s 0 0 (AM mo a)) (F0 m 45 ls []) := by
        intro n
        induction n with
        | zero => intro k sm j45_0 j45_1 hn; exact absurd hn (Nat.not_lt_zero _)
        | succ n ih_45 =>
          intro k sm j45_0 j45_1 hn_45 H locs hP hS ls hl
          have ik : (nI k).toInt = (k : Int) := nI_toInt (by omega)
          have cj9 := m_cl (x := j) (by omega)
          have cw9 := m_cl (x := way) (by omega)
          have szw := mi_w hI (x := j) (by omega) (by omega) rfl
          have szh := mi_h hI (x := j) (by omega) (by omega) rfl
          have hLn := rLn szw szh (way := way) (by omega)
          refine lv_iload hx hb dX10_cast_45 (lv_at hl 0 rfl) ?_
          refine lv_aload_n hx hb dX10_cast_47 rfl (lv_at hl 1 rfl) ?_
          refine m_get (v := .ref (a 3)) hx hb hts hin hown hK hP 3 (by decide) rfl (hts (.fieldLink RX10 13 "ShadowBenchModel" "wide" "[I") (by decide +kernel)) rfl dX10_cast_48 ?_
          refine lv_iload_n hx hb dX10_cast_51 rfl (lv_at hl 2 rfl) ?_
          refine m_iald (w := (r 3)) hx hb hK hP 2 rfl (vp_in_iff.mpr ⟨by omega, by omega⟩) dX10_cast_52 ?_
          refine lv_topi (fun v52 e52 => ?_)
          have i52 : v52.toInt = ((r 3) j.toNatClampNeg).toInt := congrArg Int32.toInt e52
          have w52 := mi_w hI (x := j) (by omega) (by omega) e52
          refine lv_aload_n hx hb dX10_cast_53 rfl (lv_at hl 1 rfl) ?_
          refine m_get (v := .ref (a 4)) hx hb hts hin hown hK hP 4 (by decide) rfl (hts (.fieldLink RX10 16 "ShadowBenchModel" "high" "[I") (by decide +kernel)) rfl dX10_cast_54 ?_
          refine lv_iload_n hx hb dX10_cast_57 rfl (lv_at hl 2 rfl) ?_
          refine m_iald (w := (r 4)) hx hb hK hP 3 rfl (vp_in_iff.mpr ⟨by omega, by omega⟩) dX10_cast_58 ?_
          refine lv_topi (fun v58 e58 => ?_)
          have i58 : v58.toInt = ((r 4) j.toNatClampNeg).toInt := congrArg Int32.toInt e58
          have w58 := mi_h hI (x := j) (by omega) (by omega) e58
          refine lv_iload_n hx hb dX10_cast_59 rfl (lv_at hl 3 rfl) ?_
          refine m_pu (As := [.int v52, .int v58, .int way]) (rest := [.int (nI k)]) ⟨hx, hb, hml, hown, hts⟩ (c_X10_linesOf l v52 v58 way ) (va_cwS 3 hts gX10_cast_X10_linesOf rfl rfl rfl (by decide +kernel) ⟨Nat.le_of_ble_eq_true rfl, Nat.le_of_ble_eq_true rfl⟩) hP rfl hl.1 rfl (Nat.le_of_ble_eq_true rfl) dX10_cast_60 ⟨Nat.le_of_ble_eq_true rfl, Nat.le_of_ble_eq_true rfl⟩ hS (fun r60 H locs q60 hP hS => ?_)
          have i60 : r60.toInt = (r_lines v52 v58 way).toInt := congrArg Int32.toInt q60
          have hlb := lines_lt w52 w58 way
          refine lv_icmp_ge (tgt := 108) hx hb dX10_cast_63 (by decide) (fun c63 => ?_) (fun c63 => ?_)
          · skip
            have d63 := c63
            rw [fa_le] at d63
            have i60 := congrArg Int32.toInt q60
            rw [e52, e58] at i60
            refine lv_lload_n hx hb dX10_cast_108 rfl (lv_at hl 4 rfl) ?_
            refine m_pu (As := [.long p0]) (rest := []) ⟨hx, hb, hml, hown, hts⟩ (c_X10_countOnes l p0 ) (va_cwS 1 hts gX10_cast_X10_countOnes rfl rfl rfl (by decide +kernel) ⟨Nat.le_of_ble_eq_true rfl, Nat.le_of_ble_eq_true rfl⟩) hP rfl hl.1 rfl (Nat.le_of_ble_eq_true rfl) dX10_cast_109 ⟨Nat.le_of_ble_eq_true rfl, Nat.le_of_ble_eq_true rfl⟩ hS (fun r109 H locs q109 hP hS => ?_)
            exact W.iret (v := r109) hx hb hr (fun t ht hW => ⟨⟨_, ((upd f 0 (0 : Int32)), g, (va_up (va_up r 5 sm) 6 tl_39), q), rfl, ⟨sm, tl_39, rfl, (Or.inl ⟨⟨(by unfold okJob; omega), (by omega), (by have z9 := goodP_of b31; subst e20; subst e26; exact z9.2)⟩, (by rw [q109]; exact r_onesN p0 36 (Nat.le_refl _)), q39.1, (by rw [j45_1, q39.2, show k = lnC (r 3 j.toNatClampNeg).toNatClampNeg (r 4 j.toNatClampNeg).toNatClampNeg way.toNatClampNeg by omega])⟩)⟩, by unfold mB; rw [ht]; exact hP⟩, hS.F ht⟩) hS.2.2 dX10_cast_112
          · skip
            have d63 := c63
            rw [fa_le] at d63
            have i60 := congrArg Int32.toInt q60
            rw [e52, e58] at i60
            refine lv_aload_n hx hb dX10_cast_66 rfl (lv_at hl 1 rfl) ?_
            refine m_get (v := .ref (a 5)) hx hb hts hin hown hK hP 5 (by decide) rfl (hts (.fieldLink RX10 19 "ShadowBenchModel" "sums" "[I") (by decide +kernel)) rfl dX10_cast_67 ?_
            refine lv_bipush (v := 44) hx hb dX10_cast_70 (by decide) ?_
            refine lv_iload_n hx hb dX10_cast_72 rfl (lv_at hl 2 rfl) ?_
            refine lv_imul hx hb dX10_cast_73 ?_
            refine lv_topi (fun v73 e73 => ?_)
            have i73 : v73.toInt = 44 * j.toInt := by rw [e73]; exact mulcL rfl (by omega) (by omega)
            refine lv_bipush (v := 11) hx hb dX10_cast_74 (by decide) ?_
            refine lv_iload_n hx hb dX10_cast_76 rfl (lv_at hl 3 rfl) ?_
            refine lv_imul hx hb dX10_cast_77 ?_
            refine lv_topi (fun v77 e77 => ?_)
            have i77 : v77.toInt = 11 * way.toInt := by rw [e77]; exact mulcL rfl (by omega) (by omega)
            refine lv_iadd hx hb dX10_cast_78 ?_
            refine lv_topi (fun v78 e78 => ?_)
            have i78 : v78.toInt = v73.toInt + v77.toInt := by rw [e78]; exact fb_addI (by omega) (by omega)
            refine lv_iload hx hb dX10_cast_79 (lv_at hl 0 rfl) ?_
            refine lv_iadd hx hb dX10_cast_81 ?_
            refine lv_topi (fun v81 e81 => ?_)
            have i81 : v81.toInt = v78.toInt + (nI k).toInt := by rw [e81]; exact fb_addI (by omega) (by omega)
            refine lv_aload_n hx hb dX10_cast_82 rfl (lv_at hl 1 rfl) ?_
            refine m_get (v := .ref (a 3)) hx hb hts hin hown hK hP 3 (by decide) rfl (hts (.fieldLink RX10 13 "ShadowBenchModel" "wide" "[I") (by decide +kernel)) rfl dX10_cast_83 ?_
            refine lv_iload_n hx hb dX10_cast_86 rfl (lv_at hl 2 rfl) ?_
            refine m_iald (w := (r 3)) hx hb hK hP 2 rfl (vp_in_iff.mpr ⟨by omega, by omega⟩) dX10_cast_87 ?_
            refine lv_topi (fun v87 e87 => ?_)
            have i87 : v87.toInt = ((r 3) j.toNatClampNeg).toInt := congrArg Int32.toInt e87
            have w87 := mi_w hI (x := j) (by omega) (by omega) e87
            refine lv_aload_n hx hb dX10_cast_88 rfl (lv_at hl 1 rfl) ?_
            refine m_get (v := .ref (a 4)) hx hb hts hin hown hK hP 4 (by decide) rfl (hts (.fieldLink RX10 16 "ShadowBenchModel" "high" "[I") (by decide +kernel)) rfl dX10_cast_89 ?_
            refine lv_iload_n hx hb dX10_cast_92 rfl (lv_at hl 2 rfl) ?_
            refine m_iald (w := (r 4)) hx hb hK hP 3 rfl (vp_in_iff.mpr ⟨by omega, by omega⟩) dX10_cast_93 ?_
            refine lv_topi (fun v93 e93 => ?_)
            have i93 : v93.toInt = ((r 4) j.toNatClampNeg).toInt := congrArg Int32.toInt e93
            have w93 := mi_h hI (x := j) (by omega) (by omega) e93
            refine lv_lload_n hx hb dX10_cast_94 rfl (lv_at hl 4 rfl) ?_
            refine lv_iload_n hx hb dX10_cast_95 rfl (lv_at hl 3 rfl) ?_
            refine lv_iload hx hb dX10_cast_96 (lv_at hl 0 rfl) ?_
            refine m_pu (As := [.int v87, .int v93, .long p0, .int way, .int (nI k)]) (rest := [.int v81, .ref (a 5)]) ⟨hx, hb, hml, hown, hts⟩ (c_X10_shadowOf l v87 v93 p0 way (nI k) w87 w93) (va_cwS 5 hts gX10_cast_X10_shadowOf rfl rfl rfl (by decide +kernel) ⟨Nat.le_of_ble_eq_true rfl, Nat.le_of_ble_eq_true rfl⟩) hP rfl hl.1 rfl (Nat.le_of_ble_eq_true rfl) dX10_cast_98 ⟨Nat.le_of_ble_eq_true rfl, Nat.le_of_ble_eq_true rfl⟩ hS (fun r98 H locs q98 hP hS => ?_)
            have cv9 := m_cl (x := v81) (by omega)
            have f81 : v81.toNatClampNeg = (44 * j.toNatClampNeg + 11 * way.toNatClampNeg) + k := by omega
            subst e87
            subst e93
            have s98 := r_shS szw szh (by omega) (by omega) q98
            rw [nI_clamp (n := k) (by omega)] at s98
            refine m_iast (w := sm) hx hb hK hP hD hS 4 rfl (vp_in_iff.mpr ⟨by omega, by omega⟩) (va_up (va_up r 6 tl_39) 5 (upd sm v81.toNatClampNeg r98)) rfl dX10_cast_101 (fun H locs hP hS => ?_)
            refine lv_iinc (v := (nI (k + 1))) (lv' := [(5, .int (nI (k + 1))), (0, .ref mo), (1, .int j), (2, .int way), (3, .long p0)]) hx hb dX10_cast_102 hl (k := 0) rfl (nI_1 _) (by decide) rfl (fun ls hl => ?_)
            refine lv_goto (tgt := 45) hx hb dX10_cast_105 (by decide) ?_
            exact ih_45 (k + 1) (upd sm v81.toNatClampNeg r98) (by omega) (by rw [j45_1, f81, s98]; exact setB_s _ _ _ _) (by omega) _ _ hP hS ls (lv_sub hl [0, 1, 2, 3, 4] rfl)
      exact loop_45 (11 + 1) 0 sm_39 (by omega) ((setB_0 _ _ _).symm) (by omega) _ _ hP hS ls (lv_sub hl [0, 1, 2, 3, 4] rfl)
    · skip
      have b31 := bo_f q28 c31
      refine lv_iconst (v := (-1)) hx hb dX10_cast_34 (by decide) ?_
      exact W.iret (v := ((-1) : Int32)) hx hb hr (fun t ht hW => ⟨⟨_, ((upd f 0 (0 : Int32)), g, (va_up (va_up r 5 (r 5)) 6 (r 6)), q), rfl, ⟨(r 5), (r 6), rfl, (Or.inr ⟨(fun z9 => by have z8 := z9.1; unfold okJob at z8; have szw := mi_w hI (x := j) (by omega) (by omega) rfl; have szh := mi_h hI (x := j) (by omega) (by omega) rfl; have z7 := z9.2.1; have rl9 := lines_lt szw szh way; first | exact b12 ⟨⟨⟨by omega, by omega⟩, by omega⟩, by omega, by omega⟩ | (subst e20; subst e26; exact goodP_no b31 ⟨⟨szw, szh⟩, z9.2.2⟩)), rfl, rfl, rfl⟩)⟩, by unfold mB; rw [ht]; exact hP⟩, hS.F ht⟩) hS.2.2 dX10_cast_35
set_option maxHeartbeats 4000000 in
set_option maxRecDepth 100000 in
theorem c_X10_untell_y (l : Launch) (D : va_G) (cy : Nat → ClassId) (mo : Nat) (a : Nat → Nat) (f : Nat → Int32) (g : Nat → Int64) (r : Nat → Nat → Int32) (q : Nat → Nat → Int64) (j : Int32) (way : Int32) (hD : DM cy mo a) (hI : MI f r) : Mi l D cy mo a yX10_untell wsX10_untell ({ frames := 1, cells := 0, slots := 0, locals := 25 }) f g r q [.int j, .int way] (fun r0 u => ∃ (tl : Nat → Int32), u = ((upd f 0 (0 : Int32)), g, (va_up r 6 tl), q) ∧ ((okUn9 (f 1) j way ∧ r0 = (if r 6 (4 * j.toNatClampNeg + way.toNatClampNeg) = 0 then 0 else 1) ∧ tl = upd (r 6) (4 * j.toNatClampNeg + way.toNatClampNeg) 0) ∨ (¬ okUn9 (f 1) j way ∧ r0 = -1 ∧ tl = r 6))) := by
  refine Met.ofW (cc := cX10_untell) (maxL := 4) (ret := (some .int)) (by decide) rfl ?_
  intro p e s m args below meth c s₁ B hml hv
  obtain ⟨rfl, hP, hK⟩ := hv
  have hx := B.exec
  have hb := B.bytes
  have hr := B.returns
  have hts := atoms_spec (ws := wsX10_untell) B.pre
  have hin : ∀ w ∈ u_ws RX10 TX10 35, w ∈ wsX10_untell := by decide +kernel
  have hown : s.vm.findClass RX10 = some m.cls := findClass_of_methodNamed B.named
  have hlocks := B.notSynchronized
  have hS : va_S (AM mo a) s.heap s.heap [] := va_S.rf
  have hl := lv_entry ([.ref mo, .int j, .int way]) (n := 4) (Nat.le_of_ble_eq_true rfl)
  rw [lg_entry_eq]
  generalize (lg_sl ([.ref mo, .int j, .int way]) ++ List.replicate (4 - (lg_sl ([.ref mo, .int j, .int way])).length) Slot.unset).toArray = ls at hl ⊢
  have hl : lv_has ls 4 [(0, .ref mo), (1, .int j), (2, .int way)] := hl
  have k_m1 : (-1 : Int32).toInt = -1 := by decide
  have k_0 : (0 : Int32).toInt = 0 := by decide
  have k_1 : (1 : Int32).toInt = 1 := by decide
  have k_4 : (4 : Int32).toInt = 4 := by decide
  have k_2L : (2 : Int64).toInt = 2 := by decide
  have k_3L : (3 : Int64).toInt = 3 := by decide
  have hI1 := hI.1
  refine lv_aload_n hx hb dX10_untell_0 rfl (lv_at hl 0 rfl) ?_
  refine lv_iconst (v := 0) hx hb dX10_untell_1 (by decide) ?_
  refine m_put (v := .int (0 : Int32)) (ty := .int) hx hb hts hin hown hK hP hD hS 0 (by decide) rfl (hts (.fieldLink RX10 79 "ShadowBenchModel" "thrown" "I") (by decide +kernel)) rfl (by decide +kernel) rfl rfl (upd f 0 (0 : Int32)) g rfl dX10_untell_2 (fun H locs hP hS => ?_)
  refine lv_aload_n hx hb dX10_untell_5 rfl (lv_at hl 0 rfl) ?_
  refine lv_iload_n hx hb dX10_untell_6 rfl (lv_at hl 1 rfl) ?_
  refine m_calli (As := [.int j]) (rest := []) ⟨hx, hb, hml, hown, hts⟩ (c_X10_isJob l D cy mo a (upd f 0 (0 : Int32)) g r q j hD) (cwV 1 hts gX10_untell_X10_isJob rfl rfl rfl (by decide +kernel) ⟨Nat.le_of_ble_eq_true rfl, Nat.le_of_ble_eq_true rfl⟩) hK hP rfl hl.1 rfl (Nat.le_of_ble_eq_true rfl) dX10_untell_7 ⟨Nat.le_of_ble_eq_true rfl, Nat.le_of_ble_eq_true rfl⟩ hS (fun r7 u H locs q7 hP hS => ?_)
  obtain ⟨rfl, q7⟩ := q7
  have hP : va_P D vwCl (WM cy mo a (upd f 0 (0 : Int32)) g r q) H := hP
  have q7 : Bo r7 (0 ≤ j.toInt ∧ j.toInt < ((f 1)).toInt) := q7
  refine lv_if_eq (tgt := 27) hx hb dX10_untell_10 (by decide) (fun c10 => ?_) (fun c10 => ?_)
  · skip
    have b10 := bo_f q7 c10
    refine lv_iconst (v := (-1)) hx hb dX10_untell_27 (by decide) ?_
    exact W.iret (v := ((-1) : Int32)) hx hb hr (fun t ht hW => ⟨⟨_, ((upd f 0 (0 : Int32)), g, (va_up r 6 (r 6)), q), rfl, ⟨(r 6), rfl, (Or.inr ⟨(fun z9 => by have z8 := z9.1; unfold okJob at z8; have z7 := z9.2; first | omega | (have y24 := b24; simp only [k64, show (2 : Int64).toInt = 2 from rfl, show (3 : Int64).toInt = 3 from rfl] at y24; omega)), rfl, rfl⟩)⟩, by unfold mB; rw [ht]; exact hP⟩, hS.F ht⟩) hS.2.2 dX10_untell_28
  · skip
    have b10 := bo_t q7 c10
    refine lv_iload_n hx hb dX10_untell_13 rfl (lv_at hl 2 rfl) ?_
    refine lv_i2l (v := way.toInt64) hx hb dX10_untell_14 rfl ?_
    refine lv_ldc2 hx hb hown (hts (.constantLong RX10 134 (2)) (by decide +kernel)) dX10_untell_15 ?_
    refine lv_ldc2 hx hb hown (hts (.constantLong RX10 116 (3)) (by decide +kernel)) dX10_untell_18 ?_
    refine m_pu (As := [.long (way.toInt64), .long (2 : Int64), .long (3 : Int64)]) (rest := []) ⟨hx, hb, hml, hown, hts⟩ (c_X10_isIn l way.toInt64 (2 : Int64) (3 : Int64) ) (va_cwS 3 hts gX10_untell_X10_isIn rfl rfl rfl (by decide +kernel) ⟨Nat.le_of_ble_eq_true rfl, Nat.le_of_ble_eq_true rfl⟩) hP rfl hl.1 rfl (Nat.le_of_ble_eq_true rfl) dX10_untell_21 ⟨Nat.le_of_ble_eq_true rfl, Nat.le_of_ble_eq_true rfl⟩ hS (fun r21 H locs q21 hP hS => ?_)
    have q21 := q21
    simp only [k64, show (0 : Int64).toInt = 0 from rfl, show (1 : Int64).toInt = 1 from rfl, show (2 : Int64).toInt = 2 from rfl, show (3 : Int64).toInt = 3 from rfl, show (6 : Int64).toInt = 6 from rfl] at q21
    refine lv_if_ne (tgt := 29) hx hb dX10_untell_24 (by decide) (fun c24 => ?_) (fun c24 => ?_)
    · skip
      have b24 := bo_t q21 c24
      have y24 := b24
      try simp only [k64, show (2 : Int64).toInt = 2 from rfl, show (3 : Int64).toInt = 3 from rfl] at y24
      refine lv_aload_n hx hb dX10_untell_29 rfl (lv_at hl 0 rfl) ?_
      refine m_get (v := .ref (a 6)) hx hb hts hin hown hK hP 6 (by decide) rfl (hts (.fieldLink RX10 22 "ShadowBenchModel" "isTold" "[Z") (by decide +kernel)) rfl dX10_untell_30 ?_
      refine lv_iconst (v := 4) hx hb dX10_untell_33 (by decide) ?_
      refine lv_iload_n hx hb dX10_untell_34 rfl (lv_at hl 1 rfl) ?_
      refine lv_imul hx hb dX10_untell_35 ?_
      refine lv_topi (fun v35 e35 => ?_)
      have i35 : v35.toInt = 4 * j.toInt := by rw [e35]; exact mulcL rfl (by omega) (by omega)
      refine lv_iload_n hx hb dX10_untell_36 rfl (lv_at hl 2 rfl) ?_
      refine lv_iadd hx hb dX10_untell_37 ?_
      refine lv_topi (fun v37 e37 => ?_)
      have i37 : v37.toInt = v35.toInt + way.toInt := by rw [e37]; exact fb_addI (by omega) (by omega)
      refine m_zald (w := (r 6)) hx hb hK hP 5 rfl (vp_in_iff.mpr ⟨by omega, by omega⟩) dX10_untell_38 ?_
      refine lv_topi (fun v38 e38 => ?_)
      have i38 : v38.toInt = ((r 6) v37.toNatClampNeg).toInt := congrArg Int32.toInt e38
      have cj9 := m_cl (x := j) (by omega)
      have cw9 := m_cl (x := way) (by omega)
      have cv9 := m_cl (x := v37) (by omega)
      have f37 : v37.toNatClampNeg = (4 * j.toNatClampNeg + way.toNatClampNeg) := by omega
      refine lv_istore_n (lv' := [(3, .int v38), (0, .ref mo), (1, .int j), (2, .int way)]) hx hb dX10_untell_39 rfl hl (by decide) rfl (fun ls hl => ?_)
      refine lv_aload_n hx hb dX10_untell_40 rfl (lv_at hl 1 rfl) ?_
      refine m_get (v := .ref (a 6)) hx hb hts hin hown hK hP 6 (by decide) rfl (hts (.fieldLink RX10 22 "ShadowBenchModel" "isTold" "[Z") (by decide +kernel)) rfl dX10_untell_41 ?_
      refine lv_iconst (v := 4) hx hb dX10_untell_44 (by decide) ?_
      refine lv_iload_n hx hb dX10_untell_45 rfl (lv_at hl 2 rfl) ?_
      refine lv_imul hx hb dX10_untell_46 ?_
      refine lv_topi (fun v46 e46 => ?_)
      have i46 : v46.toInt = 4 * j.toInt := by rw [e46]; exact mulcL rfl (by omega) (by omega)
      refine lv_iload_n hx hb dX10_untell_47 rfl (lv_at hl 3 rfl) ?_
      refine lv_iadd hx hb dX10_untell_48 ?_
      refine lv_topi (fun v48 e48 => ?_)
      have i48 : v48.toInt = v46.toInt + way.toInt := by rw [e48]; exact fb_addI (by omega) (by omega)
      refine lv_iconst (v := 0) hx hb dX10_untell_49 (by decide) ?_
      refine m_zast (w := (r 6)) hx hb hK hP hD hS 5 rfl (vp_in_iff.mpr ⟨by omega, by omega⟩) (va_up r 6 ((upd (r 6) v48.toNatClampNeg ((0 : Int32) &&& 1)))) rfl dX10_untell_50 (fun H locs hP hS => ?_)
      have cv8 := m_cl (x := v48) (by omega)
      have f48 : v48.toNatClampNeg = (4 * j.toNatClampNeg + way.toNatClampNeg) := by omega
      refine lv_iload_n hx hb dX10_untell_51 rfl (lv_at hl 0 rfl) ?_
      refine lv_if_eq (tgt := 59) hx hb dX10_untell_52 (by decide) (fun c52 => ?_) (fun c52 => ?_)
      · skip
        have d52 := c52
        rw [fa_eq] at d52
        refine lv_iconst (v := 0) hx hb dX10_untell_59 (by decide) ?_
        exact W.iret (v := (0 : Int32)) hx hb hr (fun t ht hW => ⟨⟨_, ((upd f 0 (0 : Int32)), g, (va_up r 6 (((upd (r 6) v48.toNatClampNeg ((0 : Int32) &&& 1))))), q), rfl, ⟨((upd (r 6) v48.toNatClampNeg ((0 : Int32) &&& 1))), rfl, (Or.inl ⟨⟨(by unfold okJob; omega), (by omega)⟩, (by rw [← f37, ← e38]; first | (rw [if_neg c52]; done) | (rw [if_pos c52]; done)), (by rw [f48]; rfl)⟩)⟩, by unfold mB; rw [ht]; exact hP⟩, hS.F ht⟩) hS.2.2 dX10_untell_60
      · skip
        have d52 := c52
        rw [fa_eq] at d52
        refine lv_iconst (v := 1) hx hb dX10_untell_55 (by decide) ?_
        refine lv_goto (tgt := 60) hx hb dX10_untell_56 (by decide) ?_
        exact W.iret (v := (1 : Int32)) hx hb hr (fun t ht hW => ⟨⟨_, ((upd f 0 (0 : Int32)), g, (va_up r 6 (((upd (r 6) v48.toNatClampNeg ((0 : Int32) &&& 1))))), q), rfl, ⟨((upd (r 6) v48.toNatClampNeg ((0 : Int32) &&& 1))), rfl, (Or.inl ⟨⟨(by unfold okJob; omega), (by omega)⟩, (by rw [← f37, ← e38]; first | (rw [if_neg c52]; done) | (rw [if_pos c52]; done)), (by rw [f48]; rfl)⟩)⟩, by unfold mB; rw [ht]; exact hP⟩, hS.F ht⟩) hS.2.2 dX10_untell_60
    · skip
      have b24 := bo_f q21 c24
      refine lv_iconst (v := (-1)) hx hb dX10_untell_27 (by decide) ?_
      exact W.iret (v := ((-1) : Int32)) hx hb hr (fun t ht hW => ⟨⟨_, ((upd f 0 (0 : Int32)), g, (va_up r 6 (r 6)), q), rfl, ⟨(r 6), rfl, (Or.inr ⟨(fun z9 => by have z8 := z9.1; unfold okJob at z8; have z7 := z9.2; first | omega | (have y24 := b24; simp only [k64, show (2 : Int64).toInt = 2 from rfl, show (3 : Int64).toInt = 3 from rfl] at y24; omega)), rfl, rfl⟩)⟩, by unfold mB; rw [ht]; exact hP⟩, hS.F ht⟩) hS.2.2 dX10_untell_28
set_option maxHeartbeats 4000000 in
set_option maxRecDepth 100000 in
theorem c_X10_hold_y (l : Launch) (D : va_G) (cy : Nat → ClassId) (mo : Nat) (a : Nat → Nat) (f : Nat → Int32) (g : Nat → Int64) (r : Nat → Nat → Int32) (q : Nat → Nat → Int64) (j : Int32) (s0 : Int32) (how : Int32) (hD : DM cy mo a) (hI : MI f r) : Mi l D cy mo a yX10_hold wsX10_hold ({ frames := 2, cells := 0, slots := 0, locals := 43 }) f g r q [.int j, .int s0, .int how] (fun r0 u => ∃ (hd : Nat → Int32), u = ((upd f 0 (0 : Int32)), g, (va_up r 7 hd), q) ∧ ((okHold9 (f 1) (r 3 j.toNatClampNeg).toNatClampNeg (r 4 j.toNatClampNeg).toNatClampNeg j s0 how ∧ r0 = r 7 (36 * j.toNatClampNeg + s0.toNatClampNeg) ∧ hd = upd (r 7) (36 * j.toNatClampNeg + s0.toNatClampNeg) how) ∨ (¬ okHold9 (f 1) (r 3 j.toNatClampNeg).toNatClampNeg (r 4 j.toNatClampNeg).toNatClampNeg j s0 how ∧ r0 = -1 ∧ hd = r 7))) := by
  refine Met.ofW (cc := cX10_hold) (maxL := 5) (ret := (some .int)) (by decide) rfl ?_
  intro p e s m args below meth c s₁ B hml hv
  obtain ⟨rfl, hP, hK⟩ := hv
  have hx := B.exec
  have hb := B.bytes
  have hr := B.returns
  have hts := atoms_spec (ws := wsX10_hold) B.pre
  have hin : ∀ w ∈ u_ws RX10 TX10 35, w ∈ wsX10_hold := by decide +kernel
  have hown : s.vm.findClass RX10 = some m.cls := findClass_of_methodNamed B.named
  have hlocks := B.notSynchronized
  have hS : va_S (AM mo a) s.heap s.heap [] := va_S.rf
  have hl := lv_entry ([.ref mo, .int j, .int s0, .int how]) (n := 5) (Nat.le_of_ble_eq_true rfl)
  rw [lg_entry_eq]
  generalize (lg_sl ([.ref mo, .int j, .int s0, .int how]) ++ List.replicate (5 - (lg_sl ([.ref mo, .int j, .int s0, .int how])).length) Slot.unset).toArray = ls at hl ⊢
  have hl : lv_has ls 5 [(0, .ref mo), (1, .int j), (2, .int s0), (3, .int how)] := hl
  have k_m1 : (-1 : Int32).toInt = -1 := by decide
  have k_0 : (0 : Int32).toInt = 0 := by decide
  have k_36 : (36 : Int32).toInt = 36 := by decide
  have k_0L : (0 : Int64).toInt = 0 := by decide
  have k_2L : (2 : Int64).toInt = 2 := by decide
  have hI1 := hI.1
  refine lv_aload_n hx hb dX10_hold_0 rfl (lv_at hl 0 rfl) ?_
  refine lv_iconst (v := 0) hx hb dX10_hold_1 (by decide) ?_
  refine m_put (v := .int (0 : Int32)) (ty := .int) hx hb hts hin hown hK hP hD hS 0 (by decide) rfl (hts (.fieldLink RX10 79 "ShadowBenchModel" "thrown" "I") (by decide +kernel)) rfl (by decide +kernel) rfl rfl (upd f 0 (0 : Int32)) g rfl dX10_hold_2 (fun H locs hP hS => ?_)
  refine lv_aload_n hx hb dX10_hold_5 rfl (lv_at hl 0 rfl) ?_
  refine lv_iload_n hx hb dX10_hold_6 rfl (lv_at hl 1 rfl) ?_
  refine lv_iload_n hx hb dX10_hold_7 rfl (lv_at hl 2 rfl) ?_
  refine m_calli (As := [.int j, .int s0]) (rest := []) ⟨hx, hb, hml, hown, hts⟩ (c_X10_isSquare l D cy mo a (upd f 0 (0 : Int32)) g r q j s0 hD hI) (cwV 2 hts gX10_hold_X10_isSquare rfl rfl rfl (by decide +kernel) ⟨Nat.le_of_ble_eq_true rfl, Nat.le_of_ble_eq_true rfl⟩) hK hP rfl hl.1 rfl (Nat.le_of_ble_eq_true rfl) dX10_hold_8 ⟨Nat.le_of_ble_eq_true rfl, Nat.le_of_ble_eq_true rfl⟩ hS (fun r8 u H locs q8 hP hS => ?_)
  obtain ⟨rfl, q8⟩ := q8
  have hP : va_P D vwCl (WM cy mo a (upd f 0 (0 : Int32)) g r q) H := hP
  have q8 : Bo r8 ((0 ≤ j.toInt ∧ j.toInt < ((f 1)).toInt) ∧ 0 ≤ s0.toInt ∧ s0.toInt < ((r 3) j.toNatClampNeg).toInt * ((r 4) j.toNatClampNeg).toInt) := q8
  refine lv_if_eq (tgt := 26) hx hb dX10_hold_11 (by decide) (fun c11 => ?_) (fun c11 => ?_)
  · skip
    have b11 := bo_f q8 c11
    refine lv_iconst (v := (-1)) hx hb dX10_hold_26 (by decide) ?_
    exact W.iret (v := ((-1) : Int32)) hx hb hr (fun t ht hW => ⟨⟨_, ((upd f 0 (0 : Int32)), g, (va_up r 7 (r 7)), q), rfl, ⟨(r 7), rfl, (Or.inr ⟨(fun z9 => by have z8 := z9.1; unfold okJob at z8; have z7 := z9.2.1; have z6 := z9.2.2; rw [sq_eq hI z8.1 z8.2] at z7; first | exact b11 ⟨z8, z7⟩ | exact b23 z6 | omega | (have y23 := b23; simp only [k64, show (0 : Int64).toInt = 0 from rfl, show (2 : Int64).toInt = 2 from rfl] at y23; omega)), rfl, rfl⟩)⟩, by unfold mB; rw [ht]; exact hP⟩, hS.F ht⟩) hS.2.2 dX10_hold_27
  · skip
    have b11 := bo_t q8 c11
    refine lv_iload_n hx hb dX10_hold_14 rfl (lv_at hl 3 rfl) ?_
    refine lv_i2l (v := how.toInt64) hx hb dX10_hold_15 rfl ?_
    refine lv_lconst (v := 0) hx hb dX10_hold_16 (by decide) ?_
    refine lv_ldc2 hx hb hown (hts (.constantLong RX10 134 (2)) (by decide +kernel)) dX10_hold_17 ?_
    refine m_pu (As := [.long (how.toInt64), .long (0 : Int64), .long (2 : Int64)]) (rest := []) ⟨hx, hb, hml, hown, hts⟩ (c_X10_isIn l how.toInt64 (0 : Int64) (2 : Int64) ) (va_cwS 3 hts gX10_hold_X10_isIn rfl rfl rfl (by decide +kernel) ⟨Nat.le_of_ble_eq_true rfl, Nat.le_of_ble_eq_true rfl⟩) hP rfl hl.1 rfl (Nat.le_of_ble_eq_true rfl) dX10_hold_20 ⟨Nat.le_of_ble_eq_true rfl, Nat.le_of_ble_eq_true rfl⟩ hS (fun r20 H locs q20 hP hS => ?_)
    have q20 := q20
    simp only [k64, show (0 : Int64).toInt = 0 from rfl, show (1 : Int64).toInt = 1 from rfl, show (2 : Int64).toInt = 2 from rfl, show (3 : Int64).toInt = 3 from rfl, show (6 : Int64).toInt = 6 from rfl] at q20
    refine lv_if_ne (tgt := 28) hx hb dX10_hold_23 (by decide) (fun c23 => ?_) (fun c23 => ?_)
    · skip
      have b23 := bo_t q20 c23
      have hsb := mul66 (mi_w hI (x := j) (by omega) (by omega) rfl) (mi_h hI (x := j) (by omega) (by omega) rfl)
      have y23 := b23
      try simp only [k64, show (0 : Int64).toInt = 0 from rfl, show (2 : Int64).toInt = 2 from rfl] at y23
      refine lv_aload_n hx hb dX10_hold_28 rfl (lv_at hl 0 rfl) ?_
      refine m_get (v := .ref (a 7)) hx hb hts hin hown hK hP 7 (by decide) rfl (hts (.fieldLink RX10 26 "ShadowBenchModel" "held" "[I") (by decide +kernel)) rfl dX10_hold_29 ?_
      refine lv_bipush (v := 36) hx hb dX10_hold_32 (by decide) ?_
      refine lv_iload_n hx hb dX10_hold_34 rfl (lv_at hl 1 rfl) ?_
      refine lv_imul hx hb dX10_hold_35 ?_
      refine lv_topi (fun v35 e35 => ?_)
      have i35 : v35.toInt = 36 * j.toInt := by rw [e35]; exact mulcL rfl (by omega) (by omega)
      refine lv_iload_n hx hb dX10_hold_36 rfl (lv_at hl 2 rfl) ?_
      refine lv_iadd hx hb dX10_hold_37 ?_
      refine lv_topi (fun v37 e37 => ?_)
      have i37 : v37.toInt = v35.toInt + s0.toInt := by rw [e37]; exact fb_addI (by omega) (by omega)
      refine m_iald (w := (r 7)) hx hb hK hP 6 rfl (vp_in_iff.mpr ⟨by omega, by omega⟩) dX10_hold_38 ?_
      refine lv_topi (fun v38 e38 => ?_)
      have i38 : v38.toInt = ((r 7) v37.toNatClampNeg).toInt := congrArg Int32.toInt e38
      have cj9 := m_cl (x := j) (by omega)
      have cs9 := m_cl (x := s0) (by omega)
      have cv9 := m_cl (x := v37) (by omega)
      have f37 : v37.toNatClampNeg = 36 * j.toNatClampNeg + s0.toNatClampNeg := by omega
      refine lv_istore (lv' := [(4, .int v38), (0, .ref mo), (1, .int j), (2, .int s0), (3, .int how)]) hx hb dX10_hold_39 hl (by decide) rfl (fun ls hl => ?_)
      refine lv_aload_n hx hb dX10_hold_41 rfl (lv_at hl 1 rfl) ?_
      refine m_get (v := .ref (a 7)) hx hb hts hin hown hK hP 7 (by decide) rfl (hts (.fieldLink RX10 26 "ShadowBenchModel" "held" "[I") (by decide +kernel)) rfl dX10_hold_42 ?_
      refine lv_bipush (v := 36) hx hb dX10_hold_45 (by decide) ?_
      refine lv_iload_n hx hb dX10_hold_47 rfl (lv_at hl 2 rfl) ?_
      refine lv_imul hx hb dX10_hold_48 ?_
      refine lv_topi (fun v48 e48 => ?_)
      have i48 : v48.toInt = 36 * j.toInt := by rw [e48]; exact mulcL rfl (by omega) (by omega)
      refine lv_iload_n hx hb dX10_hold_49 rfl (lv_at hl 3 rfl) ?_
      refine lv_iadd hx hb dX10_hold_50 ?_
      refine lv_topi (fun v50 e50 => ?_)
      have i50 : v50.toInt = v48.toInt + s0.toInt := by rw [e50]; exact fb_addI (by omega) (by omega)
      refine lv_iload_n hx hb dX10_hold_51 rfl (lv_at hl 4 rfl) ?_
      have cv8 := m_cl (x := v50) (by omega)
      have f50 : v50.toNatClampNeg = 36 * j.toNatClampNeg + s0.toNatClampNeg := by omega
      refine m_iast (w := (r 7)) hx hb hK hP hD hS 6 rfl (vp_in_iff.mpr ⟨by omega, by omega⟩) (va_up r 7 ((upd (r 7) v50.toNatClampNeg how))) rfl dX10_hold_52 (fun H locs hP hS => ?_)
      refine lv_iload hx hb dX10_hold_53 (lv_at hl 0 rfl) ?_
      exact W.iret (v := v38) hx hb hr (fun t ht hW => ⟨⟨_, ((upd f 0 (0 : Int32)), g, (va_up r 7 (((upd (r 7) v50.toNatClampNeg how)))), q), rfl, ⟨((upd (r 7) v50.toNatClampNeg how)), rfl, (Or.inl ⟨⟨b11.1, (by rw [sq_eq hI b11.1.1 b11.1.2]; exact b11.2), (by omega)⟩, (by rw [e38, f37]), (by rw [f50])⟩)⟩, by unfold mB; rw [ht]; exact hP⟩, hS.F ht⟩) hS.2.2 dX10_hold_55
    · skip
      have b23 := bo_f q20 c23
      refine lv_iconst (v := (-1)) hx hb dX10_hold_26 (by decide) ?_
      exact W.iret (v := ((-1) : Int32)) hx hb hr (fun t ht hW => ⟨⟨_, ((upd f 0 (0 : Int32)), g, (va_up r 7 (r 7)), q), rfl, ⟨(r 7), rfl, (Or.inr ⟨(fun z9 => by have z8 := z9.1; unfold okJob at z8; have z7 := z9.2.1; have z6 := z9.2.2; rw [sq_eq hI z8.1 z8.2] at z7; first | exact b11 ⟨z8, z7⟩ | exact b23 z6 | omega | (have y23 := b23; simp only [k64, show (0 : Int64).toInt = 0 from rfl, show (2 : Int64).toInt = 2 from rfl] at y23; omega)), rfl, rfl⟩)⟩, by unfold mB; rw [ht]; exact hP⟩, hS.F ht⟩) hS.2.2 dX10_hold_27
set_option maxHeartbeats 4000000 in
set_option maxRecDepth 100000 in
theorem c_X10_told_y (l : Launch) (D : va_G) (cy : Nat → ClassId) (mo : Nat) (a : Nat → Nat) (f : Nat → Int32) (g : Nat → Int64) (r : Nat → Nat → Int32) (q : Nat → Nat → Int64) (j : Int32) (way : Int32) (line : Int32) (hD : DM cy mo a) (hI : MI f r) : Mi l D cy mo a yX10_told wsX10_told ({ frames := 2, cells := 0, slots := 0, locals := 48 }) f g r q [.int j, .int way, .int line] (fun r0 u => u = ((upd f 0 (0 : Int32)), g, r, q) ∧ (toA (f 1) (r 3 j.toNatClampNeg).toNatClampNeg (r 4 j.toNatClampNeg).toNatClampNeg (fun l => if r 6 (4 * j.toNatClampNeg + way.toNatClampNeg) = 0 then -2 else r 5 ((44 * j.toNatClampNeg + 11 * way.toNatClampNeg) + l)) j way line r0)) := by
  refine Met.ofW (cc := cX10_told) (maxL := 4) (ret := (some .int)) (by decide) rfl ?_
  intro p e s m args below meth c s₁ B hml hv
  obtain ⟨rfl, hP, hK⟩ := hv
  have hx := B.exec
  have hb := B.bytes
  have hr := B.returns
  have hts := atoms_spec (ws := wsX10_told) B.pre
  have hin : ∀ w ∈ u_ws RX10 TX10 35, w ∈ wsX10_told := by decide +kernel
  have hown : s.vm.findClass RX10 = some m.cls := findClass_of_methodNamed B.named
  have hlocks := B.notSynchronized
  have hS : va_S (AM mo a) s.heap s.heap [] := va_S.rf
  have hl := lv_entry ([.ref mo, .int j, .int way, .int line]) (n := 4) (Nat.le_of_ble_eq_true rfl)
  rw [lg_entry_eq]
  generalize (lg_sl ([.ref mo, .int j, .int way, .int line]) ++ List.replicate (4 - (lg_sl ([.ref mo, .int j, .int way, .int line])).length) Slot.unset).toArray = ls at hl ⊢
  have hl : lv_has ls 4 [(0, .ref mo), (1, .int j), (2, .int way), (3, .int line)] := hl
  have k_m2 : (-2 : Int32).toInt = -2 := by decide
  have k_m1 : (-1 : Int32).toInt = -1 := by decide
  have k_0 : (0 : Int32).toInt = 0 := by decide
  have k_4 : (4 : Int32).toInt = 4 := by decide
  have k_11 : (11 : Int32).toInt = 11 := by decide
  have k_44 : (44 : Int32).toInt = 44 := by decide
  have hI1 := hI.1
  refine lv_aload_n hx hb dX10_told_0 rfl (lv_at hl 0 rfl) ?_
  refine lv_iconst (v := 0) hx hb dX10_told_1 (by decide) ?_
  refine m_put (v := .int (0 : Int32)) (ty := .int) hx hb hts hin hown hK hP hD hS 0 (by decide) rfl (hts (.fieldLink RX10 79 "ShadowBenchModel" "thrown" "I") (by decide +kernel)) rfl (by decide +kernel) rfl rfl (upd f 0 (0 : Int32)) g rfl dX10_told_2 (fun H locs hP hS => ?_)
  refine lv_aload_n hx hb dX10_told_5 rfl (lv_at hl 0 rfl) ?_
  refine lv_iload_n hx hb dX10_told_6 rfl (lv_at hl 1 rfl) ?_
  refine lv_iload_n hx hb dX10_told_7 rfl (lv_at hl 2 rfl) ?_
  refine lv_iload_n hx hb dX10_told_8 rfl (lv_at hl 3 rfl) ?_
  refine lv_iconst (v := (-1)) hx hb dX10_told_9 (by decide) ?_
  refine lv_icmp_ne (tgt := 17) hx hb dX10_told_10 (by decide) (fun c10 => ?_) (fun c10 => ?_)
  · skip
    have d10 := c10
    rw [fa_eq] at d10
    refine lv_iload_n hx hb dX10_told_17 rfl (lv_at hl 3 rfl) ?_
    refine m_calli (As := [.int j, .int way, .int line]) (rest := []) ⟨hx, hb, hml, hown, hts⟩ (c_X10_isLine l D cy mo a (upd f 0 (0 : Int32)) g r q j way line hD hI) (cwV 3 hts gX10_told_X10_isLine rfl rfl rfl (by decide +kernel) ⟨Nat.le_of_ble_eq_true rfl, Nat.le_of_ble_eq_true rfl⟩) hK hP rfl hl.1 rfl (Nat.le_of_ble_eq_true rfl) dX10_told_18 ⟨Nat.le_of_ble_eq_true rfl, Nat.le_of_ble_eq_true rfl⟩ hS (fun r18 u H locs q18 hP hS => ?_)
    obtain ⟨rfl, q18⟩ := q18
    have hP : va_P D vwCl (WM cy mo a (upd f 0 (0 : Int32)) g r q) H := hP
    have q18 : Bo r18 (((0 ≤ j.toInt ∧ j.toInt < ((f 1)).toInt) ∧ 0 ≤ way.toInt ∧ way.toInt ≤ 3) ∧ 0 ≤ line.toInt ∧ line.toInt < (r_lines ((r 3) j.toNatClampNeg) ((r 4) j.toNatClampNeg) way).toInt) := q18
    refine lv_if_ne (tgt := 26) hx hb dX10_told_21 (by decide) (fun c21 => ?_) (fun c21 => ?_)
    · skip
      have b21 := bo_t q18 c21
      have szw := mi_w hI (x := j) (by omega) (by omega) rfl
      have szh := mi_h hI (x := j) (by omega) (by omega) rfl
      have hLn := rLn szw szh (way := way) (by omega)
      have cj9 := m_cl (x := j) (by omega)
      have cw9 := m_cl (x := way) (by omega)
      
      refine lv_iload_n hx hb dX10_told_26 rfl (lv_at hl 3 rfl) ?_
      refine lv_iconst (v := (-1)) hx hb dX10_told_27 (by decide) ?_
      refine lv_icmp_ne (tgt := 48) hx hb dX10_told_28 (by decide) (fun c28 => ?_) (fun c28 => ?_)
      · skip
        have d28 := c28
        rw [fa_eq] at d28
        have hlb := lines_lt (mi_w hI (x := j) (by omega) (by omega) rfl) (mi_h hI (x := j) (by omega) (by omega) rfl) way
        refine lv_aload_n hx hb dX10_told_48 rfl (lv_at hl 0 rfl) ?_
        refine m_get (v := .ref (a 6)) hx hb hts hin hown hK hP 6 (by decide) rfl (hts (.fieldLink RX10 22 "ShadowBenchModel" "isTold" "[Z") (by decide +kernel)) rfl dX10_told_49 ?_
        refine lv_iconst (v := 4) hx hb dX10_told_52 (by decide) ?_
        refine lv_iload_n hx hb dX10_told_53 rfl (lv_at hl 1 rfl) ?_
        refine lv_imul hx hb dX10_told_54 ?_
        refine lv_topi (fun v54 e54 => ?_)
        have i54 : v54.toInt = 4 * j.toInt := by rw [e54]; exact mulcL rfl (by omega) (by omega)
        refine lv_iload_n hx hb dX10_told_55 rfl (lv_at hl 2 rfl) ?_
        refine lv_iadd hx hb dX10_told_56 ?_
        refine lv_topi (fun v56 e56 => ?_)
        have i56 : v56.toInt = v54.toInt + way.toInt := by rw [e56]; exact fb_addI (by omega) (by omega)
        refine m_zald (w := (r 6)) hx hb hK hP 5 rfl (vp_in_iff.mpr ⟨by omega, by omega⟩) dX10_told_57 ?_
        refine lv_topi (fun v57 e57 => ?_)
        have i57 : v57.toInt = ((r 6) v56.toNatClampNeg).toInt := congrArg Int32.toInt e57
        have cv9 := m_cl (x := v56) (by omega)
        have f56 : v56.toNatClampNeg = (4 * j.toNatClampNeg + way.toNatClampNeg) := by omega
        refine lv_if_eq (tgt := 80) hx hb dX10_told_58 (by decide) (fun c58 => ?_) (fun c58 => ?_)
        · skip
          have d58 := c58
          rw [fa_eq] at d58
          refine lv_bipush (v := (-2)) hx hb dX10_told_80 (by decide) ?_
          exact W.iret (v := ((-2) : Int32)) hx hb hr (fun t ht hW => ⟨⟨_, ((upd f 0 (0 : Int32)), g, r, q), rfl, ⟨rfl, (Or.inl ⟨⟨⟨(by unfold okJob; omega), by omega⟩, Or.inr (by unfold okL; omega)⟩, (by rw [if_neg (by omega)]; show _ = if r 6 (4 * j.toNatClampNeg + way.toNatClampNeg) = 0 then _ else _; rw [← f56, ← e57]; first | (rw [if_neg c58, e76, f75]; done) | (rw [if_pos c58]; done))⟩)⟩, by unfold mB; rw [ht]; exact hP⟩, hS.F ht⟩) hS.2.2 dX10_told_82
        · skip
          have d58 := c58
          rw [fa_eq] at d58
          refine lv_aload_n hx hb dX10_told_61 rfl (lv_at hl 0 rfl) ?_
          refine m_get (v := .ref (a 5)) hx hb hts hin hown hK hP 5 (by decide) rfl (hts (.fieldLink RX10 19 "ShadowBenchModel" "sums" "[I") (by decide +kernel)) rfl dX10_told_62 ?_
          refine lv_bipush (v := 44) hx hb dX10_told_65 (by decide) ?_
          refine lv_iload_n hx hb dX10_told_67 rfl (lv_at hl 1 rfl) ?_
          refine lv_imul hx hb dX10_told_68 ?_
          refine lv_topi (fun v68 e68 => ?_)
          have i68 : v68.toInt = 44 * j.toInt := by rw [e68]; exact mulcL rfl (by omega) (by omega)
          refine lv_bipush (v := 11) hx hb dX10_told_69 (by decide) ?_
          refine lv_iload_n hx hb dX10_told_71 rfl (lv_at hl 2 rfl) ?_
          refine lv_imul hx hb dX10_told_72 ?_
          refine lv_topi (fun v72 e72 => ?_)
          have i72 : v72.toInt = 11 * way.toInt := by rw [e72]; exact mulcL rfl (by omega) (by omega)
          refine lv_iadd hx hb dX10_told_73 ?_
          refine lv_topi (fun v73 e73 => ?_)
          have i73 : v73.toInt = v68.toInt + v72.toInt := by rw [e73]; exact fb_addI (by omega) (by omega)
          refine lv_iload_n hx hb dX10_told_74 rfl (lv_at hl 3 rfl) ?_
          refine lv_iadd hx hb dX10_told_75 ?_
          refine lv_topi (fun v75 e75 => ?_)
          have i75 : v75.toInt = v73.toInt + line.toInt := by rw [e75]; exact fb_addI (by omega) (by omega)
          have cl9 := m_cl (x := line) (by omega)
          have cv8 := m_cl (x := v75) (by omega)
          have f75 : v75.toNatClampNeg = (44 * j.toNatClampNeg + 11 * way.toNatClampNeg) + line.toNatClampNeg := by omega
          refine m_iald (w := (r 5)) hx hb hK hP 4 rfl (vp_in_iff.mpr ⟨by omega, by omega⟩) dX10_told_76 ?_
          refine lv_topi (fun v76 e76 => ?_)
          have i76 : v76.toInt = ((r 5) v75.toNatClampNeg).toInt := congrArg Int32.toInt e76
          refine lv_goto (tgt := 82) hx hb dX10_told_77 (by decide) ?_
          exact W.iret (v := v76) hx hb hr (fun t ht hW => ⟨⟨_, ((upd f 0 (0 : Int32)), g, r, q), rfl, ⟨rfl, (Or.inl ⟨⟨⟨(by unfold okJob; omega), by omega⟩, Or.inr (by unfold okL; omega)⟩, (by rw [if_neg (by omega)]; show _ = if r 6 (4 * j.toNatClampNeg + way.toNatClampNeg) = 0 then _ else _; rw [← f56, ← e57]; first | (rw [if_neg c58, e76, f75]; done) | (rw [if_pos c58]; done))⟩)⟩, by unfold mB; rw [ht]; exact hP⟩, hS.F ht⟩) hS.2.2 dX10_told_82
      · first | exact absurd c28 c10 | exact absurd c10 c28
    · skip
      have b21 := bo_f q18 c21
      refine lv_iconst (v := (-1)) hx hb dX10_told_24 (by decide) ?_
      exact W.iret (v := ((-1) : Int32)) hx hb hr (fun t ht hW => ⟨⟨_, ((upd f 0 (0 : Int32)), g, r, q), rfl, ⟨rfl, (Or.inr ⟨(fun z9 => by have z8 := z9.1.1; unfold okJob at z8; have z7 := z9.1.2; have szw := mi_w hI (x := j) (by omega) (by omega) rfl; have szh := mi_h hI (x := j) (by omega) (by omega) rfl; have hLn := rLn szw szh (way := way) (by omega); have lb9 := lines_lt szw szh way; rcases z9.2 with z6 | z6; exact b21 ⟨⟨z8, by omega⟩, by omega, by omega⟩; (unfold okL at z6; exact b21 ⟨⟨z8, by omega⟩, by omega, by omega⟩)), rfl⟩)⟩, by unfold mB; rw [ht]; exact hP⟩, hS.F ht⟩) hS.2.2 dX10_told_25
  · skip
    have d10 := c10
    rw [fa_eq] at d10
    refine lv_iconst (v := 0) hx hb dX10_told_13 (by decide) ?_
    refine lv_goto (tgt := 18) hx hb dX10_told_14 (by decide) ?_
    refine m_calli (As := [.int j, .int way, .int (0 : Int32)]) (rest := []) ⟨hx, hb, hml, hown, hts⟩ (c_X10_isLine l D cy mo a (upd f 0 (0 : Int32)) g r q j way (0 : Int32) hD hI) (cwV 3 hts gX10_told_X10_isLine rfl rfl rfl (by decide +kernel) ⟨Nat.le_of_ble_eq_true rfl, Nat.le_of_ble_eq_true rfl⟩) hK hP rfl hl.1 rfl (Nat.le_of_ble_eq_true rfl) dX10_told_18 ⟨Nat.le_of_ble_eq_true rfl, Nat.le_of_ble_eq_true rfl⟩ hS (fun r18 u H locs q18 hP hS => ?_)
    obtain ⟨rfl, q18⟩ := q18
    have hP : va_P D vwCl (WM cy mo a (upd f 0 (0 : Int32)) g r q) H := hP
    have q18 : Bo r18 (((0 ≤ j.toInt ∧ j.toInt < ((f 1)).toInt) ∧ 0 ≤ way.toInt ∧ way.toInt ≤ 3) ∧ 0 ≤ (0 : Int32).toInt ∧ (0 : Int32).toInt < (r_lines ((r 3) j.toNatClampNeg) ((r 4) j.toNatClampNeg) way).toInt) := q18
    refine lv_if_ne (tgt := 26) hx hb dX10_told_21 (by decide) (fun c21 => ?_) (fun c21 => ?_)
    · skip
      have b21 := bo_t q18 c21
      have szw := mi_w hI (x := j) (by omega) (by omega) rfl
      have szh := mi_h hI (x := j) (by omega) (by omega) rfl
      have hLn := rLn szw szh (way := way) (by omega)
      have cj9 := m_cl (x := j) (by omega)
      have cw9 := m_cl (x := way) (by omega)
      
      refine lv_iload_n hx hb dX10_told_26 rfl (lv_at hl 3 rfl) ?_
      refine lv_iconst (v := (-1)) hx hb dX10_told_27 (by decide) ?_
      refine lv_icmp_ne (tgt := 48) hx hb dX10_told_28 (by decide) (fun c28 => ?_) (fun c28 => ?_)
      · first | exact absurd c28 c10 | exact absurd c10 c28
      · skip
        have d28 := c28
        rw [fa_eq] at d28
        refine lv_aload_n hx hb dX10_told_31 rfl (lv_at hl 0 rfl) ?_
        refine m_get (v := .ref (a 3)) hx hb hts hin hown hK hP 3 (by decide) rfl (hts (.fieldLink RX10 13 "ShadowBenchModel" "wide" "[I") (by decide +kernel)) rfl dX10_told_32 ?_
        refine lv_iload_n hx hb dX10_told_35 rfl (lv_at hl 1 rfl) ?_
        refine m_iald (w := (r 3)) hx hb hK hP 2 rfl (vp_in_iff.mpr ⟨by omega, by omega⟩) dX10_told_36 ?_
        refine lv_topi (fun v36 e36 => ?_)
        have i36 : v36.toInt = ((r 3) j.toNatClampNeg).toInt := congrArg Int32.toInt e36
        have w36 := mi_w hI (x := j) (by omega) (by omega) e36
        refine lv_aload_n hx hb dX10_told_37 rfl (lv_at hl 0 rfl) ?_
        refine m_get (v := .ref (a 4)) hx hb hts hin hown hK hP 4 (by decide) rfl (hts (.fieldLink RX10 16 "ShadowBenchModel" "high" "[I") (by decide +kernel)) rfl dX10_told_38 ?_
        refine lv_iload_n hx hb dX10_told_41 rfl (lv_at hl 1 rfl) ?_
        refine m_iald (w := (r 4)) hx hb hK hP 3 rfl (vp_in_iff.mpr ⟨by omega, by omega⟩) dX10_told_42 ?_
        refine lv_topi (fun v42 e42 => ?_)
        have i42 : v42.toInt = ((r 4) j.toNatClampNeg).toInt := congrArg Int32.toInt e42
        have w42 := mi_h hI (x := j) (by omega) (by omega) e42
        refine lv_iload_n hx hb dX10_told_43 rfl (lv_at hl 2 rfl) ?_
        refine m_pu (As := [.int v36, .int v42, .int way]) (rest := []) ⟨hx, hb, hml, hown, hts⟩ (c_X10_linesOf l v36 v42 way ) (va_cwS 3 hts gX10_told_X10_linesOf rfl rfl rfl (by decide +kernel) ⟨Nat.le_of_ble_eq_true rfl, Nat.le_of_ble_eq_true rfl⟩) hP rfl hl.1 rfl (Nat.le_of_ble_eq_true rfl) dX10_told_44 ⟨Nat.le_of_ble_eq_true rfl, Nat.le_of_ble_eq_true rfl⟩ hS (fun r44 H locs q44 hP hS => ?_)
        have i44 : r44.toInt = (r_lines v36 v42 way).toInt := congrArg Int32.toInt q44
        exact W.iret (v := r44) hx hb hr (fun t ht hW => ⟨⟨_, ((upd f 0 (0 : Int32)), g, r, q), rfl, ⟨rfl, (Or.inl ⟨⟨⟨(by unfold okJob; omega), by omega⟩, Or.inl (by omega)⟩, (by rw [if_pos (by omega), q44, e36, e42]; exact hLn)⟩)⟩, by unfold mB; rw [ht]; exact hP⟩, hS.F ht⟩) hS.2.2 dX10_told_47
    · skip
      have b21 := bo_f q18 c21
      refine lv_iconst (v := (-1)) hx hb dX10_told_24 (by decide) ?_
      exact W.iret (v := ((-1) : Int32)) hx hb hr (fun t ht hW => ⟨⟨_, ((upd f 0 (0 : Int32)), g, r, q), rfl, ⟨rfl, (Or.inr ⟨(fun z9 => by have z8 := z9.1.1; unfold okJob at z8; have z7 := z9.1.2; have szw := mi_w hI (x := j) (by omega) (by omega) rfl; have szh := mi_h hI (x := j) (by omega) (by omega) rfl; have hLn := rLn szw szh (way := way) (by omega); have lb9 := lines_lt szw szh way; rcases z9.2 with z6 | z6; exact b21 ⟨⟨z8, by omega⟩, by omega, by omega⟩; (unfold okL at z6; exact b21 ⟨⟨z8, by omega⟩, by omega, by omega⟩)), rfl⟩)⟩, by unfold mB; rw [ht]; exact hP⟩, hS.F ht⟩) hS.2.2 dX10_told_25

theorem cX.trF {ch : Nat → Bool} {G G1 : cG} {w w1 w2 : va_W} {P : Nat → Prop} (h : cX none ch G w G1 w1) (hP : ∀ b, P b → ∀ e, ¬ cIn w b e) (hF : cF P w1 w2) : cX none ch G w G1 w2 := ⟨h.1, fun a e hn hi => hF a e (fun z => hP a z e hi) (h.2.1 a e hn hi), h.2.2⟩
theorem w3sh0 {cy : Nat → ClassId} {A : Nat → Prop} {G : cG} {ws : va_W} {x k n b s : Nat} {t : Int32} {o y : Int64} {ms : List Value} (hD : va_D A ws) (hT : cT cy G ws) (hG : G x = some (3, k, n)) (hM : cIn ws x (.inr (k, .ref b :: .ref s :: .int t :: .long o :: .long y :: ms))) : ∃ w h, G b = some (2, w, h) ∧ G s = some (14, 44, 0) ∧ cJk G k n w h ms := by
  obtain ⟨_, hi, b', s', w', h', t', x', y', ms', rfl, h1, h2, h3⟩ := hT _ _ hG
  have z := cIn.eq hD hM hi
  simp only [Sum.inr.injEq, Prod.mk.injEq, List.cons.injEq, Value.int.injEq, Value.ref.injEq, Value.long.injEq, true_and] at z
  obtain ⟨e1, e2, -, -, -, e6⟩ := z
  rw [e1, e2, e6]
  exact ⟨w', h', h1, h2, h3⟩
section CAR38
variable {p : Program} {l : Launch} {e : Env} {R : Room} {s : State} {m : MethodId} {args : Array Value} {below : List Frame} {meth : Method} {c : Code} {H : Heap} {locs : List Loc} {cells slots : Nat} {Q : State → Prop}
variable {cc : ByteArray} {pc : Nat} {ls : Array Slot} {rest : List Value} {D : va_G} {cy : Nat → ClassId} {A : Nat → Prop} {ws : va_W} {G : cG} {H0 : Heap}
theorem t_newiK (hx : p.tables.exec = Jvm.exec) (hb : c.code = cc) (harr : (Cond.arrayClass .int).before args s = true) (hK : va_K D vwCl (cTy cy) s) (hP : va_P D vwCl ws H) (hD : va_D A ws) (hS : va_S A H0 H locs) (hA : ∀ q, H0.size ≤ q → A q) (hT : cT cy G ws) {kd9 : Nat} (hk9 : kd9 = 0 ∨ kd9 = 14 ∨ kd9 = 20 ∨ kd9 = 21 ∨ kd9 = 22 ∨ kd9 = 23) (B : Nat) {n : Int32} {N : Nat} (hn : ¬ n < 0) (hN : n.toNatClampNeg = N) (hB : N ≤ B) (hB2 : B ≤ 100000) (hcells : cells + 1 ≤ R.cells) (hslots : slots + B ≤ R.slots) (hdg : decode cc pc = .ok (.newarray .int, 2))
    (kk : ∀ (q : Nat) (H1 : Heap) (ws1 : va_W) (G1 : cG), G1 q = some (kd9, N, 0) → cIn ws1 q (.inl (cy 0, N, .inl (fun _ => 0))) → G q = none → (∀ e, ¬ cIn ws q e) → (∀ q0 ch, cX q0 ch G ws G1 ws1) → (∀ a e, cIn ws a e → cIn ws1 a e) → (∀ a, a ≠ q → G1 a = G a) → va_P D vwCl ws1 H1 → va_D A ws1 → cT cy G1 ws1 → va_S A H0 H1 locs → W p l e R s m args below meth c H1 locs (cells + 1) (slots + B) Q (F0 m (pc + 2) ls (.ref q :: rest))) : W p l e R s m args below meth c H locs cells slots Q (F0 m pc ls (.int n :: rest)) := by
  refine va_newa (atype := .int) (ty := .int) (a0 := (N, .inl (fun _ => 0))) hx hb harr rfl hK hP hD hS hA (fun cA => by rw [vp_cell_i] <;> rfl) hn hN (by have : componentBytes .int = 4 := rfl; rw [this]; omega) hcells (by omega) hdg (fun q cA H1 hK1 hP1 hD1 hS1 => ?_)
  have e1 : cA = cy 0 := cy_int (i := 0) (j := 6) hK hK1 rfl rfl (Or.inl rfl)
  subst e1
  have hg : G q = none := cG.none hT hD1
  have hni : ∀ e, ¬ cIn ws q e := c_fresh hD1
  refine W.widen (k := cells + 1) (n := slots + B) (Nat.le_refl _) (by omega) (kk q H1 _ (va_up G q (some (kd9, N, 0))) (by simp [va_up]) cIn.new hg hni (fun q0 ch => ⟨cE.add hg, fun a e _ hi => hi.add, fun a t ht => ?_⟩) (fun a e hi => hi.add) (fun a ha => by simp [va_up, ha]) hP1 hD1 (hT.add hg (cIo hk9)) hS1)
  by_cases ha : a = q
  · subst ha; exact Or.inr (Or.inr hni)
  · exact Or.inl (by simpa [va_up, ha] using ht)
end CAR38
set_option maxHeartbeats 4000000 in
set_option maxRecDepth 100000 in
theorem c_X3_init_w (l : Launch) (D : va_G) (cy : Nat → ClassId) (A : Nat → Prop) (G : cG) (ws : va_W) (o : Nat) (b : Nat) {kc : Nat} {ms : List Value} {w h : Nat} (hD : va_D A ws) (hT : cT cy G ws) (hO_o : G o = none) (hM_o : cIn ws o (.inr (kc, .null :: .null :: .int 0 :: .long 0 :: .long 0 :: ms))) (hG_b : G b = some (2, w, h)) (hKc_o : cKc kc) : Cv l D cy A yX3_init wsX3_init ({ frames := 2, cells := 1, slots := 44, locals := 40 }) 1 44 ws [.ref o, .ref b] (fun u => cX (some o) (chs []) G ws u.1 u.2 ∧ u.1 o = none ∧ ∃ a, u.1 a = some (14, 44, 0) ∧ (∀ e, ¬ cIn ws a e) ∧ cIn u.2 a (.inl (cy 0, 44, .inl (fun _ => 0))) ∧ cIn u.2 o (.inr (kc, .ref b :: .ref a :: .int 3 :: .long 0 :: .long 0 :: ms))) := by
  refine Met.ofW (cc := cX3_init) (maxL := 2) (ret := none) (by decide) rfl ?_
  intro p e s m args below meth c s₁ B hml hv
  obtain ⟨rfl, hP, hK, hA, hV⟩ := hv
  have hx := B.exec
  have hb := B.bytes
  have hr := B.returns
  have hts := atoms_spec (ws := wsX3_init) B.pre
  have hown : s.vm.findClass RX3 = some m.cls := findClass_of_methodNamed B.named
  have hlocks := B.notSynchronized
  have hS : va_S A s.heap s.heap [] := va_S.rf
  have hinJ : ∀ w ∈ wsX10 ++ wsX30 ++ wsX40 ++ wsX50, w ∈ wsX3_init := by decide +kernel
  have hin2 : meth.name = "<init>" := (name_of_methodNamed B.named B.method).1
  have hX : cX (some o) (chs []) G ws G ws := cX.rf
  have hM0_o := hM_o
  have hl := lv_entry ([.ref o, .ref b]) (n := 2) (Nat.le_of_ble_eq_true rfl)
  rw [lg_entry_eq]
  generalize (lg_sl ([.ref o, .ref b]) ++ List.replicate (2 - (lg_sl ([.ref o, .ref b])).length) Slot.unset).toArray = ls at hl ⊢
  have hl : lv_has ls 2 [(0, .ref o), (1, .ref b)] := hl
  have k_0 : (0 : Int32).toInt = 0 := by decide
  have k_3 : (3 : Int32).toInt = 3 := by decide
  have k_44 : (44 : Int32).toInt = 44 := by decide
  have k_0L : (0 : Int64).toInt = 0 := by decide
  refine lv_aload_n hx hb dX3_init_0 rfl (lv_at hl 0 rfl) ?_
  refine t_callv (va_runIN (g := F0 m 1 ls ([.ref o])) (As := []) (rest := []) (b := o) ⟨hx, hb, hml, hown, hts⟩ (c_X2_init l D cy A G ws o hD hT ) ⟨va_cnB 0 hts gX3_init_X2_init_n3 rfl rfl rfl hV.1.2.1 (hts (.initialized RX2) (by decide +kernel)) (by decide +kernel) ⟨Nat.le_of_ble_eq_true rfl, Nat.le_of_ble_eq_true rfl⟩, rfl, hts (.instanceMethod yX2_init) (by decide +kernel)⟩ (c_preS hP hK hA hS hV) rfl rfl hl.1 rfl (lv_room (Nat.le_of_ble_eq_true rfl)) dX3_init_1 ⟨Nat.le_of_ble_eq_true rfl, Nat.le_of_ble_eq_true rfl⟩) hS (fun u H locs q1 hP9 hD9 hT9 hS => ?_)
  obtain ⟨rfl, q1⟩ := q1
  have hP : va_P D vwCl ws H := hP9
  refine lv_aload_n hx hb dX3_init_4 rfl (lv_at hl 0 rfl) ?_
  refine lv_bipush (v := 44) hx hb dX3_init_5 (by decide) ?_
  refine t_newiK hx hb (hts (.arrayClass .int) (by decide +kernel)) hK hP hD hS hA hT (kd9 := 14) (Or.inr (Or.inl rfl)) 44 (N := 44) (by decide) rfl (by omega) (by decide) (Nat.le_of_ble_eq_true rfl) (Nat.le_of_ble_eq_true rfl) dX3_init_7 (fun q7 H w7 G7 hG_q7 hMn7 hz7 hF7 hX7 hk7 hg7 hP hD hT hS => ?_)
  have hN_q7 := hX.new1 hM_o hz7 hF7
  have hO_o := (hg7 o (fun z => hF7 _ (z ▸ hM_o))).trans hO_o
  have hM_o := hk7 _ _ hM_o
  have hG_b := (hX7 none (chs [])).1 _ _ hG_b
  have hX := hX.tr (hX7 _ _)
  have hM_q7 := hMn7
  refine t_putFJ (v := .ref q7) hx hb hts hinJ hown hK hP hD hS hKc_o hM_o 1 (by decide) (hts (.fieldLink RX3 11 "ShadowBench$Job" "sums" "[I") (by decide +kernel)) (fun _ h9 => h9) rfl hin2 rfl rfl rfl (Nat.le_of_ble_eq_true rfl) dX3_init_9 (fun H locs w9 hU9 hP hD hS => ?_)
  have hM_q7 := hU9.2 _ _ (Ne.symm (cne0 hO_o hG_q7)) hM_q7
  have hT := hT.up0 hU9 hO_o
  have hM_o : cIn w9 o (.inr (kc, .null :: .ref q7 :: .int 0 :: .long 0 :: .long 0 :: ms)) := hU9.1
  have hX := hX.tr (cX.up hU9 (Or.inl rfl))
  refine lv_aload_n hx hb dX3_init_12 rfl (lv_at hl 0 rfl) ?_
  refine lv_iconst (v := 3) hx hb dX3_init_13 (by decide) ?_
  refine t_putJ (v := .int (3 : Int32)) hx hb hts hinJ hown hK hP hD hS hKc_o hM_o 2 (by decide) (hts (.fieldLink RX3 17 "ShadowBench$Job" "toldWays" "I") (by decide +kernel)) (fun _ h9 => h9) rfl rfl rfl (Nat.le_of_ble_eq_true rfl) dX3_init_14 (fun H locs w14 hU14 hP hD hS => ?_)
  have hM_q7 := hU14.2 _ _ (Ne.symm (cne0 hO_o hG_q7)) hM_q7
  have hT := hT.up0 hU14 hO_o
  have hM_o : cIn w14 o (.inr (kc, .null :: .ref q7 :: .int (3 : Int32) :: .long 0 :: .long 0 :: ms)) := hU14.1
  have hX := hX.tr (cX.up hU14 (Or.inl rfl))
  refine lv_aload_n hx hb dX3_init_17 rfl (lv_at hl 0 rfl) ?_
  refine lv_lconst (v := 0) hx hb dX3_init_18 (by decide) ?_
  refine t_putJ (v := .long (0 : Int64)) hx hb hts hinJ hown hK hP hD hS hKc_o hM_o 3 (by decide) (hts (.fieldLink RX3 21 "ShadowBench$Job" "heldOnes" "J") (by decide +kernel)) (fun _ h9 => h9) rfl rfl rfl (Nat.le_of_ble_eq_true rfl) dX3_init_19 (fun H locs w19 hU19 hP hD hS => ?_)
  have hM_q7 := hU19.2 _ _ (Ne.symm (cne0 hO_o hG_q7)) hM_q7
  have hT := hT.up0 hU19 hO_o
  have hM_o : cIn w19 o (.inr (kc, .null :: .ref q7 :: .int (3 : Int32) :: .long (0 : Int64) :: .long 0 :: ms)) := hU19.1
  have hX := hX.tr (cX.up hU19 (Or.inl rfl))
  refine lv_aload_n hx hb dX3_init_22 rfl (lv_at hl 0 rfl) ?_
  refine lv_lconst (v := 0) hx hb dX3_init_23 (by decide) ?_
  refine t_putJ (v := .long (0 : Int64)) hx hb hts hinJ hown hK hP hD hS hKc_o hM_o 4 (by decide) (hts (.fieldLink RX3 25 "ShadowBench$Job" "heldNoughts" "J") (by decide +kernel)) (fun _ h9 => h9) rfl rfl rfl (Nat.le_of_ble_eq_true rfl) dX3_init_24 (fun H locs w24 hU24 hP hD hS => ?_)
  have hM_q7 := hU24.2 _ _ (Ne.symm (cne0 hO_o hG_q7)) hM_q7
  have hT := hT.up0 hU24 hO_o
  have hM_o : cIn w24 o (.inr (kc, .null :: .ref q7 :: .int (3 : Int32) :: .long (0 : Int64) :: .long (0 : Int64) :: ms)) := hU24.1
  have hX := hX.tr (cX.up hU24 (Or.inl rfl))
  refine lv_aload_n hx hb dX3_init_27 rfl (lv_at hl 0 rfl) ?_
  refine lv_aload_n hx hb dX3_init_28 rfl (lv_at hl 1 rfl) ?_
  refine t_putFJ (v := .ref b) hx hb hts hinJ hown hK hP hD hS hKc_o hM_o 0 (by decide) (hts (.fieldLink RX3 28 "ShadowBench$Job" "board" "LShadowBench$Board;") (by decide +kernel)) (fun _ h9 => h9) rfl hin2 rfl rfl rfl (Nat.le_of_ble_eq_true rfl) dX3_init_29 (fun H locs w29 hU29 hP hD hS => ?_)
  have hM_q7 := hU29.2 _ _ (Ne.symm (cne0 hO_o hG_q7)) hM_q7
  have hT := hT.up0 hU29 hO_o
  have hM_o : cIn w29 o (.inr (kc, .ref b :: .ref q7 :: .int (3 : Int32) :: .long (0 : Int64) :: .long (0 : Int64) :: ms)) := hU29.1
  have hX := hX.tr (cX.up hU29 (Or.inl rfl))
  refine W.widen (k := 1) (n := 44) (Nat.le_of_ble_eq_true rfl) (Nat.le_of_ble_eq_true rfl) ?_
  exact W.vret hx hb hr (fun t ht hW => ⟨⟨(G7, w29), rfl, ⟨hX, hO_o, _, hG_q7, hN_q7, hM_q7, hM_o⟩, by show va_P D vwCl w29 t.heap; rw [ht]; exact hP, hD, hT⟩, hS.F ht⟩) hS.2.2 dX3_init_32
set_option maxHeartbeats 4000000 in
set_option maxRecDepth 100000 in
theorem c_X4_init_w (l : Launch) (D : va_G) (cy : Nat → ClassId) (A : Nat → Prop) (G : cG) (ws : va_W) (o : Nat) (b : Nat) {kc : Nat} {ms : List Value} {w h : Nat} (hD : va_D A ws) (hT : cT cy G ws) (hO_o : G o = none) (hM_o : cIn ws o (.inr (kc, .null :: .null :: .int 0 :: .long 0 :: .long 0 :: ms))) (hG_b : G b = some (2, w, h)) (hKc_o : cKc kc) : Cv l D cy A yX4_init wsX4_init ({ frames := 3, cells := 1, slots := 44, locals := 61 }) 1 44 ws [.ref o, .ref b] (fun u => cX (some o) (chs []) G ws u.1 u.2 ∧ u.1 o = none ∧ ∃ a, u.1 a = some (14, 44, 0) ∧ (∀ e, ¬ cIn ws a e) ∧ cIn u.2 a (.inl (cy 0, 44, .inl (fun _ => 0))) ∧ cIn u.2 o (.inr (kc, .ref b :: .ref a :: .int 3 :: .long 0 :: .long 0 :: ms))) := by
  refine Met.ofW (cc := cX4_init) (maxL := 2) (ret := none) (by decide) rfl ?_
  intro p e s m args below meth c s₁ B hml hv
  obtain ⟨rfl, hP, hK, hA, hV⟩ := hv
  have hx := B.exec
  have hb := B.bytes
  have hr := B.returns
  have hts := atoms_spec (ws := wsX4_init) B.pre
  have hown : s.vm.findClass RX4 = some m.cls := findClass_of_methodNamed B.named
  have hlocks := B.notSynchronized
  have hS : va_S A s.heap s.heap [] := va_S.rf
  have hin2 : meth.name = "<init>" := (name_of_methodNamed B.named B.method).1
  have hX : cX (some o) (chs []) G ws G ws := cX.rf
  have hM0_o := hM_o
  have hl := lv_entry ([.ref o, .ref b]) (n := 2) (Nat.le_of_ble_eq_true rfl)
  rw [lg_entry_eq]
  generalize (lg_sl ([.ref o, .ref b]) ++ List.replicate (2 - (lg_sl ([.ref o, .ref b])).length) Slot.unset).toArray = ls at hl ⊢
  have hl : lv_has ls 2 [(0, .ref o), (1, .ref b)] := hl
  have k_0 : (0 : Int32).toInt = 0 := by decide
  refine lv_aload_n hx hb dX4_init_0 rfl (lv_at hl 0 rfl) ?_
  refine lv_aload_n hx hb dX4_init_1 rfl (lv_at hl 1 rfl) ?_
  refine t_callv (va_runI (g := F0 m 2 ls ([.ref b, .ref o])) (As := [.ref b]) (rest := []) (b := o) ⟨hx, hb, hml, hown, hts⟩ (c_X3_init_w l D cy A G ws o b hD hT hO_o hM_o hG_b hKc_o) (cwI 1 hts gX4_init_X3_init rfl rfl rfl (hts (.initialized RX3) (by decide +kernel)) (hts (.methodLink RX4 1 yX3_init) (by decide +kernel)) (hts (.instanceMethod yX3_init) (by decide +kernel)) rfl (by decide +kernel) ⟨Nat.le_of_ble_eq_true rfl, Nat.le_of_ble_eq_true rfl⟩) (c_preS hP hK hA hS hV) rfl rfl hl.1 rfl (lv_room (Nat.le_of_ble_eq_true rfl)) dX4_init_2 ⟨Nat.le_of_ble_eq_true rfl, Nat.le_of_ble_eq_true rfl⟩) hS (fun u H locs q2 hP9 hD9 hT9 hS => ?_)
  obtain ⟨G2, w2⟩ := u
  obtain ⟨hX9, q2⟩ := q2
  have hX9 : cX (some o) (chs []) G ws G2 w2 := hX9
  obtain ⟨hOx2, a2, hG_a2, hN9_a2, hMx_a2, hMx2⟩ := q2
  have hN_a2 := hN9_a2
  have hP : va_P D vwCl w2 H := hP9
  have hD : va_D A w2 := hD9
  have hT : cT cy G2 w2 := hT9
  have hG_b := hX9.1 _ _ hG_b
  have hO_o := hOx2
  have hM_a2 := hMx_a2
  have hM_o : cIn w2 o (.inr (kc, .ref b :: .ref a2 :: .int 3 :: .long 0 :: .long 0 :: ms)) := hMx2
  have hX := hX.tr hX9
  refine W.widen (k := 1) (n := 44) (Nat.le_of_ble_eq_true rfl) (Nat.le_of_ble_eq_true rfl) ?_
  exact W.vret hx hb hr (fun t ht hW => ⟨⟨(G2, w2), rfl, ⟨hX, hO_o, _, hG_a2, hN_a2, hM_a2, hM_o⟩, by show va_P D vwCl w2 t.heap; rw [ht]; exact hP, hD, hT⟩, hS.F ht⟩) hS.2.2 dX4_init_5
set_option maxHeartbeats 4000000 in
set_option maxRecDepth 100000 in
theorem c_X1_init_w (l : Launch) (D : va_G) (cy : Nat → ClassId) (A : Nat → Prop) (G : cG) (ws : va_W) (o : Nat) (b : Nat) {kc : Nat} {ms : List Value} {w h : Nat} (hD : va_D A ws) (hT : cT cy G ws) (hO_o : G o = none) (hM_o : cIn ws o (.inr (kc, .null :: .null :: .int 0 :: .long 0 :: .long 0 :: ms))) (hG_b : G b = some (2, w, h)) (hKc_o : cKc kc) : Cv l D cy A yX1_init wsX1_init ({ frames := 4, cells := 1, slots := 44, locals := 82 }) 1 44 ws [.ref o, .ref b] (fun u => cX (some o) (chs []) G ws u.1 u.2 ∧ u.1 o = none ∧ ∃ a, u.1 a = some (14, 44, 0) ∧ (∀ e, ¬ cIn ws a e) ∧ cIn u.2 a (.inl (cy 0, 44, .inl (fun _ => 0))) ∧ cIn u.2 o (.inr (kc, .ref b :: .ref a :: .int 3 :: .long 0 :: .long 0 :: ms))) := by
  refine Met.ofW (cc := cX1_init) (maxL := 2) (ret := none) (by decide) rfl ?_
  intro p e s m args below meth c s₁ B hml hv
  obtain ⟨rfl, hP, hK, hA, hV⟩ := hv
  have hx := B.exec
  have hb := B.bytes
  have hr := B.returns
  have hts := atoms_spec (ws := wsX1_init) B.pre
  have hown : s.vm.findClass RX1 = some m.cls := findClass_of_methodNamed B.named
  have hlocks := B.notSynchronized
  have hS : va_S A s.heap s.heap [] := va_S.rf
  have hin2 : meth.name = "<init>" := (name_of_methodNamed B.named B.method).1
  have hX : cX (some o) (chs []) G ws G ws := cX.rf
  have hM0_o := hM_o
  have hl := lv_entry ([.ref o, .ref b]) (n := 2) (Nat.le_of_ble_eq_true rfl)
  rw [lg_entry_eq]
  generalize (lg_sl ([.ref o, .ref b]) ++ List.replicate (2 - (lg_sl ([.ref o, .ref b])).length) Slot.unset).toArray = ls at hl ⊢
  have hl : lv_has ls 2 [(0, .ref o), (1, .ref b)] := hl
  have k_0 : (0 : Int32).toInt = 0 := by decide
  refine lv_aload_n hx hb dX1_init_0 rfl (lv_at hl 0 rfl) ?_
  refine lv_aload_n hx hb dX1_init_1 rfl (lv_at hl 1 rfl) ?_
  refine t_callv (va_runI (g := F0 m 2 ls ([.ref b, .ref o])) (As := [.ref b]) (rest := []) (b := o) ⟨hx, hb, hml, hown, hts⟩ (c_X4_init_w l D cy A G ws o b hD hT hO_o hM_o hG_b hKc_o) (cwI 1 hts gX1_init_X4_init rfl rfl rfl (hts (.initialized RX4) (by decide +kernel)) (hts (.methodLink RX1 1 yX4_init) (by decide +kernel)) (hts (.instanceMethod yX4_init) (by decide +kernel)) rfl (by decide +kernel) ⟨Nat.le_of_ble_eq_true rfl, Nat.le_of_ble_eq_true rfl⟩) (c_preS hP hK hA hS hV) rfl rfl hl.1 rfl (lv_room (Nat.le_of_ble_eq_true rfl)) dX1_init_2 ⟨Nat.le_of_ble_eq_true rfl, Nat.le_of_ble_eq_true rfl⟩) hS (fun u H locs q2 hP9 hD9 hT9 hS => ?_)
  obtain ⟨G2, w2⟩ := u
  obtain ⟨hX9, q2⟩ := q2
  have hX9 : cX (some o) (chs []) G ws G2 w2 := hX9
  obtain ⟨hOx2, a2, hG_a2, hN9_a2, hMx_a2, hMx2⟩ := q2
  have hN_a2 := hN9_a2
  have hP : va_P D vwCl w2 H := hP9
  have hD : va_D A w2 := hD9
  have hT : cT cy G2 w2 := hT9
  have hG_b := hX9.1 _ _ hG_b
  have hO_o := hOx2
  have hM_a2 := hMx_a2
  have hM_o : cIn w2 o (.inr (kc, .ref b :: .ref a2 :: .int 3 :: .long 0 :: .long 0 :: ms)) := hMx2
  have hX := hX.tr hX9
  refine W.widen (k := 1) (n := 44) (Nat.le_of_ble_eq_true rfl) (Nat.le_of_ble_eq_true rfl) ?_
  exact W.vret hx hb hr (fun t ht hW => ⟨⟨(G2, w2), rfl, ⟨hX, hO_o, _, hG_a2, hN_a2, hM_a2, hM_o⟩, by show va_P D vwCl w2 t.heap; rw [ht]; exact hP, hD, hT⟩, hS.F ht⟩) hS.2.2 dX1_init_5
set_option maxHeartbeats 4000000 in
set_option maxRecDepth 100000 in
theorem c_X5_init_w (l : Launch) (D : va_G) (cy : Nat → ClassId) (A : Nat → Prop) (G : cG) (ws : va_W) (o : Nat) (b : Nat) {w h : Nat} (hD : va_D A ws) (hT : cT cy G ws) (hO_o : G o = none) (hM_o : cIn ws o (.inr (4, [.null, .null, .int 0, .long 0, .long 0, .null]))) (hG_b : G b = some (2, w, h))  : Cv l D cy A yX5_init wsX5_init ({ frames := 3, cells := 2, slots := 80, locals := 61 }) 2 80 ws [.ref o, .ref b] (fun u => cX (some o) (chs []) G ws u.1 u.2 ∧ u.1 o = none ∧ ∃ a, u.1 a = some (14, 44, 0) ∧ (∀ e, ¬ cIn ws a e) ∧ cIn u.2 a (.inl (cy 0, 44, .inl (fun _ => 0))) ∧ ∃ c, u.1 c = some (14, w * h, 0) ∧ (∀ e, ¬ cIn ws c e) ∧ c ≠ a ∧ cIn u.2 c (.inl (cy 0, w * h, .inl (fun _ => 0))) ∧ cIn u.2 o (.inr (4, [.ref b, .ref a, .int 3, .long 0, .long 0, .ref c]))) := by
  refine Met.ofW (cc := cX5_init) (maxL := 2) (ret := none) (by decide) rfl ?_
  intro p e s m args below meth c s₁ B hml hv
  obtain ⟨rfl, hP, hK, hA, hV⟩ := hv
  have hx := B.exec
  have hb := B.bytes
  have hr := B.returns
  have hts := atoms_spec (ws := wsX5_init) B.pre
  have hown : s.vm.findClass RX5 = some m.cls := findClass_of_methodNamed B.named
  have hlocks := B.notSynchronized
  have hS : va_S A s.heap s.heap [] := va_S.rf
  have hin2 : meth.name = "<init>" := (name_of_methodNamed B.named B.method).1
  have hX : cX (some o) (chs []) G ws G ws := cX.rf
  have hM0_o := hM_o
  have hl := lv_entry ([.ref o, .ref b]) (n := 2) (Nat.le_of_ble_eq_true rfl)
  rw [lg_entry_eq]
  generalize (lg_sl ([.ref o, .ref b]) ++ List.replicate (2 - (lg_sl ([.ref o, .ref b])).length) Slot.unset).toArray = ls at hl ⊢
  have hl : lv_has ls 2 [(0, .ref o), (1, .ref b)] := hl
  have k_0 : (0 : Int32).toInt = 0 := by decide
  refine lv_aload_n hx hb dX5_init_0 rfl (lv_at hl 0 rfl) ?_
  refine lv_aload_n hx hb dX5_init_1 rfl (lv_at hl 1 rfl) ?_
  refine t_callv (va_runI (g := F0 m 2 ls ([.ref b, .ref o])) (As := [.ref b]) (rest := []) (b := o) ⟨hx, hb, hml, hown, hts⟩ (c_X3_init_w l D cy A G ws o b hD hT hO_o hM_o hG_b (by unfold cKc; omega)) (cwI 1 hts gX5_init_X3_init rfl rfl rfl (hts (.initialized RX3) (by decide +kernel)) (hts (.methodLink RX5 1 yX3_init) (by decide +kernel)) (hts (.instanceMethod yX3_init) (by decide +kernel)) rfl (by decide +kernel) ⟨Nat.le_of_ble_eq_true rfl, Nat.le_of_ble_eq_true rfl⟩) (c_preS hP hK hA hS hV) rfl rfl hl.1 rfl (lv_room (Nat.le_of_ble_eq_true rfl)) dX5_init_2 ⟨Nat.le_of_ble_eq_true rfl, Nat.le_of_ble_eq_true rfl⟩) hS (fun u H locs q2 hP9 hD9 hT9 hS => ?_)
  obtain ⟨G2, w2⟩ := u
  obtain ⟨hX9, q2⟩ := q2
  have hX9 : cX (some o) (chs []) G ws G2 w2 := hX9
  obtain ⟨hOx2, a2, hG_a2, hN9_a2, hMx_a2, hMx2⟩ := q2
  have hN_a2 := hN9_a2
  have hP : va_P D vwCl w2 H := hP9
  have hD : va_D A w2 := hD9
  have hT : cT cy G2 w2 := hT9
  have hG_b := hX9.1 _ _ hG_b
  have hO_o := hOx2
  have hM_a2 := hMx_a2
  have hM_o : cIn w2 o (.inr (4, [.ref b, .ref a2, .int 3, .long 0, .long 0, .null])) := hMx2
  have hX := hX.tr hX9
  refine lv_aload_n hx hb dX5_init_5 rfl (lv_at hl 0 rfl) ?_
  refine lv_aload_n hx hb dX5_init_6 rfl (lv_at hl 1 rfl) ?_
  obtain ⟨_, hM_b, hb_b, l_b, f_b, r_b, rfl, hG_l_b, hG_f_b, hG_r_b⟩ := hT _ _ hG_b
  refine t_get (v := .int (nI (w * h))) (C := RX0) (T := TX0) (N := 8) hx hb hts (by decide +kernel) hown hK hP hM_b rfl 2 (by decide) (hts (.fieldLink RX5 7 "ShadowBench$Board" "squares" "I") (by decide +kernel)) (fun _ h9 => h9) rfl dX5_init_7 ?_
  have m_wh_b := cb_mul hb_b
  have i_wh_b : (nI (w * h)).toInt = _ := nI_toInt (by omega)
  refine t_newiK hx hb (hts (.arrayClass .int) (by decide +kernel)) hK hP hD hS hA hT (kd9 := 14) (Or.inr (Or.inl rfl)) 36 (N := (w * h)) (by rw [fa_lt]; omega) (nI_clamp (by omega)) (by omega) (by decide) (Nat.le_of_ble_eq_true rfl) (Nat.le_of_ble_eq_true rfl) dX5_init_10 (fun q10 H w10 G10 hG_q10 hMn10 hz10 hF10 hX10 hk10 hg10 hP hD hT hS => ?_)
  have hN_q10 := hX.new1 hM_o hz10 hF10
  have hO_o := (hg10 o (fun z => hF10 _ (z ▸ hM_o))).trans hO_o
  have hM_a2 := hk10 _ _ hM_a2
  have hM_o := hk10 _ _ hM_o
  have hM_b := hk10 _ _ hM_b
  have hG_b := (hX10 none (chs [])).1 _ _ hG_b
  have hG_a2 := (hX10 none (chs [])).1 _ _ hG_a2
  have hG_l_b := (hX10 none (chs [])).1 _ _ hG_l_b
  have hG_f_b := (hX10 none (chs [])).1 _ _ hG_f_b
  have hG_r_b := (hX10 none (chs [])).1 _ _ hG_r_b
  have hX := hX.tr (hX10 _ _)
  have hM_q10 := hMn10
  have hM0_a := hMx_a2
  refine t_putF (v := .ref q10) (C := RX5) (T := TX5) (N := 6) (ty0 := tyX5) hx hb hts (by decide +kernel) tyX5_ok nmX5 hown hK hP hD hS hM_o rfl 5 (by decide) (hts (.fieldLink RX5 13 "ShadowBench$MarkedJob" "marks" "[I") (by decide +kernel)) (fun _ h9 => h9) rfl hin2 rfl rfl rfl (Nat.le_of_ble_eq_true rfl) dX5_init_12 (fun H locs w12 hU12 hP hD hS => ?_)
  have hM_a2 := hU12.2 _ _ (Ne.symm (cne0 hO_o hG_a2)) hM_a2
  have hM_b := hU12.2 _ _ (Ne.symm (cne0 hO_o hG_b)) hM_b
  have hM_q10 := hU12.2 _ _ (Ne.symm (cne0 hO_o hG_q10)) hM_q10
  have hT := hT.up0 hU12 hO_o
  have hM_o : cIn w12 o (.inr (4, [.ref b, .ref a2, .int 3, .long 0, .long 0, .ref q10])) := hU12.1
  have hX := hX.tr (cX.up hU12 (Or.inl rfl))
  refine W.widen (k := 2) (n := 80) (Nat.le_of_ble_eq_true rfl) (Nat.le_of_ble_eq_true rfl) ?_
  exact W.vret hx hb hr (fun t ht hW => ⟨⟨(G10, w12), rfl, ⟨hX, hO_o, _, hG_a2, hN_a2, hM_a2, _, hG_q10, hN_q10, (fun z9 => hF10 _ (by rw [z9]; exact hM0_a)), hM_q10, hM_o⟩, by show va_P D vwCl w12 t.heap; rw [ht]; exact hP, hD, hT⟩, hS.F ht⟩) hS.2.2 dX5_init_15
set_option maxHeartbeats 4000000 in
set_option maxRecDepth 100000 in
theorem c_X3_alike_w (l : Launch) (D : va_G) (cy : Nat → ClassId) (A : Nat → Prop) (G : cG) (ws : va_W) (o : Nat) (x1 : Nat) {kq nq k1 n1 b1 s1 : Nat} {t1 : Int32} {o1 y1 : Int64} {ms1 : List Value} (hD : va_D A ws) (hT : cT cy G ws) (hG_o : G o = some (3, kq, nq)) (hG_x1 : G x1 = some (3, k1, n1)) (hM_x1 : cIn ws x1 (.inr (k1, .ref b1 :: .ref s1 :: .int t1 :: .long o1 :: .long y1 :: ms1)))  : Ca l D cy A yX3_alike wsX3_alike ({ frames := 1, cells := 0, slots := 0, locals := 68 }) 0 0 ws [.ref o, .ref x1] (fun r0 u => ∃ w1, u = (G, w1) ∧ cF (fun b9 => b9 = x1 ∨ b9 = s1) ws w1 ∧ (r0 = some x1)) := by
  refine Met.ofW (cc := cX3_alike) (maxL := 2) (ret := (some (.object "ShadowBench$Job"))) (by decide) rfl ?_
  intro p e s m args below meth c s₁ B hml hv
  obtain ⟨rfl, hP, hK, hA, hV⟩ := hv
  have hx := B.exec
  have hb := B.bytes
  have hr := B.returns
  have hts := atoms_spec (ws := wsX3_alike) B.pre
  have hown : s.vm.findClass RX3 = some m.cls := findClass_of_methodNamed B.named
  have hlocks := B.notSynchronized
  have hS : va_S A s.heap s.heap [] := va_S.rf
  have hinJ : ∀ w ∈ wsX10 ++ wsX30 ++ wsX40 ++ wsX50, w ∈ wsX3_alike := by decide +kernel
  have hF : cF (fun b9 => b9 = x1 ∨ b9 = s1) ws ws := cF.rf
  have hl := lv_entry ([.ref o, .ref x1]) (n := 2) (Nat.le_of_ble_eq_true rfl)
  rw [lg_entry_eq]
  generalize (lg_sl ([.ref o, .ref x1]) ++ List.replicate (2 - (lg_sl ([.ref o, .ref x1])).length) Slot.unset).toArray = ls at hl ⊢
  have hl : lv_has ls 2 [(0, .ref o), (1, .ref x1)] := hl
  have k_0 : (0 : Int32).toInt = 0 := by decide
  obtain ⟨w1_, h1_, hG_b1, hG_s1, hJ_x1⟩ := w3sh0 hD hT hG_x1 hM_x1
  refine lv_aload_n hx hb dX3_alike_0 rfl (lv_at hl 0 rfl) ?_
  obtain ⟨_, hM_o, b_o, s_o, w_o, h_o, t_o, x_o, y_o, ms_o, rfl, hG_b_o, hG_s_o, hJ_o⟩ := hT _ _ hG_o
  refine t_getJ (v := .ref s_o) hx hb hts hinJ hown hK hP hJ_o.kc hM_o 1 (by decide) (hts (.fieldLink RX3 11 "ShadowBench$Job" "sums" "[I") (by decide +kernel)) (fun _ h9 => h9) rfl dX3_alike_1 ?_
  refine lv_iconst (v := 0) hx hb dX3_alike_4 (by decide) ?_
  refine lv_aload_n hx hb dX3_alike_5 rfl (lv_at hl 1 rfl) ?_
  refine t_getJ (v := .ref s1) hx hb hts hinJ hown hK hP hJ_x1.kc hM_x1 1 (by decide) (hts (.fieldLink RX3 11 "ShadowBench$Job" "sums" "[I") (by decide +kernel)) (fun _ h9 => h9) rfl dX3_alike_6 ?_
  refine lv_iconst (v := 0) hx hb dX3_alike_9 (by decide) ?_
  refine lv_aload_n hx hb dX3_alike_10 rfl (lv_at hl 0 rfl) ?_
  refine t_getJ (v := .ref s_o) hx hb hts hinJ hown hK hP hJ_o.kc hM_o 1 (by decide) (hts (.fieldLink RX3 11 "ShadowBench$Job" "sums" "[I") (by decide +kernel)) (fun _ h9 => h9) rfl dX3_alike_11 ?_
  refine t_alenI hx hb hK hP hT (Or.inr (Or.inl rfl)) hG_s_o dX3_alike_14 ?_
  have i14 : (nI 44).toInt = _ := nI_toInt (by omega)
  refine t_copyi hx hb (by rw [hml]; exact hl.1.symm) hown (hts (.methodLink RX3 90 arraycopyName) (by decide +kernel)) (hts (.native arraycopyName) (by decide +kernel)) (hts (.static arraycopyName) (by decide +kernel)) (hts (.initialized "java/lang/System") (by decide +kernel)) hK hP hD hS hT (Or.inr (Or.inl rfl)) (Or.inr (Or.inl rfl)) hG_s_o hG_s1 (by omega) (by omega) (by omega) (by omega) (by omega) (Nat.le_of_ble_eq_true rfl) (Nat.le_of_ble_eq_true rfl) dX3_alike_15 (fun H locs w15 hU15 hP hD hT hS => ?_)
  have hM_x1 := hU15 _ _ (cne hG_x1 hG_s1 (show (3 : Nat) ≠ 14 by decide)) hM_x1
  have hM_o := hU15 _ _ (cne hG_o hG_s1 (show (3 : Nat) ≠ 14 by decide)) hM_o
  have hF := hF.tr (hU15.wk (fun b9 z9 => (Or.inr (z9))))
  refine lv_aload_n hx hb dX3_alike_18 rfl (lv_at hl 1 rfl) ?_
  refine lv_aload_n hx hb dX3_alike_19 rfl (lv_at hl 0 rfl) ?_
  refine t_getJ (v := .int t_o) hx hb hts hinJ hown hK hP hJ_o.kc hM_o 2 (by decide) (hts (.fieldLink RX3 17 "ShadowBench$Job" "toldWays" "I") (by decide +kernel)) (fun _ h9 => h9) rfl dX3_alike_20 ?_
  refine t_putJ (v := .int t_o) hx hb hts hinJ hown hK hP hD hS hJ_x1.kc hM_x1 2 (by decide) (hts (.fieldLink RX3 17 "ShadowBench$Job" "toldWays" "I") (by decide +kernel)) (fun _ h9 => h9) rfl rfl rfl (Nat.le_of_ble_eq_true rfl) dX3_alike_23 (fun H locs w23 hU23 hP hD hS => ?_)
  have hT := hT.up hU23 hG_x1 ⟨_, _, _, _, _, _, _, _, rfl, hG_b1, hG_s1, hJ_x1⟩
  have hM_x1 : cIn w23 x1 (.inr (k1, .ref b1 :: .ref s1 :: .int t_o :: .long o1 :: .long y1 :: ms1)) := hU23.1
  have hF := hF.tr (cF.up hU23 (Or.inl rfl))
  refine lv_aload_n hx hb dX3_alike_26 rfl (lv_at hl 1 rfl) ?_
  refine lv_aload_n hx hb dX3_alike_27 rfl (lv_at hl 0 rfl) ?_
  obtain ⟨_, hM_o, bv1_o, sv1_o, wv1_o, hv1_o, tv1_o, xv1_o, yv1_o, msv1_o, rfl, hG_bv1_o, hG_sv1_o, hJ_o⟩ := hT _ _ hG_o
  refine t_getJ (v := .long xv1_o) hx hb hts hinJ hown hK hP hJ_o.kc hM_o 3 (by decide) (hts (.fieldLink RX3 21 "ShadowBench$Job" "heldOnes" "J") (by decide +kernel)) (fun _ h9 => h9) rfl dX3_alike_28 ?_
  refine t_putJ (v := .long xv1_o) hx hb hts hinJ hown hK hP hD hS hJ_x1.kc hM_x1 3 (by decide) (hts (.fieldLink RX3 21 "ShadowBench$Job" "heldOnes" "J") (by decide +kernel)) (fun _ h9 => h9) rfl rfl rfl (Nat.le_of_ble_eq_true rfl) dX3_alike_31 (fun H locs w31 hU31 hP hD hS => ?_)
  have hT := hT.up hU31 hG_x1 ⟨_, _, _, _, _, _, _, _, rfl, hG_b1, hG_s1, hJ_x1⟩
  have hM_x1 : cIn w31 x1 (.inr (k1, .ref b1 :: .ref s1 :: .int t_o :: .long xv1_o :: .long y1 :: ms1)) := hU31.1
  have hF := hF.tr (cF.up hU31 (Or.inl rfl))
  refine lv_aload_n hx hb dX3_alike_34 rfl (lv_at hl 1 rfl) ?_
  refine lv_aload_n hx hb dX3_alike_35 rfl (lv_at hl 0 rfl) ?_
  obtain ⟨_, hM_o, bv2_o, sv2_o, wv2_o, hv2_o, tv2_o, xv2_o, yv2_o, msv2_o, rfl, hG_bv2_o, hG_sv2_o, hJ_o⟩ := hT _ _ hG_o
  refine t_getJ (v := .long yv2_o) hx hb hts hinJ hown hK hP hJ_o.kc hM_o 4 (by decide) (hts (.fieldLink RX3 25 "ShadowBench$Job" "heldNoughts" "J") (by decide +kernel)) (fun _ h9 => h9) rfl dX3_alike_36 ?_
  refine t_putJ (v := .long yv2_o) hx hb hts hinJ hown hK hP hD hS hJ_x1.kc hM_x1 4 (by decide) (hts (.fieldLink RX3 25 "ShadowBench$Job" "heldNoughts" "J") (by decide +kernel)) (fun _ h9 => h9) rfl rfl rfl (Nat.le_of_ble_eq_true rfl) dX3_alike_39 (fun H locs w39 hU39 hP hD hS => ?_)
  have hT := hT.up hU39 hG_x1 ⟨_, _, _, _, _, _, _, _, rfl, hG_b1, hG_s1, hJ_x1⟩
  have hM_x1 : cIn w39 x1 (.inr (k1, .ref b1 :: .ref s1 :: .int t_o :: .long xv1_o :: .long yv2_o :: ms1)) := hU39.1
  have hF := hF.tr (cF.up hU39 (Or.inl rfl))
  refine lv_aload_n hx hb dX3_alike_42 rfl (lv_at hl 1 rfl) ?_
  exact W.aret (v := .ref x1) hx hb hr (Or.inl ⟨_, rfl⟩) (Or.inr ⟨_, rfl⟩) (fun t ht hW => ⟨⟨(some x1), (G, w39), rfl, ⟨w39, rfl, hF, rfl⟩, by show va_P D vwCl w39 t.heap; rw [ht]; exact hP, hD, hT⟩, hS.F ht⟩) hS.2.2 dX3_alike_43
set_option maxHeartbeats 4000000 in
set_option maxRecDepth 100000 in
theorem c_X3_asItIs_w (l : Launch) (D : va_G) (cy : Nat → ClassId) (A : Nat → Prop) (G : cG) (ws : va_W) (o : Nat) {nq : Nat} (hD : va_D A ws) (hT : cT cy G ws) (hG_o : G o = some (3, 2, nq))  : Ca l D cy A yX3_asItIs wsX3_asItIs ({ frames := 3, cells := 2, slots := 49, locals := 89 }) 2 49 ws [.ref o] (fun r0 u => cX none (chs []) G ws u.1 u.2 ∧ (∃ x k n, r0 = some x ∧ u.1 x = some (3, k, n))) := by
  refine Met.ofW (cc := cX3_asItIs) (maxL := 1) (ret := (some (.object "ShadowBench$Job"))) (by decide) rfl ?_
  intro p e s m args below meth c s₁ B hml hv
  obtain ⟨rfl, hP, hK, hA, hV⟩ := hv
  have hx := B.exec
  have hb := B.bytes
  have hr := B.returns
  have hts := atoms_spec (ws := wsX3_asItIs) B.pre
  have hown : s.vm.findClass RX3 = some m.cls := findClass_of_methodNamed B.named
  have hlocks := B.notSynchronized
  have hS : va_S A s.heap s.heap [] := va_S.rf
  have hX : cX none (chs []) G ws G ws := cX.rf
  have hl := lv_entry ([.ref o]) (n := 1) (Nat.le_of_ble_eq_true rfl)
  rw [lg_entry_eq]
  generalize (lg_sl ([.ref o]) ++ List.replicate (1 - (lg_sl ([.ref o])).length) Slot.unset).toArray = ls at hl ⊢
  have hl : lv_has ls 1 [(0, .ref o)] := hl
  have k_0 : (0 : Int32).toInt = 0 := by decide
  refine lv_aload_n hx hb dX3_asItIs_0 rfl (lv_at hl 0 rfl) ?_
  refine t_new (C := RX3) (T := TX3) (N := 5) (ci := 2) (ty0 := tyX3) (fs := [.null, .null, .int 0, .long 0, .long 0]) hx hb hts (by decide +kernel) tyX3_ok hown (hts (.classLink RX3 12 RX3) (by decide +kernel)) (hts (.instantiable RX3 5) (by decide +kernel)) (hts (.initialized RX3) (by decide +kernel)) hK hP hD hS hA hT rfl (by decide +kernel) (Nat.le_of_ble_eq_true rfl) (Nat.le_of_ble_eq_true rfl) dX3_asItIs_1 (fun q1 H w1 hM_q1 hO_q1 hF1 hX1 hk1 hP hD hT hS => ?_)
  have hN_q1 := hX.new0 hO_q1 hF1
  have hX := hX.tr (hX1 _ _)
  refine lv_dup hx hb dX3_asItIs_4 rfl ?_
  refine lv_aload_n hx hb dX3_asItIs_5 rfl (lv_at hl 0 rfl) ?_
  obtain ⟨_, hM_o, b_o, s_o, w_o, h_o, t_o, x_o, y_o, ms_o, rfl, hG_b_o, hG_s_o, hJ_o⟩ := hT _ _ hG_o
  refine t_get (v := .ref b_o) (C := RX3) (T := TX3) (N := 5) hx hb hts (by decide +kernel) hown hK hP hM_o rfl 0 (by decide) (hts (.fieldLink RX3 28 "ShadowBench$Job" "board" "LShadowBench$Board;") (by decide +kernel)) (fun _ h9 => h9) rfl dX3_asItIs_6 ?_
  refine t_callv (va_runI (g := F0 m 9 ls ([.ref b_o, .ref q1, .ref q1, .ref o])) (As := [.ref b_o]) (rest := [.ref q1, .ref o]) (b := q1) ⟨hx, hb, hml, hown, hts⟩ (c_X3_init_w l D cy A G w1 q1 b_o hD hT hO_q1 hM_q1 hG_b_o (by unfold cKc; omega)) (cwI 1 hts gX3_asItIs_X3_init rfl rfl rfl (hts (.initialized RX3) (by decide +kernel)) (hts (.methodLink RX3 83 yX3_init) (by decide +kernel)) (hts (.instanceMethod yX3_init) (by decide +kernel)) rfl (by decide +kernel) ⟨Nat.le_of_ble_eq_true rfl, Nat.le_of_ble_eq_true rfl⟩) (c_preS hP hK hA hS hV) rfl rfl hl.1 rfl (lv_room (Nat.le_of_ble_eq_true rfl)) dX3_asItIs_9 ⟨Nat.le_of_ble_eq_true rfl, Nat.le_of_ble_eq_true rfl⟩) hS (fun u H locs q9 hP9 hD9 hT9 hS => ?_)
  obtain ⟨G9, w9⟩ := u
  obtain ⟨hX9, q9⟩ := q9
  have hX9 : cX (some q1) (chs []) G w1 G9 w9 := hX9
  obtain ⟨hOx9, a9, hG_a9, hN9_a9, hMx_a9, hMx9⟩ := q9
  have hN_a9 := hX.new0 (hT.no hN9_a9) hN9_a9
  have hP : va_P D vwCl w9 H := hP9
  have hD : va_D A w9 := hD9
  have hT : cT cy G9 w9 := hT9
  have hM_o := hX9.2.1 _ _ (cP.no1 (Ne.symm (cne0 hO_q1 hG_o)) hG_o rfl) hM_o
  have hG_o := hX9.1 _ _ hG_o
  have hG_b_o := hX9.1 _ _ hG_b_o
  have hG_s_o := hX9.1 _ _ hG_s_o
  have hO_q1 := hOx9
  have hM_a9 := hMx_a9
  have hM_q1 : cIn w9 q1 (.inr (2, [.ref b_o, .ref a9, .int 3, .long 0, .long 0])) := hMx9
  have hX := hX.trN hN_q1 hX9
  obtain ⟨Gk9, hGk⟩ : ∃ z, z = va_up G9 q1 (some (3, 2, 8 * w_o + h_o)) := ⟨_, rfl⟩
  have hE9 : cE G9 Gk9 := by rw [hGk]; exact cE.add hO_q1
  have hG_q1 : Gk9 q1 = some (3, 2, 8 * w_o + h_o) := by rw [hGk]; simp [va_up]
  have hG_o := hE9 _ _ hG_o
  have hG_b_o := hE9 _ _ hG_b_o
  have hG_s_o := hE9 _ _ hG_s_o
  have hG_a9 := hE9 _ _ hG_a9
  have hT : cT cy Gk9 w9 := by rw [hGk]; exact hT.kind hO_q1 hM_q1 (by rw [← hGk]; exact ⟨_, _, _, _, _, _, _, _, rfl, hG_b_o, hG_a9, ⟨rfl, Or.inr (Or.inl ⟨rfl, rfl⟩)⟩⟩)
  have hX := hX.trN hN_q1 (show cX (some q1) (chs []) G9 w9 Gk9 w9 by rw [hGk]; exact cX.kind hO_q1)
  have hJ_q1 : cJk Gk9 2 (8 * w_o + h_o) w_o h_o [] := ⟨rfl, Or.inr (Or.inl ⟨rfl, rfl⟩)⟩
  refine t_calla (va_runV (g := F0 m 12 ls ([.ref q1, .ref o])) (As := [.ref q1]) (rest := []) ⟨hx, hb, hml, hown, hts⟩ (c_X3_alike_w l D cy A Gk9 w9 o q1 hD hT hG_o hG_q1 hM_q1 ) (cwV 1 hts gX3_asItIs_X3_alike rfl rfl rfl (by decide +kernel) ⟨Nat.le_of_ble_eq_true rfl, Nat.le_of_ble_eq_true rfl⟩) (c_preV hM_o rfl hP hK hA hS hV) rfl rfl hl.1 rfl (lv_room (Nat.le_of_ble_eq_true rfl)) dX3_asItIs_12 ⟨Nat.le_of_ble_eq_true rfl, Nat.le_of_ble_eq_true rfl⟩) hS (fun r12 u H locs q12 hP9 hD9 hT9 hS => ?_)
  obtain ⟨w12, rfl, hF12, q12⟩ := q12
  have hP : va_P D vwCl w12 H := hP9
  have hD : va_D A w12 := hD9
  have hT : cT cy Gk9 w12 := hT9
  have hX := hX.trF (fun b9 z9 => by rcases z9 with rfl | rfl; exact hN_q1; exact hN_a9) hF12
  subst q12
  refine W.widen (k := 2) (n := 49) (Nat.le_of_ble_eq_true rfl) (Nat.le_of_ble_eq_true rfl) ?_
  exact W.aret (v := .ref q1) hx hb hr (Or.inl ⟨_, rfl⟩) (Or.inr ⟨_, rfl⟩) (fun t ht hW => ⟨⟨(some q1), (Gk9, w12), rfl, ⟨hX, ⟨_, _, _, rfl, hG_q1⟩⟩, by show va_P D vwCl w12 t.heap; rw [ht]; exact hP, hD, hT⟩, hS.F ht⟩) hS.2.2 dX3_asItIs_15
set_option maxHeartbeats 4000000 in
set_option maxRecDepth 100000 in
theorem c_X4_asItIs_w (l : Launch) (D : va_G) (cy : Nat → ClassId) (A : Nat → Prop) (G : cG) (ws : va_W) (o : Nat) {nq : Nat} (hD : va_D A ws) (hT : cT cy G ws) (hG_o : G o = some (3, 3, nq))  : Ca l D cy A yX4_asItIs wsX4_asItIs ({ frames := 4, cells := 2, slots := 49, locals := 89 }) 2 49 ws [.ref o] (fun r0 u => cX none (chs []) G ws u.1 u.2 ∧ (∃ x k n, r0 = some x ∧ u.1 x = some (3, k, n))) := by
  refine Met.ofW (cc := cX4_asItIs) (maxL := 1) (ret := (some (.object "ShadowBench$Job"))) (by decide) rfl ?_
  intro p e s m args below meth c s₁ B hml hv
  obtain ⟨rfl, hP, hK, hA, hV⟩ := hv
  have hx := B.exec
  have hb := B.bytes
  have hr := B.returns
  have hts := atoms_spec (ws := wsX4_asItIs) B.pre
  have hown : s.vm.findClass RX4 = some m.cls := findClass_of_methodNamed B.named
  have hlocks := B.notSynchronized
  have hS : va_S A s.heap s.heap [] := va_S.rf
  have hX : cX none (chs []) G ws G ws := cX.rf
  have hl := lv_entry ([.ref o]) (n := 1) (Nat.le_of_ble_eq_true rfl)
  rw [lg_entry_eq]
  generalize (lg_sl ([.ref o]) ++ List.replicate (1 - (lg_sl ([.ref o])).length) Slot.unset).toArray = ls at hl ⊢
  have hl : lv_has ls 1 [(0, .ref o)] := hl
  have k_0 : (0 : Int32).toInt = 0 := by decide
  refine lv_aload_n hx hb dX4_asItIs_0 rfl (lv_at hl 0 rfl) ?_
  refine t_new (C := RX4) (T := TX4) (N := 5) (ci := 3) (ty0 := tyX4) (fs := [.null, .null, .int 0, .long 0, .long 0]) hx hb hts (by decide +kernel) tyX4_ok hown (hts (.classLink RX4 8 RX4) (by decide +kernel)) (hts (.instantiable RX4 5) (by decide +kernel)) (hts (.initialized RX4) (by decide +kernel)) hK hP hD hS hA hT rfl (by decide +kernel) (Nat.le_of_ble_eq_true rfl) (Nat.le_of_ble_eq_true rfl) dX4_asItIs_1 (fun q1 H w1 hM_q1 hO_q1 hF1 hX1 hk1 hP hD hT hS => ?_)
  have hN_q1 := hX.new0 hO_q1 hF1
  have hX := hX.tr (hX1 _ _)
  refine lv_dup hx hb dX4_asItIs_4 rfl ?_
  refine lv_aload_n hx hb dX4_asItIs_5 rfl (lv_at hl 0 rfl) ?_
  obtain ⟨_, hM_o, b_o, s_o, w_o, h_o, t_o, x_o, y_o, ms_o, rfl, hG_b_o, hG_s_o, hJ_o⟩ := hT _ _ hG_o
  refine t_get (v := .ref b_o) (C := RX4) (T := TX4) (N := 5) hx hb hts (by decide +kernel) hown hK hP hM_o rfl 0 (by decide) (hts (.fieldLink RX4 7 "ShadowBench$JoinedJob" "board" "LShadowBench$Board;") (by decide +kernel)) (fun _ h9 => u_same (hts (.sameField "ShadowBench$JoinedJob" "ShadowBench$Job" "board" "LShadowBench$Board;") (by decide +kernel)) _ h9) rfl dX4_asItIs_6 ?_
  refine t_callv (va_runI (g := F0 m 9 ls ([.ref b_o, .ref q1, .ref q1, .ref o])) (As := [.ref b_o]) (rest := [.ref q1, .ref o]) (b := q1) ⟨hx, hb, hml, hown, hts⟩ (c_X4_init_w l D cy A G w1 q1 b_o hD hT hO_q1 hM_q1 hG_b_o (by unfold cKc; omega)) (cwI 1 hts gX4_asItIs_X4_init rfl rfl rfl (hts (.initialized RX4) (by decide +kernel)) (hts (.methodLink RX4 30 yX4_init) (by decide +kernel)) (hts (.instanceMethod yX4_init) (by decide +kernel)) rfl (by decide +kernel) ⟨Nat.le_of_ble_eq_true rfl, Nat.le_of_ble_eq_true rfl⟩) (c_preS hP hK hA hS hV) rfl rfl hl.1 rfl (lv_room (Nat.le_of_ble_eq_true rfl)) dX4_asItIs_9 ⟨Nat.le_of_ble_eq_true rfl, Nat.le_of_ble_eq_true rfl⟩) hS (fun u H locs q9 hP9 hD9 hT9 hS => ?_)
  obtain ⟨G9, w9⟩ := u
  obtain ⟨hX9, q9⟩ := q9
  have hX9 : cX (some q1) (chs []) G w1 G9 w9 := hX9
  obtain ⟨hOx9, a9, hG_a9, hN9_a9, hMx_a9, hMx9⟩ := q9
  have hN_a9 := hX.new0 (hT.no hN9_a9) hN9_a9
  have hP : va_P D vwCl w9 H := hP9
  have hD : va_D A w9 := hD9
  have hT : cT cy G9 w9 := hT9
  have hM_o := hX9.2.1 _ _ (cP.no1 (Ne.symm (cne0 hO_q1 hG_o)) hG_o rfl) hM_o
  have hG_o := hX9.1 _ _ hG_o
  have hG_b_o := hX9.1 _ _ hG_b_o
  have hG_s_o := hX9.1 _ _ hG_s_o
  have hO_q1 := hOx9
  have hM_a9 := hMx_a9
  have hM_q1 : cIn w9 q1 (.inr (3, [.ref b_o, .ref a9, .int 3, .long 0, .long 0])) := hMx9
  have hX := hX.trN hN_q1 hX9
  obtain ⟨Gk9, hGk⟩ : ∃ z, z = va_up G9 q1 (some (3, 3, 8 * w_o + h_o)) := ⟨_, rfl⟩
  have hE9 : cE G9 Gk9 := by rw [hGk]; exact cE.add hO_q1
  have hG_q1 : Gk9 q1 = some (3, 3, 8 * w_o + h_o) := by rw [hGk]; simp [va_up]
  have hG_o := hE9 _ _ hG_o
  have hG_b_o := hE9 _ _ hG_b_o
  have hG_s_o := hE9 _ _ hG_s_o
  have hG_a9 := hE9 _ _ hG_a9
  have hT : cT cy Gk9 w9 := by rw [hGk]; exact hT.kind hO_q1 hM_q1 (by rw [← hGk]; exact ⟨_, _, _, _, _, _, _, _, rfl, hG_b_o, hG_a9, ⟨rfl, Or.inr (Or.inr (Or.inl ⟨rfl, rfl⟩))⟩⟩)
  have hX := hX.trN hN_q1 (show cX (some q1) (chs []) G9 w9 Gk9 w9 by rw [hGk]; exact cX.kind hO_q1)
  have hJ_q1 : cJk Gk9 3 (8 * w_o + h_o) w_o h_o [] := ⟨rfl, Or.inr (Or.inr (Or.inl ⟨rfl, rfl⟩))⟩
  refine t_calla (va_runU (g := F0 m 12 ls ([.ref q1, .ref o])) (As := [.ref q1]) (rest := []) ⟨hx, hb, hml, hown, hts⟩ (c_X3_alike_w l D cy A Gk9 w9 o q1 hD hT hG_o hG_q1 hM_q1 ) (va_cwU 1 hts gX4_asItIs_X3_alike_u31X4 rfl rfl rfl rfl (by decide +kernel) ⟨Nat.le_of_ble_eq_true rfl, Nat.le_of_ble_eq_true rfl⟩) (c_preV hM_o rfl hP hK hA hS hV) rfl rfl hl.1 rfl (lv_room (Nat.le_of_ble_eq_true rfl)) dX4_asItIs_12 ⟨Nat.le_of_ble_eq_true rfl, Nat.le_of_ble_eq_true rfl⟩) hS (fun r12 u H locs q12 hP9 hD9 hT9 hS => ?_)
  obtain ⟨w12, rfl, hF12, q12⟩ := q12
  have hP : va_P D vwCl w12 H := hP9
  have hD : va_D A w12 := hD9
  have hT : cT cy Gk9 w12 := hT9
  have hX := hX.trF (fun b9 z9 => by rcases z9 with rfl | rfl; exact hN_q1; exact hN_a9) hF12
  subst q12
  refine W.widen (k := 2) (n := 49) (Nat.le_of_ble_eq_true rfl) (Nat.le_of_ble_eq_true rfl) ?_
  exact W.aret (v := .ref q1) hx hb hr (Or.inl ⟨_, rfl⟩) (Or.inr ⟨_, rfl⟩) (fun t ht hW => ⟨⟨(some q1), (Gk9, w12), rfl, ⟨hX, ⟨_, _, _, rfl, hG_q1⟩⟩, by show va_P D vwCl w12 t.heap; rw [ht]; exact hP, hD, hT⟩, hS.F ht⟩) hS.2.2 dX4_asItIs_15
set_option maxHeartbeats 4000000 in
set_option maxRecDepth 100000 in
theorem c_X1_asItIs_w (l : Launch) (D : va_G) (cy : Nat → ClassId) (A : Nat → Prop) (G : cG) (ws : va_W) (o : Nat) {nq : Nat} (hD : va_D A ws) (hT : cT cy G ws) (hG_o : G o = some (3, 1, nq))  : Ca l D cy A yX1_asItIs wsX1_asItIs ({ frames := 5, cells := 2, slots := 49, locals := 103 }) 2 49 ws [.ref o] (fun r0 u => cX none (chs []) G ws u.1 u.2 ∧ (∃ x k n, r0 = some x ∧ u.1 x = some (3, k, n))) := by
  refine Met.ofW (cc := cX1_asItIs) (maxL := 1) (ret := (some (.object "ShadowBench$Job"))) (by decide) rfl ?_
  intro p e s m args below meth c s₁ B hml hv
  obtain ⟨rfl, hP, hK, hA, hV⟩ := hv
  have hx := B.exec
  have hb := B.bytes
  have hr := B.returns
  have hts := atoms_spec (ws := wsX1_asItIs) B.pre
  have hown : s.vm.findClass RX1 = some m.cls := findClass_of_methodNamed B.named
  have hlocks := B.notSynchronized
  have hS : va_S A s.heap s.heap [] := va_S.rf
  have hX : cX none (chs []) G ws G ws := cX.rf
  have hl := lv_entry ([.ref o]) (n := 1) (Nat.le_of_ble_eq_true rfl)
  rw [lg_entry_eq]
  generalize (lg_sl ([.ref o]) ++ List.replicate (1 - (lg_sl ([.ref o])).length) Slot.unset).toArray = ls at hl ⊢
  have hl : lv_has ls 1 [(0, .ref o)] := hl
  have k_0 : (0 : Int32).toInt = 0 := by decide
  refine lv_aload_n hx hb dX1_asItIs_0 rfl (lv_at hl 0 rfl) ?_
  refine t_new (C := RX1) (T := TX1) (N := 5) (ci := 1) (ty0 := tyX1) (fs := [.null, .null, .int 0, .long 0, .long 0]) hx hb hts (by decide +kernel) tyX1_ok hown (hts (.classLink RX1 12 RX1) (by decide +kernel)) (hts (.instantiable RX1 5) (by decide +kernel)) (hts (.initialized RX1) (by decide +kernel)) hK hP hD hS hA hT rfl (by decide +kernel) (Nat.le_of_ble_eq_true rfl) (Nat.le_of_ble_eq_true rfl) dX1_asItIs_1 (fun q1 H w1 hM_q1 hO_q1 hF1 hX1 hk1 hP hD hT hS => ?_)
  have hN_q1 := hX.new0 hO_q1 hF1
  have hX := hX.tr (hX1 _ _)
  refine lv_dup hx hb dX1_asItIs_4 rfl ?_
  refine lv_aload_n hx hb dX1_asItIs_5 rfl (lv_at hl 0 rfl) ?_
  obtain ⟨_, hM_o, b_o, s_o, w_o, h_o, t_o, x_o, y_o, ms_o, rfl, hG_b_o, hG_s_o, hJ_o⟩ := hT _ _ hG_o
  refine t_get (v := .ref b_o) (C := RX1) (T := TX1) (N := 5) hx hb hts (by decide +kernel) hown hK hP hM_o rfl 0 (by decide) (hts (.fieldLink RX1 11 "ShadowBench$EvenJob" "board" "LShadowBench$Board;") (by decide +kernel)) (fun _ h9 => u_same (hts (.sameField "ShadowBench$EvenJob" "ShadowBench$Job" "board" "LShadowBench$Board;") (by decide +kernel)) _ h9) rfl dX1_asItIs_6 ?_
  refine t_callv (va_runI (g := F0 m 9 ls ([.ref b_o, .ref q1, .ref q1, .ref o])) (As := [.ref b_o]) (rest := [.ref q1, .ref o]) (b := q1) ⟨hx, hb, hml, hown, hts⟩ (c_X1_init_w l D cy A G w1 q1 b_o hD hT hO_q1 hM_q1 hG_b_o (by unfold cKc; omega)) (cwI 1 hts gX1_asItIs_X1_init rfl rfl rfl (hts (.initialized RX1) (by decide +kernel)) (hts (.methodLink RX1 36 yX1_init) (by decide +kernel)) (hts (.instanceMethod yX1_init) (by decide +kernel)) rfl (by decide +kernel) ⟨Nat.le_of_ble_eq_true rfl, Nat.le_of_ble_eq_true rfl⟩) (c_preS hP hK hA hS hV) rfl rfl hl.1 rfl (lv_room (Nat.le_of_ble_eq_true rfl)) dX1_asItIs_9 ⟨Nat.le_of_ble_eq_true rfl, Nat.le_of_ble_eq_true rfl⟩) hS (fun u H locs q9 hP9 hD9 hT9 hS => ?_)
  obtain ⟨G9, w9⟩ := u
  obtain ⟨hX9, q9⟩ := q9
  have hX9 : cX (some q1) (chs []) G w1 G9 w9 := hX9
  obtain ⟨hOx9, a9, hG_a9, hN9_a9, hMx_a9, hMx9⟩ := q9
  have hN_a9 := hX.new0 (hT.no hN9_a9) hN9_a9
  have hP : va_P D vwCl w9 H := hP9
  have hD : va_D A w9 := hD9
  have hT : cT cy G9 w9 := hT9
  have hM_o := hX9.2.1 _ _ (cP.no1 (Ne.symm (cne0 hO_q1 hG_o)) hG_o rfl) hM_o
  have hG_o := hX9.1 _ _ hG_o
  have hG_b_o := hX9.1 _ _ hG_b_o
  have hG_s_o := hX9.1 _ _ hG_s_o
  have hO_q1 := hOx9
  have hM_a9 := hMx_a9
  have hM_q1 : cIn w9 q1 (.inr (1, [.ref b_o, .ref a9, .int 3, .long 0, .long 0])) := hMx9
  have hX := hX.trN hN_q1 hX9
  obtain ⟨Gk9, hGk⟩ : ∃ z, z = va_up G9 q1 (some (3, 1, 8 * w_o + h_o)) := ⟨_, rfl⟩
  have hE9 : cE G9 Gk9 := by rw [hGk]; exact cE.add hO_q1
  have hG_q1 : Gk9 q1 = some (3, 1, 8 * w_o + h_o) := by rw [hGk]; simp [va_up]
  have hG_o := hE9 _ _ hG_o
  have hG_b_o := hE9 _ _ hG_b_o
  have hG_s_o := hE9 _ _ hG_s_o
  have hG_a9 := hE9 _ _ hG_a9
  have hT : cT cy Gk9 w9 := by rw [hGk]; exact hT.kind hO_q1 hM_q1 (by rw [← hGk]; exact ⟨_, _, _, _, _, _, _, _, rfl, hG_b_o, hG_a9, ⟨rfl, Or.inl ⟨rfl, rfl⟩⟩⟩)
  have hX := hX.trN hN_q1 (show cX (some q1) (chs []) G9 w9 Gk9 w9 by rw [hGk]; exact cX.kind hO_q1)
  have hJ_q1 : cJk Gk9 1 (8 * w_o + h_o) w_o h_o [] := ⟨rfl, Or.inl ⟨rfl, rfl⟩⟩
  refine t_calla (va_runU (g := F0 m 12 ls ([.ref q1, .ref o])) (As := [.ref q1]) (rest := []) ⟨hx, hb, hml, hown, hts⟩ (c_X3_alike_w l D cy A Gk9 w9 o q1 hD hT hG_o hG_q1 hM_q1 ) (va_cwU 1 hts gX1_asItIs_X3_alike_u37X1 rfl rfl rfl rfl (by decide +kernel) ⟨Nat.le_of_ble_eq_true rfl, Nat.le_of_ble_eq_true rfl⟩) (c_preV hM_o rfl hP hK hA hS hV) rfl rfl hl.1 rfl (lv_room (Nat.le_of_ble_eq_true rfl)) dX1_asItIs_12 ⟨Nat.le_of_ble_eq_true rfl, Nat.le_of_ble_eq_true rfl⟩) hS (fun r12 u H locs q12 hP9 hD9 hT9 hS => ?_)
  obtain ⟨w12, rfl, hF12, q12⟩ := q12
  have hP : va_P D vwCl w12 H := hP9
  have hD : va_D A w12 := hD9
  have hT : cT cy Gk9 w12 := hT9
  have hX := hX.trF (fun b9 z9 => by rcases z9 with rfl | rfl; exact hN_q1; exact hN_a9) hF12
  subst q12
  refine W.widen (k := 2) (n := 49) (Nat.le_of_ble_eq_true rfl) (Nat.le_of_ble_eq_true rfl) ?_
  exact W.aret (v := .ref q1) hx hb hr (Or.inl ⟨_, rfl⟩) (Or.inr ⟨_, rfl⟩) (fun t ht hW => ⟨⟨(some q1), (Gk9, w12), rfl, ⟨hX, ⟨_, _, _, rfl, hG_q1⟩⟩, by show va_P D vwCl w12 t.heap; rw [ht]; exact hP, hD, hT⟩, hS.F ht⟩) hS.2.2 dX1_asItIs_15
set_option maxHeartbeats 4000000 in
set_option maxRecDepth 100000 in
theorem c_X5_asItIs_w (l : Launch) (D : va_G) (cy : Nat → ClassId) (A : Nat → Prop) (G : cG) (ws : va_W) (o : Nat) {nq : Nat} (hD : va_D A ws) (hT : cT cy G ws) (hG_o : G o = some (3, 4, nq))  : Ca l D cy A yX5_asItIs wsX5_asItIs ({ frames := 4, cells := 3, slots := 86, locals := 89 }) 3 86 ws [.ref o] (fun r0 u => cX none (chs []) G ws u.1 u.2 ∧ (∃ x k n, r0 = some x ∧ u.1 x = some (3, k, n))) := by
  refine Met.ofW (cc := cX5_asItIs) (maxL := 2) (ret := (some (.object "ShadowBench$Job"))) (by decide) rfl ?_
  intro p e s m args below meth c s₁ B hml hv
  obtain ⟨rfl, hP, hK, hA, hV⟩ := hv
  have hx := B.exec
  have hb := B.bytes
  have hr := B.returns
  have hts := atoms_spec (ws := wsX5_asItIs) B.pre
  have hown : s.vm.findClass RX5 = some m.cls := findClass_of_methodNamed B.named
  have hlocks := B.notSynchronized
  have hS : va_S A s.heap s.heap [] := va_S.rf
  have hX : cX none (chs []) G ws G ws := cX.rf
  have hl := lv_entry ([.ref o]) (n := 2) (Nat.le_of_ble_eq_true rfl)
  rw [lg_entry_eq]
  generalize (lg_sl ([.ref o]) ++ List.replicate (2 - (lg_sl ([.ref o])).length) Slot.unset).toArray = ls at hl ⊢
  have hl : lv_has ls 2 [(0, .ref o)] := hl
  have k_0 : (0 : Int32).toInt = 0 := by decide
  refine t_new (C := RX5) (T := TX5) (N := 6) (ci := 4) (ty0 := tyX5) (fs := [.null, .null, .int 0, .long 0, .long 0, .null]) hx hb hts (by decide +kernel) tyX5_ok hown (hts (.classLink RX5 14 RX5) (by decide +kernel)) (hts (.instantiable RX5 6) (by decide +kernel)) (hts (.initialized RX5) (by decide +kernel)) hK hP hD hS hA hT rfl (by decide +kernel) (Nat.le_of_ble_eq_true rfl) (Nat.le_of_ble_eq_true rfl) dX5_asItIs_0 (fun q0 H w0 hM_q0 hO_q0 hF0 hX0 hk0 hP hD hT hS => ?_)
  have hN_q0 := hX.new0 hO_q0 hF0
  have hX := hX.tr (hX0 _ _)
  refine lv_dup hx hb dX5_asItIs_3 rfl ?_
  refine lv_aload_n hx hb dX5_asItIs_4 rfl (lv_at hl 0 rfl) ?_
  obtain ⟨_, hM_o, b_o, s_o, w_o, h_o, t_o, x_o, y_o, ms_o, rfl, hG_b_o, hG_s_o, hJ_o⟩ := hT _ _ hG_o
  obtain ⟨hn_o, c_o, rfl, hG_c_o⟩ := cJ4 hJ_o
  have hn36_o := cb_mul (c_hb hT hG_b_o)
  refine t_get (v := .ref b_o) (C := RX5) (T := TX5) (N := 6) hx hb hts (by decide +kernel) hown hK hP hM_o rfl 0 (by decide) (hts (.fieldLink RX5 36 "ShadowBench$MarkedJob" "board" "LShadowBench$Board;") (by decide +kernel)) (fun _ h9 => u_same (hts (.sameField "ShadowBench$MarkedJob" "ShadowBench$Job" "board" "LShadowBench$Board;") (by decide +kernel)) _ h9) rfl dX5_asItIs_5 ?_
  refine t_callv (va_runI (g := F0 m 8 ls ([.ref b_o, .ref q0, .ref q0])) (As := [.ref b_o]) (rest := [.ref q0]) (b := q0) ⟨hx, hb, hml, hown, hts⟩ (c_X5_init_w l D cy A G w0 q0 b_o hD hT hO_q0 hM_q0 hG_b_o ) (cwI 1 hts gX5_asItIs_X5_init rfl rfl rfl (hts (.initialized RX5) (by decide +kernel)) (hts (.methodLink RX5 40 yX5_init) (by decide +kernel)) (hts (.instanceMethod yX5_init) (by decide +kernel)) rfl (by decide +kernel) ⟨Nat.le_of_ble_eq_true rfl, Nat.le_of_ble_eq_true rfl⟩) (c_preS hP hK hA hS hV) rfl rfl hl.1 rfl (lv_room (Nat.le_of_ble_eq_true rfl)) dX5_asItIs_8 ⟨Nat.le_of_ble_eq_true rfl, Nat.le_of_ble_eq_true rfl⟩) hS (fun u H locs q8 hP9 hD9 hT9 hS => ?_)
  obtain ⟨G8, w8⟩ := u
  obtain ⟨hX9, q8⟩ := q8
  have hX9 : cX (some q0) (chs []) G w0 G8 w8 := hX9
  obtain ⟨hOx8, a8, hG_a8, hN9_a8, hMx_a8, c8, hG_c8, hN9_c8, hne_c8, hMx_c8, hMx8⟩ := q8
  have hN_a8 := hX.new0 (hT.no hN9_a8) hN9_a8
  have hN_c8 := hX.new0 (hT.no hN9_c8) hN9_c8
  have hP : va_P D vwCl w8 H := hP9
  have hD : va_D A w8 := hD9
  have hT : cT cy G8 w8 := hT9
  have hM_o := hX9.2.1 _ _ (cP.no1 (Ne.symm (cne0 hO_q0 hG_o)) hG_o rfl) hM_o
  have hG_o := hX9.1 _ _ hG_o
  have hG_b_o := hX9.1 _ _ hG_b_o
  have hG_s_o := hX9.1 _ _ hG_s_o
  have hG_c_o := hX9.1 _ _ hG_c_o
  have hO_q0 := hOx8
  have hM_a8 := hMx_a8
  have hM_c8 := hMx_c8
  have hM_q0 : cIn w8 q0 (.inr (4, [.ref b_o, .ref a8, .int 3, .long 0, .long 0, .ref c8])) := hMx8
  have hX := hX.trN hN_q0 hX9
  have hb9 := cb_mul (c_hb hT hG_b_o)
  obtain ⟨Gk8, hGk⟩ : ∃ z, z = va_up G8 q0 (some (3, 4, 8 * w_o + h_o)) := ⟨_, rfl⟩
  have hE9 : cE G8 Gk8 := by rw [hGk]; exact cE.add hO_q0
  have hG_q0 : Gk8 q0 = some (3, 4, 8 * w_o + h_o) := by rw [hGk]; simp [va_up]
  have hG_o := hE9 _ _ hG_o
  have hG_b_o := hE9 _ _ hG_b_o
  have hG_s_o := hE9 _ _ hG_s_o
  have hG_c_o := hE9 _ _ hG_c_o
  have hG_a8 := hE9 _ _ hG_a8
  have hG_c8 := hE9 _ _ hG_c8
  have hT : cT cy Gk8 w8 := by rw [hGk]; exact hT.kind hO_q0 hM_q0 (by rw [← hGk]; exact ⟨_, _, _, _, _, _, _, _, rfl, hG_b_o, hG_a8, ⟨rfl, Or.inr (Or.inr (Or.inr ⟨rfl, _, rfl, hG_c8⟩))⟩⟩)
  have hX := hX.trN hN_q0 (show cX (some q0) (chs []) G8 w8 Gk8 w8 by rw [hGk]; exact cX.kind hO_q0)
  have hJ_q0 : cJk Gk8 4 (8 * w_o + h_o) w_o h_o [.ref c8] := ⟨rfl, Or.inr (Or.inr (Or.inr ⟨rfl, _, rfl, hG_c8⟩))⟩
  refine lv_astore_n (lv' := [(1, .ref q0), (0, .ref o)]) hx hb dX5_asItIs_11 rfl hl (by decide) rfl (fun ls hl => ?_)
  refine lv_aload_n hx hb dX5_asItIs_12 rfl (lv_at hl 1 rfl) ?_
  refine t_get (v := .ref c_o) (C := RX5) (T := TX5) (N := 6) hx hb hts (by decide +kernel) hown hK hP hM_o rfl 5 (by decide) (hts (.fieldLink RX5 13 "ShadowBench$MarkedJob" "marks" "[I") (by decide +kernel)) (fun _ h9 => h9) rfl dX5_asItIs_13 ?_
  refine lv_iconst (v := 0) hx hb dX5_asItIs_16 (by decide) ?_
  refine lv_aload_n hx hb dX5_asItIs_17 rfl (lv_at hl 0 rfl) ?_
  refine t_get (v := .ref c8) (C := RX5) (T := TX5) (N := 6) hx hb hts (by decide +kernel) hown hK hP hM_q0 rfl 5 (by decide) (hts (.fieldLink RX5 13 "ShadowBench$MarkedJob" "marks" "[I") (by decide +kernel)) (fun _ h9 => h9) rfl dX5_asItIs_18 ?_
  refine lv_iconst (v := 0) hx hb dX5_asItIs_21 (by decide) ?_
  refine lv_aload_n hx hb dX5_asItIs_22 rfl (lv_at hl 1 rfl) ?_
  refine t_get (v := .ref c_o) (C := RX5) (T := TX5) (N := 6) hx hb hts (by decide +kernel) hown hK hP hM_o rfl 5 (by decide) (hts (.fieldLink RX5 13 "ShadowBench$MarkedJob" "marks" "[I") (by decide +kernel)) (fun _ h9 => h9) rfl dX5_asItIs_23 ?_
  refine t_alenI hx hb hK hP hT (Or.inr (Or.inl rfl)) hG_c_o dX5_asItIs_26 ?_
  have i26 : (nI (w_o * h_o)).toInt = _ := nI_toInt (by omega)
  have ep8 : True := trivial
  refine t_copyi hx hb (by rw [hml]; exact hl.1.symm) hown (hts (.methodLink RX5 41 arraycopyName) (by decide +kernel)) (hts (.native arraycopyName) (by decide +kernel)) (hts (.static arraycopyName) (by decide +kernel)) (hts (.initialized "java/lang/System") (by decide +kernel)) hK hP hD hS hT (Or.inr (Or.inl rfl)) (Or.inr (Or.inl rfl)) hG_c_o hG_c8 (by omega) (by omega) (by omega) (by omega) (by omega) (Nat.le_of_ble_eq_true rfl) (Nat.le_of_ble_eq_true rfl) dX5_asItIs_27 (fun H locs w27 hU27 hP hD hT hS => ?_)
  have hM_o := hU27 _ _ (cne hG_o hG_c8 (show (3 : Nat) ≠ 14 by decide)) hM_o
  have hM_q0 := hU27 _ _ (cne hG_q0 hG_c8 (show (3 : Nat) ≠ 14 by decide)) hM_q0
  have hX := hX.trN hN_c8 (cX.uF hU27 (Or.inl rfl))
  refine lv_aload_n hx hb dX5_asItIs_30 rfl (lv_at hl 1 rfl) ?_
  refine lv_aload_n hx hb dX5_asItIs_31 rfl (lv_at hl 0 rfl) ?_
  refine t_calla (va_runU (g := F0 m 32 ls ([.ref q0, .ref o])) (As := [.ref q0]) (rest := []) ⟨hx, hb, hml, hown, hts⟩ (c_X3_alike_w l D cy A Gk8 w27 o q0 hD hT hG_o hG_q0 hM_q0 ) (va_cwU 1 hts gX5_asItIs_X3_alike_u47X5 rfl rfl rfl rfl (by decide +kernel) ⟨Nat.le_of_ble_eq_true rfl, Nat.le_of_ble_eq_true rfl⟩) (c_preV hM_o rfl hP hK hA hS hV) rfl rfl hl.1 rfl (lv_room (Nat.le_of_ble_eq_true rfl)) dX5_asItIs_32 ⟨Nat.le_of_ble_eq_true rfl, Nat.le_of_ble_eq_true rfl⟩) hS (fun r32 u H locs q32 hP9 hD9 hT9 hS => ?_)
  obtain ⟨w32, rfl, hF32, q32⟩ := q32
  have hP : va_P D vwCl w32 H := hP9
  have hD : va_D A w32 := hD9
  have hT : cT cy Gk8 w32 := hT9
  have hX := hX.trF (fun b9 z9 => by rcases z9 with rfl | rfl; exact hN_q0; exact hN_a8) hF32
  subst q32
  refine W.widen (k := 3) (n := 86) (Nat.le_of_ble_eq_true rfl) (Nat.le_of_ble_eq_true rfl) ?_
  exact W.aret (v := .ref q0) hx hb hr (Or.inl ⟨_, rfl⟩) (Or.inr ⟨_, rfl⟩) (fun t ht hW => ⟨⟨(some q0), (Gk8, w32), rfl, ⟨hX, ⟨_, _, _, rfl, hG_q0⟩⟩, by show va_P D vwCl w32 t.heap; rw [ht]; exact hP, hD, hT⟩, hS.F ht⟩) hS.2.2 dX5_asItIs_35
set_option maxHeartbeats 4000000 in
set_option maxRecDepth 100000 in
theorem c_X9_thingToKeep_wn (l : Launch) (D : va_G) (cy : Nat → ClassId) (A : Nat → Prop) (G : cG) (ws : va_W) (what : Int32) (p0 : Int64)  (hD : va_D A ws) (hT : cT cy G ws)   : Ca l D cy A yX9_thingToKeep wsX9_thingToKeep ({ frames := 0, cells := 0, slots := 0, locals := 0 }) 0 0 ws [.int what, .null, .long p0] (fun r0 u => cX none (chs [16]) G ws u.1 u.2 ∧ (r0 = none ∨ (∃ x k n, r0 = some x ∧ u.1 x = some (3, k, n)) ∨ ∃ x n, r0 = some x ∧ u.1 x = some (4, n, 0))) := by
  refine Met.ofW (cc := cX9_thingToKeep) (maxL := 4) (ret := (some (.object "ShadowBench$Held"))) (by decide) rfl ?_
  intro p e s m args below meth c s₁ B hml hv
  obtain ⟨rfl, hP, hK, hA, hV⟩ := hv
  have hx := B.exec
  have hb := B.bytes
  have hr := B.returns
  have hts := atoms_spec (ws := wsX9_thingToKeep) B.pre
  have hown : s.vm.findClass RX9 = some m.cls := findClass_of_methodNamed B.named
  have hlocks := B.notSynchronized
  have hS : va_S A s.heap s.heap [] := va_S.rf
  have hX : cX none (chs [16]) G ws G ws := cX.rf
  have hl := lv_entry ([.int what, .null, .long p0]) (n := 4) (Nat.le_of_ble_eq_true rfl)
  rw [lg_entry_eq]
  generalize (lg_sl ([.int what, .null, .long p0]) ++ List.replicate (4 - (lg_sl ([.int what, .null, .long p0])).length) Slot.unset).toArray = ls at hl ⊢
  have hl : lv_has ls 4 [(0, .int what), (1, .null), (2, .long p0)] := hl
  have k_0 : (0 : Int32).toInt = 0 := by decide
  refine lv_aload_nN hx hb dX9_thingToKeep_0 rfl (lv_at hl 1 rfl) ?_
  refine lv_ifnonnullN hx hb dX9_thingToKeep_1 ?_
  refine lv_null hx hb dX9_thingToKeep_4 ?_
  exact W.aret (v := .null) hx hb hr (Or.inl ⟨_, rfl⟩) (Or.inl rfl) (fun t ht hW => ⟨⟨none, (G, ws), rfl, ⟨hX, Or.inl rfl⟩, by show va_P D vwCl ws t.heap; rw [ht]; exact hP, hD, hT⟩, hS.F ht⟩) hS.2.2 dX9_thingToKeep_5
set_option maxHeartbeats 4000000 in
set_option maxRecDepth 100000 in
theorem c_X9_thingToKeep_w (l : Launch) (D : va_G) (cy : Nat → ClassId) (A : Nat → Prop) (G : cG) (ws : va_W) (what : Int32) (x1 : Nat) (p0 : Int64) {k1 n1 : Nat} (hD : va_D A ws) (hT : cT cy G ws) (hG_x1 : G x1 = some (3, k1, n1))  : Ca l D cy A yX9_thingToKeep wsX9_thingToKeep ({ frames := 6, cells := 3, slots := 86, locals := 123 }) 3 86 ws [.int what, .ref x1, .long p0] (fun r0 u => cX none (chs [16]) G ws u.1 u.2 ∧ (r0 = none ∨ (∃ x k n, r0 = some x ∧ u.1 x = some (3, k, n)) ∨ ∃ x n, r0 = some x ∧ u.1 x = some (4, n, 0))) := by
  refine Met.ofW (cc := cX9_thingToKeep) (maxL := 4) (ret := (some (.object "ShadowBench$Held"))) (by decide) rfl ?_
  intro p e s m args below meth c s₁ B hml hv
  obtain ⟨rfl, hP, hK, hA, hV⟩ := hv
  have hx := B.exec
  have hb := B.bytes
  have hr := B.returns
  have hts := atoms_spec (ws := wsX9_thingToKeep) B.pre
  have hown : s.vm.findClass RX9 = some m.cls := findClass_of_methodNamed B.named
  have hlocks := B.notSynchronized
  have hS : va_S A s.heap s.heap [] := va_S.rf
  have hinJ : ∀ w ∈ wsX10 ++ wsX30 ++ wsX40 ++ wsX50, w ∈ wsX9_thingToKeep := by decide +kernel
  have hX : cX none (chs [16]) G ws G ws := cX.rf
  have hl := lv_entry ([.int what, .ref x1, .long p0]) (n := 4) (Nat.le_of_ble_eq_true rfl)
  rw [lg_entry_eq]
  generalize (lg_sl ([.int what, .ref x1, .long p0]) ++ List.replicate (4 - (lg_sl ([.int what, .ref x1, .long p0])).length) Slot.unset).toArray = ls at hl ⊢
  have hl : lv_has ls 4 [(0, .int what), (1, .ref x1), (2, .long p0)] := hl
  have k_0 : (0 : Int32).toInt = 0 := by decide
  have k_1 : (1 : Int32).toInt = 1 := by decide
  have k_3 : (3 : Int32).toInt = 3 := by decide
  have k_4 : (4 : Int32).toInt = 4 := by decide
  refine lv_aload_n hx hb dX9_thingToKeep_0 rfl (lv_at hl 1 rfl) ?_
  refine lv_ifnonnull (tgt := 6) hx hb dX9_thingToKeep_1 (by decide) ?_
  refine lv_iload_n hx hb dX9_thingToKeep_6 rfl (lv_at hl 0 rfl) ?_
  refine lv_iconst (v := 1) hx hb dX9_thingToKeep_7 (by decide) ?_
  refine lv_icmp_ne (tgt := 16) hx hb dX9_thingToKeep_8 (by decide) (fun c8 => ?_) (fun c8 => ?_)
  · skip
    have d8 := c8
    rw [fa_eq] at d8
    refine lv_iload_n hx hb dX9_thingToKeep_16 rfl (lv_at hl 0 rfl) ?_
    refine lv_iconst (v := 3) hx hb dX9_thingToKeep_17 (by decide) ?_
    refine lv_icmp_ne (tgt := 41) hx hb dX9_thingToKeep_18 (by decide) (fun c18 => ?_) (fun c18 => ?_)
    · skip
      have d18 := c18
      rw [fa_eq] at d18
      refine lv_iload_n hx hb dX9_thingToKeep_41 rfl (lv_at hl 0 rfl) ?_
      refine lv_iconst (v := 4) hx hb dX9_thingToKeep_42 (by decide) ?_
      refine lv_icmp_ne (tgt := 53) hx hb dX9_thingToKeep_43 (by decide) (fun c43 => ?_) (fun c43 => ?_)
      · skip
        have d43 := c43
        rw [fa_eq] at d43
        refine lv_null hx hb dX9_thingToKeep_53 ?_
        refine W.widen (k := 3) (n := 86) (Nat.le_of_ble_eq_true rfl) (Nat.le_of_ble_eq_true rfl) ?_
        exact W.aret (v := .null) hx hb hr (Or.inl ⟨_, rfl⟩) (Or.inl rfl) (fun t ht hW => ⟨⟨none, (G, ws), rfl, ⟨hX, Or.inl rfl⟩, by show va_P D vwCl ws t.heap; rw [ht]; exact hP, hD, hT⟩, hS.F ht⟩) hS.2.2 dX9_thingToKeep_54
      · skip
        have d43 := c43
        rw [fa_eq] at d43
        refine lv_aload_n hx hb dX9_thingToKeep_46 rfl (lv_at hl 1 rfl) ?_
        refine t_calla (va_runS (g := F0 m 47 ls ([.ref x1])) (As := [.ref x1]) (rest := []) ⟨hx, hb, hml, hown, hts⟩ (c_X9_sumsOf l D cy A G ws x1 hD hT hG_x1 ) (va_cwS 1 hts gX9_thingToKeep_X9_sumsOf rfl rfl rfl (by decide +kernel) ⟨Nat.le_of_ble_eq_true rfl, Nat.le_of_ble_eq_true rfl⟩) (c_preS hP hK hA hS hV) rfl rfl hl.1 rfl (lv_room (Nat.le_of_ble_eq_true rfl)) dX9_thingToKeep_47 ⟨Nat.le_of_ble_eq_true rfl, Nat.le_of_ble_eq_true rfl⟩) hS (fun r47 u H locs q47 hP9 hD9 hT9 hS => ?_)
        obtain ⟨G47, w47⟩ := u
        obtain ⟨hX9, q47⟩ := q47
        have hX9 : cX none (chs [16]) G ws G47 w47 := hX9
        have hP : va_P D vwCl w47 H := hP9
        have hD : va_D A w47 := hD9
        have hT : cT cy G47 w47 := hT9
        have hG_x1 := hX9.1 _ _ hG_x1
        have hX := hX.tr hX9
        obtain ⟨x47, n47, rfl, hG_x47⟩ := q47
        refine lv_goto (tgt := 54) hx hb dX9_thingToKeep_50 (by decide) ?_
        refine W.widen (k := 3) (n := 86) (Nat.le_of_ble_eq_true rfl) (Nat.le_of_ble_eq_true rfl) ?_
        exact W.aret (v := .ref x47) hx hb hr (Or.inl ⟨_, rfl⟩) (Or.inr ⟨_, rfl⟩) (fun t ht hW => ⟨⟨(some x47), (G47, w47), rfl, ⟨hX, Or.inr (Or.inr ⟨_, _, rfl, hG_x47⟩)⟩, by show va_P D vwCl w47 t.heap; rw [ht]; exact hP, hD, hT⟩, hS.F ht⟩) hS.2.2 dX9_thingToKeep_54
    · skip
      have d18 := c18
      rw [fa_eq] at d18
      refine lv_aload_n hx hb dX9_thingToKeep_21 rfl (lv_at hl 1 rfl) ?_
      obtain ⟨_, hM_x1, b_x1, s_x1, w_x1, h_x1, t_x1, x_x1, y_x1, ms_x1, rfl, hG_b_x1, hG_s_x1, hJ_x1⟩ := hT _ _ hG_x1
      refine t_getJ (v := .ref b_x1) hx hb hts hinJ hown hK hP hJ_x1.kc hM_x1 0 (by decide) (hts (.fieldLink RX9 65 "ShadowBench$Job" "board" "LShadowBench$Board;") (by decide +kernel)) (fun _ h9 => h9) rfl dX9_thingToKeep_22 ?_
      refine lv_lload_n hx hb dX9_thingToKeep_25 rfl (lv_at hl 2 rfl) ?_
      obtain ⟨_, hM_b_x1, hb_b_x1, l_b_x1, f_b_x1, r_b_x1, rfl, hG_l_b_x1, hG_f_b_x1, hG_r_b_x1⟩ := hT _ _ hG_b_x1
      refine t_calli (va_runV (g := F0 m 26 ls ([.long p0, .ref b_x1])) (As := [.long p0]) (rest := []) ⟨hx, hb, hml, hown, hts⟩ (c_X0_isPicture l D cy A G ws b_x1 p0 hD hT hG_b_x1 ) (cwV 1 hts gX9_thingToKeep_X0_isPicture rfl rfl rfl (by decide +kernel) ⟨Nat.le_of_ble_eq_true rfl, Nat.le_of_ble_eq_true rfl⟩) (c_preV hM_b_x1 rfl hP hK hA hS hV) rfl rfl hl.1 rfl (lv_room (Nat.le_of_ble_eq_true rfl)) dX9_thingToKeep_26 ⟨Nat.le_of_ble_eq_true rfl, Nat.le_of_ble_eq_true rfl⟩) hS (fun r26 u H locs q26 hP9 hD9 hT9 hS => ?_)
      obtain ⟨rfl, q26⟩ := q26
      have hP : va_P D vwCl ws H := hP9
      refine lv_if_eq (tgt := 41) hx hb dX9_thingToKeep_29 (by decide) (fun c29 => ?_) (fun c29 => ?_)
      · skip
        have d29 := c29
        rw [fa_eq] at d29
        refine lv_iload_n hx hb dX9_thingToKeep_41 rfl (lv_at hl 0 rfl) ?_
        refine lv_iconst (v := 4) hx hb dX9_thingToKeep_42 (by decide) ?_
        refine lv_icmp_ne (tgt := 53) hx hb dX9_thingToKeep_43 (by decide) (fun c43 => ?_) (fun c43 => ?_)
        · skip
          have d43 := c43
          rw [fa_eq] at d43
          refine lv_null hx hb dX9_thingToKeep_53 ?_
          refine W.widen (k := 3) (n := 86) (Nat.le_of_ble_eq_true rfl) (Nat.le_of_ble_eq_true rfl) ?_
          exact W.aret (v := .null) hx hb hr (Or.inl ⟨_, rfl⟩) (Or.inl rfl) (fun t ht hW => ⟨⟨none, (G, ws), rfl, ⟨hX, Or.inl rfl⟩, by show va_P D vwCl ws t.heap; rw [ht]; exact hP, hD, hT⟩, hS.F ht⟩) hS.2.2 dX9_thingToKeep_54
        · skip
          have d43 := c43
          rw [fa_eq] at d43
          refine lv_aload_n hx hb dX9_thingToKeep_46 rfl (lv_at hl 1 rfl) ?_
          refine t_calla (va_runS (g := F0 m 47 ls ([.ref x1])) (As := [.ref x1]) (rest := []) ⟨hx, hb, hml, hown, hts⟩ (c_X9_sumsOf l D cy A G ws x1 hD hT hG_x1 ) (va_cwS 1 hts gX9_thingToKeep_X9_sumsOf rfl rfl rfl (by decide +kernel) ⟨Nat.le_of_ble_eq_true rfl, Nat.le_of_ble_eq_true rfl⟩) (c_preS hP hK hA hS hV) rfl rfl hl.1 rfl (lv_room (Nat.le_of_ble_eq_true rfl)) dX9_thingToKeep_47 ⟨Nat.le_of_ble_eq_true rfl, Nat.le_of_ble_eq_true rfl⟩) hS (fun r47 u H locs q47 hP9 hD9 hT9 hS => ?_)
          obtain ⟨G47, w47⟩ := u
          obtain ⟨hX9, q47⟩ := q47
          have hX9 : cX none (chs [16]) G ws G47 w47 := hX9
          have hP : va_P D vwCl w47 H := hP9
          have hD : va_D A w47 := hD9
          have hT : cT cy G47 w47 := hT9
          have hM_x1 := hX9.2.1 _ _ (cP.no hG_x1 rfl) hM_x1
          have hM_b_x1 := hX9.2.1 _ _ (cP.no hG_b_x1 rfl) hM_b_x1
          have hG_x1 := hX9.1 _ _ hG_x1
          have hG_b_x1 := hX9.1 _ _ hG_b_x1
          have hG_s_x1 := hX9.1 _ _ hG_s_x1
          have hG_l_b_x1 := hX9.1 _ _ hG_l_b_x1
          have hG_f_b_x1 := hX9.1 _ _ hG_f_b_x1
          have hG_r_b_x1 := hX9.1 _ _ hG_r_b_x1
          have hX := hX.tr hX9
          obtain ⟨x47, n47, rfl, hG_x47⟩ := q47
          refine lv_goto (tgt := 54) hx hb dX9_thingToKeep_50 (by decide) ?_
          refine W.widen (k := 3) (n := 86) (Nat.le_of_ble_eq_true rfl) (Nat.le_of_ble_eq_true rfl) ?_
          exact W.aret (v := .ref x47) hx hb hr (Or.inl ⟨_, rfl⟩) (Or.inr ⟨_, rfl⟩) (fun t ht hW => ⟨⟨(some x47), (G47, w47), rfl, ⟨hX, Or.inr (Or.inr ⟨_, _, rfl, hG_x47⟩)⟩, by show va_P D vwCl w47 t.heap; rw [ht]; exact hP, hD, hT⟩, hS.F ht⟩) hS.2.2 dX9_thingToKeep_54
      · skip
        have d29 := c29
        rw [fa_eq] at d29
        refine lv_aload_n hx hb dX9_thingToKeep_32 rfl (lv_at hl 1 rfl) ?_
        refine t_getJ (v := .ref b_x1) hx hb hts hinJ hown hK hP hJ_x1.kc hM_x1 0 (by decide) (hts (.fieldLink RX9 65 "ShadowBench$Job" "board" "LShadowBench$Board;") (by decide +kernel)) (fun _ h9 => h9) rfl dX9_thingToKeep_33 ?_
        refine lv_lload_n hx hb dX9_thingToKeep_36 rfl (lv_at hl 2 rfl) ?_
        refine t_calla (va_runS (g := F0 m 37 ls ([.long p0, .ref b_x1])) (As := [.ref b_x1, .long p0]) (rest := []) ⟨hx, hb, hml, hown, hts⟩ (c_X9_squaresOf l D cy A G ws b_x1 p0 hD hT hG_b_x1 ) (va_cwS 2 hts gX9_thingToKeep_X9_squaresOf rfl rfl rfl (by decide +kernel) ⟨Nat.le_of_ble_eq_true rfl, Nat.le_of_ble_eq_true rfl⟩) (c_preS hP hK hA hS hV) rfl rfl hl.1 rfl (lv_room (Nat.le_of_ble_eq_true rfl)) dX9_thingToKeep_37 ⟨Nat.le_of_ble_eq_true rfl, Nat.le_of_ble_eq_true rfl⟩) hS (fun r37 u H locs q37 hP9 hD9 hT9 hS => ?_)
        obtain ⟨G37, w37⟩ := u
        obtain ⟨hX9, q37⟩ := q37
        have hX9 : cX none (chs [16]) G ws G37 w37 := hX9
        have hP : va_P D vwCl w37 H := hP9
        have hD : va_D A w37 := hD9
        have hT : cT cy G37 w37 := hT9
        have hM_x1 := hX9.2.1 _ _ (cP.no hG_x1 rfl) hM_x1
        have hM_b_x1 := hX9.2.1 _ _ (cP.no hG_b_x1 rfl) hM_b_x1
        have hG_x1 := hX9.1 _ _ hG_x1
        have hG_b_x1 := hX9.1 _ _ hG_b_x1
        have hG_s_x1 := hX9.1 _ _ hG_s_x1
        have hG_l_b_x1 := hX9.1 _ _ hG_l_b_x1
        have hG_f_b_x1 := hX9.1 _ _ hG_f_b_x1
        have hG_r_b_x1 := hX9.1 _ _ hG_r_b_x1
        have hX := hX.tr hX9
        obtain ⟨x37, n37, rfl, hG_x37⟩ := q37
        refine W.widen (k := 3) (n := 86) (Nat.le_of_ble_eq_true rfl) (Nat.le_of_ble_eq_true rfl) ?_
        exact W.aret (v := .ref x37) hx hb hr (Or.inl ⟨_, rfl⟩) (Or.inr ⟨_, rfl⟩) (fun t ht hW => ⟨⟨(some x37), (G37, w37), rfl, ⟨hX, Or.inr (Or.inr ⟨_, _, rfl, hG_x37⟩)⟩, by show va_P D vwCl w37 t.heap; rw [ht]; exact hP, hD, hT⟩, hS.F ht⟩) hS.2.2 dX9_thingToKeep_40
  · skip
    have d8 := c8
    rw [fa_eq] at d8
    refine lv_aload_n hx hb dX9_thingToKeep_11 rfl (lv_at hl 1 rfl) ?_
    obtain ⟨_, hM_x1, b_x1, s_x1, w_x1, h_x1, t_x1, x_x1, y_x1, ms_x1, rfl, hG_b_x1, hG_s_x1, hJ_x1⟩ := hT _ _ hG_x1
    have hJ9 := hJ_x1
    obtain ⟨hn9, hJ9⟩ := hJ9
    rcases hJ9 with ⟨rfl, rfl⟩ | ⟨rfl, rfl⟩ | ⟨rfl, rfl⟩ | ⟨rfl, c9, rfl, hG_c9⟩
    · skip
      have hM_x1 : cIn ws x1 (.inr (1, [.ref b_x1, .ref s_x1, .int t_x1, .long x_x1, .long y_x1])) := hM_x1
      refine t_calla (va_runU (g := F0 m 12 ls ([.ref x1])) (As := []) (rest := []) ⟨hx, hb, hml, hown, hts⟩ (c_X1_asItIs_w l D cy A G ws x1 hD hT hG_x1 ) (va_cwO 0 hts gX9_thingToKeep_X1_asItIs_u321X1 rfl rfl rfl (b0 := cX3_asItIs) (m0 := 1) (r0 := (some (.object "ShadowBench$Job"))) (by decide +kernel) (by decide +kernel) ⟨Nat.le_of_ble_eq_true rfl, Nat.le_of_ble_eq_true rfl⟩) (c_preV hM_x1 rfl hP hK hA hS hV) rfl rfl hl.1 rfl (lv_room (Nat.le_of_ble_eq_true rfl)) dX9_thingToKeep_12 ⟨Nat.le_of_ble_eq_true rfl, Nat.le_of_ble_eq_true rfl⟩) hS (fun r12 u H locs q12 hP9 hD9 hT9 hS => ?_)
      obtain ⟨G12, w12⟩ := u
      obtain ⟨hX9, q12⟩ := q12
      have hX9 : cX none (chs []) G ws G12 w12 := hX9
      have hP : va_P D vwCl w12 H := hP9
      have hD : va_D A w12 := hD9
      have hT : cT cy G12 w12 := hT9
      have hM_x1 := hX9.2.1 _ _ (cP.no hG_x1 rfl) hM_x1
      have hG_x1 := hX9.1 _ _ hG_x1
      have hG_b_x1 := hX9.1 _ _ hG_b_x1
      have hG_s_x1 := hX9.1 _ _ hG_s_x1
      have hX := hX.tr (hX9.wk (chs_sub (by decide)))
      obtain ⟨x12, k12, n12, rfl, hG_x12⟩ := q12
      refine W.widen (k := 3) (n := 86) (Nat.le_of_ble_eq_true rfl) (Nat.le_of_ble_eq_true rfl) ?_
      exact W.aret (v := .ref x12) hx hb hr (Or.inl ⟨_, rfl⟩) (Or.inr ⟨_, rfl⟩) (fun t ht hW => ⟨⟨(some x12), (G12, w12), rfl, ⟨hX, Or.inr (Or.inl ⟨_, _, _, rfl, hG_x12⟩)⟩, by show va_P D vwCl w12 t.heap; rw [ht]; exact hP, hD, hT⟩, hS.F ht⟩) hS.2.2 dX9_thingToKeep_15
    · skip
      have hM_x1 : cIn ws x1 (.inr (2, [.ref b_x1, .ref s_x1, .int t_x1, .long x_x1, .long y_x1])) := hM_x1
      refine t_calla (va_runV (g := F0 m 12 ls ([.ref x1])) (As := []) (rest := []) ⟨hx, hb, hml, hown, hts⟩ (c_X3_asItIs_w l D cy A G ws x1 hD hT hG_x1 ) (cwV 0 hts gX9_thingToKeep_X3_asItIs rfl rfl rfl (by decide +kernel) ⟨Nat.le_of_ble_eq_true rfl, Nat.le_of_ble_eq_true rfl⟩) (c_preV hM_x1 rfl hP hK hA hS hV) rfl rfl hl.1 rfl (lv_room (Nat.le_of_ble_eq_true rfl)) dX9_thingToKeep_12 ⟨Nat.le_of_ble_eq_true rfl, Nat.le_of_ble_eq_true rfl⟩) hS (fun r12 u H locs q12 hP9 hD9 hT9 hS => ?_)
      obtain ⟨G12, w12⟩ := u
      obtain ⟨hX9, q12⟩ := q12
      have hX9 : cX none (chs []) G ws G12 w12 := hX9
      have hP : va_P D vwCl w12 H := hP9
      have hD : va_D A w12 := hD9
      have hT : cT cy G12 w12 := hT9
      have hM_x1 := hX9.2.1 _ _ (cP.no hG_x1 rfl) hM_x1
      have hG_x1 := hX9.1 _ _ hG_x1
      have hG_b_x1 := hX9.1 _ _ hG_b_x1
      have hG_s_x1 := hX9.1 _ _ hG_s_x1
      have hX := hX.tr (hX9.wk (chs_sub (by decide)))
      obtain ⟨x12, k12, n12, rfl, hG_x12⟩ := q12
      refine W.widen (k := 3) (n := 86) (Nat.le_of_ble_eq_true rfl) (Nat.le_of_ble_eq_true rfl) ?_
      exact W.aret (v := .ref x12) hx hb hr (Or.inl ⟨_, rfl⟩) (Or.inr ⟨_, rfl⟩) (fun t ht hW => ⟨⟨(some x12), (G12, w12), rfl, ⟨hX, Or.inr (Or.inl ⟨_, _, _, rfl, hG_x12⟩)⟩, by show va_P D vwCl w12 t.heap; rw [ht]; exact hP, hD, hT⟩, hS.F ht⟩) hS.2.2 dX9_thingToKeep_15
    · skip
      have hM_x1 : cIn ws x1 (.inr (3, [.ref b_x1, .ref s_x1, .int t_x1, .long x_x1, .long y_x1])) := hM_x1
      refine t_calla (va_runU (g := F0 m 12 ls ([.ref x1])) (As := []) (rest := []) ⟨hx, hb, hml, hown, hts⟩ (c_X4_asItIs_w l D cy A G ws x1 hD hT hG_x1 ) (va_cwO 0 hts gX9_thingToKeep_X4_asItIs_u321X4 rfl rfl rfl (b0 := cX3_asItIs) (m0 := 1) (r0 := (some (.object "ShadowBench$Job"))) (by decide +kernel) (by decide +kernel) ⟨Nat.le_of_ble_eq_true rfl, Nat.le_of_ble_eq_true rfl⟩) (c_preV hM_x1 rfl hP hK hA hS hV) rfl rfl hl.1 rfl (lv_room (Nat.le_of_ble_eq_true rfl)) dX9_thingToKeep_12 ⟨Nat.le_of_ble_eq_true rfl, Nat.le_of_ble_eq_true rfl⟩) hS (fun r12 u H locs q12 hP9 hD9 hT9 hS => ?_)
      obtain ⟨G12, w12⟩ := u
      obtain ⟨hX9, q12⟩ := q12
      have hX9 : cX none (chs []) G ws G12 w12 := hX9
      have hP : va_P D vwCl w12 H := hP9
      have hD : va_D A w12 := hD9
      have hT : cT cy G12 w12 := hT9
      have hM_x1 := hX9.2.1 _ _ (cP.no hG_x1 rfl) hM_x1
      have hG_x1 := hX9.1 _ _ hG_x1
      have hG_b_x1 := hX9.1 _ _ hG_b_x1
      have hG_s_x1 := hX9.1 _ _ hG_s_x1
      have hX := hX.tr (hX9.wk (chs_sub (by decide)))
      obtain ⟨x12, k12, n12, rfl, hG_x12⟩ := q12
      refine W.widen (k := 3) (n := 86) (Nat.le_of_ble_eq_true rfl) (Nat.le_of_ble_eq_true rfl) ?_
      exact W.aret (v := .ref x12) hx hb hr (Or.inl ⟨_, rfl⟩) (Or.inr ⟨_, rfl⟩) (fun t ht hW => ⟨⟨(some x12), (G12, w12), rfl, ⟨hX, Or.inr (Or.inl ⟨_, _, _, rfl, hG_x12⟩)⟩, by show va_P D vwCl w12 t.heap; rw [ht]; exact hP, hD, hT⟩, hS.F ht⟩) hS.2.2 dX9_thingToKeep_15
    · skip
      have hM_x1 : cIn ws x1 (.inr (4, [.ref b_x1, .ref s_x1, .int t_x1, .long x_x1, .long y_x1, .ref c9])) := hM_x1
      have hn36 := cb_mul (c_hb hT hG_b_x1)
      refine t_calla (va_runU (g := F0 m 12 ls ([.ref x1])) (As := []) (rest := []) ⟨hx, hb, hml, hown, hts⟩ (c_X5_asItIs_w l D cy A G ws x1 hD hT hG_x1 ) (va_cwO 0 hts gX9_thingToKeep_X5_asItIs_u321X5 rfl rfl rfl (b0 := cX3_asItIs) (m0 := 1) (r0 := (some (.object "ShadowBench$Job"))) (by decide +kernel) (by decide +kernel) ⟨Nat.le_of_ble_eq_true rfl, Nat.le_of_ble_eq_true rfl⟩) (c_preV hM_x1 rfl hP hK hA hS hV) rfl rfl hl.1 rfl (lv_room (Nat.le_of_ble_eq_true rfl)) dX9_thingToKeep_12 ⟨Nat.le_of_ble_eq_true rfl, Nat.le_of_ble_eq_true rfl⟩) hS (fun r12 u H locs q12 hP9 hD9 hT9 hS => ?_)
      obtain ⟨G12, w12⟩ := u
      obtain ⟨hX9, q12⟩ := q12
      have hX9 : cX none (chs []) G ws G12 w12 := hX9
      have hP : va_P D vwCl w12 H := hP9
      have hD : va_D A w12 := hD9
      have hT : cT cy G12 w12 := hT9
      have hM_x1 := hX9.2.1 _ _ (cP.no hG_x1 rfl) hM_x1
      have hG_x1 := hX9.1 _ _ hG_x1
      have hG_b_x1 := hX9.1 _ _ hG_b_x1
      have hG_s_x1 := hX9.1 _ _ hG_s_x1
      have hG_c9 := hX9.1 _ _ hG_c9
      have hX := hX.tr (hX9.wk (chs_sub (by decide)))
      obtain ⟨x12, k12, n12, rfl, hG_x12⟩ := q12
      refine W.widen (k := 3) (n := 86) (Nat.le_of_ble_eq_true rfl) (Nat.le_of_ble_eq_true rfl) ?_
      exact W.aret (v := .ref x12) hx hb hr (Or.inl ⟨_, rfl⟩) (Or.inr ⟨_, rfl⟩) (fun t ht hW => ⟨⟨(some x12), (G12, w12), rfl, ⟨hX, Or.inr (Or.inl ⟨_, _, _, rfl, hG_x12⟩)⟩, by show va_P D vwCl w12 t.heap; rw [ht]; exact hP, hD, hT⟩, hS.F ht⟩) hS.2.2 dX9_thingToKeep_15
set_option maxHeartbeats 4000000 in
set_option maxRecDepth 100000 in
theorem c_X9_keep_w (l : Launch) (D : va_G) (cy : Nat → ClassId) (A : Nat → Prop) (G : cG) (ws : va_W) (o : Nat) (d : Int32) (what : Int32) (k0 : Int32) (p0 : Int64)  (hD : va_D A ws) (hT : cT cy G ws) (hG_o : G o = some (7, 0, 0))  : Ci l D cy A yX9_keep wsX9_keep ({ frames := 7, cells := 3, slots := 86, locals := 146 }) 3 86 ws [.ref o, .int d, .int what, .int k0, .long p0] (fun r0 u => cX none (chs [10, 16]) G ws u.1 u.2 ∧ (True)) := by
  refine Met.ofW (cc := cX9_keep) (maxL := 7) (ret := (some .int)) (by decide) rfl ?_
  intro p e s m args below meth c s₁ B hml hv
  obtain ⟨rfl, hP, hK, hA, hV⟩ := hv
  have hx := B.exec
  have hb := B.bytes
  have hr := B.returns
  have hts := atoms_spec (ws := wsX9_keep) B.pre
  have hown : s.vm.findClass RX9 = some m.cls := findClass_of_methodNamed B.named
  have hlocks := B.notSynchronized
  have hS : va_S A s.heap s.heap [] := va_S.rf
  have hX : cX none (chs [10, 16]) G ws G ws := cX.rf
  have hl := lv_entry ([.ref o, .int d, .int what, .int k0, .long p0]) (n := 7) (Nat.le_of_ble_eq_true rfl)
  rw [lg_entry_eq]
  generalize (lg_sl ([.ref o, .int d, .int what, .int k0, .long p0]) ++ List.replicate (7 - (lg_sl ([.ref o, .int d, .int what, .int k0, .long p0])).length) Slot.unset).toArray = ls at hl ⊢
  have hl : lv_has ls 7 [(0, .ref o), (1, .int d), (2, .int what), (3, .int k0), (4, .long p0)] := hl
  have k_m1 : (-1 : Int32).toInt = -1 := by decide
  have k_0 : (0 : Int32).toInt = 0 := by decide
  refine lv_iload_n hx hb dX9_keep_0 rfl (lv_at hl 1 rfl) ?_
  refine t_pu (As := [.int d]) (rest := []) ⟨hx, hb, hml, hown, hts⟩ (c_X9_isShelf l d ) (va_cwS 1 hts gX9_keep_X9_isShelf rfl rfl rfl (by decide +kernel) ⟨Nat.le_of_ble_eq_true rfl, Nat.le_of_ble_eq_true rfl⟩) hP rfl hl.1 rfl (Nat.le_of_ble_eq_true rfl) dX9_keep_1 ⟨Nat.le_of_ble_eq_true rfl, Nat.le_of_ble_eq_true rfl⟩ hS (fun r1 H locs q1 hP hS => ?_)
  refine lv_if_ne (tgt := 9) hx hb dX9_keep_4 (by decide) (fun c4 => ?_) (fun c4 => ?_)
  · skip
    have b4 := bo_t q1 c4
    refine lv_iload_n hx hb dX9_keep_9 rfl (lv_at hl 2 rfl) ?_
    refine lv_if_ne (tgt := 22) hx hb dX9_keep_10 (by decide) (fun c10 => ?_) (fun c10 => ?_)
    · skip
      have d10 := c10
      rw [fa_eq] at d10
      refine lv_iload_n hx hb dX9_keep_22 rfl (lv_at hl 2 rfl) ?_
      refine lv_aload_n hx hb dX9_keep_23 rfl (lv_at hl 0 rfl) ?_
      refine lv_iload_n hx hb dX9_keep_24 rfl (lv_at hl 3 rfl) ?_
      obtain ⟨_, hM_o, bs_o, js_o, sh_o, wk_o, ll_o, jc_o, lc_o, mo_o, lb_o, rfl, hjc_o, hlc_o, hG_bs_o, hG_js_o, hG_sh_o, hG_wk_o, hmo_o, hG_ll_o, hlb_o⟩ := hT _ _ hG_o
      refine t_calla (va_runV (g := F0 m 25 ls ([.int k0, .ref o, .int what])) (As := [.int k0]) (rest := [.int what]) ⟨hx, hb, hml, hown, hts⟩ (c_X9_jobOf l D cy A G ws o k0 hD hT hG_o ) (cwV 1 hts gX9_keep_X9_jobOf rfl rfl rfl (by decide +kernel) ⟨Nat.le_of_ble_eq_true rfl, Nat.le_of_ble_eq_true rfl⟩) (c_preV hM_o rfl hP hK hA hS hV) rfl rfl hl.1 rfl (lv_room (Nat.le_of_ble_eq_true rfl)) dX9_keep_25 ⟨Nat.le_of_ble_eq_true rfl, Nat.le_of_ble_eq_true rfl⟩) hS (fun r25 u H locs q25 hP9 hD9 hT9 hS => ?_)
      obtain ⟨rfl, q25⟩ := q25
      have hP : va_P D vwCl ws H := hP9
      rcases r25 with _ | x25
      · skip
        refine lv_lload hx hb dX9_keep_28 (lv_at hl 4 rfl) ?_
        refine t_calla (va_runS (g := F0 m 30 ls ([.long p0, .null, .int what])) (As := [.int what, .null, .long p0]) (rest := []) ⟨hx, hb, hml, hown, hts⟩ (c_X9_thingToKeep_wn l D cy A G ws what p0 hD hT ) (va_cwS 3 hts gX9_keep_X9_thingToKeep rfl rfl rfl (by decide +kernel) ⟨Nat.le_of_ble_eq_true rfl, Nat.le_of_ble_eq_true rfl⟩) (c_preS hP hK hA hS hV) rfl rfl hl.1 rfl (lv_room (Nat.le_of_ble_eq_true rfl)) dX9_keep_30 ⟨Nat.le_of_ble_eq_true rfl, Nat.le_of_ble_eq_true rfl⟩) hS (fun r30 u H locs q30 hP9 hD9 hT9 hS => ?_)
        obtain ⟨G30, w30⟩ := u
        obtain ⟨hX9, q30⟩ := q30
        have hX9 : cX none (chs [16]) G ws G30 w30 := hX9
        have hP : va_P D vwCl w30 H := hP9
        have hD : va_D A w30 := hD9
        have hT : cT cy G30 w30 := hT9
        have hM_o := hX9.2.1 _ _ (cP.no hG_o rfl) hM_o
        have hG_o := hX9.1 _ _ hG_o
        have hG_bs_o := hX9.1 _ _ hG_bs_o
        have hG_js_o := hX9.1 _ _ hG_js_o
        have hG_sh_o := hX9.1 _ _ hG_sh_o
        have hG_wk_o := hX9.1 _ _ hG_wk_o
        have hG_ll_o := hX9.1 _ _ hG_ll_o
        have hX := hX.tr (hX9.wk (chs_sub (by decide)))
        rcases q30 with rfl | ⟨x30, k30, n30, rfl, hG_x30⟩ | ⟨x30, n30, rfl, hG_x30⟩
        · skip
          refine lv_astoreN (lv' := [(6, .null), (0, .ref o), (1, .int d), (2, .int what), (3, .int k0), (4, .long p0)]) hx hb dX9_keep_33 hl (by decide) rfl (fun ls hl => ?_)
          refine lv_aloadN hx hb dX9_keep_35 (lv_at hl 0 rfl) ?_
          refine lv_ifnonnullN hx hb dX9_keep_37 ?_
          refine lv_iconst (v := (-1)) hx hb dX9_keep_40 (by decide) ?_
          refine W.widen (k := 3) (n := 86) (Nat.le_of_ble_eq_true rfl) (Nat.le_of_ble_eq_true rfl) ?_
          exact W.iret (v := ((-1) : Int32)) hx hb hr (fun t ht hW => ⟨⟨_, (G30, w30), rfl, ⟨hX, trivial⟩, by show va_P D vwCl w30 t.heap; rw [ht]; exact hP, hD, hT⟩, hS.F ht⟩) hS.2.2 dX9_keep_41
        · skip
          refine lv_astore (lv' := [(6, .ref x30), (0, .ref o), (1, .int d), (2, .int what), (3, .int k0), (4, .long p0)]) hx hb dX9_keep_33 hl (by decide) rfl (fun ls hl => ?_)
          refine lv_aload hx hb dX9_keep_35 (lv_at hl 0 rfl) ?_
          refine lv_ifnonnull (tgt := 42) hx hb dX9_keep_37 (by decide) ?_
          refine lv_aload_n hx hb dX9_keep_42 rfl (lv_at hl 1 rfl) ?_
          refine t_get (v := .ref sh_o) (C := RX9) (T := TX9) (N := 9) hx hb hts (by decide +kernel) hown hK hP hM_o rfl 3 (by decide) (hts (.fieldLink RX9 27 "ShadowBench" "shelves" "[LShadowBench$Held;") (by decide +kernel)) (fun _ h9 => h9) rfl dX9_keep_43 ?_
          refine lv_iload_n hx hb dX9_keep_46 rfl (lv_at hl 2 rfl) ?_
          refine lv_aload hx hb dX9_keep_47 (lv_at hl 0 rfl) ?_
          refine t_aast10 hx hb hV hK hP hD hS hT hG_sh_o (Or.inl ⟨_, _, hG_x30⟩) (vp_in_iff.mpr ⟨by omega, by omega⟩) dX9_keep_49 (fun H locs w49 hU49 hP hD hT hS => ?_)
          have hM_o := hU49 _ _ (cne hG_o hG_sh_o (show (7 : Nat) ≠ 10 by decide)) hM_o
          have hX := hX.tr (cX.uF hU49 (Or.inr ⟨_, hG_sh_o, rfl⟩))
          refine lv_iconst (v := 0) hx hb dX9_keep_50 (by decide) ?_
          refine W.widen (k := 3) (n := 86) (Nat.le_of_ble_eq_true rfl) (Nat.le_of_ble_eq_true rfl) ?_
          exact W.iret (v := (0 : Int32)) hx hb hr (fun t ht hW => ⟨⟨_, (G30, w49), rfl, ⟨hX, trivial⟩, by show va_P D vwCl w49 t.heap; rw [ht]; exact hP, hD, hT⟩, hS.F ht⟩) hS.2.2 dX9_keep_51
        · skip
          refine lv_astore (lv' := [(6, .ref x30), (0, .ref o), (1, .int d), (2, .int what), (3, .int k0), (4, .long p0)]) hx hb dX9_keep_33 hl (by decide) rfl (fun ls hl => ?_)
          refine lv_aload hx hb dX9_keep_35 (lv_at hl 0 rfl) ?_
          refine lv_ifnonnull (tgt := 42) hx hb dX9_keep_37 (by decide) ?_
          refine lv_aload_n hx hb dX9_keep_42 rfl (lv_at hl 1 rfl) ?_
          refine t_get (v := .ref sh_o) (C := RX9) (T := TX9) (N := 9) hx hb hts (by decide +kernel) hown hK hP hM_o rfl 3 (by decide) (hts (.fieldLink RX9 27 "ShadowBench" "shelves" "[LShadowBench$Held;") (by decide +kernel)) (fun _ h9 => h9) rfl dX9_keep_43 ?_
          refine lv_iload_n hx hb dX9_keep_46 rfl (lv_at hl 2 rfl) ?_
          refine lv_aload hx hb dX9_keep_47 (lv_at hl 0 rfl) ?_
          refine t_aast10 hx hb hV hK hP hD hS hT hG_sh_o (Or.inr ⟨_, hG_x30⟩) (vp_in_iff.mpr ⟨by omega, by omega⟩) dX9_keep_49 (fun H locs w49 hU49 hP hD hT hS => ?_)
          have hM_o := hU49 _ _ (cne hG_o hG_sh_o (show (7 : Nat) ≠ 10 by decide)) hM_o
          have hX := hX.tr (cX.uF hU49 (Or.inr ⟨_, hG_sh_o, rfl⟩))
          refine lv_iconst (v := 0) hx hb dX9_keep_50 (by decide) ?_
          refine W.widen (k := 3) (n := 86) (Nat.le_of_ble_eq_true rfl) (Nat.le_of_ble_eq_true rfl) ?_
          exact W.iret (v := (0 : Int32)) hx hb hr (fun t ht hW => ⟨⟨_, (G30, w49), rfl, ⟨hX, trivial⟩, by show va_P D vwCl w49 t.heap; rw [ht]; exact hP, hD, hT⟩, hS.F ht⟩) hS.2.2 dX9_keep_51
      · skip
        obtain ⟨kx25, nx25, hG_x25⟩ := q25 x25 rfl
        refine lv_lload hx hb dX9_keep_28 (lv_at hl 4 rfl) ?_
        refine t_calla (va_runS (g := F0 m 30 ls ([.long p0, .ref x25, .int what])) (As := [.int what, .ref x25, .long p0]) (rest := []) ⟨hx, hb, hml, hown, hts⟩ (c_X9_thingToKeep_w l D cy A G ws what x25 p0 hD hT hG_x25 ) (va_cwS 3 hts gX9_keep_X9_thingToKeep rfl rfl rfl (by decide +kernel) ⟨Nat.le_of_ble_eq_true rfl, Nat.le_of_ble_eq_true rfl⟩) (c_preS hP hK hA hS hV) rfl rfl hl.1 rfl (lv_room (Nat.le_of_ble_eq_true rfl)) dX9_keep_30 ⟨Nat.le_of_ble_eq_true rfl, Nat.le_of_ble_eq_true rfl⟩) hS (fun r30 u H locs q30 hP9 hD9 hT9 hS => ?_)
        obtain ⟨G30, w30⟩ := u
        obtain ⟨hX9, q30⟩ := q30
        have hX9 : cX none (chs [16]) G ws G30 w30 := hX9
        have hP : va_P D vwCl w30 H := hP9
        have hD : va_D A w30 := hD9
        have hT : cT cy G30 w30 := hT9
        have hM_o := hX9.2.1 _ _ (cP.no hG_o rfl) hM_o
        have hG_o := hX9.1 _ _ hG_o
        have hG_bs_o := hX9.1 _ _ hG_bs_o
        have hG_js_o := hX9.1 _ _ hG_js_o
        have hG_sh_o := hX9.1 _ _ hG_sh_o
        have hG_wk_o := hX9.1 _ _ hG_wk_o
        have hG_ll_o := hX9.1 _ _ hG_ll_o
        have hG_x25 := hX9.1 _ _ hG_x25
        have hX := hX.tr (hX9.wk (chs_sub (by decide)))
        rcases q30 with rfl | ⟨x30, k30, n30, rfl, hG_x30⟩ | ⟨x30, n30, rfl, hG_x30⟩
        · skip
          refine lv_astoreN (lv' := [(6, .null), (0, .ref o), (1, .int d), (2, .int what), (3, .int k0), (4, .long p0)]) hx hb dX9_keep_33 hl (by decide) rfl (fun ls hl => ?_)
          refine lv_aloadN hx hb dX9_keep_35 (lv_at hl 0 rfl) ?_
          refine lv_ifnonnullN hx hb dX9_keep_37 ?_
          refine lv_iconst (v := (-1)) hx hb dX9_keep_40 (by decide) ?_
          refine W.widen (k := 3) (n := 86) (Nat.le_of_ble_eq_true rfl) (Nat.le_of_ble_eq_true rfl) ?_
          exact W.iret (v := ((-1) : Int32)) hx hb hr (fun t ht hW => ⟨⟨_, (G30, w30), rfl, ⟨hX, trivial⟩, by show va_P D vwCl w30 t.heap; rw [ht]; exact hP, hD, hT⟩, hS.F ht⟩) hS.2.2 dX9_keep_41
        · skip
          refine lv_astore (lv' := [(6, .ref x30), (0, .ref o), (1, .int d), (2, .int what), (3, .int k0), (4, .long p0)]) hx hb dX9_keep_33 hl (by decide) rfl (fun ls hl => ?_)
          refine lv_aload hx hb dX9_keep_35 (lv_at hl 0 rfl) ?_
          refine lv_ifnonnull (tgt := 42) hx hb dX9_keep_37 (by decide) ?_
          refine lv_aload_n hx hb dX9_keep_42 rfl (lv_at hl 1 rfl) ?_
          refine t_get (v := .ref sh_o) (C := RX9) (T := TX9) (N := 9) hx hb hts (by decide +kernel) hown hK hP hM_o rfl 3 (by decide) (hts (.fieldLink RX9 27 "ShadowBench" "shelves" "[LShadowBench$Held;") (by decide +kernel)) (fun _ h9 => h9) rfl dX9_keep_43 ?_
          refine lv_iload_n hx hb dX9_keep_46 rfl (lv_at hl 2 rfl) ?_
          refine lv_aload hx hb dX9_keep_47 (lv_at hl 0 rfl) ?_
          refine t_aast10 hx hb hV hK hP hD hS hT hG_sh_o (Or.inl ⟨_, _, hG_x30⟩) (vp_in_iff.mpr ⟨by omega, by omega⟩) dX9_keep_49 (fun H locs w49 hU49 hP hD hT hS => ?_)
          have hM_o := hU49 _ _ (cne hG_o hG_sh_o (show (7 : Nat) ≠ 10 by decide)) hM_o
          have hX := hX.tr (cX.uF hU49 (Or.inr ⟨_, hG_sh_o, rfl⟩))
          refine lv_iconst (v := 0) hx hb dX9_keep_50 (by decide) ?_
          refine W.widen (k := 3) (n := 86) (Nat.le_of_ble_eq_true rfl) (Nat.le_of_ble_eq_true rfl) ?_
          exact W.iret (v := (0 : Int32)) hx hb hr (fun t ht hW => ⟨⟨_, (G30, w49), rfl, ⟨hX, trivial⟩, by show va_P D vwCl w49 t.heap; rw [ht]; exact hP, hD, hT⟩, hS.F ht⟩) hS.2.2 dX9_keep_51
        · skip
          refine lv_astore (lv' := [(6, .ref x30), (0, .ref o), (1, .int d), (2, .int what), (3, .int k0), (4, .long p0)]) hx hb dX9_keep_33 hl (by decide) rfl (fun ls hl => ?_)
          refine lv_aload hx hb dX9_keep_35 (lv_at hl 0 rfl) ?_
          refine lv_ifnonnull (tgt := 42) hx hb dX9_keep_37 (by decide) ?_
          refine lv_aload_n hx hb dX9_keep_42 rfl (lv_at hl 1 rfl) ?_
          refine t_get (v := .ref sh_o) (C := RX9) (T := TX9) (N := 9) hx hb hts (by decide +kernel) hown hK hP hM_o rfl 3 (by decide) (hts (.fieldLink RX9 27 "ShadowBench" "shelves" "[LShadowBench$Held;") (by decide +kernel)) (fun _ h9 => h9) rfl dX9_keep_43 ?_
          refine lv_iload_n hx hb dX9_keep_46 rfl (lv_at hl 2 rfl) ?_
          refine lv_aload hx hb dX9_keep_47 (lv_at hl 0 rfl) ?_
          refine t_aast10 hx hb hV hK hP hD hS hT hG_sh_o (Or.inr ⟨_, hG_x30⟩) (vp_in_iff.mpr ⟨by omega, by omega⟩) dX9_keep_49 (fun H locs w49 hU49 hP hD hT hS => ?_)
          have hM_o := hU49 _ _ (cne hG_o hG_sh_o (show (7 : Nat) ≠ 10 by decide)) hM_o
          have hX := hX.tr (cX.uF hU49 (Or.inr ⟨_, hG_sh_o, rfl⟩))
          refine lv_iconst (v := 0) hx hb dX9_keep_50 (by decide) ?_
          refine W.widen (k := 3) (n := 86) (Nat.le_of_ble_eq_true rfl) (Nat.le_of_ble_eq_true rfl) ?_
          exact W.iret (v := (0 : Int32)) hx hb hr (fun t ht hW => ⟨⟨_, (G30, w49), rfl, ⟨hX, trivial⟩, by show va_P D vwCl w49 t.heap; rw [ht]; exact hP, hD, hT⟩, hS.F ht⟩) hS.2.2 dX9_keep_51
    · skip
      have d10 := c10
      rw [fa_eq] at d10
      refine lv_aload_n hx hb dX9_keep_13 rfl (lv_at hl 0 rfl) ?_
      obtain ⟨_, hM_o, bs_o, js_o, sh_o, wk_o, ll_o, jc_o, lc_o, mo_o, lb_o, rfl, hjc_o, hlc_o, hG_bs_o, hG_js_o, hG_sh_o, hG_wk_o, hmo_o, hG_ll_o, hlb_o⟩ := hT _ _ hG_o
      refine t_get (v := .ref sh_o) (C := RX9) (T := TX9) (N := 9) hx hb hts (by decide +kernel) hown hK hP hM_o rfl 3 (by decide) (hts (.fieldLink RX9 27 "ShadowBench" "shelves" "[LShadowBench$Held;") (by decide +kernel)) (fun _ h9 => h9) rfl dX9_keep_14 ?_
      refine lv_iload_n hx hb dX9_keep_17 rfl (lv_at hl 1 rfl) ?_
      refine lv_null hx hb dX9_keep_18 ?_
      refine t_aastN hx hb hK hP hD hS hT hG_sh_o (vp_in_iff.mpr ⟨by omega, by omega⟩) dX9_keep_19 (fun H locs w19 hU19 hP hD hT hS => ?_)
      have hM_o := hU19 _ _ (cne hG_o hG_sh_o (show (7 : Nat) ≠ 10 by decide)) hM_o
      have hX := hX.tr (cX.uF hU19 (Or.inr ⟨_, hG_sh_o, rfl⟩))
      refine lv_iconst (v := 0) hx hb dX9_keep_20 (by decide) ?_
      refine W.widen (k := 3) (n := 86) (Nat.le_of_ble_eq_true rfl) (Nat.le_of_ble_eq_true rfl) ?_
      exact W.iret (v := (0 : Int32)) hx hb hr (fun t ht hW => ⟨⟨_, (G, w19), rfl, ⟨hX, trivial⟩, by show va_P D vwCl w19 t.heap; rw [ht]; exact hP, hD, hT⟩, hS.F ht⟩) hS.2.2 dX9_keep_21
  · skip
    have b4 := bo_f q1 c4
    refine lv_iconst (v := (-1)) hx hb dX9_keep_7 (by decide) ?_
    refine W.widen (k := 3) (n := 86) (Nat.le_of_ble_eq_true rfl) (Nat.le_of_ble_eq_true rfl) ?_
    exact W.iret (v := ((-1) : Int32)) hx hb hr (fun t ht hW => ⟨⟨_, (G, ws), rfl, ⟨hX, trivial⟩, by show va_P D vwCl ws t.heap; rw [ht]; exact hP, hD, hT⟩, hS.F ht⟩) hS.2.2 dX9_keep_8
set_option maxHeartbeats 4000000 in
set_option maxRecDepth 100000 in
theorem c_X9_list_k (l : Launch) (D : va_G) (cy : Nat → ClassId) (A : Nat → Prop) (G : cG) (ws : va_W) (o : Nat) (wide : Int32) (high : Int32) (p0 : Int64) {bs_o js_o sh_o wk_o ll_o : Nat} {jc_o lc_o : Int32} {mo_o lb_o : Option Nat} (hD : va_D A ws) (hT : cT cy G ws) (hG_o : G o = some (7, 0, 0)) (hM_o : cIn ws o (.inr (8, [.ref bs_o, .ref js_o, .int jc_o, .ref sh_o, .ref wk_o, va_rf mo_o, .ref ll_o, .int lc_o, va_rf lb_o])))  : Ci l D cy A yX9_list wsX9_list ({ frames := 5, cells := 4, slots := 502, locals := 116 }) 4 502 ws [.ref o, .int wide, .int high, .long p0] (fun r0 u => cX none (chs [1, 7, 8, 17]) G ws u.1 u.2 ∧ (∃ lc lb, cIn u.2 o (.inr (8, [.ref bs_o, .ref js_o, .int jc_o, .ref sh_o, .ref wk_o, va_rf mo_o, .ref ll_o, .int lc, va_rf lb])))) := by
  refine Met.ofW (cc := cX9_list) (maxL := 6) (ret := (some .int)) (by decide) rfl ?_
  intro p e s m args below meth c s₁ B hml hv
  obtain ⟨rfl, hP, hK, hA, hV⟩ := hv
  have hx := B.exec
  have hb := B.bytes
  have hr := B.returns
  have hts := atoms_spec (ws := wsX9_list) B.pre
  have hown : s.vm.findClass RX9 = some m.cls := findClass_of_methodNamed B.named
  have hlocks := B.notSynchronized
  have hS : va_S A s.heap s.heap [] := va_S.rf
  have hX : cX none (chs [1, 7, 8, 17]) G ws G ws := cX.rf
  have hl := lv_entry ([.ref o, .int wide, .int high, .long p0]) (n := 6) (Nat.le_of_ble_eq_true rfl)
  rw [lg_entry_eq]
  generalize (lg_sl ([.ref o, .int wide, .int high, .long p0]) ++ List.replicate (6 - (lg_sl ([.ref o, .int wide, .int high, .long p0])).length) Slot.unset).toArray = ls at hl ⊢
  have hl : lv_has ls 6 [(0, .ref o), (1, .int wide), (2, .int high), (3, .long p0)] := hl
  have k_m3 : (-3 : Int32).toInt = -3 := by decide
  have k_m2 : (-2 : Int32).toInt = -2 := by decide
  have k_m1 : (-1 : Int32).toInt = -1 := by decide
  have k_0 : (0 : Int32).toInt = 0 := by decide
  have k_1 : (1 : Int32).toInt = 1 := by decide
  have k_12 : (12 : Int32).toInt = 12 := by decide
  obtain ⟨hjc_o, hlc_o, hG_bs_o, hG_js_o, hG_sh_o, hG_wk_o, hmo_o, hG_ll_o, hlb_o⟩ := w7sh hD hT hG_o hM_o
  refine lv_aload_n hx hb dX9_list_0 rfl (lv_at hl 0 rfl) ?_
  refine lv_iload_n hx hb dX9_list_1 rfl (lv_at hl 1 rfl) ?_
  refine lv_iload_n hx hb dX9_list_2 rfl (lv_at hl 2 rfl) ?_
  refine t_calla (va_runV (g := F0 m 3 ls ([.int high, .int wide, .ref o])) (As := [.int wide, .int high]) (rest := []) ⟨hx, hb, hml, hown, hts⟩ (c_X9_boardOf l D cy A G ws o wide high hD hT hG_o ) (cwV 2 hts gX9_list_X9_boardOf rfl rfl rfl (by decide +kernel) ⟨Nat.le_of_ble_eq_true rfl, Nat.le_of_ble_eq_true rfl⟩) (c_preV hM_o rfl hP hK hA hS hV) rfl rfl hl.1 rfl (lv_room (Nat.le_of_ble_eq_true rfl)) dX9_list_3 ⟨Nat.le_of_ble_eq_true rfl, Nat.le_of_ble_eq_true rfl⟩) hS (fun r3 u H locs q3 hP9 hD9 hT9 hS => ?_)
  obtain ⟨G3, w3⟩ := u
  obtain ⟨hX9, q3⟩ := q3
  have hX9 : cX none (chs [1, 8]) G ws G3 w3 := hX9
  have hP : va_P D vwCl w3 H := hP9
  have hD : va_D A w3 := hD9
  have hT : cT cy G3 w3 := hT9
  have hM_o := hX9.2.1 _ _ (cP.no hG_o rfl) hM_o
  have hG_o := hX9.1 _ _ hG_o
  have hG_bs_o := hX9.1 _ _ hG_bs_o
  have hG_js_o := hX9.1 _ _ hG_js_o
  have hG_sh_o := hX9.1 _ _ hG_sh_o
  have hG_wk_o := hX9.1 _ _ hG_wk_o
  have hG_ll_o := hX9.1 _ _ hG_ll_o
  have hmo_o := fun x9 z9 => hX9.1 _ _ (hmo_o x9 z9)
  have hlb_o : ∀ x9, lb_o = some x9 → ∃ w9 h9, _ = some (2, w9, h9) := fun x9 z9 => (hlb_o x9 z9).elim fun w9 z9 => z9.elim fun h9 z9 => ⟨w9, h9, hX9.1 _ _ z9⟩
  have hX := hX.tr (hX9.wk (chs_sub (by decide)))
  rcases r3 with _ | x3
  · skip
    refine lv_astoreN (lv' := [(5, .null), (0, .ref o), (1, .int wide), (2, .int high), (3, .long p0)]) hx hb dX9_list_6 hl (by decide) rfl (fun ls hl => ?_)
    refine lv_aloadN hx hb dX9_list_8 (lv_at hl 0 rfl) ?_
    refine lv_ifnullN (tgt := 22) hx hb dX9_list_10 (by decide) ?_
    refine lv_iconst (v := (-1)) hx hb dX9_list_22 (by decide) ?_
    refine W.widen (k := 4) (n := 502) (Nat.le_of_ble_eq_true rfl) (Nat.le_of_ble_eq_true rfl) ?_
    exact W.iret (v := ((-1) : Int32)) hx hb hr (fun t ht hW => ⟨⟨_, (G3, w3), rfl, ⟨hX, ⟨_, lb_o, hM_o⟩⟩, by show va_P D vwCl w3 t.heap; rw [ht]; exact hP, hD, hT⟩, hS.F ht⟩) hS.2.2 dX9_list_23
  · skip
    have hG_x3 := q3 x3 rfl
    refine lv_astore (lv' := [(5, .ref x3), (0, .ref o), (1, .int wide), (2, .int high), (3, .long p0)]) hx hb dX9_list_6 hl (by decide) rfl (fun ls hl => ?_)
    refine lv_aload hx hb dX9_list_8 (lv_at hl 0 rfl) ?_
    refine lv_ifnull hx hb dX9_list_10 ?_
    refine lv_aload hx hb dX9_list_13 (lv_at hl 0 rfl) ?_
    refine lv_lload_n hx hb dX9_list_15 rfl (lv_at hl 4 rfl) ?_
    obtain ⟨_, hM_x3, hb_x3, l_x3, f_x3, r_x3, rfl, hG_l_x3, hG_f_x3, hG_r_x3⟩ := hT _ _ hG_x3
    refine t_calli (va_runV (g := F0 m 16 ls ([.long p0, .ref x3])) (As := [.long p0]) (rest := []) ⟨hx, hb, hml, hown, hts⟩ (c_X0_isPicture l D cy A G3 w3 x3 p0 hD hT hG_x3 ) (cwV 1 hts gX9_list_X0_isPicture rfl rfl rfl (by decide +kernel) ⟨Nat.le_of_ble_eq_true rfl, Nat.le_of_ble_eq_true rfl⟩) (c_preV hM_x3 rfl hP hK hA hS hV) rfl rfl hl.1 rfl (lv_room (Nat.le_of_ble_eq_true rfl)) dX9_list_16 ⟨Nat.le_of_ble_eq_true rfl, Nat.le_of_ble_eq_true rfl⟩) hS (fun r16 u H locs q16 hP9 hD9 hT9 hS => ?_)
    obtain ⟨rfl, q16⟩ := q16
    have hP : va_P D vwCl w3 H := hP9
    refine lv_if_ne (tgt := 24) hx hb dX9_list_19 (by decide) (fun c19 => ?_) (fun c19 => ?_)
    · skip
      have d19 := c19
      rw [fa_eq] at d19
      refine lv_aload_n hx hb dX9_list_24 rfl (lv_at hl 1 rfl) ?_
      refine t_get (v := .int lc_o) (C := RX9) (T := TX9) (N := 9) hx hb hts (by decide +kernel) hown hK hP hM_o rfl 7 (by decide) (hts (.fieldLink RX9 46 "ShadowBench" "listCount" "I") (by decide +kernel)) (fun _ h9 => h9) rfl dX9_list_25 ?_
      refine lv_bipush (v := 12) hx hb dX9_list_28 (by decide) ?_
      refine lv_icmp_lt (tgt := 36) hx hb dX9_list_30 (by decide) (fun c30 => ?_) (fun c30 => ?_)
      · skip
        have d30 := c30
        rw [fa_lt] at d30
        refine lv_aload_n hx hb dX9_list_36 rfl (lv_at hl 1 rfl) ?_
        refine lv_iload_n hx hb dX9_list_37 rfl (lv_at hl 2 rfl) ?_
        refine lv_iload_n hx hb dX9_list_38 rfl (lv_at hl 3 rfl) ?_
        refine t_calli (va_runV (g := F0 m 39 ls ([.int high, .int wide, .ref o])) (As := [.int wide, .int high]) (rest := []) ⟨hx, hb, hml, hown, hts⟩ (c_X9_isOtherThanListed l D cy A G3 w3 o wide high hD hT hG_o ) (cwV 2 hts gX9_list_X9_isOtherThanListed rfl rfl rfl (by decide +kernel) ⟨Nat.le_of_ble_eq_true rfl, Nat.le_of_ble_eq_true rfl⟩) (c_preV hM_o rfl hP hK hA hS hV) rfl rfl hl.1 rfl (lv_room (Nat.le_of_ble_eq_true rfl)) dX9_list_39 ⟨Nat.le_of_ble_eq_true rfl, Nat.le_of_ble_eq_true rfl⟩) hS (fun r39 u H locs q39 hP9 hD9 hT9 hS => ?_)
        obtain ⟨rfl, q39⟩ := q39
        have hP : va_P D vwCl w3 H := hP9
        refine lv_if_ne (tgt := 53) hx hb dX9_list_42 (by decide) (fun c42 => ?_) (fun c42 => ?_)
        · skip
          have d42 := c42
          rw [fa_eq] at d42
          refine lv_bipush (v := (-3)) hx hb dX9_list_53 (by decide) ?_
          refine W.widen (k := 4) (n := 502) (Nat.le_of_ble_eq_true rfl) (Nat.le_of_ble_eq_true rfl) ?_
          exact W.iret (v := ((-3) : Int32)) hx hb hr (fun t ht hW => ⟨⟨_, (G3, w3), rfl, ⟨hX, ⟨_, lb_o, hM_o⟩⟩, by show va_P D vwCl w3 t.heap; rw [ht]; exact hP, hD, hT⟩, hS.F ht⟩) hS.2.2 dX9_list_55
        · skip
          have d42 := c42
          rw [fa_eq] at d42
          refine lv_aload_n hx hb dX9_list_45 rfl (lv_at hl 1 rfl) ?_
          refine lv_lload_n hx hb dX9_list_46 rfl (lv_at hl 4 rfl) ?_
          refine t_calli (va_runV (g := F0 m 47 ls ([.long p0, .ref o])) (As := [.long p0]) (rest := []) ⟨hx, hb, hml, hown, hts⟩ (c_X9_isListed l D cy A G3 w3 o p0 hD hT hG_o ) (cwV 1 hts gX9_list_X9_isListed rfl rfl rfl (by decide +kernel) ⟨Nat.le_of_ble_eq_true rfl, Nat.le_of_ble_eq_true rfl⟩) (c_preV hM_o rfl hP hK hA hS hV) rfl rfl hl.1 rfl (lv_room (Nat.le_of_ble_eq_true rfl)) dX9_list_47 ⟨Nat.le_of_ble_eq_true rfl, Nat.le_of_ble_eq_true rfl⟩) hS (fun r47 u H locs q47 hP9 hD9 hT9 hS => ?_)
          obtain ⟨rfl, q47⟩ := q47
          have hP : va_P D vwCl w3 H := hP9
          refine lv_if_eq (tgt := 56) hx hb dX9_list_50 (by decide) (fun c50 => ?_) (fun c50 => ?_)
          · skip
            have d50 := c50
            rw [fa_eq] at d50
            refine lv_aload_n hx hb dX9_list_56 rfl (lv_at hl 1 rfl) ?_
            refine lv_aload hx hb dX9_list_57 (lv_at hl 0 rfl) ?_
            refine t_put (v := .ref x3) (C := RX9) (T := TX9) (N := 9) (ty0 := tyX9) hx hb hts (by decide +kernel) tyX9_ok nmX9 hown hK hP hD hS hM_o rfl 8 (by decide) (hts (.fieldLink RX9 49 "ShadowBench" "listBoard" "LShadowBench$Board;") (by decide +kernel)) (fun _ h9 => h9) rfl rfl rfl (Nat.le_of_ble_eq_true rfl) dX9_list_59 (fun H locs w59 hU59 hP hD hS => ?_)
            have hM_x3 := hU59.2 _ _ (cne hG_x3 hG_o (show (2 : Nat) ≠ 7 by decide)) hM_x3
            have hT := hT.up hU59 hG_o ⟨_, _, _, _, _, _, _, mo_o, (some x3), rfl, ⟨by omega, by omega⟩, ⟨by omega, by omega⟩, hG_bs_o, hG_js_o, hG_sh_o, hG_wk_o, hmo_o, hG_ll_o, (fun _ z => Option.some.inj z ▸ ⟨_, _, hG_x3⟩)⟩
            have hM_o : cIn w59 o (.inr (8, [.ref bs_o, .ref js_o, .int jc_o, .ref sh_o, .ref wk_o, va_rf mo_o, .ref ll_o, .int lc_o, .ref x3])) := hU59.1
            have hX := hX.tr (cX.up hU59 (Or.inr ⟨_, hG_o, rfl⟩))
            refine lv_aload_n hx hb dX9_list_62 rfl (lv_at hl 1 rfl) ?_
            refine t_get (v := .ref ll_o) (C := RX9) (T := TX9) (N := 9) hx hb hts (by decide +kernel) hown hK hP hM_o rfl 6 (by decide) (hts (.fieldLink RX9 42 "ShadowBench" "listed" "[J") (by decide +kernel)) (fun _ h9 => h9) rfl dX9_list_63 ?_
            refine lv_aload_n hx hb dX9_list_66 rfl (lv_at hl 1 rfl) ?_
            refine t_get (v := .int lc_o) (C := RX9) (T := TX9) (N := 9) hx hb hts (by decide +kernel) hown hK hP hM_o rfl 7 (by decide) (hts (.fieldLink RX9 46 "ShadowBench" "listCount" "I") (by decide +kernel)) (fun _ h9 => h9) rfl dX9_list_67 ?_
            refine lv_lload_n hx hb dX9_list_70 rfl (lv_at hl 4 rfl) ?_
            refine t_last hx hb hK hP hD hS hT (Or.inr (Or.inr rfl)) hG_ll_o (vp_in_iff.mpr ⟨by omega, by omega⟩) dX9_list_71 (fun H locs w71 hU71 hP hD hT hS => ?_)
            have hM_o := hU71 _ _ (cne hG_o hG_ll_o (show (7 : Nat) ≠ 17 by decide)) hM_o
            have hM_x3 := hU71 _ _ (cne hG_x3 hG_ll_o (show (2 : Nat) ≠ 17 by decide)) hM_x3
            have hX := hX.tr (cX.uF hU71 (Or.inr ⟨_, hG_ll_o, rfl⟩))
            refine lv_aload_n hx hb dX9_list_72 rfl (lv_at hl 1 rfl) ?_
            refine lv_dup hx hb dX9_list_73 rfl ?_
            refine t_get (v := .int lc_o) (C := RX9) (T := TX9) (N := 9) hx hb hts (by decide +kernel) hown hK hP hM_o rfl 7 (by decide) (hts (.fieldLink RX9 46 "ShadowBench" "listCount" "I") (by decide +kernel)) (fun _ h9 => h9) rfl dX9_list_74 ?_
            refine lv_iconst (v := 1) hx hb dX9_list_77 (by decide) ?_
            refine lv_iadd hx hb dX9_list_78 ?_
            refine lv_topi (fun v78 e78 => ?_)
            have i78 : v78.toInt = lc_o.toInt + (1 : Int32).toInt := by rw [e78]; exact fb_addI (by omega) (by omega)
            refine t_put (v := .int v78) (C := RX9) (T := TX9) (N := 9) (ty0 := tyX9) hx hb hts (by decide +kernel) tyX9_ok nmX9 hown hK hP hD hS hM_o rfl 7 (by decide) (hts (.fieldLink RX9 46 "ShadowBench" "listCount" "I") (by decide +kernel)) (fun _ h9 => h9) rfl rfl rfl (Nat.le_of_ble_eq_true rfl) dX9_list_79 (fun H locs w79 hU79 hP hD hS => ?_)
            have hM_x3 := hU79.2 _ _ (cne hG_x3 hG_o (show (2 : Nat) ≠ 7 by decide)) hM_x3
            have hT := hT.up hU79 hG_o ⟨_, _, _, _, _, _, _, mo_o, (some x3), rfl, ⟨by omega, by omega⟩, ⟨by omega, by omega⟩, hG_bs_o, hG_js_o, hG_sh_o, hG_wk_o, hmo_o, hG_ll_o, (fun _ z => Option.some.inj z ▸ ⟨_, _, hG_x3⟩)⟩
            have hM_o : cIn w79 o (.inr (8, [.ref bs_o, .ref js_o, .int jc_o, .ref sh_o, .ref wk_o, va_rf mo_o, .ref ll_o, .int v78, .ref x3])) := hU79.1
            have hX := hX.tr (cX.up hU79 (Or.inr ⟨_, hG_o, rfl⟩))
            refine lv_aload_n hx hb dX9_list_82 rfl (lv_at hl 1 rfl) ?_
            refine t_get (v := .int v78) (C := RX9) (T := TX9) (N := 9) hx hb hts (by decide +kernel) hown hK hP hM_o rfl 7 (by decide) (hts (.fieldLink RX9 46 "ShadowBench" "listCount" "I") (by decide +kernel)) (fun _ h9 => h9) rfl dX9_list_83 ?_
            refine W.widen (k := 4) (n := 502) (Nat.le_of_ble_eq_true rfl) (Nat.le_of_ble_eq_true rfl) ?_
            exact W.iret (v := v78) hx hb hr (fun t ht hW => ⟨⟨_, (G3, w79), rfl, ⟨hX, ⟨_, (some x3), hM_o⟩⟩, by show va_P D vwCl w79 t.heap; rw [ht]; exact hP, hD, hT⟩, hS.F ht⟩) hS.2.2 dX9_list_86
          · skip
            have d50 := c50
            rw [fa_eq] at d50
            refine lv_bipush (v := (-3)) hx hb dX9_list_53 (by decide) ?_
            refine W.widen (k := 4) (n := 502) (Nat.le_of_ble_eq_true rfl) (Nat.le_of_ble_eq_true rfl) ?_
            exact W.iret (v := ((-3) : Int32)) hx hb hr (fun t ht hW => ⟨⟨_, (G3, w3), rfl, ⟨hX, ⟨_, lb_o, hM_o⟩⟩, by show va_P D vwCl w3 t.heap; rw [ht]; exact hP, hD, hT⟩, hS.F ht⟩) hS.2.2 dX9_list_55
      · skip
        have d30 := c30
        rw [fa_lt] at d30
        refine lv_bipush (v := (-2)) hx hb dX9_list_33 (by decide) ?_
        refine W.widen (k := 4) (n := 502) (Nat.le_of_ble_eq_true rfl) (Nat.le_of_ble_eq_true rfl) ?_
        exact W.iret (v := ((-2) : Int32)) hx hb hr (fun t ht hW => ⟨⟨_, (G3, w3), rfl, ⟨hX, ⟨_, lb_o, hM_o⟩⟩, by show va_P D vwCl w3 t.heap; rw [ht]; exact hP, hD, hT⟩, hS.F ht⟩) hS.2.2 dX9_list_35
    · skip
      have d19 := c19
      rw [fa_eq] at d19
      refine lv_iconst (v := (-1)) hx hb dX9_list_22 (by decide) ?_
      refine W.widen (k := 4) (n := 502) (Nat.le_of_ble_eq_true rfl) (Nat.le_of_ble_eq_true rfl) ?_
      exact W.iret (v := ((-1) : Int32)) hx hb hr (fun t ht hW => ⟨⟨_, (G3, w3), rfl, ⟨hX, ⟨_, lb_o, hM_o⟩⟩, by show va_P D vwCl w3 t.heap; rw [ht]; exact hP, hD, hT⟩, hS.F ht⟩) hS.2.2 dX9_list_23
set_option maxHeartbeats 4000000 in
set_option maxRecDepth 100000 in
theorem c_X9_clear_k (l : Launch) (D : va_G) (cy : Nat → ClassId) (A : Nat → Prop) (G : cG) (ws : va_W) (o : Nat) {bs_o js_o sh_o wk_o ll_o : Nat} {jc_o lc_o : Int32} {mo_o lb_o : Option Nat} (hD : va_D A ws) (hT : cT cy G ws) (hG_o : G o = some (7, 0, 0)) (hM_o : cIn ws o (.inr (8, [.ref bs_o, .ref js_o, .int jc_o, .ref sh_o, .ref wk_o, va_rf mo_o, .ref ll_o, .int lc_o, va_rf lb_o])))  : Ci l D cy A yX9_clear wsX9_clear ({ frames := 0, cells := 0, slots := 0, locals := 0 }) 0 0 ws [.ref o] (fun r0 u => cX none (chs [7]) G ws u.1 u.2 ∧ (∃ lc lb, cIn u.2 o (.inr (8, [.ref bs_o, .ref js_o, .int jc_o, .ref sh_o, .ref wk_o, va_rf mo_o, .ref ll_o, .int lc, va_rf lb])))) := by
  refine Met.ofW (cc := cX9_clear) (maxL := 2) (ret := (some .int)) (by decide) rfl ?_
  intro p e s m args below meth c s₁ B hml hv
  obtain ⟨rfl, hP, hK, hA, hV⟩ := hv
  have hx := B.exec
  have hb := B.bytes
  have hr := B.returns
  have hts := atoms_spec (ws := wsX9_clear) B.pre
  have hown : s.vm.findClass RX9 = some m.cls := findClass_of_methodNamed B.named
  have hlocks := B.notSynchronized
  have hS : va_S A s.heap s.heap [] := va_S.rf
  have hX : cX none (chs [7]) G ws G ws := cX.rf
  have hl := lv_entry ([.ref o]) (n := 2) (Nat.le_of_ble_eq_true rfl)
  rw [lg_entry_eq]
  generalize (lg_sl ([.ref o]) ++ List.replicate (2 - (lg_sl ([.ref o])).length) Slot.unset).toArray = ls at hl ⊢
  have hl : lv_has ls 2 [(0, .ref o)] := hl
  have k_0 : (0 : Int32).toInt = 0 := by decide
  obtain ⟨hjc_o, hlc_o, hG_bs_o, hG_js_o, hG_sh_o, hG_wk_o, hmo_o, hG_ll_o, hlb_o⟩ := w7sh hD hT hG_o hM_o
  refine lv_aload_n hx hb dX9_clear_0 rfl (lv_at hl 0 rfl) ?_
  refine t_get (v := .int lc_o) (C := RX9) (T := TX9) (N := 9) hx hb hts (by decide +kernel) hown hK hP hM_o rfl 7 (by decide) (hts (.fieldLink RX9 46 "ShadowBench" "listCount" "I") (by decide +kernel)) (fun _ h9 => h9) rfl dX9_clear_1 ?_
  refine lv_istore_n (lv' := [(1, .int lc_o), (0, .ref o)]) hx hb dX9_clear_4 rfl hl (by decide) rfl (fun ls hl => ?_)
  refine lv_aload_n hx hb dX9_clear_5 rfl (lv_at hl 1 rfl) ?_
  refine lv_iconst (v := 0) hx hb dX9_clear_6 (by decide) ?_
  refine t_put (v := .int (0 : Int32)) (C := RX9) (T := TX9) (N := 9) (ty0 := tyX9) hx hb hts (by decide +kernel) tyX9_ok nmX9 hown hK hP hD hS hM_o rfl 7 (by decide) (hts (.fieldLink RX9 46 "ShadowBench" "listCount" "I") (by decide +kernel)) (fun _ h9 => h9) rfl rfl rfl (Nat.le_of_ble_eq_true rfl) dX9_clear_7 (fun H locs w7 hU7 hP hD hS => ?_)
  have hT := hT.up hU7 hG_o ⟨_, _, _, _, _, _, _, mo_o, lb_o, rfl, ⟨by omega, by omega⟩, ⟨by omega, by omega⟩, hG_bs_o, hG_js_o, hG_sh_o, hG_wk_o, hmo_o, hG_ll_o, hlb_o⟩
  have hM_o : cIn w7 o (.inr (8, [.ref bs_o, .ref js_o, .int jc_o, .ref sh_o, .ref wk_o, va_rf mo_o, .ref ll_o, .int (0 : Int32), va_rf lb_o])) := hU7.1
  have hX := hX.tr (cX.up hU7 (Or.inr ⟨_, hG_o, rfl⟩))
  refine lv_aload_n hx hb dX9_clear_10 rfl (lv_at hl 1 rfl) ?_
  refine lv_null hx hb dX9_clear_11 ?_
  refine t_put (v := .null) (C := RX9) (T := TX9) (N := 9) (ty0 := tyX9) hx hb hts (by decide +kernel) tyX9_ok nmX9 hown hK hP hD hS hM_o rfl 8 (by decide) (hts (.fieldLink RX9 49 "ShadowBench" "listBoard" "LShadowBench$Board;") (by decide +kernel)) (fun _ h9 => h9) rfl rfl rfl (Nat.le_of_ble_eq_true rfl) dX9_clear_12 (fun H locs w12 hU12 hP hD hS => ?_)
  have hT := hT.up hU12 hG_o ⟨_, _, _, _, _, _, _, mo_o, none, rfl, ⟨by omega, by omega⟩, ⟨by omega, by omega⟩, hG_bs_o, hG_js_o, hG_sh_o, hG_wk_o, hmo_o, hG_ll_o, (fun _ z => nomatch z)⟩
  have hM_o : cIn w12 o (.inr (8, [.ref bs_o, .ref js_o, .int jc_o, .ref sh_o, .ref wk_o, va_rf mo_o, .ref ll_o, .int (0 : Int32), .null])) := hU12.1
  have hX := hX.tr (cX.up hU12 (Or.inr ⟨_, hG_o, rfl⟩))
  refine lv_iload_n hx hb dX9_clear_15 rfl (lv_at hl 0 rfl) ?_
  exact W.iret (v := lc_o) hx hb hr (fun t ht hW => ⟨⟨_, (G, w12), rfl, ⟨hX, ⟨_, none, hM_o⟩⟩, by show va_P D vwCl w12 t.heap; rw [ht]; exact hP, hD, hT⟩, hS.F ht⟩) hS.2.2 dX9_clear_16
set_option maxHeartbeats 4000000 in
set_option maxRecDepth 100000 in
theorem c_X9_newJob_z (l : Launch) (D : va_G) (cy : Nat → ClassId) (A : Nat → Prop) (G : cG) (ws : va_W) (kind : Int32) (b : Nat) {w h : Nat} (hD : va_D A ws) (hT : cT cy G ws) (hG_b : G b = some (2, w, h))  : Ca l D cy A yX9_newJob wsX9_newJob ({ frames := 5, cells := 3, slots := 86, locals := 103 }) 3 86 ws [.int kind, .ref b] (fun r0 u => cX none (chs []) G ws u.1 u.2 ∧ (∃ x, r0 = some x ∧ u.1 x = some (3, kcl kind, 8 * w + h) ∧ (∀ e, ¬ cIn ws x e) ∧ ∃ a ms, u.1 a = some (14, 44, 0) ∧ (∀ e, ¬ cIn ws a e) ∧ cIn u.2 x (.inr (kcl kind, .ref b :: .ref a :: .int (nI 3) :: .long 0 :: .long 0 :: ms)) ∧ cIn u.2 a (.inl (cy 0, 44, .inl (fun _ => 0))) ∧ (kcl kind = 4 → ∃ c, ms = [.ref c] ∧ u.1 c = some (14, w * h, 0) ∧ (∀ e, ¬ cIn ws c e) ∧ c ≠ a ∧ cIn u.2 c (.inl (cy 0, w * h, .inl (fun _ => 0)))))) := by
  refine Met.ofW (cc := cX9_newJob) (maxL := 2) (ret := (some (.object "ShadowBench$Job"))) (by decide) rfl ?_
  intro p e s m args below meth c s₁ B hml hv
  obtain ⟨rfl, hP, hK, hA, hV⟩ := hv
  have hx := B.exec
  have hb := B.bytes
  have hr := B.returns
  have hts := atoms_spec (ws := wsX9_newJob) B.pre
  have hown : s.vm.findClass RX9 = some m.cls := findClass_of_methodNamed B.named
  have hlocks := B.notSynchronized
  have hS : va_S A s.heap s.heap [] := va_S.rf
  have hX : cX none (chs []) G ws G ws := cX.rf
  have hl := lv_entry ([.int kind, .ref b]) (n := 2) (Nat.le_of_ble_eq_true rfl)
  rw [lg_entry_eq]
  generalize (lg_sl ([.int kind, .ref b]) ++ List.replicate (2 - (lg_sl ([.int kind, .ref b])).length) Slot.unset).toArray = ls at hl ⊢
  have hl : lv_has ls 2 [(0, .int kind), (1, .ref b)] := hl
  have k_0 : (0 : Int32).toInt = 0 := by decide
  refine lv_iload_n hx hb dX9_newJob_0 rfl (lv_at hl 0 rfl) ?_
  by_cases s1_0 : kind.toInt = 1
  · skip
    refine lv_tableIn (off := 27) (tgt := 28) hx hb dX9_newJob_1 (by omega) (by omega) (by rw [s1_0]; rfl) (by decide) ?_
    refine t_new (C := RX4) (T := TX4) (N := 5) (ci := 3) (ty0 := tyX4) (fs := [.null, .null, .int 0, .long 0, .long 0]) hx hb hts (by decide +kernel) tyX4_ok hown (hts (.classLink RX9 292 RX4) (by decide +kernel)) (hts (.instantiable RX4 5) (by decide +kernel)) (hts (.initialized RX4) (by decide +kernel)) hK hP hD hS hA hT rfl (by decide +kernel) (Nat.le_of_ble_eq_true rfl) (Nat.le_of_ble_eq_true rfl) dX9_newJob_28 (fun q28 H w28 hM_q28 hO_q28 hF28 hX28 hk28 hP hD hT hS => ?_)
    have hN_q28 := hX.new0 hO_q28 hF28
    have hX := hX.tr (hX28 _ _)
    refine lv_dup hx hb dX9_newJob_31 rfl ?_
    refine lv_aload_n hx hb dX9_newJob_32 rfl (lv_at hl 1 rfl) ?_
    refine t_callv (va_runI (g := F0 m 33 ls ([.ref b, .ref q28, .ref q28])) (As := [.ref b]) (rest := [.ref q28]) (b := q28) ⟨hx, hb, hml, hown, hts⟩ (c_X4_init_w l D cy A G w28 q28 b hD hT hO_q28 hM_q28 hG_b (by unfold cKc; omega)) (cwI 1 hts gX9_newJob_X4_init rfl rfl rfl (hts (.initialized RX4) (by decide +kernel)) (hts (.methodLink RX9 294 yX4_init) (by decide +kernel)) (hts (.instanceMethod yX4_init) (by decide +kernel)) rfl (by decide +kernel) ⟨Nat.le_of_ble_eq_true rfl, Nat.le_of_ble_eq_true rfl⟩) (c_preS hP hK hA hS hV) rfl rfl hl.1 rfl (lv_room (Nat.le_of_ble_eq_true rfl)) dX9_newJob_33 ⟨Nat.le_of_ble_eq_true rfl, Nat.le_of_ble_eq_true rfl⟩) hS (fun u H locs q33 hP9 hD9 hT9 hS => ?_)
    obtain ⟨G33, w33⟩ := u
    obtain ⟨hX9, q33⟩ := q33
    have hX9 : cX (some q28) (chs []) G w28 G33 w33 := hX9
    obtain ⟨hOx33, a33, hG_a33, hN9_a33, hMx_a33, hMx33⟩ := q33
    have hN_a33 := hX.new0 (hT.no hN9_a33) hN9_a33
    have hP : va_P D vwCl w33 H := hP9
    have hD : va_D A w33 := hD9
    have hT : cT cy G33 w33 := hT9
    have hG_b := hX9.1 _ _ hG_b
    have hO_q28 := hOx33
    have hM_a33 := hMx_a33
    have hM_q28 : cIn w33 q28 (.inr (3, [.ref b, .ref a33, .int 3, .long 0, .long 0])) := hMx33
    have hX := hX.trN hN_q28 hX9
    obtain ⟨Gk33, hGk⟩ : ∃ z, z = va_up G33 q28 (some (3, 3, 8 * w + h)) := ⟨_, rfl⟩
    have hE9 : cE G33 Gk33 := by rw [hGk]; exact cE.add hO_q28
    have hG_q28 : Gk33 q28 = some (3, 3, 8 * w + h) := by rw [hGk]; simp [va_up]
    have hG_b := hE9 _ _ hG_b
    have hG_a33 := hE9 _ _ hG_a33
    have hT : cT cy Gk33 w33 := by rw [hGk]; exact hT.kind hO_q28 hM_q28 (by rw [← hGk]; exact ⟨_, _, _, _, _, _, _, _, rfl, hG_b, hG_a33, ⟨rfl, Or.inr (Or.inr (Or.inl ⟨rfl, rfl⟩))⟩⟩)
    have hX := hX.trN hN_q28 (show cX (some q28) (chs []) G33 w33 Gk33 w33 by rw [hGk]; exact cX.kind hO_q28)
    have hJ_q28 : cJk Gk33 3 (8 * w + h) w h [] := ⟨rfl, Or.inr (Or.inr (Or.inl ⟨rfl, rfl⟩))⟩
    refine W.widen (k := 3) (n := 86) (Nat.le_of_ble_eq_true rfl) (Nat.le_of_ble_eq_true rfl) ?_
    exact W.aret (v := .ref q28) hx hb hr (Or.inl ⟨_, rfl⟩) (Or.inr ⟨_, rfl⟩) (fun t ht hW => ⟨⟨(some q28), (Gk33, w33), rfl, ⟨hX, (by have ek9 : kcl kind = 3 := (by unfold kcl; rw [if_pos s1_0]); rw [ek9]; exact ⟨_, rfl, hG_q28, hN_q28, _, _, hG_a33, hN_a33, hM_q28, hM_a33, (fun z9 => absurd z9 (by decide))⟩)⟩, by show va_P D vwCl w33 t.heap; rw [ht]; exact hP, hD, hT⟩, hS.F ht⟩) hS.2.2 dX9_newJob_36
  by_cases s1_1 : kind.toInt = 2
  · skip
    refine lv_tableIn (off := 36) (tgt := 37) hx hb dX9_newJob_1 (by omega) (by omega) (by rw [s1_1]; rfl) (by decide) ?_
    refine t_new (C := RX1) (T := TX1) (N := 5) (ci := 1) (ty0 := tyX1) (fs := [.null, .null, .int 0, .long 0, .long 0]) hx hb hts (by decide +kernel) tyX1_ok hown (hts (.classLink RX9 297 RX1) (by decide +kernel)) (hts (.instantiable RX1 5) (by decide +kernel)) (hts (.initialized RX1) (by decide +kernel)) hK hP hD hS hA hT rfl (by decide +kernel) (Nat.le_of_ble_eq_true rfl) (Nat.le_of_ble_eq_true rfl) dX9_newJob_37 (fun q37 H w37 hM_q37 hO_q37 hF37 hX37 hk37 hP hD hT hS => ?_)
    have hN_q37 := hX.new0 hO_q37 hF37
    have hX := hX.tr (hX37 _ _)
    refine lv_dup hx hb dX9_newJob_40 rfl ?_
    refine lv_aload_n hx hb dX9_newJob_41 rfl (lv_at hl 1 rfl) ?_
    refine t_callv (va_runI (g := F0 m 42 ls ([.ref b, .ref q37, .ref q37])) (As := [.ref b]) (rest := [.ref q37]) (b := q37) ⟨hx, hb, hml, hown, hts⟩ (c_X1_init_w l D cy A G w37 q37 b hD hT hO_q37 hM_q37 hG_b (by unfold cKc; omega)) (cwI 1 hts gX9_newJob_X1_init rfl rfl rfl (hts (.initialized RX1) (by decide +kernel)) (hts (.methodLink RX9 299 yX1_init) (by decide +kernel)) (hts (.instanceMethod yX1_init) (by decide +kernel)) rfl (by decide +kernel) ⟨Nat.le_of_ble_eq_true rfl, Nat.le_of_ble_eq_true rfl⟩) (c_preS hP hK hA hS hV) rfl rfl hl.1 rfl (lv_room (Nat.le_of_ble_eq_true rfl)) dX9_newJob_42 ⟨Nat.le_of_ble_eq_true rfl, Nat.le_of_ble_eq_true rfl⟩) hS (fun u H locs q42 hP9 hD9 hT9 hS => ?_)
    obtain ⟨G42, w42⟩ := u
    obtain ⟨hX9, q42⟩ := q42
    have hX9 : cX (some q37) (chs []) G w37 G42 w42 := hX9
    obtain ⟨hOx42, a42, hG_a42, hN9_a42, hMx_a42, hMx42⟩ := q42
    have hN_a42 := hX.new0 (hT.no hN9_a42) hN9_a42
    have hP : va_P D vwCl w42 H := hP9
    have hD : va_D A w42 := hD9
    have hT : cT cy G42 w42 := hT9
    have hG_b := hX9.1 _ _ hG_b
    have hO_q37 := hOx42
    have hM_a42 := hMx_a42
    have hM_q37 : cIn w42 q37 (.inr (1, [.ref b, .ref a42, .int 3, .long 0, .long 0])) := hMx42
    have hX := hX.trN hN_q37 hX9
    obtain ⟨Gk42, hGk⟩ : ∃ z, z = va_up G42 q37 (some (3, 1, 8 * w + h)) := ⟨_, rfl⟩
    have hE9 : cE G42 Gk42 := by rw [hGk]; exact cE.add hO_q37
    have hG_q37 : Gk42 q37 = some (3, 1, 8 * w + h) := by rw [hGk]; simp [va_up]
    have hG_b := hE9 _ _ hG_b
    have hG_a42 := hE9 _ _ hG_a42
    have hT : cT cy Gk42 w42 := by rw [hGk]; exact hT.kind hO_q37 hM_q37 (by rw [← hGk]; exact ⟨_, _, _, _, _, _, _, _, rfl, hG_b, hG_a42, ⟨rfl, Or.inl ⟨rfl, rfl⟩⟩⟩)
    have hX := hX.trN hN_q37 (show cX (some q37) (chs []) G42 w42 Gk42 w42 by rw [hGk]; exact cX.kind hO_q37)
    have hJ_q37 : cJk Gk42 1 (8 * w + h) w h [] := ⟨rfl, Or.inl ⟨rfl, rfl⟩⟩
    refine W.widen (k := 3) (n := 86) (Nat.le_of_ble_eq_true rfl) (Nat.le_of_ble_eq_true rfl) ?_
    exact W.aret (v := .ref q37) hx hb hr (Or.inl ⟨_, rfl⟩) (Or.inr ⟨_, rfl⟩) (fun t ht hW => ⟨⟨(some q37), (Gk42, w42), rfl, ⟨hX, (by have ek9 : kcl kind = 1 := (by unfold kcl; rw [if_neg s1_0, if_pos s1_1]); rw [ek9]; exact ⟨_, rfl, hG_q37, hN_q37, _, _, hG_a42, hN_a42, hM_q37, hM_a42, (fun z9 => absurd z9 (by decide))⟩)⟩, by show va_P D vwCl w42 t.heap; rw [ht]; exact hP, hD, hT⟩, hS.F ht⟩) hS.2.2 dX9_newJob_45
  by_cases s1_2 : kind.toInt = 3
  · skip
    refine lv_tableIn (off := 45) (tgt := 46) hx hb dX9_newJob_1 (by omega) (by omega) (by rw [s1_2]; rfl) (by decide) ?_
    refine t_new (C := RX5) (T := TX5) (N := 6) (ci := 4) (ty0 := tyX5) (fs := [.null, .null, .int 0, .long 0, .long 0, .null]) hx hb hts (by decide +kernel) tyX5_ok hown (hts (.classLink RX9 112 RX5) (by decide +kernel)) (hts (.instantiable RX5 6) (by decide +kernel)) (hts (.initialized RX5) (by decide +kernel)) hK hP hD hS hA hT rfl (by decide +kernel) (Nat.le_of_ble_eq_true rfl) (Nat.le_of_ble_eq_true rfl) dX9_newJob_46 (fun q46 H w46 hM_q46 hO_q46 hF46 hX46 hk46 hP hD hT hS => ?_)
    have hN_q46 := hX.new0 hO_q46 hF46
    have hX := hX.tr (hX46 _ _)
    refine lv_dup hx hb dX9_newJob_49 rfl ?_
    refine lv_aload_n hx hb dX9_newJob_50 rfl (lv_at hl 1 rfl) ?_
    refine t_callv (va_runI (g := F0 m 51 ls ([.ref b, .ref q46, .ref q46])) (As := [.ref b]) (rest := [.ref q46]) (b := q46) ⟨hx, hb, hml, hown, hts⟩ (c_X5_init_w l D cy A G w46 q46 b hD hT hO_q46 hM_q46 hG_b ) (cwI 1 hts gX9_newJob_X5_init rfl rfl rfl (hts (.initialized RX5) (by decide +kernel)) (hts (.methodLink RX9 300 yX5_init) (by decide +kernel)) (hts (.instanceMethod yX5_init) (by decide +kernel)) rfl (by decide +kernel) ⟨Nat.le_of_ble_eq_true rfl, Nat.le_of_ble_eq_true rfl⟩) (c_preS hP hK hA hS hV) rfl rfl hl.1 rfl (lv_room (Nat.le_of_ble_eq_true rfl)) dX9_newJob_51 ⟨Nat.le_of_ble_eq_true rfl, Nat.le_of_ble_eq_true rfl⟩) hS (fun u H locs q51 hP9 hD9 hT9 hS => ?_)
    obtain ⟨G51, w51⟩ := u
    obtain ⟨hX9, q51⟩ := q51
    have hX9 : cX (some q46) (chs []) G w46 G51 w51 := hX9
    obtain ⟨hOx51, a51, hG_a51, hN9_a51, hMx_a51, c51, hG_c51, hN9_c51, hne_c51, hMx_c51, hMx51⟩ := q51
    have hN_a51 := hX.new0 (hT.no hN9_a51) hN9_a51
    have hN_c51 := hX.new0 (hT.no hN9_c51) hN9_c51
    have hP : va_P D vwCl w51 H := hP9
    have hD : va_D A w51 := hD9
    have hT : cT cy G51 w51 := hT9
    have hG_b := hX9.1 _ _ hG_b
    have hO_q46 := hOx51
    have hM_a51 := hMx_a51
    have hM_c51 := hMx_c51
    have hM_q46 : cIn w51 q46 (.inr (4, [.ref b, .ref a51, .int 3, .long 0, .long 0, .ref c51])) := hMx51
    have hX := hX.trN hN_q46 hX9
    have hb9 := cb_mul (c_hb hT hG_b)
    obtain ⟨Gk51, hGk⟩ : ∃ z, z = va_up G51 q46 (some (3, 4, 8 * w + h)) := ⟨_, rfl⟩
    have hE9 : cE G51 Gk51 := by rw [hGk]; exact cE.add hO_q46
    have hG_q46 : Gk51 q46 = some (3, 4, 8 * w + h) := by rw [hGk]; simp [va_up]
    have hG_b := hE9 _ _ hG_b
    have hG_a51 := hE9 _ _ hG_a51
    have hG_c51 := hE9 _ _ hG_c51
    have hT : cT cy Gk51 w51 := by rw [hGk]; exact hT.kind hO_q46 hM_q46 (by rw [← hGk]; exact ⟨_, _, _, _, _, _, _, _, rfl, hG_b, hG_a51, ⟨rfl, Or.inr (Or.inr (Or.inr ⟨rfl, _, rfl, hG_c51⟩))⟩⟩)
    have hX := hX.trN hN_q46 (show cX (some q46) (chs []) G51 w51 Gk51 w51 by rw [hGk]; exact cX.kind hO_q46)
    have hJ_q46 : cJk Gk51 4 (8 * w + h) w h [.ref c51] := ⟨rfl, Or.inr (Or.inr (Or.inr ⟨rfl, _, rfl, hG_c51⟩))⟩
    refine W.widen (k := 3) (n := 86) (Nat.le_of_ble_eq_true rfl) (Nat.le_of_ble_eq_true rfl) ?_
    exact W.aret (v := .ref q46) hx hb hr (Or.inl ⟨_, rfl⟩) (Or.inr ⟨_, rfl⟩) (fun t ht hW => ⟨⟨(some q46), (Gk51, w51), rfl, ⟨hX, (by have ek9 : kcl kind = 4 := (by unfold kcl; rw [if_neg s1_0, if_neg s1_1, if_pos s1_2]); rw [ek9]; exact ⟨_, rfl, hG_q46, hN_q46, _, _, hG_a51, hN_a51, hM_q46, hM_a51, (fun _ => ⟨_, rfl, hG_c51, hN_c51, hne_c51, hM_c51⟩)⟩)⟩, by show va_P D vwCl w51 t.heap; rw [ht]; exact hP, hD, hT⟩, hS.F ht⟩) hS.2.2 dX9_newJob_54
  refine lv_tableOut (tgt := 55) hx hb dX9_newJob_1 (by omega) (by decide) ?_
  refine t_new (C := RX3) (T := TX3) (N := 5) (ci := 2) (ty0 := tyX3) (fs := [.null, .null, .int 0, .long 0, .long 0]) hx hb hts (by decide +kernel) tyX3_ok hown (hts (.classLink RX9 15 RX3) (by decide +kernel)) (hts (.instantiable RX3 5) (by decide +kernel)) (hts (.initialized RX3) (by decide +kernel)) hK hP hD hS hA hT rfl (by decide +kernel) (Nat.le_of_ble_eq_true rfl) (Nat.le_of_ble_eq_true rfl) dX9_newJob_55 (fun q55 H w55 hM_q55 hO_q55 hF55 hX55 hk55 hP hD hT hS => ?_)
  have hN_q55 := hX.new0 hO_q55 hF55
  have hX := hX.tr (hX55 _ _)
  refine lv_dup hx hb dX9_newJob_58 rfl ?_
  refine lv_aload_n hx hb dX9_newJob_59 rfl (lv_at hl 1 rfl) ?_
  refine t_callv (va_runI (g := F0 m 60 ls ([.ref b, .ref q55, .ref q55])) (As := [.ref b]) (rest := [.ref q55]) (b := q55) ⟨hx, hb, hml, hown, hts⟩ (c_X3_init_w l D cy A G w55 q55 b hD hT hO_q55 hM_q55 hG_b (by unfold cKc; omega)) (cwI 1 hts gX9_newJob_X3_init rfl rfl rfl (hts (.initialized RX3) (by decide +kernel)) (hts (.methodLink RX9 301 yX3_init) (by decide +kernel)) (hts (.instanceMethod yX3_init) (by decide +kernel)) rfl (by decide +kernel) ⟨Nat.le_of_ble_eq_true rfl, Nat.le_of_ble_eq_true rfl⟩) (c_preS hP hK hA hS hV) rfl rfl hl.1 rfl (lv_room (Nat.le_of_ble_eq_true rfl)) dX9_newJob_60 ⟨Nat.le_of_ble_eq_true rfl, Nat.le_of_ble_eq_true rfl⟩) hS (fun u H locs q60 hP9 hD9 hT9 hS => ?_)
  obtain ⟨G60, w60⟩ := u
  obtain ⟨hX9, q60⟩ := q60
  have hX9 : cX (some q55) (chs []) G w55 G60 w60 := hX9
  obtain ⟨hOx60, a60, hG_a60, hN9_a60, hMx_a60, hMx60⟩ := q60
  have hN_a60 := hX.new0 (hT.no hN9_a60) hN9_a60
  have hP : va_P D vwCl w60 H := hP9
  have hD : va_D A w60 := hD9
  have hT : cT cy G60 w60 := hT9
  have hG_b := hX9.1 _ _ hG_b
  have hO_q55 := hOx60
  have hM_a60 := hMx_a60
  have hM_q55 : cIn w60 q55 (.inr (2, [.ref b, .ref a60, .int 3, .long 0, .long 0])) := hMx60
  have hX := hX.trN hN_q55 hX9
  obtain ⟨Gk60, hGk⟩ : ∃ z, z = va_up G60 q55 (some (3, 2, 8 * w + h)) := ⟨_, rfl⟩
  have hE9 : cE G60 Gk60 := by rw [hGk]; exact cE.add hO_q55
  have hG_q55 : Gk60 q55 = some (3, 2, 8 * w + h) := by rw [hGk]; simp [va_up]
  have hG_b := hE9 _ _ hG_b
  have hG_a60 := hE9 _ _ hG_a60
  have hT : cT cy Gk60 w60 := by rw [hGk]; exact hT.kind hO_q55 hM_q55 (by rw [← hGk]; exact ⟨_, _, _, _, _, _, _, _, rfl, hG_b, hG_a60, ⟨rfl, Or.inr (Or.inl ⟨rfl, rfl⟩)⟩⟩)
  have hX := hX.trN hN_q55 (show cX (some q55) (chs []) G60 w60 Gk60 w60 by rw [hGk]; exact cX.kind hO_q55)
  have hJ_q55 : cJk Gk60 2 (8 * w + h) w h [] := ⟨rfl, Or.inr (Or.inl ⟨rfl, rfl⟩)⟩
  refine W.widen (k := 3) (n := 86) (Nat.le_of_ble_eq_true rfl) (Nat.le_of_ble_eq_true rfl) ?_
  exact W.aret (v := .ref q55) hx hb hr (Or.inl ⟨_, rfl⟩) (Or.inr ⟨_, rfl⟩) (fun t ht hW => ⟨⟨(some q55), (Gk60, w60), rfl, ⟨hX, (by have ek9 : kcl kind = 2 := (by unfold kcl; rw [if_neg s1_0, if_neg s1_1, if_neg s1_2]); rw [ek9]; exact ⟨_, rfl, hG_q55, hN_q55, _, _, hG_a60, hN_a60, hM_q55, hM_a60, (fun z9 => absurd z9 (by decide))⟩)⟩, by show va_P D vwCl w60 t.heap; rw [ht]; exact hP, hD, hT⟩, hS.F ht⟩) hS.2.2 dX9_newJob_63
set_option maxHeartbeats 4000000 in
set_option maxRecDepth 100000 in
theorem c_X9_job_z (l : Launch) (D : va_G) (cy : Nat → ClassId) (A : Nat → Prop) (G : cG) (ws : va_W) (o : Nat) (kind : Int32) (wide : Int32) (high : Int32) {bs_o js_o sh_o wk_o ll_o : Nat} {jc_o lc_o : Int32} {mo_o lb_o : Option Nat} {fa : Nat → Option Nat} {Wd Ht : Nat → Nat} (hD : va_D A ws) (hT : cT cy G ws) (hG_o : G o = some (7, 0, 0)) (hM_o : cIn ws o (.inr (8, [.ref bs_o, .ref js_o, .int jc_o, .ref sh_o, .ref wk_o, va_rf mo_o, .ref ll_o, .int lc_o, va_rf lb_o]))) (hM_js_o : cIn ws js_o (.inl (cy 4, cqa 8 fa)))  : Ci l D cy A yX9_job wsX9_job ({ frames := 6, cells := 7, slots := 588, locals := 124 }) 7 588 ws [.ref o, .int kind, .int wide, .int high] (fun r0 u => cX none (chs [1, 7, 8, 9]) G ws u.1 u.2 ∧ (r0.toInt = jA kind wide high jc_o ∧ ∃ jc fb, cIn u.2 o (.inr (8, [.ref bs_o, .ref js_o, .int jc, .ref sh_o, .ref wk_o, va_rf mo_o, .ref ll_o, .int lc_o, va_rf lb_o])) ∧ cIn u.2 js_o (.inl (cy 4, cqa 8 fb)) ∧ ((okJ kind wide high jc_o ∧ jc.toInt = jc_o.toInt + 1 ∧ ∃ x b a ms, fb = va_up fa jc_o.toNatClampNeg (some x) ∧ u.1 x = some (3, kcl kind, 8 * wide.toNatClampNeg + high.toNatClampNeg) ∧ (∀ e, ¬ cIn ws x e) ∧ (∀ e, ¬ cIn ws a e) ∧ cIn u.2 x (.inr (kcl kind, .ref b :: .ref a :: .int (nI 3) :: .long 0 :: .long 0 :: ms)) ∧ cIn u.2 a (.inl (cy 0, 44, .inl (fun _ => 0))) ∧ (kcl kind = 4 → ∃ c, ms = [.ref c] ∧ (∀ e, ¬ cIn ws c e) ∧ c ≠ a ∧ cIn u.2 c (.inl (cy 0, wide.toNatClampNeg * high.toNatClampNeg, .inl (fun _ => 0))))) ∨ (¬ okJ kind wide high jc_o ∧ jc = jc_o ∧ fb = fa)))) := by
  refine Met.ofW (cc := cX9_job) (maxL := 5) (ret := (some .int)) (by decide) rfl ?_
  intro p e s m args below meth c s₁ B hml hv
  obtain ⟨rfl, hP, hK, hA, hV⟩ := hv
  have hx := B.exec
  have hb := B.bytes
  have hr := B.returns
  have hts := atoms_spec (ws := wsX9_job) B.pre
  have hown : s.vm.findClass RX9 = some m.cls := findClass_of_methodNamed B.named
  have hlocks := B.notSynchronized
  have hS : va_S A s.heap s.heap [] := va_S.rf
  have hX : cX none (chs [1, 7, 8, 9]) G ws G ws := cX.rf
  have hl := lv_entry ([.ref o, .int kind, .int wide, .int high]) (n := 5) (Nat.le_of_ble_eq_true rfl)
  rw [lg_entry_eq]
  generalize (lg_sl ([.ref o, .int kind, .int wide, .int high]) ++ List.replicate (5 - (lg_sl ([.ref o, .int kind, .int wide, .int high])).length) Slot.unset).toArray = ls at hl ⊢
  have hl : lv_has ls 5 [(0, .ref o), (1, .int kind), (2, .int wide), (3, .int high)] := hl
  have k_m2 : (-2 : Int32).toInt = -2 := by decide
  have k_m1 : (-1 : Int32).toInt = -1 := by decide
  have k_0 : (0 : Int32).toInt = 0 := by decide
  have k_1 : (1 : Int32).toInt = 1 := by decide
  have k_3 : (3 : Int32).toInt = 3 := by decide
  have k_8 : (8 : Int32).toInt = 8 := by decide
  obtain ⟨hjc_o, hlc_o, hG_bs_o, hG_js_o, hG_sh_o, hG_wk_o, hmo_o, hG_ll_o, hlb_o⟩ := w7sh hD hT hG_o hM_o
  have hf_js_o := w9sh hD hT hG_js_o hM_js_o
  refine lv_aload_n hx hb dX9_job_0 rfl (lv_at hl 0 rfl) ?_
  refine lv_iload_n hx hb dX9_job_1 rfl (lv_at hl 2 rfl) ?_
  refine lv_iload_n hx hb dX9_job_2 rfl (lv_at hl 3 rfl) ?_
  refine t_calla (va_runV (g := F0 m 3 ls ([.int high, .int wide, .ref o])) (As := [.int wide, .int high]) (rest := []) ⟨hx, hb, hml, hown, hts⟩ (c_X9_boardOf_x l D cy A G ws o wide high hD hT hG_o ) (cwV 2 hts gX9_job_X9_boardOf rfl rfl rfl (by decide +kernel) ⟨Nat.le_of_ble_eq_true rfl, Nat.le_of_ble_eq_true rfl⟩) (c_preV hM_o rfl hP hK hA hS hV) rfl rfl hl.1 rfl (lv_room (Nat.le_of_ble_eq_true rfl)) dX9_job_3 ⟨Nat.le_of_ble_eq_true rfl, Nat.le_of_ble_eq_true rfl⟩) hS (fun r3 u H locs q3 hP9 hD9 hT9 hS => ?_)
  obtain ⟨G3, w3⟩ := u
  obtain ⟨hX9, q3⟩ := q3
  have hX9 : cX none (chs [1, 8]) G ws G3 w3 := hX9
  have hP : va_P D vwCl w3 H := hP9
  have hD : va_D A w3 := hD9
  have hT : cT cy G3 w3 := hT9
  have hM_o := hX9.2.1 _ _ (cP.no hG_o rfl) hM_o
  have hM_js_o := hX9.2.1 _ _ (cP.no hG_js_o rfl) hM_js_o
  have hG_o := hX9.1 _ _ hG_o
  have hG_bs_o := hX9.1 _ _ hG_bs_o
  have hG_js_o := hX9.1 _ _ hG_js_o
  have hG_sh_o := hX9.1 _ _ hG_sh_o
  have hG_wk_o := hX9.1 _ _ hG_wk_o
  have hG_ll_o := hX9.1 _ _ hG_ll_o
  have hf_js_o := fun i9 x9 (h9 : i9 < 8) z9 => (hf_js_o i9 x9 h9 z9).elim fun k9 z8 => z8.elim fun n9 z7 => (⟨k9, n9, hX9.1 _ _ z7⟩ : ∃ k n, G3 x9 = some (3, k, n))
  have hmo_o := fun x9 z9 => hX9.1 _ _ (hmo_o x9 z9)
  have hlb_o : ∀ x9, lb_o = some x9 → ∃ w9 h9, _ = some (2, w9, h9) := fun x9 z9 => (hlb_o x9 z9).elim fun w9 z9 => z9.elim fun h9 z9 => ⟨w9, h9, hX9.1 _ _ z9⟩
  have hX := hX.tr (hX9.wk (chs_sub (by decide)))
  rcases r3 with _ | x3
  · skip
    have vn3 := q3.2.1 rfl
    refine lv_astoreN (lv' := [(4, .null), (0, .ref o), (1, .int kind), (2, .int wide), (3, .int high)]) hx hb dX9_job_6 hl (by decide) rfl (fun ls hl => ?_)
    refine lv_aloadN hx hb dX9_job_8 (lv_at hl 0 rfl) ?_
    refine lv_ifnullN (tgt := 22) hx hb dX9_job_10 (by decide) ?_
    refine lv_iconst (v := (-1)) hx hb dX9_job_22 (by decide) ?_
    refine W.widen (k := 7) (n := 588) (Nat.le_of_ble_eq_true rfl) (Nat.le_of_ble_eq_true rfl) ?_
    exact W.iret (v := ((-1) : Int32)) hx hb hr (fun t ht hW => ⟨⟨_, (G3, w3), rfl, ⟨hX, ⟨(by unfold jA; rw [if_neg (by omega)]; rfl), _, _, hM_o, hM_js_o, Or.inr ⟨(by unfold okJ; omega), rfl, rfl⟩⟩⟩, by show va_P D vwCl w3 t.heap; rw [ht]; exact hP, hD, hT⟩, hS.F ht⟩) hS.2.2 dX9_job_23
  · skip
    have hG_x3 := q3.1 x3 rfl
    have vb3 := q3.2.2 x3 rfl
    refine lv_astore (lv' := [(4, .ref x3), (0, .ref o), (1, .int kind), (2, .int wide), (3, .int high)]) hx hb dX9_job_6 hl (by decide) rfl (fun ls hl => ?_)
    refine lv_aload hx hb dX9_job_8 (lv_at hl 0 rfl) ?_
    refine lv_ifnull hx hb dX9_job_10 ?_
    refine lv_iload_n hx hb dX9_job_13 rfl (lv_at hl 2 rfl) ?_
    refine lv_if_lt (tgt := 22) hx hb dX9_job_14 (by decide) (fun c14 => ?_) (fun c14 => ?_)
    · skip
      have d14 := c14
      rw [fa_lt] at d14
      refine lv_iconst (v := (-1)) hx hb dX9_job_22 (by decide) ?_
      refine W.widen (k := 7) (n := 588) (Nat.le_of_ble_eq_true rfl) (Nat.le_of_ble_eq_true rfl) ?_
      exact W.iret (v := ((-1) : Int32)) hx hb hr (fun t ht hW => ⟨⟨_, (G3, w3), rfl, ⟨hX, ⟨(by unfold jA; rw [if_neg (by omega)]; rfl), _, _, hM_o, hM_js_o, Or.inr ⟨(by unfold okJ; omega), rfl, rfl⟩⟩⟩, by show va_P D vwCl w3 t.heap; rw [ht]; exact hP, hD, hT⟩, hS.F ht⟩) hS.2.2 dX9_job_23
    · skip
      have d14 := c14
      rw [fa_lt] at d14
      refine lv_iload_n hx hb dX9_job_17 rfl (lv_at hl 2 rfl) ?_
      refine lv_iconst (v := 3) hx hb dX9_job_18 (by decide) ?_
      refine lv_icmp_le (tgt := 24) hx hb dX9_job_19 (by decide) (fun c19 => ?_) (fun c19 => ?_)
      · skip
        have d19 := c19
        rw [fa_le] at d19
        refine lv_aload_n hx hb dX9_job_24 rfl (lv_at hl 1 rfl) ?_
        refine t_get (v := .int jc_o) (C := RX9) (T := TX9) (N := 9) hx hb hts (by decide +kernel) hown hK hP hM_o rfl 2 (by decide) (hts (.fieldLink RX9 21 "ShadowBench" "jobCount" "I") (by decide +kernel)) (fun _ h9 => h9) rfl dX9_job_25 ?_
        refine lv_bipush (v := 8) hx hb dX9_job_28 (by decide) ?_
        refine lv_icmp_lt (tgt := 36) hx hb dX9_job_30 (by decide) (fun c30 => ?_) (fun c30 => ?_)
        · skip
          have d30 := c30
          rw [fa_lt] at d30
          refine lv_aload_n hx hb dX9_job_36 rfl (lv_at hl 1 rfl) ?_
          refine t_get (v := .ref js_o) (C := RX9) (T := TX9) (N := 9) hx hb hts (by decide +kernel) hown hK hP hM_o rfl 1 (by decide) (hts (.fieldLink RX9 17 "ShadowBench" "jobs" "[LShadowBench$Job;") (by decide +kernel)) (fun _ h9 => h9) rfl dX9_job_37 ?_
          refine lv_aload_n hx hb dX9_job_40 rfl (lv_at hl 1 rfl) ?_
          refine t_get (v := .int jc_o) (C := RX9) (T := TX9) (N := 9) hx hb hts (by decide +kernel) hown hK hP hM_o rfl 2 (by decide) (hts (.fieldLink RX9 21 "ShadowBench" "jobCount" "I") (by decide +kernel)) (fun _ h9 => h9) rfl dX9_job_41 ?_
          refine lv_iload_n hx hb dX9_job_44 rfl (lv_at hl 2 rfl) ?_
          refine lv_aload hx hb dX9_job_45 (lv_at hl 0 rfl) ?_
          have hT47 := hT
          have hX47 := hX
          refine t_calla (va_runS (g := F0 m 47 ls ([.ref x3, .int kind, .int jc_o, .ref js_o])) (As := [.int kind, .ref x3]) (rest := [.int jc_o, .ref js_o]) ⟨hx, hb, hml, hown, hts⟩ (c_X9_newJob_z l D cy A G3 w3 kind x3 hD hT hG_x3 ) (va_cwS 2 hts gX9_job_X9_newJob rfl rfl rfl (by decide +kernel) ⟨Nat.le_of_ble_eq_true rfl, Nat.le_of_ble_eq_true rfl⟩) (c_preS hP hK hA hS hV) rfl rfl hl.1 rfl (lv_room (Nat.le_of_ble_eq_true rfl)) dX9_job_47 ⟨Nat.le_of_ble_eq_true rfl, Nat.le_of_ble_eq_true rfl⟩) hS (fun r47 u H locs q47 hP9 hD9 hT9 hS => ?_)
          obtain ⟨G47, w47⟩ := u
          obtain ⟨hX9, q47⟩ := q47
          have hX9 : cX none (chs []) G3 w3 G47 w47 := hX9
          have hP : va_P D vwCl w47 H := hP9
          have hD : va_D A w47 := hD9
          have hT : cT cy G47 w47 := hT9
          have hM_o := hX9.2.1 _ _ (cP.no hG_o rfl) hM_o
          have hM_js_o := hX9.2.1 _ _ (cP.no hG_js_o rfl) hM_js_o
          have hG_o := hX9.1 _ _ hG_o
          have hG_bs_o := hX9.1 _ _ hG_bs_o
          have hG_js_o := hX9.1 _ _ hG_js_o
          have hG_sh_o := hX9.1 _ _ hG_sh_o
          have hG_wk_o := hX9.1 _ _ hG_wk_o
          have hG_ll_o := hX9.1 _ _ hG_ll_o
          have hG_x3 := hX9.1 _ _ hG_x3
          have hf_js_o := fun i9 x9 (h9 : i9 < 8) z9 => (hf_js_o i9 x9 h9 z9).elim fun k9 z8 => z8.elim fun n9 z7 => (⟨k9, n9, hX9.1 _ _ z7⟩ : ∃ k n, G47 x9 = some (3, k, n))
          have hmo_o := fun x9 z9 => hX9.1 _ _ (hmo_o x9 z9)
          have hlb_o : ∀ x9, lb_o = some x9 → ∃ w9 h9, _ = some (2, w9, h9) := fun x9 z9 => (hlb_o x9 z9).elim fun w9 z9 => z9.elim fun h9 z9 => ⟨w9, h9, hX9.1 _ _ z9⟩
          have hX := hX.tr (hX9.wk (chs_sub (by decide)))
          obtain ⟨x47, rfl, hG_x47, hNx47, an47, mn47, hG_an47, hNa47, hMx47, hMa47, hmk47⟩ := q47
          have hM_x47 : cIn w47 x47 (.inr (kcl kind, .ref x3 :: .ref an47 :: .int (nI 3) :: .long 0 :: .long 0 :: mn47)) := hMx47
          have hM_an47 := hMa47
          refine t_aast9f hx hb hV hK hP hD hS hT hG_js_o hM_js_o hf_js_o hG_x47 (vp_in_iff.mpr ⟨by omega, by omega⟩) dX9_job_50 (fun H locs w50 hU50 hM9_js_o hf9_js_o hP hD hT hS => ?_)
          have hM_o := hU50 _ _ (cne hG_o hG_js_o (show (7 : Nat) ≠ 9 by decide)) hM_o
          have hM_x47 := hU50 _ _ (cne hG_x47 hG_js_o (show (3 : Nat) ≠ 9 by decide)) hM_x47
          have hM_an47 := hU50 _ _ (cne hG_an47 hG_js_o (show (14 : Nat) ≠ 9 by decide)) hM_an47
          have hM_js_o := hM9_js_o
          have hf_js_o := hf9_js_o
          have hX := hX.tr (cX.uF hU50 (Or.inr ⟨_, hG_js_o, rfl⟩))
          refine lv_aload_n hx hb dX9_job_51 rfl (lv_at hl 1 rfl) ?_
          refine lv_dup hx hb dX9_job_52 rfl ?_
          refine t_get (v := .int jc_o) (C := RX9) (T := TX9) (N := 9) hx hb hts (by decide +kernel) hown hK hP hM_o rfl 2 (by decide) (hts (.fieldLink RX9 21 "ShadowBench" "jobCount" "I") (by decide +kernel)) (fun _ h9 => h9) rfl dX9_job_53 ?_
          refine lv_iconst (v := 1) hx hb dX9_job_56 (by decide) ?_
          refine lv_iadd hx hb dX9_job_57 ?_
          refine lv_topi (fun v57 e57 => ?_)
          have i57 : v57.toInt = jc_o.toInt + (1 : Int32).toInt := by rw [e57]; exact fb_addI (by omega) (by omega)
          refine t_put (v := .int v57) (C := RX9) (T := TX9) (N := 9) (ty0 := tyX9) hx hb hts (by decide +kernel) tyX9_ok nmX9 hown hK hP hD hS hM_o rfl 2 (by decide) (hts (.fieldLink RX9 21 "ShadowBench" "jobCount" "I") (by decide +kernel)) (fun _ h9 => h9) rfl rfl rfl (Nat.le_of_ble_eq_true rfl) dX9_job_58 (fun H locs w58 hU58 hP hD hS => ?_)
          have hM_js_o := hU58.2 _ _ (cne hG_js_o hG_o (show (9 : Nat) ≠ 7 by decide)) hM_js_o
          have hM_x47 := hU58.2 _ _ (cne hG_x47 hG_o (show (3 : Nat) ≠ 7 by decide)) hM_x47
          have hM_an47 := hU58.2 _ _ (cne hG_an47 hG_o (show (14 : Nat) ≠ 7 by decide)) hM_an47
          have hT := hT.up hU58 hG_o ⟨_, _, _, _, _, _, _, mo_o, lb_o, rfl, ⟨by omega, by omega⟩, ⟨by omega, by omega⟩, hG_bs_o, hG_js_o, hG_sh_o, hG_wk_o, hmo_o, hG_ll_o, hlb_o⟩
          have hM_o : cIn w58 o (.inr (8, [.ref bs_o, .ref js_o, .int v57, .ref sh_o, .ref wk_o, va_rf mo_o, .ref ll_o, .int lc_o, va_rf lb_o])) := hU58.1
          have hX := hX.tr (cX.up hU58 (Or.inr ⟨_, hG_o, rfl⟩))
          refine lv_aload_n hx hb dX9_job_61 rfl (lv_at hl 1 rfl) ?_
          refine t_get (v := .int v57) (C := RX9) (T := TX9) (N := 9) hx hb hts (by decide +kernel) hown hK hP hM_o rfl 2 (by decide) (hts (.fieldLink RX9 21 "ShadowBench" "jobCount" "I") (by decide +kernel)) (fun _ h9 => h9) rfl dX9_job_62 ?_
          refine lv_iconst (v := 1) hx hb dX9_job_65 (by decide) ?_
          refine lv_isub hx hb dX9_job_66 ?_
          refine lv_topi (fun v66 e66 => ?_)
          have i66 : v66.toInt = v57.toInt - (1 : Int32).toInt := by rw [e66]; exact fb_subI (by omega) (by omega)
          refine W.widen (k := 7) (n := 588) (Nat.le_of_ble_eq_true rfl) (Nat.le_of_ble_eq_true rfl) ?_
          exact W.iret (v := v66) hx hb hr (fun t ht hW => ⟨⟨_, (G47, w58), rfl, ⟨hX, ⟨(by unfold jA; rw [if_pos (by omega), if_pos (by omega)]; omega), _, _, hM_o, hM_js_o, Or.inl ⟨(by unfold okJ; omega), (by omega), _, _, _, _, rfl, hG_x47, (hX47.new0 (hT47.no hNx47) hNx47), (hX47.new0 (hT47.no hNa47) hNa47), hM_x47, hM_an47, (fun z9 => by obtain ⟨c9, e9, g9, n9, ne9, m9⟩ := hmk47 z9; refine ⟨c9, e9, (hX47.new0 (hT47.no n9) n9), ne9, ?_⟩; exact hU58.2 _ _ (cne g9 hG_o (show (14 : Nat) ≠ 7 by decide)) (hU50 _ _ (cne g9 hG_js_o (show (14 : Nat) ≠ 9 by decide)) m9))⟩⟩⟩, by show va_P D vwCl w58 t.heap; rw [ht]; exact hP, hD, hT⟩, hS.F ht⟩) hS.2.2 dX9_job_67
        · skip
          have d30 := c30
          rw [fa_lt] at d30
          refine lv_bipush (v := (-2)) hx hb dX9_job_33 (by decide) ?_
          refine W.widen (k := 7) (n := 588) (Nat.le_of_ble_eq_true rfl) (Nat.le_of_ble_eq_true rfl) ?_
          exact W.iret (v := ((-2) : Int32)) hx hb hr (fun t ht hW => ⟨⟨_, (G3, w3), rfl, ⟨hX, ⟨(by unfold jA; rw [if_pos (by omega), if_neg (by omega)]; rfl), _, _, hM_o, hM_js_o, Or.inr ⟨(by unfold okJ; omega), rfl, rfl⟩⟩⟩, by show va_P D vwCl w3 t.heap; rw [ht]; exact hP, hD, hT⟩, hS.F ht⟩) hS.2.2 dX9_job_35
      · skip
        have d19 := c19
        rw [fa_le] at d19
        refine lv_iconst (v := (-1)) hx hb dX9_job_22 (by decide) ?_
        refine W.widen (k := 7) (n := 588) (Nat.le_of_ble_eq_true rfl) (Nat.le_of_ble_eq_true rfl) ?_
        exact W.iret (v := ((-1) : Int32)) hx hb hr (fun t ht hW => ⟨⟨_, (G3, w3), rfl, ⟨hX, ⟨(by unfold jA; rw [if_neg (by omega)]; rfl), _, _, hM_o, hM_js_o, Or.inr ⟨(by unfold okJ; omega), rfl, rfl⟩⟩⟩, by show va_P D vwCl w3 t.heap; rw [ht]; exact hP, hD, hT⟩, hS.F ht⟩) hS.2.2 dX9_job_23

theorem cJ4c {G : cG} {n w h c : Nat} (h0 : cJk G 4 n w h [.ref c]) : G c = some (14, w * h, 0) := by
  obtain ⟨-, c', e1, e2⟩ := cJ4 h0
  simp only [List.cons.injEq, Value.ref.injEq, and_true] at e1
  rw [e1]
  exact e2
set_option maxHeartbeats 4000000 in
set_option maxRecDepth 100000 in
theorem c_X5_setMark_x (l : Launch) (D : va_G) (cy : Nat → ClassId) (A : Nat → Prop) (G : cG) (ws : va_W) (o : Nat) (s0 : Int32) (v : Int32) {w h b_o s_o c_o : Nat} {t_o : Int32} {x_o y_o : Int64} {fm : Nat → Int32} (hD : va_D A ws) (hT : cT cy G ws) (hG_o : G o = some (3, 4, 8 * w + h)) (hM_o : cIn ws o (.inr (4, [.ref b_o, .ref s_o, .int t_o, .long x_o, .long y_o, .ref c_o]))) (hM_c_o : cIn ws c_o (.inl (cy 0, (w * h), .inl fm))) (hb9 : 1 ≤ w ∧ w ≤ 6 ∧ 1 ≤ h ∧ h ≤ 6) (hs1 : 0 ≤ s0.toInt ∧ s0.toInt < ((w * h : Nat) : Int)) : Ci l D cy A yX5_setMark wsX5_setMark ({ frames := 0, cells := 0, slots := 0, locals := 0 }) 0 0 ws [.ref o, .int s0, .int v] (fun r0 u => ∃ w1, u = (G, w1) ∧ cF (fun b9 => b9 = c_o) ws w1 ∧ (Bo r0 (¬ fm s0.toNatClampNeg = v) ∧ cIn w1 c_o (.inl (cy 0, w * h, .inl (upd fm s0.toNatClampNeg v))))) := by
  refine Met.ofW (cc := cX5_setMark) (maxL := 3) (ret := (some .boolean)) (by decide) rfl ?_
  intro p e s m args below meth c s₁ B hml hv
  obtain ⟨rfl, hP, hK, hA, hV⟩ := hv
  have hx := B.exec
  have hb := B.bytes
  have hr := B.returns
  have hts := atoms_spec (ws := wsX5_setMark) B.pre
  have hown : s.vm.findClass RX5 = some m.cls := findClass_of_methodNamed B.named
  have hlocks := B.notSynchronized
  have hS : va_S A s.heap s.heap [] := va_S.rf
  have hF : cF (fun b9 => b9 = c_o) ws ws := cF.rf
  have hl := lv_entry ([.ref o, .int s0, .int v]) (n := 3) (Nat.le_of_ble_eq_true rfl)
  rw [lg_entry_eq]
  generalize (lg_sl ([.ref o, .int s0, .int v]) ++ List.replicate (3 - (lg_sl ([.ref o, .int s0, .int v])).length) Slot.unset).toArray = ls at hl ⊢
  have hl : lv_has ls 3 [(0, .ref o), (1, .int s0), (2, .int v)] := hl
  have k_0 : (0 : Int32).toInt = 0 := by decide
  have k_1 : (1 : Int32).toInt = 1 := by decide
  obtain ⟨hG_b_o, hG_s_o, hJ_o⟩ := w3sh hD hT hG_o hb9 hM_o
  have hG_c_o := cJ4c hJ_o
  have m36 := cb_mul hb9
  refine lv_iload_n hx hb dX5_setMark_0 rfl (lv_at hl 1 rfl) ?_
  refine lv_if_lt (tgt := 23) hx hb dX5_setMark_1 (by decide) (fun c1 => ?_) (fun c1 => ?_)
  · skip
    have d1 := c1
    rw [fa_lt] at d1
    refine lv_iconst (v := 0) hx hb dX5_setMark_23 (by decide) ?_
    exact W.zret (v := (0 : Int32)) hx hb hr (by decide) (fun t ht hW => ⟨⟨_, (G, ws), rfl, ⟨ws, rfl, hF, (by first | (exfalso; omega) | exact ⟨Or.inr ⟨rfl, fun z9 => z9 (e18.symm.trans c20)⟩, (by rw [upd_same (e18.symm.trans c20)]; exact hM_c_o)⟩)⟩, by show va_P D vwCl ws t.heap; rw [ht]; exact hP, hD, hT⟩, hS.F ht⟩) hS.2.2 dX5_setMark_24
  · skip
    have d1 := c1
    rw [fa_lt] at d1
    refine lv_iload_n hx hb dX5_setMark_4 rfl (lv_at hl 1 rfl) ?_
    refine lv_aload_n hx hb dX5_setMark_5 rfl (lv_at hl 0 rfl) ?_
    refine t_get (v := .ref c_o) (C := RX5) (T := TX5) (N := 6) hx hb hts (by decide +kernel) hown hK hP hM_o rfl 5 (by decide) (hts (.fieldLink RX5 13 "ShadowBench$MarkedJob" "marks" "[I") (by decide +kernel)) (fun _ h9 => h9) rfl dX5_setMark_6 ?_
    refine t_alenI hx hb hK hP hT (Or.inr (Or.inl rfl)) hG_c_o dX5_setMark_9 ?_
    have i9 : (nI (w * h)).toInt = _ := nI_toInt (by omega)
    refine lv_icmp_ge (tgt := 23) hx hb dX5_setMark_10 (by decide) (fun c10 => ?_) (fun c10 => ?_)
    · skip
      have d10 := c10
      rw [fa_le] at d10
      refine lv_iconst (v := 0) hx hb dX5_setMark_23 (by decide) ?_
      exact W.zret (v := (0 : Int32)) hx hb hr (by decide) (fun t ht hW => ⟨⟨_, (G, ws), rfl, ⟨ws, rfl, hF, (by first | (exfalso; omega) | exact ⟨Or.inr ⟨rfl, fun z9 => z9 (e18.symm.trans c20)⟩, (by rw [upd_same (e18.symm.trans c20)]; exact hM_c_o)⟩)⟩, by show va_P D vwCl ws t.heap; rw [ht]; exact hP, hD, hT⟩, hS.F ht⟩) hS.2.2 dX5_setMark_24
    · skip
      have d10 := c10
      rw [fa_le] at d10
      refine lv_aload_n hx hb dX5_setMark_13 rfl (lv_at hl 0 rfl) ?_
      refine t_get (v := .ref c_o) (C := RX5) (T := TX5) (N := 6) hx hb hts (by decide +kernel) hown hK hP hM_o rfl 5 (by decide) (hts (.fieldLink RX5 13 "ShadowBench$MarkedJob" "marks" "[I") (by decide +kernel)) (fun _ h9 => h9) rfl dX5_setMark_14 ?_
      refine lv_iload_n hx hb dX5_setMark_17 rfl (lv_at hl 1 rfl) ?_
      refine t_ialdM hx hb hK hP hM_c_o (vp_in_iff.mpr ⟨by omega, by omega⟩) dX5_setMark_18 ?_
      refine lv_topi (fun v18 e18 => ?_)
      refine lv_iload_n hx hb dX5_setMark_19 rfl (lv_at hl 2 rfl) ?_
      refine lv_icmp_ne (tgt := 25) hx hb dX5_setMark_20 (by decide) (fun c20 => ?_) (fun c20 => ?_)
      · skip
        have d20 := c20
        rw [fa_eq] at d20
        refine lv_aload_n hx hb dX5_setMark_25 rfl (lv_at hl 0 rfl) ?_
        refine t_get (v := .ref c_o) (C := RX5) (T := TX5) (N := 6) hx hb hts (by decide +kernel) hown hK hP hM_o rfl 5 (by decide) (hts (.fieldLink RX5 13 "ShadowBench$MarkedJob" "marks" "[I") (by decide +kernel)) (fun _ h9 => h9) rfl dX5_setMark_26 ?_
        refine lv_iload_n hx hb dX5_setMark_29 rfl (lv_at hl 1 rfl) ?_
        refine lv_iload_n hx hb dX5_setMark_30 rfl (lv_at hl 2 rfl) ?_
        refine t_iastK hx hb hK hP hD hS hT (Or.inr (Or.inl rfl)) hG_c_o hM_c_o (vp_in_iff.mpr ⟨by omega, by omega⟩) dX5_setMark_31 (fun H locs w31 hU31 hP hD hT hS => ?_)
        have hM_o := hU31.2 _ _ (cne hG_o hG_c_o (show (3 : Nat) ≠ 14 by decide)) hM_o
        have hM_c_o := hU31.1
        have hF := hF.tr (cF.up hU31 rfl)
        refine lv_iconst (v := 1) hx hb dX5_setMark_32 (by decide) ?_
        exact W.zret (v := (1 : Int32)) hx hb hr (by decide) (fun t ht hW => ⟨⟨_, (G, w31), rfl, ⟨w31, rfl, hF, ⟨Or.inl ⟨rfl, fun z9 => c20 (e18.trans z9)⟩, hM_c_o⟩⟩, by show va_P D vwCl w31 t.heap; rw [ht]; exact hP, hD, hT⟩, hS.F ht⟩) hS.2.2 dX5_setMark_33
      · skip
        have d20 := c20
        rw [fa_eq] at d20
        refine lv_iconst (v := 0) hx hb dX5_setMark_23 (by decide) ?_
        exact W.zret (v := (0 : Int32)) hx hb hr (by decide) (fun t ht hW => ⟨⟨_, (G, ws), rfl, ⟨ws, rfl, hF, (by first | (exfalso; omega) | exact ⟨Or.inr ⟨rfl, fun z9 => z9 (e18.symm.trans c20)⟩, (by rw [upd_same (e18.symm.trans c20)]; exact hM_c_o)⟩)⟩, by show va_P D vwCl ws t.heap; rw [ht]; exact hP, hD, hT⟩, hS.F ht⟩) hS.2.2 dX5_setMark_24
set_option maxHeartbeats 4000000 in
set_option maxRecDepth 100000 in
theorem c_X9_mark_j (l : Launch) (D : va_G) (cy : Nat → ClassId) (A : Nat → Prop) (G : cG) (ws : va_W) (o : Nat) (j : Int32) (s0 : Int32) (v : Int32) {bs_o js_o sh_o wk_o ll_o : Nat} {jc_o lc_o : Int32} {mo_o lb_o : Option Nat} {fa : Nat → Option Nat} {xj kj bj sj tj wj hj : Nat} {oj nj : Int64} {msj : List Value} {fsj : Nat → Int32} {cj : Nat} {fmj : Nat → Int32} (hD : va_D A ws) (hT : cT cy G ws) (hG_o : G o = some (7, 0, 0)) (hM_o : cIn ws o (.inr (8, [.ref bs_o, .ref js_o, .int jc_o, .ref sh_o, .ref wk_o, va_rf mo_o, .ref ll_o, .int lc_o, va_rf lb_o]))) (hM_js_o : cIn ws js_o (.inl (cy 4, cqa 8 fa))) (hJ1 : ∀ i : Nat, (i : Int) < jc_o.toInt → ∃ x, fa i = some x) (hJ : okJob jc_o j → jobS cy G ws fa j.toNatClampNeg xj kj bj sj tj wj hj oj nj msj fsj) (hJ4 : okJob jc_o j → kj = 4 → msj = [.ref cj] ∧ cIn ws cj (.inl (cy 0, wj * hj, .inl fmj))) : Ci l D cy A yX9_mark wsX9_mark ({ frames := 1, cells := 0, slots := 0, locals := 22 }) 0 0 ws [.ref o, .int j, .int s0, .int v] (fun r0 u => ∃ w1, u = (G, w1) ∧ cF (fun b9 => b9 = cj) ws w1 ∧ ((okMark9 jc_o wj hj j s0 v ∧ ((kj = 4 ∧ Bo r0 (¬ fmj s0.toNatClampNeg = v) ∧ cIn w1 cj (.inl (cy 0, wj * hj, .inl (upd fmj s0.toNatClampNeg v)))) ∨ (¬ kj = 4 ∧ r0 = -4 ∧ w1 = ws))) ∨ (¬ okMark9 jc_o wj hj j s0 v ∧ r0 = -1 ∧ w1 = ws))) := by
  refine Met.ofW (cc := cX9_mark) (maxL := 6) (ret := (some .int)) (by decide) rfl ?_
  intro p e s m args below meth c s₁ B hml hv
  obtain ⟨rfl, hP, hK, hA, hV⟩ := hv
  have hx := B.exec
  have hb := B.bytes
  have hr := B.returns
  have hts := atoms_spec (ws := wsX9_mark) B.pre
  have hown : s.vm.findClass RX9 = some m.cls := findClass_of_methodNamed B.named
  have hlocks := B.notSynchronized
  have hS : va_S A s.heap s.heap [] := va_S.rf
  have hinJ : ∀ w ∈ wsX10 ++ wsX30 ++ wsX40 ++ wsX50, w ∈ wsX9_mark := by decide +kernel
  have hF : cF (fun b9 => b9 = cj) ws ws := cF.rf
  have hl := lv_entry ([.ref o, .int j, .int s0, .int v]) (n := 6) (Nat.le_of_ble_eq_true rfl)
  rw [lg_entry_eq]
  generalize (lg_sl ([.ref o, .int j, .int s0, .int v]) ++ List.replicate (6 - (lg_sl ([.ref o, .int j, .int s0, .int v])).length) Slot.unset).toArray = ls at hl ⊢
  have hl : lv_has ls 6 [(0, .ref o), (1, .int j), (2, .int s0), (3, .int v)] := hl
  have k_m99 : (-99 : Int32).toInt = -99 := by decide
  have k_m4 : (-4 : Int32).toInt = -4 := by decide
  have k_m1 : (-1 : Int32).toInt = -1 := by decide
  have k_0 : (0 : Int32).toInt = 0 := by decide
  have k_1 : (1 : Int32).toInt = 1 := by decide
  have k_99 : (99 : Int32).toInt = 99 := by decide
  obtain ⟨hjc_o, hlc_o, hG_bs_o, hG_js_o, hG_sh_o, hG_wk_o, hmo_o, hG_ll_o, hlb_o⟩ := w7sh hD hT hG_o hM_o
  have hf_js_o := w9sh hD hT hG_js_o hM_js_o
  refine lv_aload_n hx hb dX9_mark_0 rfl (lv_at hl 0 rfl) ?_
  refine lv_iload_n hx hb dX9_mark_1 rfl (lv_at hl 1 rfl) ?_
  refine t_calla (va_runV (g := F0 m 2 ls ([.int j, .ref o])) (As := [.int j]) (rest := []) ⟨hx, hb, hml, hown, hts⟩ (c_X9_jobOf_j l D cy A G ws o j hD hT hG_o hM_o hM_js_o hJ1) (cwV 1 hts gX9_mark_X9_jobOf rfl rfl rfl (by decide +kernel) ⟨Nat.le_of_ble_eq_true rfl, Nat.le_of_ble_eq_true rfl⟩) (c_preV hM_o rfl hP hK hA hS hV) rfl rfl hl.1 rfl (lv_room (Nat.le_of_ble_eq_true rfl)) dX9_mark_2 ⟨Nat.le_of_ble_eq_true rfl, Nat.le_of_ble_eq_true rfl⟩) hS (fun r2 u H locs q2 hP9 hD9 hT9 hS => ?_)
  obtain ⟨rfl, q2⟩ := q2
  have hP : va_P D vwCl ws H := hP9
  rcases r2 with _ | x2
  · skip
    have vn2 := q2.2 rfl
    refine lv_astoreN (lv' := [(4, .null), (0, .ref o), (1, .int j), (2, .int s0), (3, .int v)]) hx hb dX9_mark_5 hl (by decide) rfl (fun ls hl => ?_)
    refine lv_aloadN hx hb dX9_mark_7 (lv_at hl 0 rfl) ?_
    refine lv_ifnullN (tgt := 36) hx hb dX9_mark_9 (by decide) ?_
    refine lv_iconst (v := (-1)) hx hb dX9_mark_36 (by decide) ?_
    exact W.iret (v := ((-1) : Int32)) hx hb hr (fun t ht hW => ⟨⟨_, (G, ws), rfl, ⟨ws, rfl, hF, (Or.inr ⟨(fun z9 => by first | exact vn2 z9.1 | (have z7 := z9.2; omega)), rfl, rfl⟩)⟩, by show va_P D vwCl ws t.heap; rw [ht]; exact hP, hD, hT⟩, hS.F ht⟩) hS.2.2 dX9_mark_37
  · skip
    obtain ⟨vj2, fj2⟩ := q2.1 x2 rfl
    obtain ⟨hfa9, hG_xj, hb9, ht9, hM_xj, hM_sj⟩ := hJ vj2
    obtain rfl : xj = x2 := Option.some.inj (hfa9.symm.trans fj2)
    obtain ⟨hG_bj, hG_sj, hJ_xj⟩ := w3sh hD hT hG_xj hb9 hM_xj
    refine lv_astore (lv' := [(4, .ref xj), (0, .ref o), (1, .int j), (2, .int s0), (3, .int v)]) hx hb dX9_mark_5 hl (by decide) rfl (fun ls hl => ?_)
    refine lv_aload hx hb dX9_mark_7 (lv_at hl 0 rfl) ?_
    refine lv_ifnull hx hb dX9_mark_9 ?_
    refine lv_aload hx hb dX9_mark_12 (lv_at hl 0 rfl) ?_
    refine t_getJ (v := .ref bj) hx hb hts hinJ hown hK hP hJ_xj.kc hM_xj 0 (by decide) (hts (.fieldLink RX9 65 "ShadowBench$Job" "board" "LShadowBench$Board;") (by decide +kernel)) (fun _ h9 => h9) rfl dX9_mark_14 ?_
    refine lv_iload_n hx hb dX9_mark_17 rfl (lv_at hl 3 rfl) ?_
    obtain ⟨_, hM_bj, hb_bj, l_bj, f_bj, r_bj, rfl, hG_l_bj, hG_f_bj, hG_r_bj⟩ := hT _ _ hG_bj
    refine t_calli (va_runV (g := F0 m 18 ls ([.int s0, .ref bj])) (As := [.int s0]) (rest := []) ⟨hx, hb, hml, hown, hts⟩ (c_X0_isSquare l D cy A G ws bj s0 hD hT hG_bj ) (cwV 1 hts gX9_mark_X0_isSquare rfl rfl rfl (by decide +kernel) ⟨Nat.le_of_ble_eq_true rfl, Nat.le_of_ble_eq_true rfl⟩) (c_preV hM_bj rfl hP hK hA hS hV) rfl rfl hl.1 rfl (lv_room (Nat.le_of_ble_eq_true rfl)) dX9_mark_18 ⟨Nat.le_of_ble_eq_true rfl, Nat.le_of_ble_eq_true rfl⟩) hS (fun r18 u H locs q18 hP9 hD9 hT9 hS => ?_)
    obtain ⟨rfl, q18⟩ := q18
    have hP : va_P D vwCl ws H := hP9
    refine lv_if_eq (tgt := 36) hx hb dX9_mark_21 (by decide) (fun c21 => ?_) (fun c21 => ?_)
    · skip
      have b21 := bo_f q18 c21
      refine lv_iconst (v := (-1)) hx hb dX9_mark_36 (by decide) ?_
      exact W.iret (v := ((-1) : Int32)) hx hb hr (fun t ht hW => ⟨⟨_, (G, ws), rfl, ⟨ws, rfl, hF, (Or.inr ⟨(fun z9 => by first | exact vn2 z9.1 | (have z7 := z9.2; omega)), rfl, rfl⟩)⟩, by show va_P D vwCl ws t.heap; rw [ht]; exact hP, hD, hT⟩, hS.F ht⟩) hS.2.2 dX9_mark_37
    · skip
      have b21 := bo_t q18 c21
      refine lv_iload_n hx hb dX9_mark_24 rfl (lv_at hl 4 rfl) ?_
      refine lv_bipush (v := (-99)) hx hb dX9_mark_25 (by decide) ?_
      refine lv_icmp_lt (tgt := 36) hx hb dX9_mark_27 (by decide) (fun c27 => ?_) (fun c27 => ?_)
      · skip
        have d27 := c27
        rw [fa_lt] at d27
        refine lv_iconst (v := (-1)) hx hb dX9_mark_36 (by decide) ?_
        exact W.iret (v := ((-1) : Int32)) hx hb hr (fun t ht hW => ⟨⟨_, (G, ws), rfl, ⟨ws, rfl, hF, (Or.inr ⟨(fun z9 => by first | exact vn2 z9.1 | (have z7 := z9.2; omega)), rfl, rfl⟩)⟩, by show va_P D vwCl ws t.heap; rw [ht]; exact hP, hD, hT⟩, hS.F ht⟩) hS.2.2 dX9_mark_37
      · skip
        have d27 := c27
        rw [fa_lt] at d27
        refine lv_iload_n hx hb dX9_mark_30 rfl (lv_at hl 4 rfl) ?_
        refine lv_bipush (v := 99) hx hb dX9_mark_31 (by decide) ?_
        refine lv_icmp_le (tgt := 38) hx hb dX9_mark_33 (by decide) (fun c33 => ?_) (fun c33 => ?_)
        · skip
          have d33 := c33
          rw [fa_le] at d33
          refine lv_aload hx hb dX9_mark_38 (lv_at hl 0 rfl) ?_
          have hJ9 := hJ_xj
          obtain ⟨hn9, hJ9⟩ := hJ9
          rcases hJ9 with ⟨rfl, rfl⟩ | ⟨rfl, rfl⟩ | ⟨rfl, rfl⟩ | ⟨rfl, c9, rfl, hG_c9⟩
          · skip
            have hM_xj : cIn ws xj (.inr (1, [.ref bj, .ref sj, .int (nI tj), .long oj, .long nj])) := hM_xj
            refine va_instNo hx hb hown (hts (.classLink RX9 112 RX5) (by decide +kernel)) hV.2.2.2.1.1 (t_recJ hK hP hM_xj rfl) dX9_mark_40 ?_
            refine lv_if_eq (tgt := 69) hx hb dX9_mark_43 (by decide) (fun c43 => ?_) (fun c43 => ?_)
            · skip
              have d43 := c43
              rw [fa_eq] at d43
              refine lv_bipush (v := (-4)) hx hb dX9_mark_69 (by decide) ?_
              exact W.iret (v := ((-4) : Int32)) hx hb hr (fun t ht hW => ⟨⟨_, (G, ws), rfl, ⟨ws, rfl, hF, (Or.inl ⟨⟨vj2, (by omega), (by omega)⟩, Or.inr ⟨(by decide), rfl, rfl⟩⟩)⟩, by show va_P D vwCl ws t.heap; rw [ht]; exact hP, hD, hT⟩, hS.F ht⟩) hS.2.2 dX9_mark_71
            · first | exact absurd c43 (by decide) | exact absurd (by decide) c43
          · skip
            have hM_xj : cIn ws xj (.inr (2, [.ref bj, .ref sj, .int (nI tj), .long oj, .long nj])) := hM_xj
            refine va_instNo hx hb hown (hts (.classLink RX9 112 RX5) (by decide +kernel)) hV.2.2.2.1.2.1 (t_recJ hK hP hM_xj rfl) dX9_mark_40 ?_
            refine lv_if_eq (tgt := 69) hx hb dX9_mark_43 (by decide) (fun c43 => ?_) (fun c43 => ?_)
            · skip
              have d43 := c43
              rw [fa_eq] at d43
              refine lv_bipush (v := (-4)) hx hb dX9_mark_69 (by decide) ?_
              exact W.iret (v := ((-4) : Int32)) hx hb hr (fun t ht hW => ⟨⟨_, (G, ws), rfl, ⟨ws, rfl, hF, (Or.inl ⟨⟨vj2, (by omega), (by omega)⟩, Or.inr ⟨(by decide), rfl, rfl⟩⟩)⟩, by show va_P D vwCl ws t.heap; rw [ht]; exact hP, hD, hT⟩, hS.F ht⟩) hS.2.2 dX9_mark_71
            · first | exact absurd c43 (by decide) | exact absurd (by decide) c43
          · skip
            have hM_xj : cIn ws xj (.inr (3, [.ref bj, .ref sj, .int (nI tj), .long oj, .long nj])) := hM_xj
            refine va_instNo hx hb hown (hts (.classLink RX9 112 RX5) (by decide +kernel)) hV.2.2.2.1.2.2 (t_recJ hK hP hM_xj rfl) dX9_mark_40 ?_
            refine lv_if_eq (tgt := 69) hx hb dX9_mark_43 (by decide) (fun c43 => ?_) (fun c43 => ?_)
            · skip
              have d43 := c43
              rw [fa_eq] at d43
              refine lv_bipush (v := (-4)) hx hb dX9_mark_69 (by decide) ?_
              exact W.iret (v := ((-4) : Int32)) hx hb hr (fun t ht hW => ⟨⟨_, (G, ws), rfl, ⟨ws, rfl, hF, (Or.inl ⟨⟨vj2, (by omega), (by omega)⟩, Or.inr ⟨(by decide), rfl, rfl⟩⟩)⟩, by show va_P D vwCl ws t.heap; rw [ht]; exact hP, hD, hT⟩, hS.F ht⟩) hS.2.2 dX9_mark_71
            · first | exact absurd c43 (by decide) | exact absurd (by decide) c43
          · skip
            have hM_xj : cIn ws xj (.inr (4, [.ref bj, .ref sj, .int (nI tj), .long oj, .long nj, .ref c9])) := hM_xj
            have hn36 := cb_mul (c_hb hT hG_bj)
            obtain ⟨e49, hM_cj⟩ := hJ4 vj2 rfl
            simp only [List.cons.injEq, Value.ref.injEq, and_true] at e49
            obtain rfl : cj = c9 := e49.symm
            have hG_cj := hG_c9
            have hM_xj : cIn ws xj (.inr (4, [.ref bj, .ref sj, .int (nI tj), .long oj, .long nj, .ref cj])) := hM_xj
            refine va_instS hx hb hown (hts (.classLink RX9 112 RX5) (by decide +kernel)) (hK.1 4 _ rfl).2 (t_recJ hK hP hM_xj rfl) dX9_mark_40 ?_
            refine lv_if_eq (tgt := 69) hx hb dX9_mark_43 (by decide) (fun c43 => ?_) (fun c43 => ?_)
            · first | exact absurd c43 (by decide) | exact absurd (by decide) c43
            · skip
              have d43 := c43
              rw [fa_eq] at d43
              refine lv_aload hx hb dX9_mark_46 (lv_at hl 0 rfl) ?_
              refine va_castS hx hb hown (hts (.classLink RX9 112 RX5) (by decide +kernel)) (hK.1 4 _ rfl).2 (t_recJ hK hP hM_xj rfl) dX9_mark_48 ?_
              refine lv_astore (lv' := [(5, .ref xj), (4, .ref xj), (0, .ref o), (1, .int j), (2, .int s0), (3, .int v)]) hx hb dX9_mark_51 hl (by decide) rfl (fun ls hl => ?_)
              refine lv_aload hx hb dX9_mark_53 (lv_at hl 0 rfl) ?_
              refine lv_iload_n hx hb dX9_mark_55 rfl (lv_at hl 4 rfl) ?_
              refine lv_iload_n hx hb dX9_mark_56 rfl (lv_at hl 5 rfl) ?_
              refine t_calli (va_runV (g := F0 m 57 ls ([.int v, .int s0, .ref xj])) (As := [.int s0, .int v]) (rest := []) ⟨hx, hb, hml, hown, hts⟩ (c_X5_setMark_x l D cy A G ws xj s0 v hD hT hG_xj hM_xj hM_cj hb9 (by omega)) (cwV 2 hts gX9_mark_X5_setMark rfl rfl rfl (by decide +kernel) ⟨Nat.le_of_ble_eq_true rfl, Nat.le_of_ble_eq_true rfl⟩) (c_preV hM_xj rfl hP hK hA hS hV) rfl rfl hl.1 rfl (lv_room (Nat.le_of_ble_eq_true rfl)) dX9_mark_57 ⟨Nat.le_of_ble_eq_true rfl, Nat.le_of_ble_eq_true rfl⟩) hS (fun r57 u H locs q57 hP9 hD9 hT9 hS => ?_)
              obtain ⟨w57, rfl, hF57, q57⟩ := q57
              have hP : va_P D vwCl w57 H := hP9
              have hD : va_D A w57 := hD9
              have hT : cT cy G w57 := hT9
              have hM_o := hF57 _ _ (cne hG_o hG_cj (show (7 : Nat) ≠ 14 by decide)) hM_o
              have hM_js_o := hF57 _ _ (cne hG_js_o hG_cj (show (9 : Nat) ≠ 14 by decide)) hM_js_o
              have hM_xj := hF57 _ _ (cne hG_xj hG_cj (show (3 : Nat) ≠ 14 by decide)) hM_xj
              have hM_bj := hF57 _ _ (cne hG_bj hG_cj (show (2 : Nat) ≠ 14 by decide)) hM_bj
              have hF := hF.tr hF57
              have hM_cj : cIn w57 cj (.inl (cy 0, (wj * hj), .inl (upd fmj s0.toNatClampNeg v))) := q57.2
              refine lv_if_eq (tgt := 67) hx hb dX9_mark_60 (by decide) (fun c60 => ?_) (fun c60 => ?_)
              · skip
                have d60 := c60
                rw [fa_eq] at d60
                refine lv_iconst (v := 0) hx hb dX9_mark_67 (by decide) ?_
                exact W.iret (v := (0 : Int32)) hx hb hr (fun t ht hW => ⟨⟨_, (G, w57), rfl, ⟨w57, rfl, hF, (Or.inl ⟨⟨vj2, (by omega), (by omega)⟩, Or.inl ⟨rfl, (by rcases q57.1 with ⟨z9, z8⟩ | ⟨z9, z8⟩; (first | exact Or.inl ⟨rfl, z8⟩ | exact absurd (z9.symm.trans c60) (by decide)); (first | exact Or.inr ⟨rfl, z8⟩ | exact absurd z9 c60)), hM_cj⟩⟩)⟩, by show va_P D vwCl w57 t.heap; rw [ht]; exact hP, hD, hT⟩, hS.F ht⟩) hS.2.2 dX9_mark_68
              · skip
                have d60 := c60
                rw [fa_eq] at d60
                refine lv_iconst (v := 1) hx hb dX9_mark_63 (by decide) ?_
                refine lv_goto (tgt := 68) hx hb dX9_mark_64 (by decide) ?_
                exact W.iret (v := (1 : Int32)) hx hb hr (fun t ht hW => ⟨⟨_, (G, w57), rfl, ⟨w57, rfl, hF, (Or.inl ⟨⟨vj2, (by omega), (by omega)⟩, Or.inl ⟨rfl, (by rcases q57.1 with ⟨z9, z8⟩ | ⟨z9, z8⟩; (first | exact Or.inl ⟨rfl, z8⟩ | exact absurd (z9.symm.trans c60) (by decide)); (first | exact Or.inr ⟨rfl, z8⟩ | exact absurd z9 c60)), hM_cj⟩⟩)⟩, by show va_P D vwCl w57 t.heap; rw [ht]; exact hP, hD, hT⟩, hS.F ht⟩) hS.2.2 dX9_mark_68
        · skip
          have d33 := c33
          rw [fa_le] at d33
          refine lv_iconst (v := (-1)) hx hb dX9_mark_36 (by decide) ?_
          exact W.iret (v := ((-1) : Int32)) hx hb hr (fun t ht hW => ⟨⟨_, (G, ws), rfl, ⟨ws, rfl, hF, (Or.inr ⟨(fun z9 => by first | exact vn2 z9.1 | (have z7 := z9.2; omega)), rfl, rfl⟩)⟩, by show va_P D vwCl ws t.heap; rw [ht]; exact hP, hD, hT⟩, hS.F ht⟩) hS.2.2 dX9_mark_37

set_option maxHeartbeats 4000000 in
set_option maxRecDepth 100000 in
theorem c_X10_mark_y (l : Launch) (D : va_G) (cy : Nat → ClassId) (mo : Nat) (a : Nat → Nat) (f : Nat → Int32) (g : Nat → Int64) (r : Nat → Nat → Int32) (q : Nat → Nat → Int64) (j : Int32) (s0 : Int32) (v0 : Int32) (hD : DM cy mo a) (hI : MI f r) : Mi l D cy mo a yX10_mark wsX10_mark ({ frames := 2, cells := 0, slots := 0, locals := 43 }) f g r q [.int j, .int s0, .int v0] (fun r0 u => ∃ (wt : Nat → Int32), u = ((upd f 0 (0 : Int32)), g, (va_up r 8 wt), q) ∧ ((okMark9 (f 1) (r 3 j.toNatClampNeg).toNatClampNeg (r 4 j.toNatClampNeg).toNatClampNeg j s0 v0 ∧ ((r 2 j.toNatClampNeg = 3 ∧ r0 = (if r 8 (36 * j.toNatClampNeg + s0.toNatClampNeg) = v0 then 0 else 1) ∧ wt = upd (r 8) (36 * j.toNatClampNeg + s0.toNatClampNeg) v0) ∨ (¬ r 2 j.toNatClampNeg = 3 ∧ r0 = -4 ∧ wt = r 8))) ∨ (¬ okMark9 (f 1) (r 3 j.toNatClampNeg).toNatClampNeg (r 4 j.toNatClampNeg).toNatClampNeg j s0 v0 ∧ r0 = -1 ∧ wt = r 8))) := by
  refine Met.ofW (cc := cX10_mark) (maxL := 5) (ret := (some .int)) (by decide) rfl ?_
  intro p e s m args below meth c s₁ B hml hv
  obtain ⟨rfl, hP, hK⟩ := hv
  have hx := B.exec
  have hb := B.bytes
  have hr := B.returns
  have hts := atoms_spec (ws := wsX10_mark) B.pre
  have hin : ∀ w ∈ u_ws RX10 TX10 35, w ∈ wsX10_mark := by decide +kernel
  have hown : s.vm.findClass RX10 = some m.cls := findClass_of_methodNamed B.named
  have hlocks := B.notSynchronized
  have hS : va_S (AM mo a) s.heap s.heap [] := va_S.rf
  have hl := lv_entry ([.ref mo, .int j, .int s0, .int v0]) (n := 5) (Nat.le_of_ble_eq_true rfl)
  rw [lg_entry_eq]
  generalize (lg_sl ([.ref mo, .int j, .int s0, .int v0]) ++ List.replicate (5 - (lg_sl ([.ref mo, .int j, .int s0, .int v0])).length) Slot.unset).toArray = ls at hl ⊢
  have hl : lv_has ls 5 [(0, .ref mo), (1, .int j), (2, .int s0), (3, .int v0)] := hl
  have k_m4 : (-4 : Int32).toInt = -4 := by decide
  have k_m1 : (-1 : Int32).toInt = -1 := by decide
  have k_0 : (0 : Int32).toInt = 0 := by decide
  have k_1 : (1 : Int32).toInt = 1 := by decide
  have k_3 : (3 : Int32).toInt = 3 := by decide
  have k_36 : (36 : Int32).toInt = 36 := by decide
  have k_m99L : (-99 : Int64).toInt = -99 := by decide
  have k_99L : (99 : Int64).toInt = 99 := by decide
  have hI1 := hI.1
  refine lv_aload_n hx hb dX10_mark_0 rfl (lv_at hl 0 rfl) ?_
  refine lv_iconst (v := 0) hx hb dX10_mark_1 (by decide) ?_
  refine m_put (v := .int (0 : Int32)) (ty := .int) hx hb hts hin hown hK hP hD hS 0 (by decide) rfl (hts (.fieldLink RX10 79 "ShadowBenchModel" "thrown" "I") (by decide +kernel)) rfl (by decide +kernel) rfl rfl (upd f 0 (0 : Int32)) g rfl dX10_mark_2 (fun H locs hP hS => ?_)
  refine lv_aload_n hx hb dX10_mark_5 rfl (lv_at hl 0 rfl) ?_
  refine lv_iload_n hx hb dX10_mark_6 rfl (lv_at hl 1 rfl) ?_
  refine lv_iload_n hx hb dX10_mark_7 rfl (lv_at hl 2 rfl) ?_
  refine m_calli (As := [.int j, .int s0]) (rest := []) ⟨hx, hb, hml, hown, hts⟩ (c_X10_isSquare l D cy mo a (upd f 0 (0 : Int32)) g r q j s0 hD hI) (cwV 2 hts gX10_mark_X10_isSquare rfl rfl rfl (by decide +kernel) ⟨Nat.le_of_ble_eq_true rfl, Nat.le_of_ble_eq_true rfl⟩) hK hP rfl hl.1 rfl (Nat.le_of_ble_eq_true rfl) dX10_mark_8 ⟨Nat.le_of_ble_eq_true rfl, Nat.le_of_ble_eq_true rfl⟩ hS (fun r8 u H locs q8 hP hS => ?_)
  obtain ⟨rfl, q8⟩ := q8
  have hP : va_P D vwCl (WM cy mo a (upd f 0 (0 : Int32)) g r q) H := hP
  have q8 : Bo r8 ((0 ≤ j.toInt ∧ j.toInt < ((f 1)).toInt) ∧ 0 ≤ s0.toInt ∧ s0.toInt < ((r 3) j.toNatClampNeg).toInt * ((r 4) j.toNatClampNeg).toInt) := q8
  refine lv_if_eq (tgt := 28) hx hb dX10_mark_11 (by decide) (fun c11 => ?_) (fun c11 => ?_)
  · skip
    have b11 := bo_f q8 c11
    refine lv_iconst (v := (-1)) hx hb dX10_mark_28 (by decide) ?_
    exact W.iret (v := ((-1) : Int32)) hx hb hr (fun t ht hW => ⟨⟨_, ((upd f 0 (0 : Int32)), g, (va_up r 8 (r 8)), q), rfl, ⟨(r 8), rfl, (Or.inr ⟨(fun z9 => by have z8 := z9.1; unfold okJob at z8; have z7 := z9.2.1; have z6 := z9.2.2; rw [sq_eq hI z8.1 z8.2] at z7; first | exact b11 ⟨z8, z7⟩ | exact b25 z6 | omega | (have y25 := b25; simp only [k64, show (-99 : Int64).toInt = -99 from rfl, show (99 : Int64).toInt = 99 from rfl] at y25; omega)), rfl, rfl⟩)⟩, by unfold mB; rw [ht]; exact hP⟩, hS.F ht⟩) hS.2.2 dX10_mark_29
  · skip
    have b11 := bo_t q8 c11
    refine lv_iload_n hx hb dX10_mark_14 rfl (lv_at hl 3 rfl) ?_
    refine lv_i2l (v := v0.toInt64) hx hb dX10_mark_15 rfl ?_
    refine lv_ldc2 hx hb hown (hts (.constantLong RX10 139 (-99)) (by decide +kernel)) dX10_mark_16 ?_
    refine lv_ldc2 hx hb hown (hts (.constantLong RX10 141 (99)) (by decide +kernel)) dX10_mark_19 ?_
    refine m_pu (As := [.long (v0.toInt64), .long (-99 : Int64), .long (99 : Int64)]) (rest := []) ⟨hx, hb, hml, hown, hts⟩ (c_X10_isIn l v0.toInt64 (-99 : Int64) (99 : Int64) ) (va_cwS 3 hts gX10_mark_X10_isIn rfl rfl rfl (by decide +kernel) ⟨Nat.le_of_ble_eq_true rfl, Nat.le_of_ble_eq_true rfl⟩) hP rfl hl.1 rfl (Nat.le_of_ble_eq_true rfl) dX10_mark_22 ⟨Nat.le_of_ble_eq_true rfl, Nat.le_of_ble_eq_true rfl⟩ hS (fun r22 H locs q22 hP hS => ?_)
    have q22 := q22
    simp only [k64, show (0 : Int64).toInt = 0 from rfl, show (1 : Int64).toInt = 1 from rfl, show (2 : Int64).toInt = 2 from rfl, show (3 : Int64).toInt = 3 from rfl, show (6 : Int64).toInt = 6 from rfl] at q22
    refine lv_if_ne (tgt := 30) hx hb dX10_mark_25 (by decide) (fun c25 => ?_) (fun c25 => ?_)
    · skip
      have b25 := bo_t q22 c25
      have hsb := mul66 (mi_w hI (x := j) (by omega) (by omega) rfl) (mi_h hI (x := j) (by omega) (by omega) rfl)
      have y25 := b25
      try simp only [k64, show (-99 : Int64).toInt = -99 from rfl, show (99 : Int64).toInt = 99 from rfl] at y25
      refine lv_aload_n hx hb dX10_mark_30 rfl (lv_at hl 0 rfl) ?_
      refine m_get (v := .ref (a 2)) hx hb hts hin hown hK hP 2 (by decide) rfl (hts (.fieldLink RX10 7 "ShadowBenchModel" "kind" "[I") (by decide +kernel)) rfl dX10_mark_31 ?_
      refine lv_iload_n hx hb dX10_mark_34 rfl (lv_at hl 1 rfl) ?_
      refine m_iald (w := (r 2)) hx hb hK hP 1 rfl (vp_in_iff.mpr ⟨by omega, by omega⟩) dX10_mark_35 ?_
      refine lv_topi (fun v35 e35 => ?_)
      have i35 : v35.toInt = ((r 2) j.toNatClampNeg).toInt := congrArg Int32.toInt e35
      refine lv_iconst (v := 3) hx hb dX10_mark_36 (by decide) ?_
      refine lv_icmp_eq (tgt := 43) hx hb dX10_mark_37 (by decide) (fun c37 => ?_) (fun c37 => ?_)
      · skip
        have d37 := c37
        rw [fa_eq] at d37
        refine lv_aload_n hx hb dX10_mark_43 rfl (lv_at hl 0 rfl) ?_
        refine m_get (v := .ref (a 8)) hx hb hts hin hown hK hP 8 (by decide) rfl (hts (.fieldLink RX10 29 "ShadowBenchModel" "weight" "[I") (by decide +kernel)) rfl dX10_mark_44 ?_
        refine lv_bipush (v := 36) hx hb dX10_mark_47 (by decide) ?_
        refine lv_iload_n hx hb dX10_mark_49 rfl (lv_at hl 1 rfl) ?_
        refine lv_imul hx hb dX10_mark_50 ?_
        refine lv_topi (fun v50 e50 => ?_)
        have i50 : v50.toInt = 36 * j.toInt := by rw [e50]; exact mulcL rfl (by omega) (by omega)
        refine lv_iload_n hx hb dX10_mark_51 rfl (lv_at hl 2 rfl) ?_
        refine lv_iadd hx hb dX10_mark_52 ?_
        refine lv_topi (fun v52 e52 => ?_)
        have i52 : v52.toInt = v50.toInt + s0.toInt := by rw [e52]; exact fb_addI (by omega) (by omega)
        refine m_iald (w := (r 8)) hx hb hK hP 7 rfl (vp_in_iff.mpr ⟨by omega, by omega⟩) dX10_mark_53 ?_
        refine lv_topi (fun v53 e53 => ?_)
        have i53 : v53.toInt = ((r 8) v52.toNatClampNeg).toInt := congrArg Int32.toInt e53
        have cj9 := m_cl (x := j) (by omega)
        have cs9 := m_cl (x := s0) (by omega)
        have cv9 := m_cl (x := v52) (by omega)
        have f52 : v52.toNatClampNeg = (36 * j.toNatClampNeg + s0.toNatClampNeg) := by omega
        refine lv_iload_n hx hb dX10_mark_54 rfl (lv_at hl 3 rfl) ?_
        refine lv_icmp_eq (tgt := 62) hx hb dX10_mark_55 (by decide) (fun c55 => ?_) (fun c55 => ?_)
        · skip
          have d55 := c55
          rw [fa_eq] at d55
          refine lv_iconst (v := 0) hx hb dX10_mark_62 (by decide) ?_
          refine lv_istore (lv' := [(4, .int (0 : Int32)), (0, .ref mo), (1, .int j), (2, .int s0), (3, .int v0)]) hx hb dX10_mark_63 hl (by decide) rfl (fun ls hl => ?_)
          refine lv_aload_n hx hb dX10_mark_65 rfl (lv_at hl 1 rfl) ?_
          refine m_get (v := .ref (a 8)) hx hb hts hin hown hK hP 8 (by decide) rfl (hts (.fieldLink RX10 29 "ShadowBenchModel" "weight" "[I") (by decide +kernel)) rfl dX10_mark_66 ?_
          refine lv_bipush (v := 36) hx hb dX10_mark_69 (by decide) ?_
          refine lv_iload_n hx hb dX10_mark_71 rfl (lv_at hl 2 rfl) ?_
          refine lv_imul hx hb dX10_mark_72 ?_
          refine lv_topi (fun v72 e72 => ?_)
          have i72 : v72.toInt = 36 * j.toInt := by rw [e72]; exact mulcL rfl (by omega) (by omega)
          refine lv_iload_n hx hb dX10_mark_73 rfl (lv_at hl 3 rfl) ?_
          refine lv_iadd hx hb dX10_mark_74 ?_
          refine lv_topi (fun v74 e74 => ?_)
          have i74 : v74.toInt = v72.toInt + s0.toInt := by rw [e74]; exact fb_addI (by omega) (by omega)
          refine lv_iload_n hx hb dX10_mark_75 rfl (lv_at hl 4 rfl) ?_
          have cv8 := m_cl (x := v74) (by omega)
          have f74 : v74.toNatClampNeg = (36 * j.toNatClampNeg + s0.toNatClampNeg) := by omega
          refine m_iast (w := (r 8)) hx hb hK hP hD hS 7 rfl (vp_in_iff.mpr ⟨by omega, by omega⟩) (va_up r 8 ((upd (r 8) v74.toNatClampNeg v0))) rfl dX10_mark_76 (fun H locs hP hS => ?_)
          refine lv_iload hx hb dX10_mark_77 (lv_at hl 0 rfl) ?_
          refine lv_if_eq (tgt := 86) hx hb dX10_mark_79 (by decide) (fun c79 => ?_) (fun c79 => ?_)
          · skip
            have d79 := c79
            rw [fa_eq] at d79
            refine lv_iconst (v := 0) hx hb dX10_mark_86 (by decide) ?_
            exact W.iret (v := (0 : Int32)) hx hb hr (fun t ht hW => ⟨⟨_, ((upd f 0 (0 : Int32)), g, (va_up r 8 (((upd (r 8) v74.toNatClampNeg v0)))), q), rfl, ⟨((upd (r 8) v74.toNatClampNeg v0)), rfl, (Or.inl ⟨⟨b11.1, (by rw [sq_eq hI b11.1.1 b11.1.2]; exact b11.2), (by omega)⟩, Or.inl ⟨(e35.symm.trans c37), (by rw [← f52, ← e53]; first | (rw [if_pos c55]; done) | (rw [if_neg c55]; done)), (by rw [f74])⟩⟩)⟩, by unfold mB; rw [ht]; exact hP⟩, hS.F ht⟩) hS.2.2 dX10_mark_87
          · first | exact absurd c79 (by decide) | exact absurd (by decide) c79
        · skip
          have d55 := c55
          rw [fa_eq] at d55
          refine lv_iconst (v := 1) hx hb dX10_mark_58 (by decide) ?_
          refine lv_goto (tgt := 63) hx hb dX10_mark_59 (by decide) ?_
          refine lv_istore (lv' := [(4, .int (1 : Int32)), (0, .ref mo), (1, .int j), (2, .int s0), (3, .int v0)]) hx hb dX10_mark_63 hl (by decide) rfl (fun ls hl => ?_)
          refine lv_aload_n hx hb dX10_mark_65 rfl (lv_at hl 1 rfl) ?_
          refine m_get (v := .ref (a 8)) hx hb hts hin hown hK hP 8 (by decide) rfl (hts (.fieldLink RX10 29 "ShadowBenchModel" "weight" "[I") (by decide +kernel)) rfl dX10_mark_66 ?_
          refine lv_bipush (v := 36) hx hb dX10_mark_69 (by decide) ?_
          refine lv_iload_n hx hb dX10_mark_71 rfl (lv_at hl 2 rfl) ?_
          refine lv_imul hx hb dX10_mark_72 ?_
          refine lv_topi (fun v72 e72 => ?_)
          have i72 : v72.toInt = 36 * j.toInt := by rw [e72]; exact mulcL rfl (by omega) (by omega)
          refine lv_iload_n hx hb dX10_mark_73 rfl (lv_at hl 3 rfl) ?_
          refine lv_iadd hx hb dX10_mark_74 ?_
          refine lv_topi (fun v74 e74 => ?_)
          have i74 : v74.toInt = v72.toInt + s0.toInt := by rw [e74]; exact fb_addI (by omega) (by omega)
          refine lv_iload_n hx hb dX10_mark_75 rfl (lv_at hl 4 rfl) ?_
          have cv8 := m_cl (x := v74) (by omega)
          have f74 : v74.toNatClampNeg = (36 * j.toNatClampNeg + s0.toNatClampNeg) := by omega
          refine m_iast (w := (r 8)) hx hb hK hP hD hS 7 rfl (vp_in_iff.mpr ⟨by omega, by omega⟩) (va_up r 8 ((upd (r 8) v74.toNatClampNeg v0))) rfl dX10_mark_76 (fun H locs hP hS => ?_)
          refine lv_iload hx hb dX10_mark_77 (lv_at hl 0 rfl) ?_
          refine lv_if_eq (tgt := 86) hx hb dX10_mark_79 (by decide) (fun c79 => ?_) (fun c79 => ?_)
          · first | exact absurd c79 (by decide) | exact absurd (by decide) c79
          · skip
            have d79 := c79
            rw [fa_eq] at d79
            refine lv_iconst (v := 1) hx hb dX10_mark_82 (by decide) ?_
            refine lv_goto (tgt := 87) hx hb dX10_mark_83 (by decide) ?_
            exact W.iret (v := (1 : Int32)) hx hb hr (fun t ht hW => ⟨⟨_, ((upd f 0 (0 : Int32)), g, (va_up r 8 (((upd (r 8) v74.toNatClampNeg v0)))), q), rfl, ⟨((upd (r 8) v74.toNatClampNeg v0)), rfl, (Or.inl ⟨⟨b11.1, (by rw [sq_eq hI b11.1.1 b11.1.2]; exact b11.2), (by omega)⟩, Or.inl ⟨(e35.symm.trans c37), (by rw [← f52, ← e53]; first | (rw [if_pos c55]; done) | (rw [if_neg c55]; done)), (by rw [f74])⟩⟩)⟩, by unfold mB; rw [ht]; exact hP⟩, hS.F ht⟩) hS.2.2 dX10_mark_87
      · skip
        have d37 := c37
        rw [fa_eq] at d37
        refine lv_bipush (v := (-4)) hx hb dX10_mark_40 (by decide) ?_
        exact W.iret (v := ((-4) : Int32)) hx hb hr (fun t ht hW => ⟨⟨_, ((upd f 0 (0 : Int32)), g, (va_up r 8 (r 8)), q), rfl, ⟨(r 8), rfl, (Or.inl ⟨⟨b11.1, (by rw [sq_eq hI b11.1.1 b11.1.2]; exact b11.2), (by omega)⟩, Or.inr ⟨(fun z9 => c37 (e35.trans z9)), rfl, rfl⟩⟩)⟩, by unfold mB; rw [ht]; exact hP⟩, hS.F ht⟩) hS.2.2 dX10_mark_42
    · skip
      have b25 := bo_f q22 c25
      refine lv_iconst (v := (-1)) hx hb dX10_mark_28 (by decide) ?_
      exact W.iret (v := ((-1) : Int32)) hx hb hr (fun t ht hW => ⟨⟨_, ((upd f 0 (0 : Int32)), g, (va_up r 8 (r 8)), q), rfl, ⟨(r 8), rfl, (Or.inr ⟨(fun z9 => by have z8 := z9.1; unfold okJob at z8; have z7 := z9.2.1; have z6 := z9.2.2; rw [sq_eq hI z8.1 z8.2] at z7; first | exact b11 ⟨z8, z7⟩ | exact b25 z6 | omega | (have y25 := b25; simp only [k64, show (-99 : Int64).toInt = -99 from rfl, show (99 : Int64).toInt = 99 from rfl] at y25; omega)), rfl, rfl⟩)⟩, by unfold mB; rw [ht]; exact hP⟩, hS.F ht⟩) hS.2.2 dX10_mark_29
set_option maxHeartbeats 4000000 in
set_option maxRecDepth 100000 in
theorem c_X10_job_z (l : Launch) (D : va_G) (cy : Nat → ClassId) (mo : Nat) (a : Nat → Nat) (f : Nat → Int32) (g : Nat → Int64) (r : Nat → Nat → Int32) (q : Nat → Nat → Int64) (k0 : Int32) (w : Int32) (h : Int32) (hD : DM cy mo a) (hI : MI f r) : Mi l D cy mo a yX10_job wsX10_job ({ frames := 2, cells := 0, slots := 0, locals := 46 }) f g r q [.int k0, .int w, .int h] (fun r0 u => ∃ (kd : Nat → Int32), ∃ (wd : Nat → Int32), ∃ (hg : Nat → Int32), ∃ (tl : Nat → Int32), ∃ (hd : Nat → Int32), ∃ (jb : Int32), u = ((upd (upd f 0 (0 : Int32)) 1 jb), g, (va_up (va_up (va_up (va_up (va_up r 2 kd) 3 wd) 4 hg) 6 tl) 7 hd), q) ∧ (r0.toInt = jA k0 w h (f 1) ∧ ((okJ k0 w h (f 1) ∧ jb.toInt = (f 1).toInt + 1 ∧ wd = upd (r 3) (f 1).toNatClampNeg w ∧ hg = upd (r 4) (f 1).toNatClampNeg h ∧ kd = upd (r 2) (f 1).toNatClampNeg k0 ∧ tl = upd (upd (r 6) (4 * (f 1).toNatClampNeg) 1) (4 * (f 1).toNatClampNeg + 1) 1 ∧ hd = setB (r 7) (36 * (f 1).toNatClampNeg) (fun _ => 2) 36) ∨ (¬ okJ k0 w h (f 1) ∧ jb = f 1 ∧ wd = r 3 ∧ hg = r 4 ∧ kd = r 2 ∧ tl = r 6 ∧ hd = r 7)) ∧ MI (upd (upd f 0 (0 : Int32)) 1 jb) (va_up (va_up (va_up (va_up (va_up r 2 kd) 3 wd) 4 hg) 6 tl) 7 hd))) := by
  refine Met.ofW (cc := cX10_job) (maxL := 5) (ret := (some .int)) (by decide) rfl ?_
  intro p e s m args below meth c s₁ B hml hv
  obtain ⟨rfl, hP, hK⟩ := hv
  have hx := B.exec
  have hb := B.bytes
  have hr := B.returns
  have hts := atoms_spec (ws := wsX10_job) B.pre
  have hin : ∀ w ∈ u_ws RX10 TX10 35, w ∈ wsX10_job := by decide +kernel
  have hown : s.vm.findClass RX10 = some m.cls := findClass_of_methodNamed B.named
  have hlocks := B.notSynchronized
  have hS : va_S (AM mo a) s.heap s.heap [] := va_S.rf
  have hl := lv_entry ([.ref mo, .int k0, .int w, .int h]) (n := 5) (Nat.le_of_ble_eq_true rfl)
  rw [lg_entry_eq]
  generalize (lg_sl ([.ref mo, .int k0, .int w, .int h]) ++ List.replicate (5 - (lg_sl ([.ref mo, .int k0, .int w, .int h])).length) Slot.unset).toArray = ls at hl ⊢
  have hl : lv_has ls 5 [(0, .ref mo), (1, .int k0), (2, .int w), (3, .int h)] := hl
  have k_m2 : (-2 : Int32).toInt = -2 := by decide
  have k_m1 : (-1 : Int32).toInt = -1 := by decide
  have k_0 : (0 : Int32).toInt = 0 := by decide
  have k_1 : (1 : Int32).toInt = 1 := by decide
  have k_2 : (2 : Int32).toInt = 2 := by decide
  have k_4 : (4 : Int32).toInt = 4 := by decide
  have k_8 : (8 : Int32).toInt = 8 := by decide
  have k_36 : (36 : Int32).toInt = 36 := by decide
  have k_0L : (0 : Int64).toInt = 0 := by decide
  have k_3L : (3 : Int64).toInt = 3 := by decide
  have hI1 := hI.1
  refine lv_aload_n hx hb dX10_job_0 rfl (lv_at hl 0 rfl) ?_
  refine lv_iconst (v := 0) hx hb dX10_job_1 (by decide) ?_
  refine m_put (v := .int (0 : Int32)) (ty := .int) hx hb hts hin hown hK hP hD hS 0 (by decide) rfl (hts (.fieldLink RX10 79 "ShadowBenchModel" "thrown" "I") (by decide +kernel)) rfl (by decide +kernel) rfl rfl (upd f 0 (0 : Int32)) g rfl dX10_job_2 (fun H locs hP hS => ?_)
  refine lv_iload_n hx hb dX10_job_5 rfl (lv_at hl 1 rfl) ?_
  refine lv_i2l (v := k0.toInt64) hx hb dX10_job_6 rfl ?_
  refine lv_lconst (v := 0) hx hb dX10_job_7 (by decide) ?_
  refine lv_ldc2 hx hb hown (hts (.constantLong RX10 116 (3)) (by decide +kernel)) dX10_job_8 ?_
  refine m_pu (As := [.long (k0.toInt64), .long (0 : Int64), .long (3 : Int64)]) (rest := []) ⟨hx, hb, hml, hown, hts⟩ (c_X10_isIn l k0.toInt64 (0 : Int64) (3 : Int64) ) (va_cwS 3 hts gX10_job_X10_isIn rfl rfl rfl (by decide +kernel) ⟨Nat.le_of_ble_eq_true rfl, Nat.le_of_ble_eq_true rfl⟩) hP rfl hl.1 rfl (Nat.le_of_ble_eq_true rfl) dX10_job_11 ⟨Nat.le_of_ble_eq_true rfl, Nat.le_of_ble_eq_true rfl⟩ hS (fun r11 H locs q11 hP hS => ?_)
  have q11 := q11
  simp only [k64, show (0 : Int64).toInt = 0 from rfl, show (1 : Int64).toInt = 1 from rfl, show (2 : Int64).toInt = 2 from rfl, show (3 : Int64).toInt = 3 from rfl, show (6 : Int64).toInt = 6 from rfl] at q11
  refine lv_if_eq (tgt := 25) hx hb dX10_job_14 (by decide) (fun c14 => ?_) (fun c14 => ?_)
  · skip
    have b14 := bo_f q11 c14
    refine lv_iconst (v := (-1)) hx hb dX10_job_25 (by decide) ?_
    have hP := wm_eq (ec_f_0__0_1 f (0 : Int32)) rfl (ec_r___2_3_4_6_7 r ) rfl hP
    exact W.iret (v := ((-1) : Int32)) hx hb hr (fun t ht hW => ⟨⟨_, ((upd (upd f 0 (0 : Int32)) 1 (f 1)), g, (va_up (va_up (va_up (va_up (va_up r 2 (r 2)) 3 (r 3)) 4 (r 4)) 6 (r 6)) 7 (r 7)), q), rfl, ⟨(r 2), (r 3), (r 4), (r 6), (r 7), (f 1), rfl, ⟨(by unfold jA; rw [if_neg (by omega)]; rfl), (Or.inr ⟨(by unfold okJ; omega), rfl, rfl, rfl, rfl, rfl, rfl⟩), (by first | exact hI | exact mi_job hI (k := k0) (w := w) (hh := h) (jb := (f 1)) (by omega) (by omega) (by omega) (by omega) (by omega) rfl rfl rfl rfl rfl rfl rfl rfl)⟩⟩, by unfold mB; rw [ht]; exact hP⟩, hS.F ht⟩) hS.2.2 dX10_job_26
  · skip
    have b14 := bo_t q11 c14
    refine lv_iload_n hx hb dX10_job_17 rfl (lv_at hl 2 rfl) ?_
    refine lv_iload_n hx hb dX10_job_18 rfl (lv_at hl 3 rfl) ?_
    refine m_pu (As := [.int w, .int h]) (rest := []) ⟨hx, hb, hml, hown, hts⟩ (c_X10_isBoard l w h ) (va_cwS 2 hts gX10_job_X10_isBoard rfl rfl rfl (by decide +kernel) ⟨Nat.le_of_ble_eq_true rfl, Nat.le_of_ble_eq_true rfl⟩) hP rfl hl.1 rfl (Nat.le_of_ble_eq_true rfl) dX10_job_19 ⟨Nat.le_of_ble_eq_true rfl, Nat.le_of_ble_eq_true rfl⟩ hS (fun r19 H locs q19 hP hS => ?_)
    refine lv_if_ne (tgt := 27) hx hb dX10_job_22 (by decide) (fun c22 => ?_) (fun c22 => ?_)
    · skip
      have b22 := bo_t q19 c22
      refine lv_aload_n hx hb dX10_job_27 rfl (lv_at hl 0 rfl) ?_
      refine m_get (v := .int (f 1)) hx hb hts hin hown hK hP 1 (by decide) rfl (hts (.fieldLink RX10 93 "ShadowBenchModel" "jobs" "I") (by decide +kernel)) rfl dX10_job_28 ?_
      refine lv_bipush (v := 8) hx hb dX10_job_31 (by decide) ?_
      refine lv_icmp_ne (tgt := 39) hx hb dX10_job_33 (by decide) (fun c33 => ?_) (fun c33 => ?_)
      · skip
        have d33 := c33
        rw [fa_eq] at d33
        refine lv_aload_n hx hb dX10_job_39 rfl (lv_at hl 0 rfl) ?_
        refine m_get (v := .ref (a 2)) hx hb hts hin hown hK hP 2 (by decide) rfl (hts (.fieldLink RX10 7 "ShadowBenchModel" "kind" "[I") (by decide +kernel)) rfl dX10_job_40 ?_
        refine lv_aload_n hx hb dX10_job_43 rfl (lv_at hl 0 rfl) ?_
        refine m_get (v := .int (f 1)) hx hb hts hin hown hK hP 1 (by decide) rfl (hts (.fieldLink RX10 93 "ShadowBenchModel" "jobs" "I") (by decide +kernel)) rfl dX10_job_44 ?_
        refine lv_iload_n hx hb dX10_job_47 rfl (lv_at hl 1 rfl) ?_
        refine m_iast (w := (r 2)) hx hb hK hP hD hS 1 rfl (vp_in_iff.mpr ⟨by omega, by omega⟩) (va_up r 2 (upd (r 2) (f 1).toNatClampNeg k0)) (ms_2 cy mo a _ _ _ _ _) dX10_job_48 (fun H locs hP hS => ?_)
        refine lv_aload_n hx hb dX10_job_49 rfl (lv_at hl 0 rfl) ?_
        refine m_get (v := .ref (a 3)) hx hb hts hin hown hK hP 3 (by decide) rfl (hts (.fieldLink RX10 13 "ShadowBenchModel" "wide" "[I") (by decide +kernel)) rfl dX10_job_50 ?_
        refine lv_aload_n hx hb dX10_job_53 rfl (lv_at hl 0 rfl) ?_
        refine m_get (v := .int (f 1)) hx hb hts hin hown hK hP 1 (by decide) rfl (hts (.fieldLink RX10 93 "ShadowBenchModel" "jobs" "I") (by decide +kernel)) rfl dX10_job_54 ?_
        refine lv_iload_n hx hb dX10_job_57 rfl (lv_at hl 2 rfl) ?_
        refine m_iast (w := (r 3)) hx hb hK hP hD hS 2 rfl (vp_in_iff.mpr ⟨by omega, by omega⟩) (va_up (va_up r 2 ((upd (r 2) (f 1).toNatClampNeg k0))) 3 (upd (r 3) (f 1).toNatClampNeg w)) (ms_3 cy mo a _ _ _ _ _) dX10_job_58 (fun H locs hP hS => ?_)
        refine lv_aload_n hx hb dX10_job_59 rfl (lv_at hl 0 rfl) ?_
        refine m_get (v := .ref (a 4)) hx hb hts hin hown hK hP 4 (by decide) rfl (hts (.fieldLink RX10 16 "ShadowBenchModel" "high" "[I") (by decide +kernel)) rfl dX10_job_60 ?_
        refine lv_aload_n hx hb dX10_job_63 rfl (lv_at hl 0 rfl) ?_
        refine m_get (v := .int (f 1)) hx hb hts hin hown hK hP 1 (by decide) rfl (hts (.fieldLink RX10 93 "ShadowBenchModel" "jobs" "I") (by decide +kernel)) rfl dX10_job_64 ?_
        refine lv_iload_n hx hb dX10_job_67 rfl (lv_at hl 3 rfl) ?_
        refine m_iast (w := (r 4)) hx hb hK hP hD hS 3 rfl (vp_in_iff.mpr ⟨by omega, by omega⟩) (va_up (va_up (va_up r 2 ((upd (r 2) (f 1).toNatClampNeg k0))) 3 ((upd (r 3) (f 1).toNatClampNeg w))) 4 (upd (r 4) (f 1).toNatClampNeg h)) (ms_4 cy mo a _ _ _ _ _) dX10_job_68 (fun H locs hP hS => ?_)
        refine lv_aload_n hx hb dX10_job_69 rfl (lv_at hl 0 rfl) ?_
        refine m_get (v := .ref (a 6)) hx hb hts hin hown hK hP 6 (by decide) rfl (hts (.fieldLink RX10 22 "ShadowBenchModel" "isTold" "[Z") (by decide +kernel)) rfl dX10_job_70 ?_
        refine lv_iconst (v := 4) hx hb dX10_job_73 (by decide) ?_
        refine lv_aload_n hx hb dX10_job_74 rfl (lv_at hl 0 rfl) ?_
        refine m_get (v := .int (f 1)) hx hb hts hin hown hK hP 1 (by decide) rfl (hts (.fieldLink RX10 93 "ShadowBenchModel" "jobs" "I") (by decide +kernel)) rfl dX10_job_75 ?_
        refine lv_imul hx hb dX10_job_78 ?_
        refine lv_topi (fun v78 e78 => ?_)
        have i78 : v78.toInt = 4 * (f 1).toInt := by rw [e78]; exact mulcL rfl (by omega) (by omega)
        have cf9 := m_cl (x := f 1) (by omega)
        have cv9 := m_cl (x := v78) (by omega)
        have f78 : v78.toNatClampNeg = 4 * (f 1).toNatClampNeg := by omega
        refine lv_iconst (v := 1) hx hb dX10_job_79 (by decide) ?_
        refine m_zast (w := (r 6)) hx hb hK hP hD hS 5 rfl (vp_in_iff.mpr ⟨by omega, by omega⟩) (va_up (va_up (va_up (va_up r 2 ((upd (r 2) (f 1).toNatClampNeg k0))) 3 ((upd (r 3) (f 1).toNatClampNeg w))) 4 ((upd (r 4) (f 1).toNatClampNeg h))) 6 (upd (r 6) v78.toNatClampNeg ((1 : Int32) &&& 1))) (ms_6 cy mo a _ _ _ _ _) dX10_job_80 (fun H locs hP hS => ?_)
        refine lv_aload_n hx hb dX10_job_81 rfl (lv_at hl 0 rfl) ?_
        refine m_get (v := .ref (a 6)) hx hb hts hin hown hK hP 6 (by decide) rfl (hts (.fieldLink RX10 22 "ShadowBenchModel" "isTold" "[Z") (by decide +kernel)) rfl dX10_job_82 ?_
        refine lv_iconst (v := 4) hx hb dX10_job_85 (by decide) ?_
        refine lv_aload_n hx hb dX10_job_86 rfl (lv_at hl 0 rfl) ?_
        refine m_get (v := .int (f 1)) hx hb hts hin hown hK hP 1 (by decide) rfl (hts (.fieldLink RX10 93 "ShadowBenchModel" "jobs" "I") (by decide +kernel)) rfl dX10_job_87 ?_
        refine lv_imul hx hb dX10_job_90 ?_
        refine lv_topi (fun v90 e90 => ?_)
        have i90 : v90.toInt = 4 * (f 1).toInt := by rw [e90]; exact mulcL rfl (by omega) (by omega)
        refine lv_iconst (v := 1) hx hb dX10_job_91 (by decide) ?_
        refine lv_iadd hx hb dX10_job_92 ?_
        refine lv_topi (fun v92 e92 => ?_)
        have i92 : v92.toInt = v90.toInt + (1 : Int32).toInt := by rw [e92]; exact fb_addI (by omega) (by omega)
        have cv8 := m_cl (x := v92) (by omega)
        have f92 : v92.toNatClampNeg = 4 * (f 1).toNatClampNeg + 1 := by omega
        refine lv_iconst (v := 1) hx hb dX10_job_93 (by decide) ?_
        refine m_zast (w := ((upd (r 6) v78.toNatClampNeg ((1 : Int32) &&& 1)))) hx hb hK hP hD hS 5 rfl (vp_in_iff.mpr ⟨by omega, by omega⟩) (va_up (va_up (va_up (va_up (va_up r 2 ((upd (r 2) (f 1).toNatClampNeg k0))) 3 ((upd (r 3) (f 1).toNatClampNeg w))) 4 ((upd (r 4) (f 1).toNatClampNeg h))) 6 ((upd (r 6) v78.toNatClampNeg ((1 : Int32) &&& 1)))) 6 (upd ((upd (r 6) v78.toNatClampNeg ((1 : Int32) &&& 1))) v92.toNatClampNeg ((1 : Int32) &&& 1))) (ms_6 cy mo a _ _ _ _ _) dX10_job_94 (fun H locs hP hS => ?_)
        have hP := wm_eq rfl rfl (es_r_2_3_4_6__6 r ((upd (r 2) (f 1).toNatClampNeg k0)) ((upd (r 3) (f 1).toNatClampNeg w)) ((upd (r 4) (f 1).toNatClampNeg h)) ((upd (r 6) v78.toNatClampNeg ((1 : Int32) &&& 1))) (upd ((upd (r 6) v78.toNatClampNeg ((1 : Int32) &&& 1))) v92.toNatClampNeg ((1 : Int32) &&& 1))) rfl hP
        refine lv_bipush (v := 36) hx hb dX10_job_95 (by decide) ?_
        refine lv_aload_n hx hb dX10_job_97 rfl (lv_at hl 0 rfl) ?_
        refine m_get (v := .int (f 1)) hx hb hts hin hown hK hP 1 (by decide) rfl (hts (.fieldLink RX10 93 "ShadowBenchModel" "jobs" "I") (by decide +kernel)) rfl dX10_job_98 ?_
        refine lv_imul hx hb dX10_job_101 ?_
        refine lv_topi (fun v101 e101 => ?_)
        have i101 : v101.toInt = 36 * (f 1).toInt := by rw [e101]; exact mulcL rfl (by omega) (by omega)
        refine lv_istore (lv' := [(4, .int v101), (0, .ref mo), (1, .int k0), (2, .int w), (3, .int h)]) hx hb dX10_job_102 hl (by decide) rfl (fun ls hl => ?_)
        have loop_104 : ∀ (n : Nat) (x4 : Int32) (hd : Nat → Int32), (36 * (f 1).toInt ≤ x4.toInt ∧ x4.toInt ≤ 36 * (f 1).toInt + 36) → (hd = setB (r 7) (36 * (f 1).toNatClampNeg) (fun _ => 2) (x4.toNatClampNeg - 36 * (f 1).toNatClampNeg)) → (36 * (f 1).toInt + 36 - x4.toInt).toNat < n → ∀ (H : Heap) (locs : List Loc), va_P D vwCl (WM cy mo a (upd f 0 (0 : Int32)) g (va_up (va_up (va_up (va_up (va_up r 2 ((upd (r 2) (f 1).toNatClampNeg k0))) 3 ((upd (r 3) (f 1).toNatClampNeg w))) 4 ((upd (r 4) (f 1).toNatClampNeg h))) 6 ((upd ((upd (r 6) v78.toNatClampNeg ((1 : Int32) &&& 1))) v92.toNatClampNeg ((1 : Int32) &&& 1)))) 7 hd) q) H → va_S (AM mo a) s.heap H locs → ∀ (ls : Array Slot), lv_has ls 5 [(4, .int x4), (0, .ref mo), (1, .int k0), (2, .int w), (3, .int h)] → W p l e (headSpec wsX10_job ({ frames := 2, cells := 0, slots := 0, locals := 46 })).room s m #[Value.ref mo, Value.int k0, Value.int w, Value.int h] below meth c H locs 0 0 (MQ below (va_Qi (fun r0 u => ∃ (kd : Nat → Int32), ∃ (wd : Nat → Int32), ∃ (hg : Nat → Int32), ∃ (tl : Nat → Int32), ∃ (hd : Nat → Int32), ∃ (jb : Int32), u = ((upd (upd f 0 (0 : Int32)) 1 jb), g, (va_up (va_up (va_up (va_up (va_up r 2 kd) 3 wd) 4 hg) 6 tl) 7 hd), q) ∧ (r0.toInt = jA k0 w h (f 1) ∧ ((okJ k0 w h (f 1) ∧ jb.toInt = (f 1).toInt + 1 ∧ wd = upd (r 3) (f 1).toNatClampNeg w ∧ hg = upd (r 4) (f 1).toNatClampNeg h ∧ kd = upd (r 2) (f 1).toNatClampNeg k0 ∧ tl = upd (upd (r 6) (4 * (f 1).toNatClampNeg) 1) (4 * (f 1).toNatClampNeg + 1) 1 ∧ hd = setB (r 7) (36 * (f 1).toNatClampNeg) (fun _ => 2) 36) ∨ (¬ okJ k0 w h (f 1) ∧ jb = f 1 ∧ wd = r 3 ∧ hg = r 4 ∧ kd = r 2 ∧ tl = r 6 ∧ hd = r 7)) ∧ MI (upd (upd f 0 (0 : Int32)) 1 jb) (va_up (va_up (va_up (va_up (va_up r 2 kd) 3 wd) 4 hg) 6 tl) 7 hd))) (mB D cy mo a) (AM mo a)) #[Value.ref mo, Value.int k0, Value.int w, Value.int h] s 0 0 (AM mo a)) (F0 m 104 ls []) := by
          intro n
          induction n with
          | zero => intro x4 hd j104_0 j104_1 hn; exact absurd hn (Nat.not_lt_zero _)
          | succ n ih_104 =>
            intro x4 hd j104_0 j104_1 hn_104 H locs hP hS ls hl
            have cx4 := m_cl (x := x4) (by omega)
            have cv7 := m_cl (x := v101) (by omega)
            refine lv_iload hx hb dX10_job_104 (lv_at hl 0 rfl) ?_
            refine lv_bipush (v := 36) hx hb dX10_job_106 (by decide) ?_
            refine lv_aload_n hx hb dX10_job_108 rfl (lv_at hl 1 rfl) ?_
            refine m_get (v := .int (f 1)) hx hb hts hin hown hK hP 1 (by decide) rfl (hts (.fieldLink RX10 93 "ShadowBenchModel" "jobs" "I") (by decide +kernel)) rfl dX10_job_109 ?_
            refine lv_imul hx hb dX10_job_112 ?_
            refine lv_topi (fun v112 e112 => ?_)
            have i112 : v112.toInt = 36 * (f 1).toInt := by rw [e112]; exact mulcL rfl (by omega) (by omega)
            refine lv_bipush (v := 36) hx hb dX10_job_113 (by decide) ?_
            refine lv_iadd hx hb dX10_job_115 ?_
            refine lv_topi (fun v115 e115 => ?_)
            have i115 : v115.toInt = v112.toInt + (36 : Int32).toInt := by rw [e115]; exact fb_addI (by omega) (by omega)
            refine lv_icmp_ge (tgt := 133) hx hb dX10_job_116 (by decide) (fun c116 => ?_) (fun c116 => ?_)
            · skip
              have d116 := c116
              rw [fa_le] at d116
              refine lv_aload_n hx hb dX10_job_133 rfl (lv_at hl 1 rfl) ?_
              refine lv_dup hx hb dX10_job_134 rfl ?_
              refine m_get (v := .int (f 1)) hx hb hts hin hown hK hP 1 (by decide) rfl (hts (.fieldLink RX10 93 "ShadowBenchModel" "jobs" "I") (by decide +kernel)) rfl dX10_job_135 ?_
              refine lv_iconst (v := 1) hx hb dX10_job_138 (by decide) ?_
              refine lv_iadd hx hb dX10_job_139 ?_
              refine lv_topi (fun v139 e139 => ?_)
              have i139 : v139.toInt = (f 1).toInt + (1 : Int32).toInt := by rw [e139]; exact fb_addI (by omega) (by omega)
              refine m_put (v := .int v139) (ty := .int) hx hb hts hin hown hK hP hD hS 1 (by decide) rfl (hts (.fieldLink RX10 93 "ShadowBenchModel" "jobs" "I") (by decide +kernel)) rfl (by decide +kernel) rfl rfl (upd (upd f 0 (0 : Int32)) 1 v139) g rfl dX10_job_140 (fun H locs hP hS => ?_)
              refine lv_aload_n hx hb dX10_job_143 rfl (lv_at hl 1 rfl) ?_
              refine m_get (v := .int v139) hx hb hts hin hown hK hP 1 (by decide) rfl (hts (.fieldLink RX10 93 "ShadowBenchModel" "jobs" "I") (by decide +kernel)) rfl dX10_job_144 ?_
              refine lv_iconst (v := 1) hx hb dX10_job_147 (by decide) ?_
              refine lv_isub hx hb dX10_job_148 ?_
              refine lv_topi (fun v148 e148 => ?_)
              have i148 : v148.toInt = v139.toInt - (1 : Int32).toInt := by rw [e148]; exact fb_subI (by omega) (by omega)
              have hP := wm_eq rfl rfl (ec_r_2_3_4_6_7__2_3_4_6_7 r ((upd (r 2) (f 1).toNatClampNeg k0)) ((upd (r 3) (f 1).toNatClampNeg w)) ((upd (r 4) (f 1).toNatClampNeg h)) ((upd ((upd (r 6) v78.toNatClampNeg ((1 : Int32) &&& 1))) v92.toNatClampNeg ((1 : Int32) &&& 1))) hd) rfl hP
              exact W.iret (v := v148) hx hb hr (fun t ht hW => ⟨⟨_, ((upd (upd f 0 (0 : Int32)) 1 v139), g, (va_up (va_up (va_up (va_up (va_up r 2 (((upd (r 2) (f 1).toNatClampNeg k0)))) 3 (((upd (r 3) (f 1).toNatClampNeg w)))) 4 (((upd (r 4) (f 1).toNatClampNeg h)))) 6 (((upd ((upd (r 6) v78.toNatClampNeg ((1 : Int32) &&& 1))) v92.toNatClampNeg ((1 : Int32) &&& 1))))) 7 hd), q), rfl, ⟨((upd (r 2) (f 1).toNatClampNeg k0)), ((upd (r 3) (f 1).toNatClampNeg w)), ((upd (r 4) (f 1).toNatClampNeg h)), ((upd ((upd (r 6) v78.toNatClampNeg ((1 : Int32) &&& 1))) v92.toNatClampNeg ((1 : Int32) &&& 1))), hd, v139, rfl, ⟨(by unfold jA; rw [if_pos (by omega), if_pos (by omega)]; omega), (Or.inl ⟨(by unfold okJ; omega), (by omega), rfl, rfl, rfl, (by rw [f78, f92]; rfl), (by rw [j104_1, show x4.toNatClampNeg - 36 * (f 1).toNatClampNeg = 36 by omega])⟩), (by first | exact hI | exact mi_job hI (k := k0) (w := w) (hh := h) (jb := v139) (by omega) (by omega) (by omega) (by omega) (by omega) rfl rfl rfl rfl rfl rfl rfl rfl)⟩⟩, by unfold mB; rw [ht]; exact hP⟩, hS.F ht⟩) hS.2.2 dX10_job_149
            · skip
              have d116 := c116
              rw [fa_le] at d116
              refine lv_aload_n hx hb dX10_job_119 rfl (lv_at hl 1 rfl) ?_
              refine m_get (v := .ref (a 7)) hx hb hts hin hown hK hP 7 (by decide) rfl (hts (.fieldLink RX10 26 "ShadowBenchModel" "held" "[I") (by decide +kernel)) rfl dX10_job_120 ?_
              refine lv_iload hx hb dX10_job_123 (lv_at hl 0 rfl) ?_
              refine lv_iconst (v := 2) hx hb dX10_job_125 (by decide) ?_
              refine m_iast (w := hd) hx hb hK hP hD hS 6 rfl (vp_in_iff.mpr ⟨by omega, by omega⟩) (va_up (va_up (va_up (va_up (va_up (va_up r 2 ((upd (r 2) (f 1).toNatClampNeg k0))) 3 ((upd (r 3) (f 1).toNatClampNeg w))) 4 ((upd (r 4) (f 1).toNatClampNeg h))) 6 ((upd ((upd (r 6) v78.toNatClampNeg ((1 : Int32) &&& 1))) v92.toNatClampNeg ((1 : Int32) &&& 1)))) 7 hd) 7 (upd hd x4.toNatClampNeg (2 : Int32))) (ms_7 cy mo a _ _ _ _ _) dX10_job_126 (fun H locs hP hS => ?_)
              have hP := wm_eq rfl rfl (es_r_2_3_4_6_7__7 r ((upd (r 2) (f 1).toNatClampNeg k0)) ((upd (r 3) (f 1).toNatClampNeg w)) ((upd (r 4) (f 1).toNatClampNeg h)) ((upd ((upd (r 6) v78.toNatClampNeg ((1 : Int32) &&& 1))) v92.toNatClampNeg ((1 : Int32) &&& 1))) hd (upd hd x4.toNatClampNeg (2 : Int32))) rfl hP
              obtain ⟨v127, e127⟩ : ∃ y : Int32, y = x4 + 1 := ⟨_, rfl⟩
              have i127 : v127.toInt = x4.toInt + 1 := by rw [e127]; exact fb_addI (by omega) (by omega)
              refine lv_iinc (v := v127) (lv' := [(4, .int v127), (0, .ref mo), (1, .int k0), (2, .int w), (3, .int h)]) hx hb dX10_job_127 hl (k := 0) rfl (by rw [e127]; rfl) (by decide) rfl (fun ls hl => ?_)
              refine lv_goto (tgt := 104) hx hb dX10_job_130 (by decide) ?_
              have hP := wm_eq rfl rfl (ec_r_2_3_4_6_7__2_3_4_6_7 r ((upd (r 2) (f 1).toNatClampNeg k0)) ((upd (r 3) (f 1).toNatClampNeg w)) ((upd (r 4) (f 1).toNatClampNeg h)) ((upd ((upd (r 6) v78.toNatClampNeg ((1 : Int32) &&& 1))) v92.toNatClampNeg ((1 : Int32) &&& 1))) ((upd hd x4.toNatClampNeg (2 : Int32)))) rfl hP
              exact ih_104 v127 (((upd hd x4.toNatClampNeg (2 : Int32)))) (by omega) (by rw [j104_1, show v127.toNatClampNeg - 36 * (f 1).toNatClampNeg = (x4.toNatClampNeg - 36 * (f 1).toNatClampNeg) + 1 by have := m_cl (x := v127) (by omega); omega, ← setB_s, show 36 * (f 1).toNatClampNeg + (x4.toNatClampNeg - 36 * (f 1).toNatClampNeg) = x4.toNatClampNeg by omega]) (by omega) _ _ hP hS ls (lv_sub hl [0, 1, 2, 3, 4] rfl)
        have hP := wm_eq rfl rfl (ec_r_2_3_4_6__2_3_4_6_7 r ((upd (r 2) (f 1).toNatClampNeg k0)) ((upd (r 3) (f 1).toNatClampNeg w)) ((upd (r 4) (f 1).toNatClampNeg h)) ((upd ((upd (r 6) v78.toNatClampNeg ((1 : Int32) &&& 1))) v92.toNatClampNeg ((1 : Int32) &&& 1)))) rfl hP
        exact loop_104 (36 + 1) v101 (r 7) (by omega) (by rw [show v101.toNatClampNeg - 36 * (f 1).toNatClampNeg = 0 by have := m_cl (x := v101) (by omega); omega, setB_0]) (by omega) _ _ hP hS ls (lv_sub hl [0, 1, 2, 3, 4] rfl)
      · skip
        have d33 := c33
        rw [fa_eq] at d33
        refine lv_bipush (v := (-2)) hx hb dX10_job_36 (by decide) ?_
        have hP := wm_eq (ec_f_0__0_1 f (0 : Int32)) rfl (ec_r___2_3_4_6_7 r ) rfl hP
        exact W.iret (v := ((-2) : Int32)) hx hb hr (fun t ht hW => ⟨⟨_, ((upd (upd f 0 (0 : Int32)) 1 (f 1)), g, (va_up (va_up (va_up (va_up (va_up r 2 (r 2)) 3 (r 3)) 4 (r 4)) 6 (r 6)) 7 (r 7)), q), rfl, ⟨(r 2), (r 3), (r 4), (r 6), (r 7), (f 1), rfl, ⟨(by unfold jA; rw [if_pos (by omega), if_neg (by omega)]; rfl), (Or.inr ⟨(by unfold okJ; omega), rfl, rfl, rfl, rfl, rfl, rfl⟩), (by first | exact hI | exact mi_job hI (k := k0) (w := w) (hh := h) (jb := (f 1)) (by omega) (by omega) (by omega) (by omega) (by omega) rfl rfl rfl rfl rfl rfl rfl rfl)⟩⟩, by unfold mB; rw [ht]; exact hP⟩, hS.F ht⟩) hS.2.2 dX10_job_38
    · skip
      have b22 := bo_f q19 c22
      refine lv_iconst (v := (-1)) hx hb dX10_job_25 (by decide) ?_
      have hP := wm_eq (ec_f_0__0_1 f (0 : Int32)) rfl (ec_r___2_3_4_6_7 r ) rfl hP
      exact W.iret (v := ((-1) : Int32)) hx hb hr (fun t ht hW => ⟨⟨_, ((upd (upd f 0 (0 : Int32)) 1 (f 1)), g, (va_up (va_up (va_up (va_up (va_up r 2 (r 2)) 3 (r 3)) 4 (r 4)) 6 (r 6)) 7 (r 7)), q), rfl, ⟨(r 2), (r 3), (r 4), (r 6), (r 7), (f 1), rfl, ⟨(by unfold jA; rw [if_neg (by omega)]; rfl), (Or.inr ⟨(by unfold okJ; omega), rfl, rfl, rfl, rfl, rfl, rfl⟩), (by first | exact hI | exact mi_job hI (k := k0) (w := w) (hh := h) (jb := (f 1)) (by omega) (by omega) (by omega) (by omega) (by omega) rfl rfl rfl rfl rfl rfl rfl rfl)⟩⟩, by unfold mB; rw [ht]; exact hP⟩, hS.F ht⟩) hS.2.2 dX10_job_26

/-- what is told of a job in the class: its cells and numbers -/
abbrev JT : Type := (Nat × Nat × Nat × Nat × Nat × Nat × Nat × Nat) × (Int64 × Int64) × List Value × (Nat → Int32) × (Nat → Int32)
abbrev jX (T : JT) : Nat := T.1.1
abbrev jK (T : JT) : Nat := T.1.2.1
abbrev jB (T : JT) : Nat := T.1.2.2.1
abbrev jS (T : JT) : Nat := T.1.2.2.2.1
abbrev jL (T : JT) : Nat := T.1.2.2.2.2.1
abbrev jW (T : JT) : Nat := T.1.2.2.2.2.2.1
abbrev jH (T : JT) : Nat := T.1.2.2.2.2.2.2.1
abbrev jC (T : JT) : Nat := T.1.2.2.2.2.2.2.2
abbrev jO (T : JT) : Int64 := T.2.1.1
abbrev jNn (T : JT) : Int64 := T.2.1.2
abbrev jM (T : JT) : List Value := T.2.2.1
abbrev jF (T : JT) : Nat → Int32 := T.2.2.2.1
abbrev jG (T : JT) : Nat → Int32 := T.2.2.2.2
/-- a job's numbers are the reference's -/
def jP (j : Nat) (T : JT) (r : Nat → Nat → Int32) : Prop :=
  jK T = kcl (r 2 j) ∧ jW T = (r 3 j).toNatClampNeg ∧ jH T = (r 4 j).toNatClampNeg ∧
  (∀ y, y < 4 → (r 6 (4 * j + y) = 0 ↔ tB (jL T) y = false)) ∧
  (∀ y l, y < 4 → l < lnC (jW T) (jH T) y → jF T (y * 11 + l) = if tB (jL T) y then r 5 (44 * j + 11 * y + l) else 0) ∧
  (∀ s, s < jW T * jH T → r 7 (36 * j + s) = hH (jO T) (jNn T) s ∧ ¬ (lb (jO T) s = true ∧ lb (jNn T) s = true)) ∧ (∀ s, jW T * jH T ≤ s → lb (jO T) s = false) ∧
  (jK T = 4 → ∀ s, s < jW T * jH T → jG T s = r 8 (36 * j + s)) ∧ (∀ s, jW T * jH T ≤ s → s < 36 → r 8 (36 * j + s) = 0) ∧
  (tB (jL T) 0 = true ∧ tB (jL T) 1 = true) ∧ (∀ y l, y < 4 → l < lnC (jW T) (jH T) y → 0 ≤ (jF T (y * 11 + l)).toInt ∧ (jF T (y * 11 + l)).toInt ≤ 6)
def jobT (cy : Nat → ClassId) (G : cG) (W : va_W) (fa : Nat → Option Nat) (j : Nat) (T : JT) (r : Nat → Nat → Int32) : Prop :=
  jobS cy G W fa j (jX T) (jK T) (jB T) (jS T) (jL T) (jW T) (jH T) (jO T) (jNn T) (jM T) (jF T) ∧ (jK T = 4 → jM T = [.ref (jC T)] ∧ cIn W (jC T) (.inl (cy 0, jW T * jH T, .inl (jG T)))) ∧ jP j T r
def jDif (S T : JT) : Prop := jX S ≠ jX T ∧ jS S ≠ jS T ∧ (jK S = 4 → jC S ≠ jS T) ∧ (jK T = 4 → jC T ≠ jS S) ∧ (jK S = 4 → jK T = 4 → jC S ≠ jC T)
def jZ (j : Nat) (r : Nat → Nat → Int32) : Prop := (∀ e, e < 44 → r 5 (44 * j + e) = 0) ∧ (∀ y, y < 4 → r 6 (4 * j + y) = 0) ∧ (∀ s, s < 36 → r 8 (36 * j + s) = 0)
def RJ (cy : Nat → ClassId) (G : cG) (W : va_W) (fa : Nat → Option Nat) (jc : Int32) (J : Nat → JT) (r : Nat → Nat → Int32) : Prop :=
  (∀ j : Nat, (j : Int) < jc.toInt → jobT cy G W fa j (J j) r) ∧ (∀ i j : Nat, (i : Int) < jc.toInt → (j : Int) < jc.toInt → i ≠ j → jDif (J i) (J j)) ∧ (∀ i : Nat, (i : Int) < jc.toInt → jK (J i) = 4 → jC (J i) ≠ jS (J i)) ∧ (∀ j : Nat, jc.toInt ≤ (j : Int) → j < 8 → jZ j r)
theorem bs_mono {f g : Nat → Bool} {n : Nat} (h : ∀ i, i < n → f i = true → g i = true) : bs f n ≤ bs g n := by
  induction n with
  | zero => exact Nat.le_refl _
  | succ n ih =>
    have h1 := ih (fun i hi => h i (by omega))
    have h2 := h n (by omega)
    simp only [bs]
    cases hf : f n
    · simp only [Bool.toNat_false]; omega
    · rw [h2 hf]; simp only [Bool.toNat_true]; omega
theorem ln_6 : ∀ w, w < 7 → ∀ h, h < 7 → ∀ way, way < 4 → ∀ line, line < 11 → bs (fun s => decide (lnT h way (s % w) (s / w) = line)) (w * h) ≤ 6 := by decide +kernel
theorem shN_6 {w h : Nat} (hb : 1 ≤ w ∧ w ≤ 6 ∧ 1 ≤ h ∧ h ≤ 6) {p : Int64} {way line : Nat} (hy : way < 4) (hl : line < 11) : shN w h p way line ≤ 6 := by
  have a := ln_6 w (by omega) h (by omega) way hy line hl
  have b : shN w h p way line ≤ bs (fun s => decide (lnT h way (s % w) (s / w) = line)) (w * h) := by
    unfold shN
    exact bs_mono (fun i _ hi => (Bool.and_eq_true_iff.mp hi).1)
  omega
theorem shN_I {w h : Nat} (hb : 1 ≤ w ∧ w ≤ 6 ∧ 1 ≤ h ∧ h ≤ 6) {p : Int64} {way line : Nat} (hy : way < 4) (hl : line < 11) : 0 ≤ (nI (shN w h p way line)).toInt ∧ (nI (shN w h p way line)).toInt ≤ 6 := by
  have a := shN_6 hb (p := p) hy hl
  rw [nI_toInt (by omega)]
  omega
section RJS
variable {cy : Nat → ClassId} {A : Nat → Prop} {G G1 : cG} {W W1 : va_W} {fa : Nat → Option Nat} {jc : Int32} {J : Nat → JT} {r r1 : Nat → Nat → Int32}
/-- the cells of a job and their kinds -/
theorem jobT.kinds (hD : va_D A W) (hT : cT cy G W) {j : Nat} {T : JT} (h : jobT cy G W fa j T r) : G (jX T) = some (3, jK T, 8 * jW T + jH T) ∧ G (jS T) = some (14, 44, 0) ∧ (jK T = 4 → G (jC T) = some (14, jW T * jH T, 0)) := by
  obtain ⟨⟨-, hx, hb, -, hm, -⟩, h2, -⟩ := h
  obtain ⟨-, hs, hj⟩ := w3sh hD hT hx hb hm
  refine ⟨hx, hs, fun z => ?_⟩
  rw [z] at hj
  obtain ⟨-, c, e1, e2⟩ := cJ4 hj
  have e3 := (h2 z).1
  rw [e3] at e1
  simp only [List.cons.injEq, Value.ref.injEq, and_true] at e1
  rw [e1]
  exact e2
/-- a job stays where its cells stay -/
theorem jobT.stay {j : Nat} {T : JT} (h : jobT cy G W fa j T r) (hE : cE G G1) (hx : ∀ e, cIn W (jX T) e → cIn W1 (jX T) e) (hs : ∀ e, cIn W (jS T) e → cIn W1 (jS T) e) (hc : jK T = 4 → ∀ e, cIn W (jC T) e → cIn W1 (jC T) e) (hp : jP j T r1) : jobT cy G1 W1 fa j T r1 := by
  obtain ⟨⟨h1, h2, h3, h4, h5, h6⟩, h7, -⟩ := h
  exact ⟨⟨h1, hE _ _ h2, h3, h4, hx _ h5, hs _ h6⟩, fun z => ⟨(h7 z).1, hc z _ (h7 z).2⟩, hp⟩
theorem jP.same {j : Nat} {T : JT} (h : jP j T r) (e2 : r1 2 = r 2) (e3 : r1 3 = r 3) (e4 : r1 4 = r 4) (e5 : r1 5 = r 5) (e6 : r1 6 = r 6) (e7 : r1 7 = r 7) (e8 : r1 8 = r 8) : jP j T r1 := by
  unfold jP
  rw [e2, e3, e4, e5, e6, e7, e8]
  exact h
theorem jZ.same {j : Nat} (h : jZ j r) (e5 : r1 5 = r 5) (e6 : r1 6 = r 6) (e8 : r1 8 = r 8) : jZ j r1 := by
  unfold jZ
  rw [e5, e6, e8]
  exact h
/-- nothing of the jobs changes -/
theorem RJ.keep (h : RJ cy G W fa jc J r) (hD : va_D A W) (hT : cT cy G W) {ch : List Nat} (hX : cX none (chs ch) G W G1 W1) (h3 : chs ch 3 = false) (h14 : chs ch 14 = false) (e2 : r1 2 = r 2) (e3 : r1 3 = r 3) (e4 : r1 4 = r 4) (e5 : r1 5 = r 5) (e6 : r1 6 = r 6) (e7 : r1 7 = r 7) (e8 : r1 8 = r 8) : RJ cy G1 W1 fa jc J r1 := by
  obtain ⟨a, b, c, d⟩ := h
  refine ⟨fun j hj => ?_, b, c, fun j h1 h2 => (d j h1 h2).same e5 e6 e8⟩
  obtain ⟨k1, k2, k3⟩ := (a j hj).kinds hD hT
  exact (a j hj).stay hX.1 (fun e hi => hX.2.1 _ _ (cP.no k1 h3) hi) (fun e hi => hX.2.1 _ _ (cP.no k2 h14) hi) (fun z e hi => hX.2.1 _ _ (cP.no (k3 z) h14) hi) ((a j hj).2.2.same e2 e3 e4 e5 e6 e7 e8)
/-- one job changes, at its own cells -/
theorem RJ.up (h : RJ cy G W fa jc J r) (hD : va_D A W) (hT : cT cy G W) {i : Nat} (hi : (i : Int) < jc.toInt) {P : Nat → Prop} (hP : ∀ z, P z → z = jX (J i) ∨ z = jS (J i) ∨ (jK (J i) = 4 ∧ z = jC (J i))) (hF : cF P W W1) {T : JT} (eX : jX T = jX (J i)) (eS : jS T = jS (J i)) (eC : jC T = jC (J i)) (eK : jK T = jK (J i)) (hTi : jobT cy G W1 fa i T r1)
    (hr : ∀ j : Nat, j ≠ i → j < 8 → (∀ S : JT, (1 ≤ jW S ∧ jW S ≤ 6 ∧ 1 ≤ jH S ∧ jH S ≤ 6) → jP j S r → jP j S r1) ∧ (jZ j r → jZ j r1)) (h8 : jc.toInt ≤ 8) : RJ cy G W1 fa jc (va_up J i T) r1 := by
  obtain ⟨a, b, c, d⟩ := h
  obtain ⟨i1, i2, i3⟩ := (a i hi).kinds hD hT
  refine ⟨fun j hj => ?_, fun j k hj hk hn => ?_, fun j hj => ?_, fun j h1 h2 => (hr j (by omega) h2).2 (d j h1 h2)⟩
  · by_cases z : j = i
    · subst z
      simp only [va_up, if_true]
      exact hTi
    · simp only [va_up, z, if_false]
      obtain ⟨k1, k2, k3⟩ := (a j hj).kinds hD hT
      obtain ⟨d1, d2, d3, d4, d5⟩ := b j i hj hi z
      refine (a j hj).stay cE.rf (fun e he => hF _ _ (fun y => ?_) he) (fun e he => hF _ _ (fun y => ?_) he) (fun y4 e he => hF _ _ (fun y => ?_) he) ((hr j z (by omega)).1 _ (a j hj).1.2.2.1 (a j hj).2.2)
      · rcases hP _ y with y | y | ⟨y4, y⟩
        · exact d1 y
        · exact cne k1 i2 (show (3 : Nat) ≠ 14 by decide) y
        · exact cne k1 (i3 y4) (show (3 : Nat) ≠ 14 by decide) y
      · rcases hP _ y with y | y | ⟨y4, y⟩
        · exact cne k2 i1 (show (14 : Nat) ≠ 3 by decide) y
        · exact d2 y
        · exact d4 y4 y.symm
      · rcases hP _ y with y | y | ⟨z4, y⟩
        · exact cne (k3 y4) i1 (show (14 : Nat) ≠ 3 by decide) y
        · exact d3 y4 y
        · exact d5 y4 z4 y
  · have key : ∀ j : Nat, jX (va_up J i T j) = jX (J j) ∧ jS (va_up J i T j) = jS (J j) ∧ jC (va_up J i T j) = jC (J j) ∧ jK (va_up J i T j) = jK (J j) := fun j => by
      by_cases z : j = i
      · subst z; simp only [va_up, if_true]; exact ⟨eX, eS, eC, eK⟩
      · simp only [va_up, z, if_false]; exact ⟨trivial, trivial, trivial, trivial⟩
    unfold jDif
    rw [(key j).1, (key j).2.1, (key j).2.2.1, (key j).2.2.2, (key k).1, (key k).2.1, (key k).2.2.1, (key k).2.2.2]
    exact b j k hj hk hn
  · by_cases z : j = i
    · subst z; simp only [va_up, if_true]; rw [eK, eC, eS]; exact c j hj
    · simp only [va_up, z, if_false]; exact c j hj
/-- other jobs' numbers are seen at their own places alone -/
theorem jP.other {j : Nat} {T : JT} (hb : 1 ≤ jW T ∧ jW T ≤ 6 ∧ 1 ≤ jH T ∧ jH T ≤ 6) (h : jP j T r) (e2 : r1 2 = r 2) (e3 : r1 3 = r 3) (e4 : r1 4 = r 4) (e5 : ∀ e, e < 44 → r1 5 (44 * j + e) = r 5 (44 * j + e)) (e6 : ∀ y, y < 4 → r1 6 (4 * j + y) = r 6 (4 * j + y)) (e7 : ∀ s, s < 36 → r1 7 (36 * j + s) = r 7 (36 * j + s)) (e8 : ∀ s, s < 36 → r1 8 (36 * j + s) = r 8 (36 * j + s)) : jP j T r1 := by
  obtain ⟨a1, a2, a3, a4, a5, a6, a7, a8, a9, aA⟩ := h
  have m36 := cb_mul hb
  refine ⟨by rw [e2]; exact a1, by rw [e3]; exact a2, by rw [e4]; exact a3, fun y hy => by rw [e6 y hy]; exact a4 y hy, fun y l hy hl => ?_, fun s hs => by rw [e7 s (by omega)]; exact a6 s hs, a7, fun z s hs => by rw [e8 s (by omega)]; exact a8 z s hs, fun s h1 h2 => by rw [e8 s h2]; exact a9 s h1 h2, aA⟩
  have lc := lnC_b hb y
  rw [show 44 * j + 11 * y + l = 44 * j + (11 * y + l) by omega, e5 (11 * y + l) (by omega), ← show 44 * j + 11 * y + l = 44 * j + (11 * y + l) by omega]
  exact a5 y l hy hl
theorem jZ.other {j : Nat} (h : jZ j r) (e5 : ∀ e, e < 44 → r1 5 (44 * j + e) = r 5 (44 * j + e)) (e6 : ∀ y, y < 4 → r1 6 (4 * j + y) = r 6 (4 * j + y)) (e8 : ∀ s, s < 36 → r1 8 (36 * j + s) = r 8 (36 * j + s)) : jZ j r1 :=
  ⟨fun e he => by rw [e5 e he]; exact h.1 e he, fun y hy => by rw [e6 y hy]; exact h.2.1 y hy, fun s hs => by rw [e8 s hs]; exact h.2.2 s hs⟩
/-- the same cells, other numbers -/
def jtSet (T : JT) (t : Nat) (fs : Nat → Int32) : JT := ((jX T, jK T, jB T, jS T, t, jW T, jH T, jC T), T.2.1, jM T, fs, jG T)
def jtHold (T : JT) (o n : Int64) : JT := (T.1, (o, n), T.2.2)
def jtMark (T : JT) (fm : Nat → Int32) : JT := (T.1, T.2.1, jM T, jF T, fm)
theorem jP_tell {j y0 : Nat} {T : JT} {g fs1 : Nat → Int32} (h : jP j T r) (ht : jL T < 16) (hy0 : y0 < 4) (hf : ∀ y l, y < 4 → l < lnC (jW T) (jH T) y → fs1 (y * 11 + l) = if y = y0 then g l else jF T (y * 11 + l)) (hg : ∀ l, l < lnC (jW T) (jH T) y0 → 0 ≤ (g l).toInt ∧ (g l).toInt ≤ 6) (e2 : r1 2 = r 2) (e3 : r1 3 = r 3) (e4 : r1 4 = r 4) (e7 : r1 7 = r 7) (e8 : r1 8 = r 8) (e6 : ∀ y, y < 4 → r1 6 (4 * j + y) = if y = y0 then 1 else r 6 (4 * j + y)) (e5 : ∀ y l, y < 4 → l < lnC (jW T) (jH T) y → r1 5 (44 * j + 11 * y + l) = if y = y0 then g l else r 5 (44 * j + 11 * y + l)) : jP j (jtSet T (tU (jL T) y0) fs1) r1 := by
  obtain ⟨a1, a2, a3, a4, a5, a6, a7, a8, a9, ⟨aA, aB⟩, aC⟩ := h
  refine ⟨by rw [e2]; exact a1, by rw [e3]; exact a2, by rw [e4]; exact a3, fun y hy => ?_, fun y l hy hl => ?_, by rw [e7]; exact a6, a7, by rw [e8]; exact a8, by rw [e8]; exact a9, ⟨(by show tB (tU (jL T) y0) 0 = true; rw [(tB_1 _ ht y0 hy0 0 (by omega)).1, aA, Bool.or_true]), (by show tB (tU (jL T) y0) 1 = true; rw [(tB_1 _ ht y0 hy0 1 (by omega)).1, aB, Bool.or_true])⟩, fun y l hy hl => (by
    show 0 ≤ (fs1 (y * 11 + l)).toInt ∧ (fs1 (y * 11 + l)).toInt ≤ 6
    have hl' : l < lnC (jW T) (jH T) y := hl
    rw [hf y l hy hl']
    by_cases z : y = y0
    · rw [if_pos z]; rw [z] at hl'; exact hg l hl'
    · rw [if_neg z]; exact aC y l hy hl')⟩
  · show _ ↔ tB (tU (jL T) y0) y = false
    rw [e6 y hy, (tB_1 _ ht y0 hy0 y hy).1]
    by_cases z : y = y0
    · rw [if_pos z, decide_eq_true z, Bool.true_or]; exact ⟨fun c => absurd c (by decide), fun c => by cases c⟩
    · rw [if_neg z, decide_eq_false z, Bool.false_or]; exact a4 y hy
  · show fs1 (y * 11 + l) = if tB (tU (jL T) y0) y then _ else _
    have hl' : l < lnC (jW T) (jH T) y := hl
    rw [hf y l hy hl', e5 y l hy hl', (tB_1 _ ht y0 hy0 y hy).1]
    by_cases z : y = y0
    · rw [if_pos z, if_pos z, decide_eq_true z, Bool.true_or, if_pos rfl]
    · rw [if_neg z, if_neg z, decide_eq_false z, Bool.false_or]; exact a5 y l hy hl'
theorem jP_untell {j y0 : Nat} {T : JT} {fs1 : Nat → Int32} (h : jP j T r) (ht : jL T < 16) (hy0 : y0 < 4) (hy2 : 2 ≤ y0) (hf : ∀ y l, y < 4 → l < lnC (jW T) (jH T) y → fs1 (y * 11 + l) = if y = y0 then 0 else jF T (y * 11 + l)) (e2 : r1 2 = r 2) (e3 : r1 3 = r 3) (e4 : r1 4 = r 4) (e5 : r1 5 = r 5) (e7 : r1 7 = r 7) (e8 : r1 8 = r 8) (e6 : ∀ y, y < 4 → r1 6 (4 * j + y) = if y = y0 then 0 else r 6 (4 * j + y)) : jP j (jtSet T (tD (jL T) y0) fs1) r1 := by
  obtain ⟨a1, a2, a3, a4, a5, a6, a7, a8, a9, ⟨aA, aB⟩, aC⟩ := h
  refine ⟨by rw [e2]; exact a1, by rw [e3]; exact a2, by rw [e4]; exact a3, fun y hy => ?_, fun y l hy hl => ?_, by rw [e7]; exact a6, a7, by rw [e8]; exact a8, by rw [e8]; exact a9, ⟨(by show tB (tD (jL T) y0) 0 = true; rw [(tB_1 _ ht y0 hy0 0 (by omega)).2, aA, decide_eq_false (by omega)]; rfl), (by show tB (tD (jL T) y0) 1 = true; rw [(tB_1 _ ht y0 hy0 1 (by omega)).2, aB, decide_eq_false (by omega)]; rfl)⟩, fun y l hy hl => (by
    show 0 ≤ (fs1 (y * 11 + l)).toInt ∧ (fs1 (y * 11 + l)).toInt ≤ 6
    have hl' : l < lnC (jW T) (jH T) y := hl
    rw [hf y l hy hl']
    by_cases z : y = y0
    · rw [if_pos z]; decide
    · rw [if_neg z]; exact aC y l hy hl')⟩
  · show _ ↔ tB (tD (jL T) y0) y = false
    rw [e6 y hy, (tB_1 _ ht y0 hy0 y hy).2]
    by_cases z : y = y0
    · rw [if_pos z, decide_eq_true z, Bool.not_true, Bool.false_and]; exact ⟨fun _ => rfl, fun _ => rfl⟩
    · rw [if_neg z, decide_eq_false z, Bool.not_false, Bool.true_and]; exact a4 y hy
  · show fs1 (y * 11 + l) = if tB (tD (jL T) y0) y then _ else _
    have hl' : l < lnC (jW T) (jH T) y := hl
    rw [hf y l hy hl', e5, (tB_1 _ ht y0 hy0 y hy).2]
    by_cases z : y = y0
    · rw [if_pos z, decide_eq_true z, Bool.not_true, Bool.false_and]; rfl
    · rw [if_neg z, decide_eq_false z, Bool.not_false, Bool.true_and]; exact a5 y l hy hl'
theorem jP_hold {j s0 : Nat} {T : JT} {x1 y1 : Int64} {how : Int32} (h : jP j T r) (h36 : jW T * jH T ≤ 36) (hs : s0 < jW T * jH T) (hw : 0 ≤ how.toInt ∧ how.toInt ≤ 2) (hx : hO (jO T) s0 (decide (how.toInt = 1)) x1) (hy : hO (jNn T) s0 (decide (how.toInt = 0)) y1) (e2 : r1 2 = r 2) (e3 : r1 3 = r 3) (e4 : r1 4 = r 4) (e5 : r1 5 = r 5) (e6 : r1 6 = r 6) (e8 : r1 8 = r 8) (e7 : r1 7 = upd (r 7) (36 * j + s0) how) : jP j (jtHold T x1 y1) r1 := by
  obtain ⟨a1, a2, a3, a4, a5, a6, a7, a8, a9, aA⟩ := h
  refine ⟨by rw [e2]; exact a1, by rw [e3]; exact a2, by rw [e4]; exact a3, by rw [e6]; exact a4, by rw [e5]; exact a5, fun s h1 => ?_, fun s h1 => ?_, by rw [e8]; exact a8, by rw [e8]; exact a9, aA⟩
  · have h1' : s < jW T * jH T := h1
    show r1 7 (36 * j + s) = hH x1 y1 s ∧ ¬ (lb x1 s = true ∧ lb y1 s = true)
    have ex := hx s (by omega)
    have ey := hy s (by omega)
    rw [e7]
    unfold hH upd
    rw [ex, ey]
    by_cases z : s = s0
    · rw [if_pos z, if_pos z, if_pos (by omega)]
      have c : how.toInt = 0 ∨ how.toInt = 1 ∨ how.toInt = 2 := by omega
      rcases c with c | c | c
      · have e : how = 0 := Int32.toInt_inj.mp (by rw [c]; rfl)
        rw [e]; decide
      · have e : how = 1 := Int32.toInt_inj.mp (by rw [c]; rfl)
        rw [e]; decide
      · have e : how = 2 := Int32.toInt_inj.mp (by rw [c]; rfl)
        rw [e]; decide
    · rw [if_neg z, if_neg z, if_neg (by omega)]
      exact a6 s h1'
  · have h1' : jW T * jH T ≤ s := h1
    show lb x1 s = false
    by_cases z : s < 64
    · rw [hx s z, if_neg (by omega)]; exact a7 s h1'
    · exact lb_big (by omega)
theorem jP_mark {j s0 : Nat} {T : JT} {v : Int32} (h : jP j T r) (h36 : jW T * jH T ≤ 36) (hs : s0 < jW T * jH T) (e2 : r1 2 = r 2) (e3 : r1 3 = r 3) (e4 : r1 4 = r 4) (e5 : r1 5 = r 5) (e6 : r1 6 = r 6) (e7 : r1 7 = r 7) (e8 : r1 8 = upd (r 8) (36 * j + s0) v) : jP j (jtMark T (upd (jG T) s0 v)) r1 := by
  obtain ⟨a1, a2, a3, a4, a5, a6, a7, a8, a9, aA⟩ := h
  refine ⟨by rw [e2]; exact a1, by rw [e3]; exact a2, by rw [e4]; exact a3, by rw [e6]; exact a4, by rw [e5]; exact a5, by rw [e7]; exact a6, a7, fun z s h1 => ?_, fun s h1 h2 => ?_, aA⟩
  · show upd (jG T) s0 v s = r1 8 (36 * j + s)
    rw [e8]
    unfold upd
    by_cases y : s = s0
    · rw [if_pos y, if_pos (by omega)]
    · rw [if_neg y, if_neg (by omega)]; exact a8 z s h1
  · have h1' : jW T * jH T ≤ s := h1
    rw [e8]
    unfold upd
    rw [if_neg (by omega)]
    exact a9 s h1' h2
/-- rows of the class: what setL, upd show at a line -/
theorem setL_at {fs g : Nat → Int32} {y0 n y l : Nat} (hn : n ≤ 11) (hl : l < 11) (hn0 : y = y0 → l < n) : setL fs y0 g n (y * 11 + l) = if y = y0 then g l else fs (y * 11 + l) := by
  unfold setL
  by_cases z : y = y0
  · have := hn0 z
    rw [if_pos z, if_pos (by subst z; omega), z, Nat.add_sub_cancel_left]
  · rw [if_neg z, if_neg (by omega)]
theorem setB_at {fs g : Nat → Int32} {j y0 n y l : Nat} (hn : n ≤ 11) (hl : l < 11) (hn0 : y = y0 → l < n) : setB fs (44 * j + 11 * y0) g n (44 * j + 11 * y + l) = if y = y0 then g l else fs (44 * j + 11 * y + l) := by
  unfold setB
  by_cases z : y = y0
  · have := hn0 z
    rw [if_pos z, if_pos (by subst z; omega), z, Nat.add_sub_cancel_left]
  · rw [if_neg z, if_neg (by omega)]
/-- the reference's row behind tell -/
theorem tell_at {j y0 y l : Nat} {T : JT} (h : jP j T r) (hy0 : y0 < 4) (hl : l < 11) (hl2 : y = y0 → l < lnC (jW T) (jH T) y0) : (if r 6 (4 * j + y0) = 0 then zL (r 5) (44 * j + 11 * y0) 11 else r 5) (44 * j + 11 * y + l) = if y = y0 then (jF T (y0 * 11 + l)) else r 5 (44 * j + 11 * y + l) := by
  by_cases z : y = y0
  · rw [if_pos z, z, h.2.2.2.2.1 y0 l hy0 (hl2 z)]
    by_cases c : r 6 (4 * j + y0) = 0
    · rw [if_pos c, (h.2.2.2.1 y0 hy0).mp c]
      unfold zL
      rw [if_pos (by omega)]; rfl
    · have c2 : tB (jL T) y0 = true := by cases hb : tB (jL T) y0; exact absurd ((h.2.2.2.1 y0 hy0).mpr hb) c; rfl
      rw [if_neg c, c2]; rfl
  · rw [if_neg z]
    by_cases c : r 6 (4 * j + y0) = 0
    · rw [if_pos c]; unfold zL; rw [if_neg (by omega)]
    · rw [if_neg c]
/-- a valid job's own tuple -/
theorem RJ.at (h : RJ cy G W fa jc J r) {j : Int32} (hj : okJob jc j) : jobT cy G W fa j.toNatClampNeg (J j.toNatClampNeg) r := h.1 _ (by have := m_cl (x := j) hj.1; have := hj.2; omega)
theorem RJ.js (h : RJ cy G W fa jc J r) {j : Int32} : okJob jc j → jobS cy G W fa j.toNatClampNeg (jX (J j.toNatClampNeg)) (jK (J j.toNatClampNeg)) (jB (J j.toNatClampNeg)) (jS (J j.toNatClampNeg)) (jL (J j.toNatClampNeg)) (jW (J j.toNatClampNeg)) (jH (J j.toNatClampNeg)) (jO (J j.toNatClampNeg)) (jNn (J j.toNatClampNeg)) (jM (J j.toNatClampNeg)) (jF (J j.toNatClampNeg)) := fun hj => (h.at hj).1
theorem RJ.sm (h : RJ cy G W fa jc J r) : ∀ i : Nat, (i : Int) < jc.toInt → ∃ x, fa i = some x := fun i hi => ⟨_, (h.1 i hi).1.1⟩
theorem RJ.sz (h : RJ cy G W fa jc J r) {j : Int32} (hj : okJob jc j) : jW (J j.toNatClampNeg) = (r 3 j.toNatClampNeg).toNatClampNeg ∧ jH (J j.toNatClampNeg) = (r 4 j.toNatClampNeg).toNatClampNeg := ⟨(h.at hj).2.2.2.1, (h.at hj).2.2.2.2.1⟩
/-- other places of the rows -/
theorem ne_44 {i j e e' : Nat} (h : j ≠ i) (he : e < 44) (he' : e' < 44) : 44 * j + e ≠ 44 * i + e' := by omega
theorem ne_36 {i j e e' : Nat} (h : j ≠ i) (he : e < 36) (he' : e' < 36) : 36 * j + e ≠ 36 * i + e' := by omega
theorem ne_4 {i j e e' : Nat} (h : j ≠ i) (he : e < 4) (he' : e' < 4) : 4 * j + e ≠ 4 * i + e' := by omega
theorem oth_sm {f6 f5 : Nat → Int32} {n y0 i e x : Nat} (hi : i ≠ n) (he : e < 44) (hy : y0 < 4) : (if f6 x = 0 then zL f5 (44 * n + 11 * y0) 11 else f5) (44 * i + e) = f5 (44 * i + e) := by
  by_cases c : f6 x = 0
  · rw [if_pos c]; unfold zL; rw [if_neg (by omega)]
  · rw [if_neg c]
theorem oth_u {f : Nat → Int32} {a b : Nat} {v : Int32} (h : a ≠ b) : upd f b v a = f a := by unfold upd; rw [if_neg h]
theorem oth_B {f g : Nat → Int32} {n y0 i e m : Nat} (hi : i ≠ n) (he : e < 44) (hy : y0 < 4) (hm : m ≤ 11) : setB f (44 * n + 11 * y0) g m (44 * i + e) = f (44 * i + e) := by
  unfold setB
  rw [if_neg (by omega)]
theorem RJ.sum (h : RJ cy G W fa jc J r) (hD : va_D A W) (hT : cT cy G W) (h8 : jc.toInt ≤ 8) {j way line v : Int32} (hF : cF (fun b => b = jX (J j.toNatClampNeg) ∨ b = jS (J j.toNatClampNeg)) W W1)
    (hc : (okSum9 jc (jW (J j.toNatClampNeg)) (jH (J j.toNatClampNeg)) j way line v ∧ cIn W1 (jX (J j.toNatClampNeg)) (.inr (jK (J j.toNatClampNeg), .ref (jB (J j.toNatClampNeg)) :: .ref (jS (J j.toNatClampNeg)) :: .int (nI (tU (jL (J j.toNatClampNeg)) way.toNatClampNeg)) :: .long (jO (J j.toNatClampNeg)) :: .long (jNn (J j.toNatClampNeg)) :: jM (J j.toNatClampNeg))) ∧ cIn W1 (jS (J j.toNatClampNeg)) (.inl (cy 0, 44, .inl (upd (jF (J j.toNatClampNeg)) (way.toNatClampNeg * 11 + line.toNatClampNeg) v)))) ∨ (¬ okSum9 jc (jW (J j.toNatClampNeg)) (jH (J j.toNatClampNeg)) j way line v ∧ W1 = W))
    (hr : (okSum9 jc (r 3 j.toNatClampNeg).toNatClampNeg (r 4 j.toNatClampNeg).toNatClampNeg j way line v ∧ r1 6 = upd (r 6) (4 * j.toNatClampNeg + way.toNatClampNeg) 1 ∧ r1 5 = upd (if r 6 (4 * j.toNatClampNeg + way.toNatClampNeg) = 0 then zL (r 5) (44 * j.toNatClampNeg + 11 * way.toNatClampNeg) 11 else r 5) (44 * j.toNatClampNeg + 11 * way.toNatClampNeg + line.toNatClampNeg) v) ∨ (¬ okSum9 jc (r 3 j.toNatClampNeg).toNatClampNeg (r 4 j.toNatClampNeg).toNatClampNeg j way line v ∧ r1 6 = r 6 ∧ r1 5 = r 5))
    (e2 : r1 2 = r 2) (e3 : r1 3 = r 3) (e4 : r1 4 = r 4) (e7 : r1 7 = r 7) (e8 : r1 8 = r 8) : ∃ J', RJ cy G W1 fa jc J' r1 := by
  rcases hc with ⟨ok, c1, c2⟩ | ⟨no, c1⟩
  · have hj := ok.1
    have sz := h.sz hj
    rcases hr with ⟨-, r6, r5⟩ | ⟨no2, -⟩
    · obtain ⟨⟨f1, f2, f3, f4, f5, f6⟩, f7, f8⟩ := h.at hj
      have cj := m_cl (x := j) hj.1
      have hj2 := hj.2
      obtain ⟨⟨ow1, ow2⟩, ol1, ol2⟩ := ok.2.1
      have cw := m_cl (x := way) ow1
      have cl := m_cl (x := line) ol1
      have lc := lnC_b f3 way.toNatClampNeg
      generalize hn : j.toNatClampNeg = n at *
      generalize hy : way.toNatClampNeg = y0 at *
      generalize hl : line.toNatClampNeg = l0 at *
      refine ⟨va_up J n (jtSet (J n) (tU (jL (J n)) y0) (upd (jF (J n)) (y0 * 11 + l0) v)), h.up hD hT (i := n) (by omega) (fun z hz => hz.imp id Or.inl) hF rfl rfl rfl rfl ?_ (fun i hi hi8 => ⟨fun S hS hP => hP.other hS e2 e3 e4 (fun e he => ?_) (fun y hy => ?_) (fun s hs => by rw [e7]) (fun s hs => by rw [e8]), fun hz => hz.other (fun e he => ?_) (fun y hy => ?_) (fun s hs => by rw [e8])⟩) h8⟩
      · have lt := tU_0 _ f4 y0 (by omega)
        refine ⟨⟨f1, f2, f3, lt.2.1, c1, c2⟩, fun z => ⟨(f7 z).1, hF _ _ (fun y => ?_) (f7 z).2⟩, jP_tell (g := fun l => if l = l0 then v else jF (J n) (y0 * 11 + l)) f8 f4 (by omega) (fun y l hy hl => ?_) (fun l hl => ?_) e2 e3 e4 e7 e8 (fun y hy => ?_) (fun y l hy hl => ?_)⟩
        · obtain ⟨k1, -, k3⟩ := (h.1 n (by omega)).kinds hD hT
          rcases y with y | y
          · exact cne (k3 z) k1 (show (14 : Nat) ≠ 3 by decide) y
          · exact h.2.2.1 n (by omega) z y
        · have := lnC_b f3 y
          unfold upd
          by_cases z : y = y0
          · subst z
            rw [if_pos rfl]
            by_cases z2 : l = l0
            · rw [if_pos (by omega), if_pos z2]
            · rw [if_neg (by omega), if_neg z2]
          · rw [if_neg z, if_neg (by omega)]
        · show 0 ≤ (if l = l0 then v else jF (J n) (y0 * 11 + l)).toInt ∧ (if l = l0 then v else jF (J n) (y0 * 11 + l)).toInt ≤ 6
          by_cases z : l = l0
          · rw [if_pos z]; exact ok.2.2
          · rw [if_neg z]; exact f8.2.2.2.2.2.2.2.2.2.2 y0 l (by omega) hl
        · rw [r6]
          unfold upd
          by_cases z : y = y0
          · rw [if_pos z, if_pos (by omega)]
          · rw [if_neg z, if_neg (by omega)]
        · have := lnC_b f3 y
          rw [r5]
          have ta := tell_at (y := y) (l := l) f8 (show y0 < 4 by omega) (by omega) (fun z => by rw [← z]; exact hl)
          show upd _ _ _ _ = _
          simp only [upd]
          by_cases z : y = y0
          · subst z
            rw [if_pos rfl]
            by_cases z2 : l = l0
            · rw [if_pos (by omega), if_pos z2]
            · rw [if_neg (by omega), if_neg z2, ta, if_pos rfl]
          · rw [if_neg z, if_neg (by omega), ta, if_neg z]
      · rw [r5, oth_u (by omega)]; exact oth_sm hi he (by omega)
      · rw [r6, oth_u (by omega)]
      · rw [r5, oth_u (by omega)]; exact oth_sm hi he (by omega)
      · rw [r6, oth_u (by omega)]
    · exact absurd ⟨hj, by rw [← sz.1, ← sz.2]; exact ok.2.1, ok.2.2⟩ no2
  · subst c1
    rcases hr with ⟨ok, -⟩ | ⟨-, r6, r5⟩
    · have sz := h.sz ok.1
      exact absurd ⟨ok.1, by rw [sz.1, sz.2]; exact ok.2.1, ok.2.2⟩ no
    · exact ⟨J, h.keep hD hT (ch := []) cX.rf rfl rfl e2 e3 e4 r5 r6 e7 e8⟩
theorem RJ.cast (h : RJ cy G W fa jc J r) (hD : va_D A W) (hT : cT cy G W) (h8 : jc.toInt ≤ 8) {j way : Int32} {p0 : Int64} (hF : cF (fun b => b = jX (J j.toNatClampNeg) ∨ b = jS (J j.toNatClampNeg)) W W1)
    (hc : (okCast9 jc (jW (J j.toNatClampNeg)) (jH (J j.toNatClampNeg)) j way p0 ∧ cIn W1 (jX (J j.toNatClampNeg)) (.inr (jK (J j.toNatClampNeg), .ref (jB (J j.toNatClampNeg)) :: .ref (jS (J j.toNatClampNeg)) :: .int (nI (tU (jL (J j.toNatClampNeg)) way.toNatClampNeg)) :: .long (jO (J j.toNatClampNeg)) :: .long (jNn (J j.toNatClampNeg)) :: jM (J j.toNatClampNeg))) ∧ cIn W1 (jS (J j.toNatClampNeg)) (.inl (cy 0, 44, .inl (setL (jF (J j.toNatClampNeg)) way.toNatClampNeg (fun l => nI (shN (jW (J j.toNatClampNeg)) (jH (J j.toNatClampNeg)) p0 way.toNatClampNeg l)) (lnC (jW (J j.toNatClampNeg)) (jH (J j.toNatClampNeg)) way.toNatClampNeg))))) ∨ (¬ okCast9 jc (jW (J j.toNatClampNeg)) (jH (J j.toNatClampNeg)) j way p0 ∧ W1 = W))
    (hr : (okCast9 jc (r 3 j.toNatClampNeg).toNatClampNeg (r 4 j.toNatClampNeg).toNatClampNeg j way p0 ∧ r1 6 = upd (r 6) (4 * j.toNatClampNeg + way.toNatClampNeg) 1 ∧ r1 5 = setB (if r 6 (4 * j.toNatClampNeg + way.toNatClampNeg) = 0 then zL (r 5) (44 * j.toNatClampNeg + 11 * way.toNatClampNeg) 11 else r 5) (44 * j.toNatClampNeg + 11 * way.toNatClampNeg) (fun l => nI (shN (r 3 j.toNatClampNeg).toNatClampNeg (r 4 j.toNatClampNeg).toNatClampNeg p0 way.toNatClampNeg l)) (lnC (r 3 j.toNatClampNeg).toNatClampNeg (r 4 j.toNatClampNeg).toNatClampNeg way.toNatClampNeg)) ∨ (¬ okCast9 jc (r 3 j.toNatClampNeg).toNatClampNeg (r 4 j.toNatClampNeg).toNatClampNeg j way p0 ∧ r1 6 = r 6 ∧ r1 5 = r 5))
    (e2 : r1 2 = r 2) (e3 : r1 3 = r 3) (e4 : r1 4 = r 4) (e7 : r1 7 = r 7) (e8 : r1 8 = r 8) : ∃ J', RJ cy G W1 fa jc J' r1 := by
  rcases hc with ⟨ok, c1, c2⟩ | ⟨no, c1⟩
  · have hj := ok.1
    have sz := h.sz hj
    rcases hr with ⟨-, r6, r5⟩ | ⟨no2, -⟩
    · obtain ⟨⟨f1, f2, f3, f4, f5, f6⟩, f7, f8⟩ := h.at hj
      have cj := m_cl (x := j) hj.1
      have hj2 := hj.2
      obtain ⟨ow1, ow2⟩ := ok.2.1
      have cw := m_cl (x := way) ow1
      have lc := lnC_b f3 way.toNatClampNeg
      rw [← sz.1, ← sz.2] at r5
      generalize hn : j.toNatClampNeg = n at *
      generalize hy : way.toNatClampNeg = y0 at *
      refine ⟨va_up J n (jtSet (J n) (tU (jL (J n)) y0) (setL (jF (J n)) y0 (fun l => nI (shN (jW (J n)) (jH (J n)) p0 y0 l)) (lnC (jW (J n)) (jH (J n)) y0))), h.up hD hT (i := n) (by omega) (fun z hz => hz.imp id Or.inl) hF rfl rfl rfl rfl ⟨⟨f1, f2, f3, (tU_0 _ f4 y0 (by omega)).2.1, c1, c2⟩, fun z => ⟨(f7 z).1, hF _ _ (fun y => ?_) (f7 z).2⟩, jP_tell (g := fun l => nI (shN (jW (J n)) (jH (J n)) p0 y0 l)) f8 f4 (by omega) (fun y l hy hl => ?_) (fun l hl => shN_I f3 (by omega) (by omega)) e2 e3 e4 e7 e8 (fun y hy => ?_) (fun y l hy hl => ?_)⟩ (fun i hi hi8 => ⟨fun S hS hP => hP.other hS e2 e3 e4 (fun e he => ?_) (fun y hy => ?_) (fun s hs => by rw [e7]) (fun s hs => by rw [e8]), fun hz => hz.other (fun e he => ?_) (fun y hy => ?_) (fun s hs => by rw [e8])⟩) h8⟩
      · obtain ⟨k1, -, k3⟩ := (h.1 n (by omega)).kinds hD hT
        rcases y with y | y
        · exact cne (k3 z) k1 (show (14 : Nat) ≠ 3 by decide) y
        · exact h.2.2.1 n (by omega) z y
      · have := lnC_b f3 y
        exact setL_at (y := y) (l := l) lc (show l < 11 by omega) (fun z => by rw [← z]; exact hl)
      · rw [r6]
        unfold upd
        by_cases z : y = y0
        · rw [if_pos z, if_pos (by omega)]
        · rw [if_neg z, if_neg (by omega)]
      · have := lnC_b f3 y
        rw [r5, setB_at lc (by omega) (fun z => by rw [← z]; exact hl)]
        by_cases z : y = y0
        · rw [if_pos z, if_pos z]
        · rw [if_neg z, if_neg z, tell_at (y := y) (l := l) f8 (show y0 < 4 by omega) (by omega) (fun z2 => absurd z2 z), if_neg z]
      · rw [r5, oth_B hi he (by omega) lc]; exact oth_sm hi he (by omega)
      · rw [r6, oth_u (by omega)]
      · rw [r5, oth_B hi he (by omega) lc]; exact oth_sm hi he (by omega)
      · rw [r6, oth_u (by omega)]
    · exact absurd ⟨hj, ok.2.1, by rw [← sz.1, ← sz.2]; exact ok.2.2⟩ no2
  · subst c1
    rcases hr with ⟨ok, -⟩ | ⟨-, r6, r5⟩
    · have sz := h.sz ok.1
      exact absurd ⟨ok.1, ok.2.1, by rw [sz.1, sz.2]; exact ok.2.2⟩ no
    · exact ⟨J, h.keep hD hT (ch := []) cX.rf rfl rfl e2 e3 e4 r5 r6 e7 e8⟩
theorem RJ.untell (h : RJ cy G W fa jc J r) (hD : va_D A W) (hT : cT cy G W) (h8 : jc.toInt ≤ 8) {j way : Int32} (hF : cF (fun b => b = jX (J j.toNatClampNeg) ∨ b = jS (J j.toNatClampNeg)) W W1)
    (hc : (okUn9 jc j way ∧ cIn W1 (jX (J j.toNatClampNeg)) (.inr (jK (J j.toNatClampNeg), .ref (jB (J j.toNatClampNeg)) :: .ref (jS (J j.toNatClampNeg)) :: .int (nI (tD (jL (J j.toNatClampNeg)) way.toNatClampNeg)) :: .long (jO (J j.toNatClampNeg)) :: .long (jNn (J j.toNatClampNeg)) :: jM (J j.toNatClampNeg))) ∧ cIn W1 (jS (J j.toNatClampNeg)) (.inl (cy 0, 44, .inl (setL (jF (J j.toNatClampNeg)) way.toNatClampNeg (fun _ => 0) (lnC (jW (J j.toNatClampNeg)) (jH (J j.toNatClampNeg)) way.toNatClampNeg))))) ∨ (¬ okUn9 jc j way ∧ W1 = W))
    (hr : (okUn9 jc j way ∧ r1 6 = upd (r 6) (4 * j.toNatClampNeg + way.toNatClampNeg) 0) ∨ (¬ okUn9 jc j way ∧ r1 6 = r 6))
    (e2 : r1 2 = r 2) (e3 : r1 3 = r 3) (e4 : r1 4 = r 4) (e5 : r1 5 = r 5) (e7 : r1 7 = r 7) (e8 : r1 8 = r 8) : ∃ J', RJ cy G W1 fa jc J' r1 := by
  rcases hc with ⟨ok, c1, c2⟩ | ⟨no, c1⟩
  · have hj := ok.1
    rcases hr with ⟨-, r6⟩ | ⟨no2, -⟩
    · obtain ⟨⟨f1, f2, f3, f4, f5, f6⟩, f7, f8⟩ := h.at hj
      have cj := m_cl (x := j) hj.1
      have hj2 := hj.2
      obtain ⟨ow1, ow2⟩ := ok.2
      have cw := m_cl (x := way) (by omega)
      have lc := lnC_b f3 way.toNatClampNeg
      generalize hn : j.toNatClampNeg = n at *
      generalize hy : way.toNatClampNeg = y0 at *
      refine ⟨va_up J n (jtSet (J n) (tD (jL (J n)) y0) (setL (jF (J n)) y0 (fun _ => 0) (lnC (jW (J n)) (jH (J n)) y0))), h.up hD hT (i := n) (by omega) (fun z hz => hz.imp id Or.inl) hF rfl rfl rfl rfl ⟨⟨f1, f2, f3, (tU_0 _ f4 y0 (by omega)).2.2.1, c1, c2⟩, fun z => ⟨(f7 z).1, hF _ _ (fun y => ?_) (f7 z).2⟩, jP_untell f8 f4 (by omega) (by omega) (fun y l hy hl => ?_) e2 e3 e4 e5 e7 e8 (fun y hy => ?_)⟩ (fun i hi hi8 => ⟨fun S hS hP => hP.other hS e2 e3 e4 (fun e he => by rw [e5]) (fun y hy => ?_) (fun s hs => by rw [e7]) (fun s hs => by rw [e8]), fun hz => hz.other (fun e he => by rw [e5]) (fun y hy => ?_) (fun s hs => by rw [e8])⟩) h8⟩
      · obtain ⟨k1, -, k3⟩ := (h.1 n (by omega)).kinds hD hT
        rcases y with y | y
        · exact cne (k3 z) k1 (show (14 : Nat) ≠ 3 by decide) y
        · exact h.2.2.1 n (by omega) z y
      · have := lnC_b f3 y
        exact setL_at (y := y) (l := l) lc (show l < 11 by omega) (fun z => by rw [← z]; exact hl)
      · rw [r6]
        unfold upd
        by_cases z : y = y0
        · rw [if_pos z, if_pos (by omega)]
        · rw [if_neg z, if_neg (by omega)]
      · rw [r6, oth_u (by omega)]
      · rw [r6, oth_u (by omega)]
    · exact absurd ok no2
  · subst c1
    rcases hr with ⟨ok, -⟩ | ⟨-, r6⟩
    · exact absurd ok no
    · exact ⟨J, h.keep hD hT (ch := []) cX.rf rfl rfl e2 e3 e4 e5 r6 e7 e8⟩
theorem RJ.hold (h : RJ cy G W fa jc J r) (hD : va_D A W) (hT : cT cy G W) (h8 : jc.toInt ≤ 8) {j s0 how : Int32} (hF : cF (fun b => b = jX (J j.toNatClampNeg)) W W1)
    (hc : (okHold9 jc (jW (J j.toNatClampNeg)) (jH (J j.toNatClampNeg)) j s0 how ∧ ∃ x1 y1, cIn W1 (jX (J j.toNatClampNeg)) (.inr (jK (J j.toNatClampNeg), .ref (jB (J j.toNatClampNeg)) :: .ref (jS (J j.toNatClampNeg)) :: .int (nI (jL (J j.toNatClampNeg))) :: .long x1 :: .long y1 :: jM (J j.toNatClampNeg))) ∧ hO (jO (J j.toNatClampNeg)) s0.toNatClampNeg (decide (how.toInt = 1)) x1 ∧ hO (jNn (J j.toNatClampNeg)) s0.toNatClampNeg (decide (how.toInt = 0)) y1) ∨ (¬ okHold9 jc (jW (J j.toNatClampNeg)) (jH (J j.toNatClampNeg)) j s0 how ∧ W1 = W))
    (hr : (okHold9 jc (r 3 j.toNatClampNeg).toNatClampNeg (r 4 j.toNatClampNeg).toNatClampNeg j s0 how ∧ r1 7 = upd (r 7) (36 * j.toNatClampNeg + s0.toNatClampNeg) how) ∨ (¬ okHold9 jc (r 3 j.toNatClampNeg).toNatClampNeg (r 4 j.toNatClampNeg).toNatClampNeg j s0 how ∧ r1 7 = r 7))
    (e2 : r1 2 = r 2) (e3 : r1 3 = r 3) (e4 : r1 4 = r 4) (e5 : r1 5 = r 5) (e6 : r1 6 = r 6) (e8 : r1 8 = r 8) : ∃ J', RJ cy G W1 fa jc J' r1 := by
  rcases hc with ⟨ok, x1, y1, c1, c2, c3⟩ | ⟨no, c1⟩
  · have hj := ok.1
    have sz := h.sz hj
    rcases hr with ⟨-, r7⟩ | ⟨no2, -⟩
    · obtain ⟨⟨f1, f2, f3, f4, f5, f6⟩, f7, f8⟩ := h.at hj
      have cj := m_cl (x := j) hj.1
      have hj2 := hj.2
      obtain ⟨⟨os1, os2⟩, oh⟩ := ok.2
      have cs := m_cl (x := s0) os1
      have m36 := cb_mul f3
      generalize hn : j.toNatClampNeg = n at *
      generalize hy : s0.toNatClampNeg = q0 at *
      refine ⟨va_up J n (jtHold (J n) x1 y1), h.up hD hT (i := n) (by omega) (fun z hz => Or.inl hz) hF rfl rfl rfl rfl ⟨⟨f1, f2, f3, f4, c1, hF _ _ (fun y => ?_) f6⟩, fun z => ⟨(f7 z).1, hF _ _ (fun y => ?_) (f7 z).2⟩, jP_hold f8 m36.2 (by omega) oh c2 c3 e2 e3 e4 e5 e6 e8 r7⟩ (fun i hi hi8 => ⟨fun S hS hP => hP.other hS e2 e3 e4 (fun e he => by rw [e5]) (fun y hy => by rw [e6]) (fun s hs => ?_) (fun s hs => by rw [e8]), fun hz => hz.other (fun e he => by rw [e5]) (fun y hy => by rw [e6]) (fun s hs => by rw [e8])⟩) h8⟩
      · obtain ⟨k1, k2, -⟩ := (h.1 n (by omega)).kinds hD hT
        exact cne k2 k1 (show (14 : Nat) ≠ 3 by decide) y
      · obtain ⟨k1, -, k3⟩ := (h.1 n (by omega)).kinds hD hT
        exact cne (k3 z) k1 (show (14 : Nat) ≠ 3 by decide) y
      · rw [r7, oth_u (by omega)]
    · exact absurd ⟨hj, by rw [← sz.1, ← sz.2]; exact ok.2.1, ok.2.2⟩ no2
  · subst c1
    rcases hr with ⟨ok, -⟩ | ⟨-, r7⟩
    · have sz := h.sz ok.1
      exact absurd ⟨ok.1, by rw [sz.1, sz.2]; exact ok.2.1, ok.2.2⟩ no
    · exact ⟨J, h.keep hD hT (ch := []) cX.rf rfl rfl e2 e3 e4 e5 e6 r7 e8⟩
theorem kcl_4 {k : Int32} : kcl k = 4 ↔ k = 3 := by
  unfold kcl
  constructor
  · intro h
    by_cases a : k.toInt = 1
    · rw [if_pos a] at h; cases h
    · rw [if_neg a] at h
      by_cases b : k.toInt = 2
      · rw [if_pos b] at h; cases h
      · rw [if_neg b] at h
        by_cases c : k.toInt = 3
        · exact Int32.toInt_inj.mp (by rw [c]; rfl)
        · rw [if_neg c] at h; cases h
  · intro h; subst h; rfl
theorem RJ.mark (h : RJ cy G W fa jc J r) (hD : va_D A W) (hT : cT cy G W) (h8 : jc.toInt ≤ 8) {j s0 v : Int32} (hF : cF (fun b => b = jC (J j.toNatClampNeg)) W W1)
    (hc : (okMark9 jc (jW (J j.toNatClampNeg)) (jH (J j.toNatClampNeg)) j s0 v ∧ ((jK (J j.toNatClampNeg) = 4 ∧ cIn W1 (jC (J j.toNatClampNeg)) (.inl (cy 0, jW (J j.toNatClampNeg) * jH (J j.toNatClampNeg), .inl (upd (jG (J j.toNatClampNeg)) s0.toNatClampNeg v)))) ∨ (¬ jK (J j.toNatClampNeg) = 4 ∧ W1 = W))) ∨ (¬ okMark9 jc (jW (J j.toNatClampNeg)) (jH (J j.toNatClampNeg)) j s0 v ∧ W1 = W))
    (hr : (okMark9 jc (r 3 j.toNatClampNeg).toNatClampNeg (r 4 j.toNatClampNeg).toNatClampNeg j s0 v ∧ ((r 2 j.toNatClampNeg = 3 ∧ r1 8 = upd (r 8) (36 * j.toNatClampNeg + s0.toNatClampNeg) v) ∨ (¬ r 2 j.toNatClampNeg = 3 ∧ r1 8 = r 8))) ∨ (¬ okMark9 jc (r 3 j.toNatClampNeg).toNatClampNeg (r 4 j.toNatClampNeg).toNatClampNeg j s0 v ∧ r1 8 = r 8))
    (e2 : r1 2 = r 2) (e3 : r1 3 = r 3) (e4 : r1 4 = r 4) (e5 : r1 5 = r 5) (e6 : r1 6 = r 6) (e7 : r1 7 = r 7) : ∃ J', RJ cy G W1 fa jc J' r1 := by
  have keep : W1 = W → r1 8 = r 8 → ∃ J', RJ cy G W1 fa jc J' r1 := fun c e8 => by
    subst c
    exact ⟨J, h.keep hD hT (ch := []) cX.rf rfl rfl e2 e3 e4 e5 e6 e7 e8⟩
  rcases hc with ⟨ok, hc⟩ | ⟨no, c1⟩
  · have hj := ok.1
    have sz := h.sz hj
    have kk := (h.at hj).2.2.1
    rcases hr with ⟨-, hr⟩ | ⟨no2, -⟩
    · rcases hc with ⟨k4, c1⟩ | ⟨k4, c1⟩
      · rcases hr with ⟨-, r8⟩ | ⟨r3, -⟩
        · obtain ⟨⟨f1, f2, f3, f4, f5, f6⟩, f7, f8⟩ := h.at hj
          have cj := m_cl (x := j) hj.1
          have hj2 := hj.2
          obtain ⟨⟨os1, os2⟩, -⟩ := ok.2
          have cs := m_cl (x := s0) os1
          have m36 := cb_mul f3
          generalize hn : j.toNatClampNeg = n at *
          generalize hy : s0.toNatClampNeg = q0 at *
          obtain ⟨k1, k2, k3⟩ := (h.1 n (by omega)).kinds hD hT
          refine ⟨va_up J n (jtMark (J n) (upd (jG (J n)) q0 v)), h.up hD hT (i := n) (by omega) (fun z hz => Or.inr (Or.inr ⟨k4, hz⟩)) hF rfl rfl rfl rfl ⟨⟨f1, f2, f3, f4, hF _ _ (cne k1 (k3 k4) (show (3 : Nat) ≠ 14 by decide)) f5, hF _ _ (fun y => h.2.2.1 n (by omega) k4 y.symm) f6⟩, fun z => ⟨(f7 z).1, c1⟩, jP_mark f8 m36.2 (by omega) e2 e3 e4 e5 e6 e7 r8⟩ (fun i hi hi8 => ⟨fun S hS hP => hP.other hS e2 e3 e4 (fun e he => by rw [e5]) (fun y hy => by rw [e6]) (fun s hs => by rw [e7]) (fun s hs => by rw [r8, oth_u (by omega)]), fun hz => hz.other (fun e he => by rw [e5]) (fun y hy => by rw [e6]) (fun s hs => by rw [r8, oth_u (by omega)])⟩) h8⟩
        · exact absurd (kcl_4.mp (kk.symm.trans k4)) r3
      · rcases hr with ⟨r3, -⟩ | ⟨-, r8⟩
        · exact absurd (kk.trans (kcl_4.mpr r3)) k4
        · exact keep c1 r8
    · exact absurd ⟨hj, by rw [← sz.1, ← sz.2]; exact ok.2.1, ok.2.2⟩ no2
  · rcases hr with ⟨ok, -⟩ | ⟨-, r8⟩
    · have sz := h.sz ok.1
      exact absurd ⟨ok.1, by rw [sz.1, sz.2]; exact ok.2.1, ok.2.2⟩ no
    · exact keep c1 r8
/-- a job more -/
theorem RJ.add (h : RJ cy G W fa jc J r) (hD : va_D A W) (hT : cT cy G W) {kind wide high jc1 : Int32} (h0 : 0 ≤ jc.toInt) (ok : okJ kind wide high jc) (e1 : jc1.toInt = jc.toInt + 1) {ch : List Nat} (hX : cX none (chs ch) G W G1 W1) (h3 : chs ch 3 = false) (h14 : chs ch 14 = false) {x b a : Nat} {ms : List Value} (hx : G1 x = some (3, kcl kind, 8 * wide.toNatClampNeg + high.toNatClampNeg)) (nx : ∀ e, ¬ cIn W x e) (na : ∀ e, ¬ cIn W a e) (mx : cIn W1 x (.inr (kcl kind, .ref b :: .ref a :: .int (nI 3) :: .long 0 :: .long 0 :: ms))) (ma : cIn W1 a (.inl (cy 0, 44, .inl (fun _ => 0)))) (mk : kcl kind = 4 → ∃ c, ms = [.ref c] ∧ (∀ e, ¬ cIn W c e) ∧ c ≠ a ∧ cIn W1 c (.inl (cy 0, wide.toNatClampNeg * high.toNatClampNeg, .inl (fun _ => 0))))
    (e2 : r1 2 = upd (r 2) jc.toNatClampNeg kind) (e3 : r1 3 = upd (r 3) jc.toNatClampNeg wide) (e4 : r1 4 = upd (r 4) jc.toNatClampNeg high) (e5 : r1 5 = r 5) (e6 : r1 6 = upd (upd (r 6) (4 * jc.toNatClampNeg) 1) (4 * jc.toNatClampNeg + 1) 1) (e7 : r1 7 = setB (r 7) (36 * jc.toNatClampNeg) (fun _ => 2) 36) (e8 : r1 8 = r 8) : ∃ J', RJ cy G1 W1 (va_up fa jc.toNatClampNeg (some x)) jc1 J' r1 := by
  obtain ⟨⟨⟨ok1, ok1'⟩, ⟨ok2, ok2'⟩, ok3, ok3'⟩, ok4⟩ := ok
  have cj := m_cl (x := jc) h0
  have cw := m_cl (x := wide) (by omega)
  have chh := m_cl (x := high) (by omega)
  obtain ⟨a1, a2, a3, a4⟩ := h
  obtain ⟨c, hc⟩ : ∃ c, kcl kind = 4 → ms = [.ref c] ∧ (∀ e, ¬ cIn W c e) ∧ c ≠ a ∧ cIn W1 c (.inl (cy 0, wide.toNatClampNeg * high.toNatClampNeg, .inl (fun _ => 0))) := by
    by_cases z : kcl kind = 4
    · obtain ⟨c, hc⟩ := mk z; exact ⟨c, fun _ => hc⟩
    · exact ⟨0, fun y => absurd y z⟩
  generalize hn : jc.toNatClampNeg = n at *
  have hnew : ∀ {i : Nat}, (i : Int) < jc.toInt → jDif (J i) ((x, kcl kind, b, a, 3, wide.toNatClampNeg, high.toNatClampNeg, c), (0, 0), ms, (fun _ => 0), (fun _ => 0)) := fun {i} hi => by
    obtain ⟨⟨-, -, -, -, i5, i6⟩, i7, -⟩ := a1 i hi
    refine ⟨fun z => ?_, fun z => ?_, fun k z => ?_, fun k z => ?_, fun k k2 z => ?_⟩
    · have z' : jX (J i) = x := z
      rw [z'] at i5
      exact nx _ i5
    · have z' : jS (J i) = a := z
      rw [z'] at i6
      exact na _ i6
    · have z' : jC (J i) = a := z
      have i8 := (i7 k).2
      rw [z'] at i8
      exact na _ i8
    · have z' : c = jS (J i) := z
      rw [← z'] at i6
      exact (hc k).2.1 _ i6
    · have z' : jC (J i) = c := z
      have i8 := (i7 k).2
      rw [z'] at i8
      exact (hc k2).2.1 _ i8
  have hsym : ∀ {S T : JT}, jDif S T → jDif T S := fun {S T} d => ⟨fun z => d.1 z.symm, fun z => d.2.1 z.symm, d.2.2.2.1, d.2.2.1, fun k1 k2 z => d.2.2.2.2 k2 k1 z.symm⟩
  refine ⟨va_up J n ((x, kcl kind, b, a, 3, wide.toNatClampNeg, high.toNatClampNeg, c), (0, 0), ms, (fun _ => 0), (fun _ => 0)), fun j hj => ?_, fun i j hi hj hij => ?_, fun i hi => ?_, fun j h1 h2 => ?_⟩
  · by_cases z : j = n
    · subst z
      simp only [va_up, if_true]
      obtain ⟨z5, z6, z8⟩ := a4 j (by omega) (by omega)
      refine ⟨⟨by simp only [va_up, if_true], hx, by show 1 ≤ wide.toNatClampNeg ∧ wide.toNatClampNeg ≤ 6 ∧ 1 ≤ high.toNatClampNeg ∧ high.toNatClampNeg ≤ 6; omega, by show (3 : Nat) < 16; omega, mx, ma⟩, fun k => ⟨(hc k).1, (hc k).2.2.2⟩, ?_⟩
      refine ⟨by rw [e2]; simp only [upd, if_true], by rw [e3]; simp only [upd, if_true], by rw [e4]; simp only [upd, if_true], fun y hy => ?_, fun y l hy hl => ?_, fun s hs => ?_, fun s hs => lb_0 s, fun k s hs => ?_, fun s h1 h2 => ?_, ⟨(by show tB 3 0 = true; decide), (by show tB 3 1 = true; decide)⟩, fun y l hy hl => (by show 0 ≤ (0 : Int32).toInt ∧ (0 : Int32).toInt ≤ 6; decide)⟩
      · rw [e6]
        show _ ↔ tB 3 y = false
        have c4 : y = 0 ∨ y = 1 ∨ y = 2 ∨ y = 3 := by omega
        simp only [upd]
        rcases c4 with rfl | rfl | rfl | rfl
        · rw [if_neg (by omega), if_pos (by omega)]; decide
        · rw [if_pos (by omega)]; decide
        · rw [if_neg (by omega), if_neg (by omega), z6 2 (by omega)]; decide
        · rw [if_neg (by omega), if_neg (by omega), z6 3 (by omega)]; decide
      · have lc := lnC_b (w := wide.toNatClampNeg) (h := high.toNatClampNeg) (by omega) y
        have hl' : l < lnC wide.toNatClampNeg high.toNatClampNeg y := hl
        rw [e5, show 44 * j + 11 * y + l = 44 * j + (11 * y + l) by omega, z5 (11 * y + l) (by omega)]
        show (0 : Int32) = _
        split <;> rfl
      · have m36 := cb_mul (w := wide.toNatClampNeg) (h := high.toNatClampNeg) (by omega)
        have hs' : s < wide.toNatClampNeg * high.toNatClampNeg := hs
        rw [e7]
        refine ⟨?_, fun y => by have := y.1; rw [show lb (0 : Int64) s = false from lb_0 s] at this; cases this⟩
        unfold setB
        rw [if_pos (by omega)]
        show (2 : Int32) = hH 0 0 s
        unfold hH
        rw [lb_0]; rfl
      · have m36 := cb_mul (w := wide.toNatClampNeg) (h := high.toNatClampNeg) (by omega)
        have hs' : s < wide.toNatClampNeg * high.toNatClampNeg := hs
        rw [e8, z8 s (by omega)]
      · rw [e8, z8 s h2]
    · simp only [va_up, z, if_false]
      have hj' : (j : Int) < jc.toInt := by omega
      obtain ⟨k1, k2, k3⟩ := (a1 j hj').kinds hD hT
      have st := (a1 j hj').stay (r1 := r1) hX.1 (fun e hi => hX.2.1 _ _ (cP.no k1 h3) hi) (fun e hi => hX.2.1 _ _ (cP.no k2 h14) hi) (fun z e hi => hX.2.1 _ _ (cP.no (k3 z) h14) hi) (by
        obtain ⟨p1, p2, p3, p4, p5, p6, p7, p8, p9, pA⟩ := (a1 j hj').2.2
        have m36 := cb_mul (a1 j hj').1.2.2.1
        refine ⟨by rw [e2, oth_u z]; exact p1, by rw [e3, oth_u z]; exact p2, by rw [e4, oth_u z]; exact p3, fun y hy => by rw [e6, oth_u (by omega), oth_u (by omega)]; exact p4 y hy, by rw [e5]; exact p5, fun s hs => ?_, p7, by rw [e8]; exact p8, by rw [e8]; exact p9, pA⟩
        rw [e7]
        refine ⟨?_, (p6 s hs).2⟩
        unfold setB
        rw [if_neg (by omega)]
        exact (p6 s hs).1)
      obtain ⟨⟨q1, q2⟩, q3⟩ := st
      exact ⟨⟨by simp only [va_up, z, if_false]; exact q1, q2⟩, q3⟩
  · by_cases z : i = n
    · by_cases y : j = n
      · exact absurd (z.trans y.symm) hij
      · subst z
        simp only [va_up, y, if_false, if_true]
        exact hsym (hnew (by omega))
    · by_cases y : j = n
      · subst y
        simp only [va_up, z, if_false, if_true]
        exact hnew (by omega)
      · simp only [va_up, y, z, if_false]
        exact a2 i j (by omega) (by omega) hij
  · by_cases z : i = n
    · subst z
      simp only [va_up, if_true]
      exact fun k => (hc k).2.2.1
    · simp only [va_up, z, if_false]
      exact a3 i (by omega)
  · obtain ⟨z5, z6, z8⟩ := a4 j (by omega) h2
    exact ⟨fun e he => by rw [e5]; exact z5 e he, fun y hy => by rw [e6, oth_u (by omega), oth_u (by omega)]; exact z6 y hy, fun s hs => by rw [e8]; exact z8 s hs⟩
end RJS

/-- the class's jobs are the reference's jobs, content and all -/
def RlJ (cy : Nat → ClassId) (xo : Nat) (G : cG) (W : va_W) (f : Nat → Int32) (r : Nat → Nat → Int32) : Prop := ∃ (bs js sh wk ll : Nat) (lc : Int32) (mo lb : Option Nat) (fa : Nat → Option Nat) (J : Nat → JT), cIn W xo (.inr (8, [.ref bs, .ref js, .int (f 1), .ref sh, .ref wk, va_rf mo, .ref ll, .int lc, va_rf lb])) ∧ cIn W js (.inl (cy 4, cqa 8 fa)) ∧ RJ cy G W fa (f 1) J r
section RLJ
variable {cy : Nat → ClassId} {A : Nat → Prop} {xo z1 z2 : Nat} {G G1 : cG} {W W1 : va_W} {f f1 : Nat → Int32} {r r1 : Nat → Nat → Int32} {fa : Nat → Option Nat} {J : Nat → JT} {jc : Int32}
theorem RlJ.at (h : RlJ cy xo G W f r) (hD : va_D A W) {bs js sh wk ll : Nat} {jc lc : Int32} {mo lb : Option Nat} (hM : cIn W xo (.inr (8, [.ref bs, .ref js, .int jc, .ref sh, .ref wk, va_rf mo, .ref ll, .int lc, va_rf lb]))) : jc = f 1 ∧ ∃ fa J, cIn W js (.inl (cy 4, cqa 8 fa)) ∧ RJ cy G W fa jc J r := by
  obtain ⟨bs', js', sh', wk', ll', lc', mo', lb', fa, J, h1, h2, h3⟩ := h
  have z := cIn.eq hD hM h1
  simp only [Sum.inr.injEq, Prod.mk.injEq, List.cons.injEq, Value.int.injEq, Value.ref.injEq, and_true, true_and] at z
  obtain ⟨-, e2, e3, -⟩ := z
  subst e2
  subst e3
  exact ⟨rfl, fa, J, h2, h3⟩
theorem RlJ.shp (h : RlJ cy xo G W f r) (hD : va_D A W) (hT : cT cy G W) (hG : G xo = some (7, z1, z2)) {ch : List Nat} (hX : cX none (chs ch) G W G1 W1) (h9 : chs ch 9 = false) (h3 : chs ch 3 = false) (h14 : chs ch 14 = false) {bs js sh wk ll bs1 sh1 wk1 ll1 : Nat} {jc lc lc1 : Int32} {mo lb mo1 lb1 : Option Nat} (hM : cIn W xo (.inr (8, [.ref bs, .ref js, .int jc, .ref sh, .ref wk, va_rf mo, .ref ll, .int lc, va_rf lb]))) (hM1 : cIn W1 xo (.inr (8, [.ref bs1, .ref js, .int jc, .ref sh1, .ref wk1, va_rf mo1, .ref ll1, .int lc1, va_rf lb1]))) (ef : f1 1 = f 1) (e2 : r1 2 = r 2) (e3 : r1 3 = r 3) (e4 : r1 4 = r 4) (e5 : r1 5 = r 5) (e6 : r1 6 = r 6) (e7 : r1 7 = r 7) (e8 : r1 8 = r 8) : RlJ cy xo G1 W1 f1 r1 := by
  obtain ⟨e, fa, J, a1, a2⟩ := h.at hD hM
  obtain ⟨-, -, -, hGj, -⟩ := w7sh hD hT hG hM
  refine ⟨bs1, js, sh1, wk1, ll1, lc1, mo1, lb1, fa, J, (by rw [ef, ← e]; exact hM1), hX.2.1 _ _ (cP.no hGj h9) a1, ?_⟩
  rw [ef, ← e]
  exact a2.keep hD hT hX h3 h14 e2 e3 e4 e5 e6 e7 e8
theorem RlJ.keep (h : RlJ cy xo G W f r) (hD : va_D A W) (hT : cT cy G W) (hG : G xo = some (7, z1, z2)) {ch : List Nat} (hX : cX none (chs ch) G W G1 W1) (h7 : chs ch 7 = false) (h9 : chs ch 9 = false) (h3 : chs ch 3 = false) (h14 : chs ch 14 = false) (ef : f1 1 = f 1) (e2 : r1 2 = r 2) (e3 : r1 3 = r 3) (e4 : r1 4 = r 4) (e5 : r1 5 = r 5) (e6 : r1 6 = r 6) (e7 : r1 7 = r 7) (e8 : r1 8 = r 8) : RlJ cy xo G1 W1 f1 r1 := by
  obtain ⟨bs, js, sh, wk, ll, lc, mo, lb, fa, J, a1, -⟩ := id h
  exact h.shp hD hT hG hX h9 h3 h14 a1 (hX.2.1 _ _ (cP.no hG h7) a1) ef e2 e3 e4 e5 e6 e7 e8
/-- cells of other kinds stay where one job changes -/
theorem RJ.fr (h : RJ cy G W fa jc J r) (hD : va_D A W) (hT : cT cy G W) {j : Int32} {P : Nat → Prop} (hF : cF P W W1) (hq : (okJob jc j ∧ ∀ z, P z → z = jX (J j.toNatClampNeg) ∨ z = jS (J j.toNatClampNeg) ∨ (jK (J j.toNatClampNeg) = 4 ∧ z = jC (J j.toNatClampNeg))) ∨ W1 = W) {z : Nat} {t : Nat × Nat × Nat} (hg : G z = some t) (h3 : t.1 ≠ 3) (h14 : t.1 ≠ 14) {e : va_E} (he : cIn W z e) : cIn W1 z e := by
  rcases hq with ⟨ok, hP⟩ | rfl
  · obtain ⟨k1, k2, k3⟩ := (h.at ok).kinds hD hT
    refine hF _ _ (fun y => ?_) he
    rcases hP _ y with y | y | ⟨y4, y⟩
    · exact cne hg k1 h3 y
    · exact cne hg k2 h14 y
    · exact cne hg (k3 y4) h14 y
  · exact he
end RLJ
section LW6
variable {p : Program} {l : Launch} {e : Env} {R : Room} {s : State} {m : MethodId} {args : Array Value} {below : List Frame} {meth : Method} {c : Code} {H : Heap} {locs : List Loc} {cells slots : Nat} {Q : State → Prop}
variable {y : MethodName} {bytes cc : ByteArray} {maxL nL n index mc ms : Nat} {ret : Option FieldType} {wc Ts : List Cond} {rm : Room} {own C : String} {As rest st0 av : List Value} {pc : Nat} {ls : Array Slot} {D : va_G} {cy : Nat → ClassId} {xo mo ou : Nat} {a : Nat → Nat} {M : Option Nat} {G : cG} {W' : va_W} {f : Nat → Int32} {g : Nat → Int64} {r : Nat → Nat → Int32} {q : Nat → Nat → Int64} {a9 : Array Value}
theorem lk6 {post : Int32 → va_W → Prop} {P : Nat → Prop} (I : LI D cy s xo mo ou a M G W' f g r q H locs) (hr : va_Run p l e R s m args below meth c H locs cells slots mc ms (F0 m pc ls st0) rest (va_Qi (fun r0 u => ∃ w1, u = (G, w1) ∧ cF P W' w1 ∧ post r0 w1) (cB D cy (AC s mo a)) (AC s mo a) a9) (AC s mo a))
    (hsh : ∀ r0 w1, cF P W' w1 → post r0 w1 → ∀ e, cIn W' xo e → cIn w1 xo e)
    (kk : ∀ (r0 : Int32) (w1 : va_W) (H1 : Heap) (locs1 : List Loc), cF P W' w1 → post r0 w1 → LI D cy s xo mo ou a M G w1 f g r q H1 locs1 → W p l e R s m args below meth c H1 locs1 (cells + mc) (slots + ms) Q (F0 m (pc + 3) ls (.int r0 :: rest))) : W p l e R s m args below meth c H locs cells slots Q (F0 m pc ls st0) :=
  va_calli hr I.2.2.2.2.2.2.2.2.1 (fun _ _ h => h.1) (fun _ h => h.1) (fun r0 u t H1 locs1 ht hvm hp hB hz hk hS => by
    obtain ⟨h1, h2, h3⟩ := hB
    obtain ⟨w1, rfl, hF, hp⟩ := hp
    rw [ht] at h1
    obtain ⟨bs, js, sh, wk, ll, jc, lc, lb, hM⟩ := I.2.2.2.2.2.2.2.1
    exact kk r0 w1 H1 locs1 hF hp (I.cla h1 h2 h3 cE.rf ⟨bs, js, sh, wk, ll, jc, lc, lb, hsh r0 w1 hF hp _ hM⟩ hz hk hS))
end LW6
section LWR
variable {p : Program} {l : Launch} {e : Env} {R : Room} {s : State} {m : MethodId} {args : Array Value} {below : List Frame} {meth : Method} {c : Code} {H : Heap} {locs : List Loc} {cells slots : Nat} {Q : State → Prop}
variable {y : MethodName} {bytes cc : ByteArray} {maxL nL n index mc ms : Nat} {ret : Option FieldType} {wc Ts : List Cond} {rm : Room} {own C : String} {As rest st0 av : List Value} {pc : Nat} {ls : Array Slot} {D : va_G} {cy : Nat → ClassId} {xo mo ou : Nat} {a : Nat → Nat} {M : Option Nat} {G : cG} {W' : va_W} {f : Nat → Int32} {g : Nat → Int64} {r : Nat → Nat → Int32} {q : Nat → Nat → Int64} {a9 : Array Value}
theorem lk3_i {ch : List Nat} {post : Int32 → cS → Prop} (I : LI D cy s xo mo ou a M G W' f g r q H locs) (hr : va_Run p l e R s m args below meth c H locs cells slots mc ms (F0 m pc ls st0) rest (va_Qi (fun r0 u => cX none (chs ch) G W' u.1 u.2 ∧ post r0 u) (cB D cy (AC s mo a)) (AC s mo a) a9) (AC s mo a)) (h7 : chs ch 7 = false)
    (kk : ∀ (r0 : Int32) (u : cS) (H1 : Heap) (locs1 : List Loc), post r0 u → cX none (chs ch) G W' u.1 u.2 → LI D cy s xo mo ou a M u.1 u.2 f g r q H1 locs1 → W p l e R s m args below meth c H1 locs1 (cells + mc) (slots + ms) Q (F0 m (pc + 3) ls (.int r0 :: rest))) : W p l e R s m args below meth c H locs cells slots Q (F0 m pc ls st0) :=
  va_calli hr I.2.2.2.2.2.2.2.2.1 (fun _ _ h => h.1) (fun _ h => h.1) (fun r0 u t H1 locs1 ht hvm hp hB hz hk hS => by
    obtain ⟨h1, h2, h3⟩ := hB
    rw [ht] at h1
    obtain ⟨bs, js, sh, wk, ll, jc, lc, lb, hM⟩ := I.2.2.2.2.2.2.2.1
    exact kk r0 u H1 locs1 hp.2 hp.1 (I.cla h1 h2 h3 hp.1.1 ⟨bs, js, sh, wk, ll, jc, lc, lb, hp.1.2.1 _ _ (cP.no I.2.2.2.2.1 h7) hM⟩ hz hk hS))
theorem lk3_l {ch : List Nat} {post : Int64 → cS → Prop} (I : LI D cy s xo mo ou a M G W' f g r q H locs) (hr : va_Run p l e R s m args below meth c H locs cells slots mc ms (F0 m pc ls st0) rest (va_Ql (fun r0 u => cX none (chs ch) G W' u.1 u.2 ∧ post r0 u) (cB D cy (AC s mo a)) (AC s mo a) a9) (AC s mo a)) (h7 : chs ch 7 = false)
    (kk : ∀ (r0 : Int64) (u : cS) (H1 : Heap) (locs1 : List Loc), post r0 u → cX none (chs ch) G W' u.1 u.2 → LI D cy s xo mo ou a M u.1 u.2 f g r q H1 locs1 → W p l e R s m args below meth c H1 locs1 (cells + mc) (slots + ms) Q (F0 m (pc + 3) ls (.long r0 :: rest))) : W p l e R s m args below meth c H locs cells slots Q (F0 m pc ls st0) :=
  va_calll hr I.2.2.2.2.2.2.2.2.1 (fun _ _ h => h.1) (fun _ h => h.1) (fun r0 u t H1 locs1 ht hvm hp hB hz hk hS => by
    obtain ⟨h1, h2, h3⟩ := hB
    rw [ht] at h1
    obtain ⟨bs, js, sh, wk, ll, jc, lc, lb, hM⟩ := I.2.2.2.2.2.2.2.1
    exact kk r0 u H1 locs1 hp.2 hp.1 (I.cla h1 h2 h3 hp.1.1 ⟨bs, js, sh, wk, ll, jc, lc, lb, hp.1.2.1 _ _ (cP.no I.2.2.2.2.1 h7) hM⟩ hz hk hS))
theorem lk3_ri {post : Int32 → cS → Prop} (I : LI D cy s xo mo ou a M G W' f g r q H locs) (hr : va_Run p l e R s m args below meth c H locs cells slots mc ms (F0 m pc ls st0) rest (va_Qi (fun r0 u => u = (G, W') ∧ post r0 u) (cB D cy (AC s mo a)) (AC s mo a) a9) (AC s mo a))
    (kk : ∀ (r0 : Int32) (u : cS) (H1 : Heap) (locs1 : List Loc), post r0 u → cX none (chs []) G W' u.1 u.2 → LI D cy s xo mo ou a M u.1 u.2 f g r q H1 locs1 → W p l e R s m args below meth c H1 locs1 (cells + mc) (slots + ms) Q (F0 m (pc + 3) ls (.int r0 :: rest))) : W p l e R s m args below meth c H locs cells slots Q (F0 m pc ls st0) :=
  va_calli hr I.2.2.2.2.2.2.2.2.1 (fun _ _ h => h.1) (fun _ h => h.1) (fun r0 u t H1 locs1 ht hvm hp hB hz hk hS => by
    obtain ⟨h1, h2, h3⟩ := hB
    obtain ⟨rfl, hp⟩ := hp
    rw [ht] at h1
    exact kk r0 _ H1 locs1 hp cX.rf (I.cla h1 h2 h3 cE.rf I.2.2.2.2.2.2.2.1 hz hk hS))
theorem lk3_rl {post : Int64 → cS → Prop} (I : LI D cy s xo mo ou a M G W' f g r q H locs) (hr : va_Run p l e R s m args below meth c H locs cells slots mc ms (F0 m pc ls st0) rest (va_Ql (fun r0 u => u = (G, W') ∧ post r0 u) (cB D cy (AC s mo a)) (AC s mo a) a9) (AC s mo a))
    (kk : ∀ (r0 : Int64) (u : cS) (H1 : Heap) (locs1 : List Loc), post r0 u → cX none (chs []) G W' u.1 u.2 → LI D cy s xo mo ou a M u.1 u.2 f g r q H1 locs1 → W p l e R s m args below meth c H1 locs1 (cells + mc) (slots + ms) Q (F0 m (pc + 3) ls (.long r0 :: rest))) : W p l e R s m args below meth c H locs cells slots Q (F0 m pc ls st0) :=
  va_calll hr I.2.2.2.2.2.2.2.2.1 (fun _ _ h => h.1) (fun _ h => h.1) (fun r0 u t H1 locs1 ht hvm hp hB hz hk hS => by
    obtain ⟨h1, h2, h3⟩ := hB
    obtain ⟨rfl, hp⟩ := hp
    rw [ht] at h1
    exact kk r0 _ H1 locs1 hp cX.rf (I.cla h1 h2 h3 cE.rf I.2.2.2.2.2.2.2.1 hz hk hS))
theorem lk3_s {ch : List Nat} {post : Int32 → cS → Prop} (I : LI D cy s xo mo ou a M G W' f g r q H locs) (hr : va_Run p l e R s m args below meth c H locs cells slots mc ms (F0 m pc ls st0) rest (va_Qi (fun r0 u => cX none (chs ch) G W' u.1 u.2 ∧ post r0 u) (cB D cy (AC s mo a)) (AC s mo a) a9) (AC s mo a))
    (hsh : ∀ r0 u, post r0 u → ∃ (bs js sh wk ll : Nat) (jc lc : Int32) (lb : Option Nat), cIn u.2 xo (.inr (8, [.ref bs, .ref js, .int jc, .ref sh, .ref wk, va_rf M, .ref ll, .int lc, va_rf lb])))
    (kk : ∀ (r0 : Int32) (u : cS) (H1 : Heap) (locs1 : List Loc), post r0 u → cX none (chs ch) G W' u.1 u.2 → LI D cy s xo mo ou a M u.1 u.2 f g r q H1 locs1 → W p l e R s m args below meth c H1 locs1 (cells + mc) (slots + ms) Q (F0 m (pc + 3) ls (.int r0 :: rest))) : W p l e R s m args below meth c H locs cells slots Q (F0 m pc ls st0) :=
  va_calli hr I.2.2.2.2.2.2.2.2.1 (fun _ _ h => h.1) (fun _ h => h.1) (fun r0 u t H1 locs1 ht hvm hp hB hz hk hS => by
    obtain ⟨h1, h2, h3⟩ := hB
    obtain ⟨hX, hp⟩ := hp
    rw [ht] at h1
    exact kk r0 _ H1 locs1 hp hX (I.cla h1 h2 h3 hX.1 (hsh r0 u hp) hz hk hS))
end LWR

section ANS6
variable {cy : Nat → ClassId} {G : cG} {W : va_W} {fa : Nat → Option Nat} {jc : Int32} {J : Nat → JT} {r : Nat → Nat → Int32} {j x y : Int32}
theorem un_eq (h : RJ cy G W fa jc J r) {way : Int32} (hx : (okUn9 jc j way ∧ x = (if tB (jL (J j.toNatClampNeg)) way.toNatClampNeg then 1 else 0)) ∨ (¬ okUn9 jc j way ∧ x = -1)) (hy : (okUn9 jc j way ∧ y = (if r 6 (4 * j.toNatClampNeg + way.toNatClampNeg) = 0 then 0 else 1)) ∨ (¬ okUn9 jc j way ∧ y = -1)) : x = y := by
  rcases hx with ⟨a, b⟩ | ⟨a, b⟩ <;> rcases hy with ⟨c, d⟩ | ⟨c, d⟩
  · have w0 := a.2
    have cw := m_cl (x := way) (by omega)
    have e := (h.at a.1).2.2.2.2.2.1 way.toNatClampNeg (by omega)
    rw [b, d]
    cases hb : tB (jL (J j.toNatClampNeg)) way.toNatClampNeg
    · rw [if_pos (e.mpr hb)]; rfl
    · rw [if_neg (show ¬ r 6 (4 * j.toNatClampNeg + way.toNatClampNeg) = 0 from fun z => by rw [e.mp z] at hb; cases hb)]; rfl
  · exact absurd a c
  · exact absurd c a
  · rw [b, d]
theorem ho_eq (h : RJ cy G W fa jc J r) {s how : Int32} (hx : (okHold9 jc (jW (J j.toNatClampNeg)) (jH (J j.toNatClampNeg)) j s how ∧ x = hH (jO (J j.toNatClampNeg)) (jNn (J j.toNatClampNeg)) s.toNatClampNeg) ∨ (¬ okHold9 jc (jW (J j.toNatClampNeg)) (jH (J j.toNatClampNeg)) j s how ∧ x = -1)) (hy : (okHold9 jc (r 3 j.toNatClampNeg).toNatClampNeg (r 4 j.toNatClampNeg).toNatClampNeg j s how ∧ y = r 7 (36 * j.toNatClampNeg + s.toNatClampNeg)) ∨ (¬ okHold9 jc (r 3 j.toNatClampNeg).toNatClampNeg (r 4 j.toNatClampNeg).toNatClampNeg j s how ∧ y = -1)) : x = y := by
  rcases hx with ⟨a, b⟩ | ⟨a, b⟩ <;> rcases hy with ⟨c, d⟩ | ⟨c, d⟩
  · have w0 := a.2.1
    have cw := m_cl (x := s) w0.1
    rw [b, d]
    exact ((h.at a.1).2.2.2.2.2.2.2.1 s.toNatClampNeg (by omega)).1.symm
  · have sz := h.sz a.1; exact absurd ⟨a.1, by rw [← sz.1, ← sz.2]; exact a.2.1, a.2.2⟩ c
  · have sz := h.sz c.1; exact absurd ⟨c.1, by rw [sz.1, sz.2]; exact c.2.1, c.2.2⟩ a
  · rw [b, d]
theorem ma_eq (h : RJ cy G W fa jc J r) {s v : Int32} (hx : (okMark9 jc (jW (J j.toNatClampNeg)) (jH (J j.toNatClampNeg)) j s v ∧ ((jK (J j.toNatClampNeg) = 4 ∧ Bo x (¬ jG (J j.toNatClampNeg) s.toNatClampNeg = v)) ∨ (¬ jK (J j.toNatClampNeg) = 4 ∧ x = -4))) ∨ (¬ okMark9 jc (jW (J j.toNatClampNeg)) (jH (J j.toNatClampNeg)) j s v ∧ x = -1)) (hy : (okMark9 jc (r 3 j.toNatClampNeg).toNatClampNeg (r 4 j.toNatClampNeg).toNatClampNeg j s v ∧ ((r 2 j.toNatClampNeg = 3 ∧ y = (if r 8 (36 * j.toNatClampNeg + s.toNatClampNeg) = v then 0 else 1)) ∨ (¬ r 2 j.toNatClampNeg = 3 ∧ y = -4))) ∨ (¬ okMark9 jc (r 3 j.toNatClampNeg).toNatClampNeg (r 4 j.toNatClampNeg).toNatClampNeg j s v ∧ y = -1)) : x = y := by
  rcases hx with ⟨a, b⟩ | ⟨a, b⟩ <;> rcases hy with ⟨c, d⟩ | ⟨c, d⟩
  · have w0 := a.2.1
    have cw := m_cl (x := s) w0.1
    have kk := (h.at a.1).2.2.1
    rcases b with ⟨k4, b⟩ | ⟨k4, b⟩ <;> rcases d with ⟨r3, d⟩ | ⟨r3, d⟩
    · have e := (h.at a.1).2.2.2.2.2.2.2.2.2.1 k4 s.toNatClampNeg (by omega)
      rw [d, ← e]
      rcases b with ⟨b1, b2⟩ | ⟨b1, b2⟩
      · rw [b1, if_neg b2]
      · rw [b1, if_pos (Classical.not_not.mp b2)]
    · exact absurd (kcl_4.mp (kk.symm.trans k4)) r3
    · exact absurd (kk.trans (kcl_4.mpr r3)) k4
    · rw [b, d]
  · have sz := h.sz a.1; exact absurd ⟨a.1, by rw [← sz.1, ← sz.2]; exact a.2.1, a.2.2⟩ c
  · have sz := h.sz c.1; exact absurd ⟨c.1, by rw [sz.1, sz.2]; exact c.2.1, c.2.2⟩ a
  · rw [b, d]
theorem su_eq (h : RJ cy G W fa jc J r) {way line v : Int32} (hx : (okSum9 jc (jW (J j.toNatClampNeg)) (jH (J j.toNatClampNeg)) j way line v ∧ x = 0) ∨ (¬ okSum9 jc (jW (J j.toNatClampNeg)) (jH (J j.toNatClampNeg)) j way line v ∧ x = -1)) (hy : (okSum9 jc (r 3 j.toNatClampNeg).toNatClampNeg (r 4 j.toNatClampNeg).toNatClampNeg j way line v ∧ y = 0) ∨ (¬ okSum9 jc (r 3 j.toNatClampNeg).toNatClampNeg (r 4 j.toNatClampNeg).toNatClampNeg j way line v ∧ y = -1)) : x = y := by
  rcases hx with ⟨a, b⟩ | ⟨a, b⟩ <;> rcases hy with ⟨c, d⟩ | ⟨c, d⟩
  · rw [b, d]
  · have sz := h.sz a.1; exact absurd ⟨a.1, by rw [← sz.1, ← sz.2]; exact a.2.1, a.2.2⟩ c
  · have sz := h.sz c.1; exact absurd ⟨c.1, by rw [sz.1, sz.2]; exact c.2.1, c.2.2⟩ a
  · rw [b, d]
theorem ca_eq (h : RJ cy G W fa jc J r) {way b0 : Int32} {p : Int64} (hx : (okCast9 jc (jW (J j.toNatClampNeg)) (jH (J j.toNatClampNeg)) j way p ∧ x = b0) ∨ (¬ okCast9 jc (jW (J j.toNatClampNeg)) (jH (J j.toNatClampNeg)) j way p ∧ x = -1)) (hy : (okCast9 jc (r 3 j.toNatClampNeg).toNatClampNeg (r 4 j.toNatClampNeg).toNatClampNeg j way p ∧ y = b0) ∨ (¬ okCast9 jc (r 3 j.toNatClampNeg).toNatClampNeg (r 4 j.toNatClampNeg).toNatClampNeg j way p ∧ y = -1)) : x = y := by
  rcases hx with ⟨a, b⟩ | ⟨a, b⟩ <;> rcases hy with ⟨c, d⟩ | ⟨c, d⟩
  · rw [b, d]
  · have sz := h.sz a.1; exact absurd ⟨a.1, a.2.1, by rw [← sz.1, ← sz.2]; exact a.2.2⟩ c
  · have sz := h.sz c.1; exact absurd ⟨c.1, c.2.1, by rw [sz.1, sz.2]; exact c.2.2⟩ a
  · rw [b, d]
theorem to_eq (h : RJ cy G W fa jc J r) {way line : Int32} (hx : toA jc (jW (J j.toNatClampNeg)) (jH (J j.toNatClampNeg)) (fun l => if tB (jL (J j.toNatClampNeg)) way.toNatClampNeg then jF (J j.toNatClampNeg) (way.toNatClampNeg * 11 + l) else -2) j way line x) (hy : toA jc (r 3 j.toNatClampNeg).toNatClampNeg (r 4 j.toNatClampNeg).toNatClampNeg (fun l => if r 6 (4 * j.toNatClampNeg + way.toNatClampNeg) = 0 then -2 else r 5 (44 * j.toNatClampNeg + 11 * way.toNatClampNeg + l)) j way line y) : x = y := by
  rcases hx with ⟨a, b⟩ | ⟨a, b⟩ <;> rcases hy with ⟨c, d⟩ | ⟨c, d⟩
  · have sz := h.sz a.1.1
    by_cases z : line.toInt = -1
    · rw [if_pos z] at b d
      apply Int32.toInt_inj.mp
      rw [b, d, sz.1, sz.2]
    · rw [if_neg z] at b d
      have w0 := a.1.2
      have cw := m_cl (x := way) (by omega)
      rcases a.2 with z2 | z2
      · exact absurd z2 z
      · have e := (h.at a.1.1).2.2.2.2.2.1 way.toNatClampNeg (by omega)
        have cl := m_cl (x := line) z2.2.1
        have l2 := z2.2.2
        have e5 := (h.at a.1.1).2.2.2.2.2.2.1 way.toNatClampNeg line.toNatClampNeg (by omega) (by omega)
        rw [b, d]
        show (if _ then _ else _) = (if _ then _ else _)
        cases hb : tB (jL (J j.toNatClampNeg)) way.toNatClampNeg
        · rw [if_pos (e.mpr hb)]; rfl
        · rw [hb] at e5
          rw [if_neg (show ¬ r 6 (4 * j.toNatClampNeg + way.toNatClampNeg) = 0 from fun z => by rw [e.mp z] at hb; cases hb)]
          exact e5
  · have sz := h.sz a.1.1
    rw [sz.1, sz.2] at a
    exact absurd a c
  · have sz := h.sz c.1.1
    rw [← sz.1, ← sz.2] at c
    exact absurd c a
  · rw [b, d]
end ANS6

