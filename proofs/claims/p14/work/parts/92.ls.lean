set_option maxHeartbeats 4000000 in
set_option maxRecDepth 100000 in
/-- from the entry, for every script of at most 4096 ints, the law comes to its end with true -/
theorem whole_start {p : Program} {e : Env} {s : State} {m : MethodId} {below : List Frame} {meth : Method} {c : Code} (l : Launch) (hst : l.stackTraces = false) {b L : Nat} {xs : Nat → Int32} (hL : L ≤ 4096) (C0 : lw_At p s m meth c b L xs) : W p l e room_1 s m #[Value.ref b] below meth c s.heap [] 0 0 (lw_Z below #[Value.ref b] s) (entryFrame m ([Value.ref b] : List Value).toArray 8) := by
  obtain ⟨hx, hb, hr, hml, hown0, hts0, hX, hbl, hlocks, hgv0⟩ := id C0
  have hown : s.vm.findClass RL = some m.cls := hown0
  have hgv := flat_of_before _ hgv0
  have hA : ∀ z : Nat, s.heap.size ≤ z → AL s z := fun _ h => h
  have hA' : ∀ z : Nat, z < s.heap.size → ¬ AL s z := fun z h => Nat.not_le.mpr h
  obtain ⟨D, cy, hK⟩ := l_K hts0
  have hV := l_V hts0 hgv
  have hZ := l_Z hA' hts0 hgv
  have hXT := l_T hK hA' hts0 hgv
  have hts : ∀ w ∈ wsL_law, w.before #[Value.ref b] s = true := fun w h => l_big hK hts0 w (l_hts0 w h)
  have hAO0 : va_AO RX0 s := va_AO.of (hts0 (.arrayOver (.object RX0)) (by decide +kernel))
  have hAO3 : va_AO RX3 s := va_AO.of (hts0 (.arrayOver (.object RX3)) (by decide +kernel))
  have hAO2 : va_AO RX2 s := va_AO.of (hts0 (.arrayOver (.object RX2)) (by decide +kernel))
  have hS : va_S (AL s) s.heap s.heap [] := va_S.rf
  have hP : va_P D vwCl [] s.heap := fun k z h => by simp at h
  have hD : va_D (AL s) [] := ⟨fun i j p q h => by simp at h, fun k q h => by simp at h⟩
  have hT : cT cy (fun _ => none) [] := fun a t h => by cases h
  have hl := lv_entry ([.ref b]) (n := 8) (Nat.le_of_ble_eq_true rfl)
  rw [lg_entry_eq]
  generalize (lg_sl ([.ref b]) ++ List.replicate (8 - (lg_sl ([.ref b])).length) Slot.unset).toArray = ls at hl ⊢
  have hl : lv_has ls 8 [(0, .ref b)] := hl
  refine t_new (C := RX9) (T := TX9) (N := 9) (ci := 8) (ty0 := tyX9) (fs := [.null, .null, .int 0, .null, .null, .null, .null, .int 0, .null]) hx hb hts (by decide +kernel) tyX9_ok hown (hts (.classLink RL 8 RX9) (by decide +kernel)) (hts (.instantiable RX9 9) (by decide +kernel)) (hts (.initialized RX9) (by decide +kernel)) hK hP hD hS hA hT rfl (by decide +kernel) (Nat.le_of_ble_eq_true rfl) (Nat.le_of_ble_eq_true rfl) dL_law_0 (fun xo H w0 hM hO hF0 hX0 hk0 hP hD hT hS => ?_)
  refine lv_dup hx hb dL_law_3 rfl ?_
  refine t_callv (va_runI (g := F0 m 4 ls [.ref xo, .ref xo]) (As := []) (rest := [.ref xo]) (b := xo) ⟨hx, hb, hml, hown, hts⟩ (c_X9_init l D cy (AL s) (fun _ => none) w0 xo hD hT hO hM) (cwI 0 hts gL_law_X9_init rfl rfl rfl (hts (.initialized RX9) (by decide +kernel)) (hts (.methodLink RL 32 yX9_init) (by decide +kernel)) (hts (.instanceMethod yX9_init) (by decide +kernel)) rfl (by decide +kernel) ⟨Nat.le_of_ble_eq_true rfl, Nat.le_of_ble_eq_true rfl⟩) (i_preS hP hK hA hS hV hAO0 hAO3 hAO2) rfl rfl hl.1 rfl (lv_room (Nat.le_of_ble_eq_true rfl)) dL_law_4 ⟨Nat.le_of_ble_eq_true rfl, Nat.le_of_ble_eq_true rfl⟩) hS (fun u H locs q4 hP9 hD9 hT9 hS => ?_)
  obtain ⟨G, W'⟩ := u
  obtain ⟨hX4, hGx, bs, js, sh, wk, ll, hMx⟩ := q4
  have hP9 : va_P D vwCl W' H := hP9
  have hD9 : va_D (AL s) W' := hD9
  have hT9 : cT cy G W' := hT9
  refine lv_astore_n (lv' := [(1, .ref xo), (0, .ref b)]) hx hb dL_law_7 rfl hl (by decide) rfl (fun ls hl => ?_)
  refine va_new (ci := 9) (fs := n0) (C := RX10) (T := TX10) (N := 35) hx hb hts (by decide +kernel) tyX10 tyX10_ok hown (hts (.classLink RL 33 RX10) (by decide +kernel)) (hts (.instantiable RX10 35) (by decide +kernel)) (hts (.initialized RX10) (by decide +kernel)) hK hP9 hD9 hS hA rfl (by decide +kernel) (Nat.le_of_ble_eq_true rfl) (Nat.le_of_ble_eq_true rfl) dL_law_8 (fun mo H hP hD hS => ?_)
  refine lv_dup hx hb dL_law_11 rfl ?_
  have hlast : (W' ++ [(mo, (.inr (9, n0) : va_E))])[W'.length]? = some (mo, .inr (9, n0)) := by simp
  have hin1 : ∀ (k : Nat) (z : Nat × va_E), W'[k]? = some z → (W' ++ [(mo, (.inr (9, n0) : va_E))])[k]? = some z ∧ k < W'.length := fun k z h => ⟨by rw [List.getElem?_append_left (List.getElem?_eq_some_iff.mp h).1]; exact h, (List.getElem?_eq_some_iff.mp h).1⟩
  have hPw : va_P D vwCl W' H := fun k z h => hP k z (hin1 k z h).1
  have hap : ∀ (k : Nat) (z : Nat × va_E), W'[k]? = some z → z.1 ≠ mo := fun k z h he => by
    have h1 := hD.1 k W'.length z _ (hin1 k z h).1 hlast he
    have h2 := (hin1 k z h).2
    omega
  have hPn : va_P D vwCl [(mo, .inr (9, n0))] H := fun k z h => by
    match k, h with
    | 0, h => cases h; exact hP W'.length _ hlast
    | k + 1, h => simp at h
  have hmo : AL s mo := hD.2 W'.length _ hlast
  have hDn : va_D (fun z => z = mo ∨ H.size ≤ z) [(mo, (.inr (9, n0) : va_E))] := ⟨fun i j p q hi hj _ => by
    match i, j, hi, hj with
    | 0, 0, _, _ => rfl
    | 0, j + 1, _, hj => simp at hj
    | i + 1, _, hi, _ => simp at hi, fun k z h => by
    match k, h with
    | 0, h => cases h; exact Or.inl rfl
    | k + 1, h => simp at h⟩
  have hSb := hS
  refine va_callv (va_runI (g := F0 m 12 ls [.ref mo, .ref mo]) (As := []) (rest := [.ref mo]) (b := mo) ⟨hx, hb, hml, hown, hts⟩ (c_X10_init l D cy (fun z => z = mo ∨ H.size ≤ z) mo) (cwI 0 hts gL_law_X10_init rfl rfl rfl (hts (.initialized RX10) (by decide +kernel)) (hts (.methodLink RL 35 yX10_init) (by decide +kernel)) (hts (.instanceMethod yX10_init) (by decide +kernel)) rfl (by decide +kernel) ⟨Nat.le_of_ble_eq_true rfl, Nat.le_of_ble_eq_true rfl⟩) ⟨n_blind, fun U hU hW => ⟨rfl, by rw [hU]; exact hPn, hDn, va_K.moved hW.alike (hK.sub [0, 1, 2] rfl), fun z h => Or.inr (by rw [← hU]; exact h)⟩⟩ rfl rfl hl.1 rfl (lv_room (Nat.le_of_ble_eq_true rfl)) dL_law_12 ⟨Nat.le_of_ble_eq_true rfl, Nat.le_of_ble_eq_true rfl⟩) hS (fun z _ h => h.elim (fun h9 => h9 ▸ hmo) (fun h9 => Nat.le_trans hSb.1 h9)) (fun z h => h.elim (fun h9 => h9 ▸ hmo) (fun h9 => Nat.le_trans hSb.1 h9)) (fun u t H1 locs1 ht hvm hp hB hz hk hS => ?_)
  obtain ⟨hB1, hB2⟩ := hB
  rw [ht] at hB1
  have hB1 : va_P D vwCl (WM cy mo (nrm mo u) (fun _ => 0) (fun _ => 0) (fun _ _ => 0) (fun _ _ => 0)) H1 := hB1
  have hB2 : va_D (fun z => z = mo ∨ H.size ≤ z) (WM cy mo (nrm mo u) (fun _ => 0) (fun _ => 0) (fun _ _ => 0) (fun _ _ => 0)) := hB2
  have hAMs : ∀ x, AM mo (nrm mo u) x → (x = mo ∨ H.size ≤ x) := am_nrm (P := fun x => x = mo ∨ H.size ≤ x) hB2.2
  have hlt : ∀ x, AM mo (nrm mo u) x → x < H1.size := am_nrm (P := fun x => x < H1.size) (fun k z h => (hB1 k z h).lt)
  have hDM : DM cy mo (nrm mo u) := fun f g r q => va_D_addr (w1 := WM cy mo (nrm mo u) (fun _ => 0) (fun _ => 0) (fun _ _ => 0) (fun _ _ => 0)) rfl hB2.1 (fun k z h => wm_am h)
  have hAM : ∀ x, AM mo (nrm mo u) x → s.heap.size ≤ x := fun x h => (hAMs x h).elim (fun h9 => h9 ▸ hmo) (fun h9 => Nat.le_trans hSb.1 h9)
  have hno : ∀ (k : Nat) (z : Nat × va_E), W'[k]? = some z → ¬ (z.1 = mo ∨ H.size ≤ z.1) := fun k z h h9 => h9.elim (hap k z h) (fun h8 => absurd (hPw k z h).lt (Nat.not_lt.mpr h8))
  have hPw1 : va_P D vwCl W' H1 := fun k z h => (hPw k z h).kept (hk z.1 (hPw k z h).lt (hno k z h))
  have hDw : va_D (AC s mo (nrm mo u)) W' := ⟨hD9.1, fun k z h => ⟨hD9.2 k z h, fun ha => hno k z h (hAMs _ ha)⟩⟩
  refine lv_astore_n (lv' := [(2, .ref mo), (1, .ref xo), (0, .ref b)]) hx hb dL_law_15 rfl hl (by decide) rfl (fun ls hl => ?_)
  refine lv_iconst (v := 1) hx hb dL_law_16 (by decide) ?_
  refine va_newaK (atype := .long) (N := 1) hx hb (hts (.arrayClass .long) (by decide +kernel)) (g := F0 m 17 ls [.int 1]) rfl dL_law_17 rfl (by decide) rfl (by decide) (Nat.le_of_ble_eq_true rfl) (Nat.le_of_ble_eq_true rfl) rfl (fun H2 cA e1 z1 o1 hAr hNm => ?_)
  obtain rfl : cA = cy 1 := Option.some.inj (hNm.symm.trans (hK.2 1 _ rfl).2)
  refine W.eq (g2 := F0 m 19 ls [.ref H1.size]) rfl ?_
  have hP2 : va_P D vwCl (W' ++ [(H1.size, .inl (cy 1, 1, .inr (.inl (fun _ => 0))))]) H2 := va_P.app (fun k z h => (hPw1 k z h).kept (o1 z.1 (hPw1 k z h).lt)) (fun k z h => by
    match k, h with
    | 0, h =>
      cases h
      show H2[H1.size]? = some (vp_cell _ _)
      rw [vp_cell_l] <;> first | exact e1 | rfl
    | k + 1, h => simp at h)
  have hD2 : va_D (AC s mo (nrm mo u)) (W' ++ [(H1.size, .inl (cy 1, 1, .inr (.inl (fun _ => 0))))]) := hDw.push hPw1 rfl ⟨hS.1, fun h => absurd (hlt _ h) (Nat.lt_irrefl _)⟩
  have hg : G H1.size = none := cG.none hT9 hD2
  have hT2 : cT cy (va_up G H1.size (some (1, 1, 0))) (W' ++ [(H1.size, .inl (cy 1, 1, .inr (.inl (fun _ => 0))))]) := hT9.add hg ⟨_, rfl⟩
  have I : LI D cy s xo mo H1.size (nrm mo u) none (va_up G H1.size (some (1, 1, 0))) (W' ++ [(H1.size, .inl (cy 1, 1, .inr (.inl (fun _ => 0))))]) (fun _ => 0) (fun _ => 0) (fun _ _ => 0) (fun _ _ => 0) H2 locs1 :=
    ⟨hP2, m_keep hB1 (fun x h => o1 x h), hD2, hT2, (cE.add hg) _ _ hGx, by simp [va_up], mi_0, ⟨bs, js, sh, wk, ll, 0, 0, none, hMx.add⟩, ⟨Nat.le_trans hS.1 (by omega), fun x h1 h2 => (o1 x (Nat.lt_of_lt_of_le h1 hS.1)).trans (hS.2.1 x h1 h2), hS.2.2⟩, fun x h => Nat.lt_trans (hlt x h) (by omega)⟩
  refine lv_astore_n (lv' := [(3, .ref H1.size), (2, .ref mo), (1, .ref xo), (0, .ref b)]) hx hb dL_law_19 rfl hl (by decide) rfl (fun ls hl => ?_)
  refine lv_iconst (v := 0) hx hb dL_law_20 (by decide) ?_
  refine lv_istore (lv' := [(4, .int 0), (3, .ref H1.size), (2, .ref mo), (1, .ref xo), (0, .ref b)]) hx hb dL_law_21 hl (by decide) rfl (fun ls hl => ?_)
  refine W.widen (k := 1000 + 0 * 7) (n := 1000000 + 0 * 588 + eM none) (Nat.le_of_ble_eq_true rfl) (Nat.le_of_ble_eq_true rfl) ?_
  have hR : RlJ cy xo (va_up G H1.size (some (1, 1, 0))) (W' ++ [(H1.size, .inl (cy 1, 1, .inr (.inl (fun _ => 0))))]) (fun _ => 0) (fun _ _ => 0) := by
    have hMx2 := hMx.add (q := (H1.size, .inl (cy 1, 1, .inr (.inl (fun _ => 0)))))
    obtain ⟨-, -, -, hGj, -⟩ := w7sh (mo := none) (lb := none) hD2 hT2 ((cE.add hg) _ _ hGx) hMx2
    obtain ⟨_, hj1, fa, rfl, -⟩ := hT2 _ _ hGj
    have z0 : (0 : Int32).toInt = 0 := rfl
    exact ⟨_, _, _, _, _, _, none, none, fa, fun _ => ((0, 0, 0, 0, 0, 0, 0, 0), (0, 0), [], (fun _ => 0), (fun _ => 0)), hMx2, hj1, fun j hj => absurd hj (by show ¬ (j : Int) < (0 : Int32).toInt; omega), fun i j hi => absurd hi (by show ¬ (i : Int) < (0 : Int32).toInt; omega), fun i hi => absurd hi (by show ¬ (i : Int) < (0 : Int32).toInt; omega), fun j _ _ => ⟨fun _ _ => rfl, fun _ _ => rfl, fun _ _ => rfl⟩⟩
  exact l_loop (C0 := 1000) (S0 := 1000000) hL hr hlocks ⟨⟨hx, hb, hml, hown, hts⟩, ⟨hX, hbl⟩, ⟨hK, hV, hZ, hXT⟩, hst, hDM, hAM⟩ (by decide) (by decide) 1001 0 0 none _ _ _ _ _ _ _ _ ls (by decide) rfl (by decide) I hR (lv_sub hl [4, 3, 2, 1, 0] rfl)

