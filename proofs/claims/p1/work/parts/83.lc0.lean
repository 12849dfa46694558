set_option maxHeartbeats 4000000 in
set_option maxRecDepth 100000 in
theorem lcase_0 {p : Program} {l : Launch} {e : Env} {s : State} {m : MethodId} {below : List Frame} {meth : Method} {c : Code} {b L : Nat} {xs : Nat → Int32} {D : va_G} {cy : Nat → ClassId} {xo mo ou : Nat} {a : Nat → Nat} {M : Option Nat} {G : cG} {W' : va_W} {f : Nat → Int32} {g : Nat → Int64} {r : Nat → Nat → Int32} {q : Nat → Nat → Int64} {H : Heap} {locs : List Loc} {ls : Array Slot} {Q : State → Prop} {C S : Nat} (X : LX p l s m c b L xs D cy mo a) (I : LI D cy s xo mo ou a M G W' f g r q H locs) (hF : FR cy xo W' f r) {x4 : Int32} (h4 : 0 ≤ x4.toInt ∧ x4.toInt + 8 ≤ (L : Int) ∧ L ≤ 4096) (hC : C + 7 ≤ 600002) (hSl : S + 53273 ≤ 7302232) (hl : lv_has ls 8 [(0, .ref b), (1, .ref xo), (2, .ref mo), (3, .ref ou), (4, .int x4)]) (kk : ∀ (G : cG) (W' : va_W) (f : Nat → Int32) (g : Nat → Int64) (r : Nat → Nat → Int32) (q : Nat → Nat → Int64) (H : Heap) (locs : List Loc) (ls : Array Slot), LI D cy s xo mo ou a M G W' f g r q H locs → lv_has ls 8 [(0, .ref b), (1, .ref xo), (2, .ref mo), (3, .ref ou), (4, .int x4)] → W p l e room_1 s m #[Value.ref b] below meth c H locs (C + 7) (S + 588) Q (F0 m 2469 ls [])) : W p l e room_1 s m #[Value.ref b] below meth c H locs C S Q (F0 m 200 ls []) := by
  obtain ⟨⟨hx, hb, hml, hown, hts⟩, ⟨hXs, hbl⟩, ⟨hK, hV, hZ, hXT⟩, hst, hDM, hAM⟩ := id X
  have h1 : f 1 = 0 := hF.1 1
  have h10 : (f 1).toInt = 0 := by rw [h1]; rfl
  have h23 : f 23 = 0 := hF.1 23
  have h230 : (f 23).toInt = 0 := by rw [h23]; rfl
  have h29 : ∀ i, r 29 i = 0 := hF.2.1
  have hbA : ¬ AL s b := Nat.not_le.mpr hbl
  have hRc : room_1.cells = 600002 := rfl
  have hRs : room_1.slots = 7302232 := rfl
  have hn1 : vp_in (x4 + 1) L := l_in (c := 1) h4 rfl (by decide)
  have hn2 : vp_in (x4 + 2) L := l_in (c := 2) h4 rfl (by decide)
  have hn3 : vp_in (x4 + 3) L := l_in (c := 3) h4 rfl (by decide)
  have hn4 : vp_in (x4 + 4) L := l_in (c := 4) h4 rfl (by decide)
  have hn5 : vp_in (x4 + 5) L := l_in (c := 5) h4 rfl (by decide)
  have hn6 : vp_in (x4 + 6) L := l_in (c := 6) h4 rfl (by decide)
  have hn7 : vp_in (x4 + 7) L := l_in (c := 7) h4 rfl (by decide)
  refine lv_aload_n hx hb dL_law_200 rfl (lv_at hl 1 rfl) ?_
  refine lv_aload_n hx hb dL_law_201 rfl (lv_at hl 0 rfl) ?_
  refine lv_iload hx hb dL_law_202 (lv_at hl 4 rfl) ?_
  refine lv_iconst (v := 1) hx hb dL_law_204 (by decide) ?_
  refine lv_iadd hx hb dL_law_205 ?_
  refine va_sld hx hb hXs hbl hbA I.2.2.2.2.2.2.2.2.1 hn1 dL_law_206 ?_
  refine lv_aload_n hx hb dL_law_207 rfl (lv_at hl 0 rfl) ?_
  refine lv_iload hx hb dL_law_208 (lv_at hl 4 rfl) ?_
  refine lv_iconst (v := 2) hx hb dL_law_210 (by decide) ?_
  refine lv_iadd hx hb dL_law_211 ?_
  refine va_sld hx hb hXs hbl hbA I.2.2.2.2.2.2.2.2.1 hn2 dL_law_212 ?_
  refine lv_aload_n hx hb dL_law_213 rfl (lv_at hl 0 rfl) ?_
  refine lv_iload hx hb dL_law_214 (lv_at hl 4 rfl) ?_
  refine lv_iconst (v := 3) hx hb dL_law_216 (by decide) ?_
  refine lv_iadd hx hb dL_law_217 ?_
  refine va_sld hx hb hXs hbl hbA I.2.2.2.2.2.2.2.2.1 hn3 dL_law_218 ?_
  obtain ⟨bs, js, sh, wk, ll, jc, lc, lb, hM⟩ := I.2.2.2.2.2.2.2.1
  obtain ⟨rfl, rfl, rfl, hSh, fl, hfl⟩ := hF.at I.2.2.1 hM
  refine lk3_s I (va_runV (g := F0 m 219 ls ([.int (xs (x4 + 3).toNatClampNeg), .int (xs (x4 + 2).toNatClampNeg), .int (xs (x4 + 1).toNatClampNeg), .ref xo])) (As := [.int (xs (x4 + 1).toNatClampNeg), .int (xs (x4 + 2).toNatClampNeg), .int (xs (x4 + 3).toNatClampNeg)]) (rest := []) ⟨hx, hb, hml, hown, hts⟩ (c_X9_job_x l D cy (AC s mo a) G W' xo ((xs (x4 + 1).toNatClampNeg)) ((xs (x4 + 2).toNatClampNeg)) ((xs (x4 + 3).toNatClampNeg)) I.2.2.1 I.2.2.2.1 I.2.2.2.2.1 hM) (cwV 3 hts gL_law_X9_job rfl rfl rfl (by decide +kernel) ⟨Nat.le_of_ble_eq_true rfl, Nat.le_of_ble_eq_true rfl⟩) (l_preV I hK hV) rfl rfl hl.1 rfl (lv_room (Nat.le_of_ble_eq_true rfl)) dL_law_219 ⟨by omega, by omega⟩) (fun _ _ h9 => by obtain ⟨-, jc9, lc9, lb9, hm9, -⟩ := h9; exact ⟨_, _, _, _, _, jc9, lc9, lb9, hm9⟩) (fun r219 u H locs q219 hX I => ?_)
  obtain ⟨G, W'⟩ := u
  have I : LI D cy s xo mo ou a M G W' f g r q H locs := I
  refine lv_aload_n hx hb dL_law_222 rfl (lv_at hl 2 rfl) ?_
  refine lv_aload_n hx hb dL_law_223 rfl (lv_at hl 0 rfl) ?_
  refine lv_iload hx hb dL_law_224 (lv_at hl 4 rfl) ?_
  refine lv_iconst (v := 1) hx hb dL_law_226 (by decide) ?_
  refine lv_iadd hx hb dL_law_227 ?_
  refine va_sld hx hb hXs hbl hbA I.2.2.2.2.2.2.2.2.1 hn1 dL_law_228 ?_
  refine lv_aload_n hx hb dL_law_229 rfl (lv_at hl 0 rfl) ?_
  refine lv_iload hx hb dL_law_230 (lv_at hl 4 rfl) ?_
  refine lv_iconst (v := 2) hx hb dL_law_232 (by decide) ?_
  refine lv_iadd hx hb dL_law_233 ?_
  refine va_sld hx hb hXs hbl hbA I.2.2.2.2.2.2.2.2.1 hn2 dL_law_234 ?_
  refine lv_aload_n hx hb dL_law_235 rfl (lv_at hl 0 rfl) ?_
  refine lv_iload hx hb dL_law_236 (lv_at hl 4 rfl) ?_
  refine lv_iconst (v := 3) hx hb dL_law_238 (by decide) ?_
  refine lv_iadd hx hb dL_law_239 ?_
  refine va_sld hx hb hXs hbl hbA I.2.2.2.2.2.2.2.2.1 hn3 dL_law_240 ?_
  have hI := I.2.2.2.2.2.2.1
  refine lm_i (As := [.int (xs (x4 + 1).toNatClampNeg), .int (xs (x4 + 2).toNatClampNeg), .int (xs (x4 + 3).toNatClampNeg)]) (rest := [.int r219]) I ⟨hx, hb, hml, hown, hts⟩ (c_X10_job_x l D cy mo a f g r q ((xs (x4 + 1).toNatClampNeg)) ((xs (x4 + 2).toNatClampNeg)) ((xs (x4 + 3).toNatClampNeg)) hDM hI) (cwV 3 hts gL_law_X10_job rfl rfl rfl (by decide +kernel) ⟨Nat.le_of_ble_eq_true rfl, Nat.le_of_ble_eq_true rfl⟩) hK hAM rfl hl.1 rfl (Nat.le_of_ble_eq_true rfl) dL_law_241 ⟨by omega, by omega⟩ (fun _ _ h9 => by obtain ⟨_, _, _, _, _, _, rfl, h9⟩ := h9; exact h9.2.2) (fun r241 u H locs q241 I => ?_)
  obtain ⟨_, _, _, _, _, _, -, q241, -⟩ := q241
  obtain ⟨f, g, r, q⟩ := u
  have I : LI D cy s xo mo ou a M G W' f g r q H locs := I
  have e9 : r219 = r241 := Int32.toInt_inj.mp (q219.1.trans q241.symm)
  refine lv_icmp_eq (tgt := 2469) hx hb dL_law_244 (by decide) (fun c9 => ?_) (fun c9 => absurd e9 c9)
  refine W.widen (k := C + 7) (n := S + 588) (by omega) (by omega) ?_
  exact kk _ _ _ _ _ _ _ _ _ I (lv_sub hl [0, 1, 2, 3, 4] rfl)
set_option maxHeartbeats 4000000 in
set_option maxRecDepth 100000 in
theorem lcase_1 {p : Program} {l : Launch} {e : Env} {s : State} {m : MethodId} {below : List Frame} {meth : Method} {c : Code} {b L : Nat} {xs : Nat → Int32} {D : va_G} {cy : Nat → ClassId} {xo mo ou : Nat} {a : Nat → Nat} {M : Option Nat} {G : cG} {W' : va_W} {f : Nat → Int32} {g : Nat → Int64} {r : Nat → Nat → Int32} {q : Nat → Nat → Int64} {H : Heap} {locs : List Loc} {ls : Array Slot} {Q : State → Prop} {C S : Nat} (X : LX p l s m c b L xs D cy mo a) (I : LI D cy s xo mo ou a M G W' f g r q H locs) (hF : FR cy xo W' f r) {x4 : Int32} (h4 : 0 ≤ x4.toInt ∧ x4.toInt + 8 ≤ (L : Int) ∧ L ≤ 4096) (hC : C + 7 ≤ 600002) (hSl : S + 53273 ≤ 7302232) (hl : lv_has ls 8 [(0, .ref b), (1, .ref xo), (2, .ref mo), (3, .ref ou), (4, .int x4)]) (kk : ∀ (G : cG) (W' : va_W) (f : Nat → Int32) (g : Nat → Int64) (r : Nat → Nat → Int32) (q : Nat → Nat → Int64) (H : Heap) (locs : List Loc) (ls : Array Slot), LI D cy s xo mo ou a M G W' f g r q H locs → lv_has ls 8 [(0, .ref b), (1, .ref xo), (2, .ref mo), (3, .ref ou), (4, .int x4)] → W p l e room_1 s m #[Value.ref b] below meth c H locs (C + 7) (S + 588) Q (F0 m 2469 ls [])) : W p l e room_1 s m #[Value.ref b] below meth c H locs C S Q (F0 m 249 ls []) := by
  obtain ⟨⟨hx, hb, hml, hown, hts⟩, ⟨hXs, hbl⟩, ⟨hK, hV, hZ, hXT⟩, hst, hDM, hAM⟩ := id X
  have h1 : f 1 = 0 := hF.1 1
  have h10 : (f 1).toInt = 0 := by rw [h1]; rfl
  have h23 : f 23 = 0 := hF.1 23
  have h230 : (f 23).toInt = 0 := by rw [h23]; rfl
  have h29 : ∀ i, r 29 i = 0 := hF.2.1
  have hbA : ¬ AL s b := Nat.not_le.mpr hbl
  have hRc : room_1.cells = 600002 := rfl
  have hRs : room_1.slots = 7302232 := rfl
  have hn1 : vp_in (x4 + 1) L := l_in (c := 1) h4 rfl (by decide)
  have hn2 : vp_in (x4 + 2) L := l_in (c := 2) h4 rfl (by decide)
  have hn3 : vp_in (x4 + 3) L := l_in (c := 3) h4 rfl (by decide)
  have hn4 : vp_in (x4 + 4) L := l_in (c := 4) h4 rfl (by decide)
  have hn5 : vp_in (x4 + 5) L := l_in (c := 5) h4 rfl (by decide)
  have hn6 : vp_in (x4 + 6) L := l_in (c := 6) h4 rfl (by decide)
  have hn7 : vp_in (x4 + 7) L := l_in (c := 7) h4 rfl (by decide)
  refine lv_aload_n hx hb dL_law_249 rfl (lv_at hl 1 rfl) ?_
  refine lv_aload_n hx hb dL_law_250 rfl (lv_at hl 0 rfl) ?_
  refine lv_iload hx hb dL_law_251 (lv_at hl 4 rfl) ?_
  refine lv_iconst (v := 1) hx hb dL_law_253 (by decide) ?_
  refine lv_iadd hx hb dL_law_254 ?_
  refine va_sld hx hb hXs hbl hbA I.2.2.2.2.2.2.2.2.1 hn1 dL_law_255 ?_
  refine lv_aload_n hx hb dL_law_256 rfl (lv_at hl 0 rfl) ?_
  refine lv_iload hx hb dL_law_257 (lv_at hl 4 rfl) ?_
  refine lv_iconst (v := 2) hx hb dL_law_259 (by decide) ?_
  refine lv_iadd hx hb dL_law_260 ?_
  refine va_sld hx hb hXs hbl hbA I.2.2.2.2.2.2.2.2.1 hn2 dL_law_261 ?_
  refine lv_aload_n hx hb dL_law_262 rfl (lv_at hl 0 rfl) ?_
  refine lv_iload hx hb dL_law_263 (lv_at hl 4 rfl) ?_
  refine lv_iconst (v := 3) hx hb dL_law_265 (by decide) ?_
  refine lv_iadd hx hb dL_law_266 ?_
  refine va_sld hx hb hXs hbl hbA I.2.2.2.2.2.2.2.2.1 hn3 dL_law_267 ?_
  refine lv_aload_n hx hb dL_law_268 rfl (lv_at hl 0 rfl) ?_
  refine lv_iload hx hb dL_law_269 (lv_at hl 4 rfl) ?_
  refine lv_iconst (v := 4) hx hb dL_law_271 (by decide) ?_
  refine lv_iadd hx hb dL_law_272 ?_
  refine va_sld hx hb hXs hbl hbA I.2.2.2.2.2.2.2.2.1 hn4 dL_law_273 ?_
  obtain ⟨bs, js, sh, wk, ll, jc, lc, lb, hM⟩ := I.2.2.2.2.2.2.2.1
  obtain ⟨rfl, rfl, rfl, hSh, fl, hfl⟩ := hF.at I.2.2.1 hM
  refine lk3_ri I (va_runV (g := F0 m 274 ls ([.int (xs (x4 + 4).toNatClampNeg), .int (xs (x4 + 3).toNatClampNeg), .int (xs (x4 + 2).toNatClampNeg), .int (xs (x4 + 1).toNatClampNeg), .ref xo])) (As := [.int (xs (x4 + 1).toNatClampNeg), .int (xs (x4 + 2).toNatClampNeg), .int (xs (x4 + 3).toNatClampNeg), .int (xs (x4 + 4).toNatClampNeg)]) (rest := []) ⟨hx, hb, hml, hown, hts⟩ (c_X9_sum_0 l D cy (AC s mo a) G W' xo ((xs (x4 + 1).toNatClampNeg)) ((xs (x4 + 2).toNatClampNeg)) ((xs (x4 + 3).toNatClampNeg)) ((xs (x4 + 4).toNatClampNeg)) I.2.2.1 I.2.2.2.1 I.2.2.2.2.1 hM h10) (cwV 4 hts gL_law_X9_sum rfl rfl rfl (by decide +kernel) ⟨Nat.le_of_ble_eq_true rfl, Nat.le_of_ble_eq_true rfl⟩) (l_preV I hK hV) rfl rfl hl.1 rfl (lv_room (Nat.le_of_ble_eq_true rfl)) dL_law_274 ⟨by omega, by omega⟩) (fun r274 u H locs q274 hX I => ?_)
  obtain ⟨G, W'⟩ := u
  have I : LI D cy s xo mo ou a M G W' f g r q H locs := I
  refine lv_aload_n hx hb dL_law_277 rfl (lv_at hl 2 rfl) ?_
  refine lv_aload_n hx hb dL_law_278 rfl (lv_at hl 0 rfl) ?_
  refine lv_iload hx hb dL_law_279 (lv_at hl 4 rfl) ?_
  refine lv_iconst (v := 1) hx hb dL_law_281 (by decide) ?_
  refine lv_iadd hx hb dL_law_282 ?_
  refine va_sld hx hb hXs hbl hbA I.2.2.2.2.2.2.2.2.1 hn1 dL_law_283 ?_
  refine lv_aload_n hx hb dL_law_284 rfl (lv_at hl 0 rfl) ?_
  refine lv_iload hx hb dL_law_285 (lv_at hl 4 rfl) ?_
  refine lv_iconst (v := 2) hx hb dL_law_287 (by decide) ?_
  refine lv_iadd hx hb dL_law_288 ?_
  refine va_sld hx hb hXs hbl hbA I.2.2.2.2.2.2.2.2.1 hn2 dL_law_289 ?_
  refine lv_aload_n hx hb dL_law_290 rfl (lv_at hl 0 rfl) ?_
  refine lv_iload hx hb dL_law_291 (lv_at hl 4 rfl) ?_
  refine lv_iconst (v := 3) hx hb dL_law_293 (by decide) ?_
  refine lv_iadd hx hb dL_law_294 ?_
  refine va_sld hx hb hXs hbl hbA I.2.2.2.2.2.2.2.2.1 hn3 dL_law_295 ?_
  refine lv_aload_n hx hb dL_law_296 rfl (lv_at hl 0 rfl) ?_
  refine lv_iload hx hb dL_law_297 (lv_at hl 4 rfl) ?_
  refine lv_iconst (v := 4) hx hb dL_law_299 (by decide) ?_
  refine lv_iadd hx hb dL_law_300 ?_
  refine va_sld hx hb hXs hbl hbA I.2.2.2.2.2.2.2.2.1 hn4 dL_law_301 ?_
  have hI := I.2.2.2.2.2.2.1
  refine lm_i (As := [.int (xs (x4 + 1).toNatClampNeg), .int (xs (x4 + 2).toNatClampNeg), .int (xs (x4 + 3).toNatClampNeg), .int (xs (x4 + 4).toNatClampNeg)]) (rest := [.int r274]) I ⟨hx, hb, hml, hown, hts⟩ (c_X10_sum_0 l D cy mo a f g r q ((xs (x4 + 1).toNatClampNeg)) ((xs (x4 + 2).toNatClampNeg)) ((xs (x4 + 3).toNatClampNeg)) ((xs (x4 + 4).toNatClampNeg)) hDM hI h10) (cwV 4 hts gL_law_X10_sum rfl rfl rfl (by decide +kernel) ⟨Nat.le_of_ble_eq_true rfl, Nat.le_of_ble_eq_true rfl⟩) hK hAM rfl hl.1 rfl (Nat.le_of_ble_eq_true rfl) dL_law_302 ⟨by omega, by omega⟩ (fun _ _ h9 => by obtain ⟨rfl, h9⟩ := h9; exact hI) (fun r302 u H locs q302 I => ?_)
  obtain ⟨-, q302⟩ := q302
  obtain ⟨f, g, r, q⟩ := u
  have I : LI D cy s xo mo ou a M G W' f g r q H locs := I
  have e9 : r274 = r302 := q274.trans q302.symm
  refine lv_icmp_eq (tgt := 2469) hx hb dL_law_305 (by decide) (fun c9 => ?_) (fun c9 => absurd e9 c9)
  refine W.widen (k := C + 7) (n := S + 588) (by omega) (by omega) ?_
  exact kk _ _ _ _ _ _ _ _ _ I (lv_sub hl [0, 1, 2, 3, 4] rfl)
set_option maxHeartbeats 4000000 in
set_option maxRecDepth 100000 in
theorem lcase_2 {p : Program} {l : Launch} {e : Env} {s : State} {m : MethodId} {below : List Frame} {meth : Method} {c : Code} {b L : Nat} {xs : Nat → Int32} {D : va_G} {cy : Nat → ClassId} {xo mo ou : Nat} {a : Nat → Nat} {M : Option Nat} {G : cG} {W' : va_W} {f : Nat → Int32} {g : Nat → Int64} {r : Nat → Nat → Int32} {q : Nat → Nat → Int64} {H : Heap} {locs : List Loc} {ls : Array Slot} {Q : State → Prop} {C S : Nat} (X : LX p l s m c b L xs D cy mo a) (I : LI D cy s xo mo ou a M G W' f g r q H locs) (hF : FR cy xo W' f r) {x4 : Int32} (h4 : 0 ≤ x4.toInt ∧ x4.toInt + 8 ≤ (L : Int) ∧ L ≤ 4096) (hC : C + 7 ≤ 600002) (hSl : S + 53273 ≤ 7302232) (hl : lv_has ls 8 [(0, .ref b), (1, .ref xo), (2, .ref mo), (3, .ref ou), (4, .int x4)]) (kk : ∀ (G : cG) (W' : va_W) (f : Nat → Int32) (g : Nat → Int64) (r : Nat → Nat → Int32) (q : Nat → Nat → Int64) (H : Heap) (locs : List Loc) (ls : Array Slot), LI D cy s xo mo ou a M G W' f g r q H locs → lv_has ls 8 [(0, .ref b), (1, .ref xo), (2, .ref mo), (3, .ref ou), (4, .int x4)] → W p l e room_1 s m #[Value.ref b] below meth c H locs (C + 7) (S + 588) Q (F0 m 2469 ls [])) : W p l e room_1 s m #[Value.ref b] below meth c H locs C S Q (F0 m 310 ls []) := by
  obtain ⟨⟨hx, hb, hml, hown, hts⟩, ⟨hXs, hbl⟩, ⟨hK, hV, hZ, hXT⟩, hst, hDM, hAM⟩ := id X
  have h1 : f 1 = 0 := hF.1 1
  have h10 : (f 1).toInt = 0 := by rw [h1]; rfl
  have h23 : f 23 = 0 := hF.1 23
  have h230 : (f 23).toInt = 0 := by rw [h23]; rfl
  have h29 : ∀ i, r 29 i = 0 := hF.2.1
  have hbA : ¬ AL s b := Nat.not_le.mpr hbl
  have hRc : room_1.cells = 600002 := rfl
  have hRs : room_1.slots = 7302232 := rfl
  have hn1 : vp_in (x4 + 1) L := l_in (c := 1) h4 rfl (by decide)
  have hn2 : vp_in (x4 + 2) L := l_in (c := 2) h4 rfl (by decide)
  have hn3 : vp_in (x4 + 3) L := l_in (c := 3) h4 rfl (by decide)
  have hn4 : vp_in (x4 + 4) L := l_in (c := 4) h4 rfl (by decide)
  have hn5 : vp_in (x4 + 5) L := l_in (c := 5) h4 rfl (by decide)
  have hn6 : vp_in (x4 + 6) L := l_in (c := 6) h4 rfl (by decide)
  have hn7 : vp_in (x4 + 7) L := l_in (c := 7) h4 rfl (by decide)
  refine lv_aload_n hx hb dL_law_310 rfl (lv_at hl 1 rfl) ?_
  refine lv_aload_n hx hb dL_law_311 rfl (lv_at hl 0 rfl) ?_
  refine lv_iload hx hb dL_law_312 (lv_at hl 4 rfl) ?_
  refine lv_iconst (v := 1) hx hb dL_law_314 (by decide) ?_
  refine lv_iadd hx hb dL_law_315 ?_
  refine va_sld hx hb hXs hbl hbA I.2.2.2.2.2.2.2.2.1 hn1 dL_law_316 ?_
  refine lv_aload_n hx hb dL_law_317 rfl (lv_at hl 0 rfl) ?_
  refine lv_iload hx hb dL_law_318 (lv_at hl 4 rfl) ?_
  refine lv_iconst (v := 2) hx hb dL_law_320 (by decide) ?_
  refine lv_iadd hx hb dL_law_321 ?_
  refine va_sld hx hb hXs hbl hbA I.2.2.2.2.2.2.2.2.1 hn2 dL_law_322 ?_
  refine lv_aload_n hx hb dL_law_323 rfl (lv_at hl 0 rfl) ?_
  refine lv_iload hx hb dL_law_324 (lv_at hl 4 rfl) ?_
  refine lv_iconst (v := 3) hx hb dL_law_326 (by decide) ?_
  refine lv_iadd hx hb dL_law_327 ?_
  refine va_sld hx hb hXs hbl hbA I.2.2.2.2.2.2.2.2.1 hn3 dL_law_328 ?_
  refine lv_i2l (v := ((xs (x4 + 3).toNatClampNeg)).toInt64) hx hb dL_law_329 rfl ?_
  refine lv_bipush (v := 32) hx hb dL_law_330 (by decide) ?_
  refine lv_lshl (v := (((xs (x4 + 3).toNatClampNeg)).toInt64) <<< ((32 : Int32).toInt64 &&& 63)) hx hb dL_law_332 rfl ?_
  refine lv_aload_n hx hb dL_law_333 rfl (lv_at hl 0 rfl) ?_
  refine lv_iload hx hb dL_law_334 (lv_at hl 4 rfl) ?_
  refine lv_iconst (v := 4) hx hb dL_law_336 (by decide) ?_
  refine lv_iadd hx hb dL_law_337 ?_
  refine va_sld hx hb hXs hbl hbA I.2.2.2.2.2.2.2.2.1 hn4 dL_law_338 ?_
  refine lv_i2l (v := ((xs (x4 + 4).toNatClampNeg)).toInt64) hx hb dL_law_339 rfl ?_
  refine lv_ldc2 hx hb hown (hts (.constantLong RL 45 (4294967295)) (by decide +kernel)) dL_law_340 ?_
  refine lv_land hx hb dL_law_343 ?_
  refine lv_topl (fun v343 e343 => ?_)
  refine lv_lor hx hb dL_law_344 ?_
  refine lv_topl (fun v344 e344 => ?_)
  obtain ⟨bs, js, sh, wk, ll, jc, lc, lb, hM⟩ := I.2.2.2.2.2.2.2.1
  obtain ⟨rfl, rfl, rfl, hSh, fl, hfl⟩ := hF.at I.2.2.1 hM
  refine lk3_ri I (va_runV (g := F0 m 345 ls ([.long v344, .int (xs (x4 + 2).toNatClampNeg), .int (xs (x4 + 1).toNatClampNeg), .ref xo])) (As := [.int (xs (x4 + 1).toNatClampNeg), .int (xs (x4 + 2).toNatClampNeg), .long v344]) (rest := []) ⟨hx, hb, hml, hown, hts⟩ (c_X9_cast_0 l D cy (AC s mo a) G W' xo ((xs (x4 + 1).toNatClampNeg)) ((xs (x4 + 2).toNatClampNeg)) v344 I.2.2.1 I.2.2.2.1 I.2.2.2.2.1 hM h10) (cwV 3 hts gL_law_X9_cast rfl rfl rfl (by decide +kernel) ⟨Nat.le_of_ble_eq_true rfl, Nat.le_of_ble_eq_true rfl⟩) (l_preV I hK hV) rfl rfl hl.1 rfl (lv_room (Nat.le_of_ble_eq_true rfl)) dL_law_345 ⟨by omega, by omega⟩) (fun r345 u H locs q345 hX I => ?_)
  obtain ⟨G, W'⟩ := u
  have I : LI D cy s xo mo ou a M G W' f g r q H locs := I
  refine lv_aload_n hx hb dL_law_348 rfl (lv_at hl 2 rfl) ?_
  refine lv_aload_n hx hb dL_law_349 rfl (lv_at hl 0 rfl) ?_
  refine lv_iload hx hb dL_law_350 (lv_at hl 4 rfl) ?_
  refine lv_iconst (v := 1) hx hb dL_law_352 (by decide) ?_
  refine lv_iadd hx hb dL_law_353 ?_
  refine va_sld hx hb hXs hbl hbA I.2.2.2.2.2.2.2.2.1 hn1 dL_law_354 ?_
  refine lv_aload_n hx hb dL_law_355 rfl (lv_at hl 0 rfl) ?_
  refine lv_iload hx hb dL_law_356 (lv_at hl 4 rfl) ?_
  refine lv_iconst (v := 2) hx hb dL_law_358 (by decide) ?_
  refine lv_iadd hx hb dL_law_359 ?_
  refine va_sld hx hb hXs hbl hbA I.2.2.2.2.2.2.2.2.1 hn2 dL_law_360 ?_
  refine lv_aload_n hx hb dL_law_361 rfl (lv_at hl 0 rfl) ?_
  refine lv_iload hx hb dL_law_362 (lv_at hl 4 rfl) ?_
  refine lv_iconst (v := 3) hx hb dL_law_364 (by decide) ?_
  refine lv_iadd hx hb dL_law_365 ?_
  refine va_sld hx hb hXs hbl hbA I.2.2.2.2.2.2.2.2.1 hn3 dL_law_366 ?_
  refine lv_i2l (v := ((xs (x4 + 3).toNatClampNeg)).toInt64) hx hb dL_law_367 rfl ?_
  refine lv_bipush (v := 32) hx hb dL_law_368 (by decide) ?_
  refine lv_lshl (v := (((xs (x4 + 3).toNatClampNeg)).toInt64) <<< ((32 : Int32).toInt64 &&& 63)) hx hb dL_law_370 rfl ?_
  refine lv_aload_n hx hb dL_law_371 rfl (lv_at hl 0 rfl) ?_
  refine lv_iload hx hb dL_law_372 (lv_at hl 4 rfl) ?_
  refine lv_iconst (v := 4) hx hb dL_law_374 (by decide) ?_
  refine lv_iadd hx hb dL_law_375 ?_
  refine va_sld hx hb hXs hbl hbA I.2.2.2.2.2.2.2.2.1 hn4 dL_law_376 ?_
  refine lv_i2l (v := ((xs (x4 + 4).toNatClampNeg)).toInt64) hx hb dL_law_377 rfl ?_
  refine lv_ldc2 hx hb hown (hts (.constantLong RL 45 (4294967295)) (by decide +kernel)) dL_law_378 ?_
  refine lv_land hx hb dL_law_381 ?_
  refine lv_topl (fun v381 e381 => ?_)
  refine lv_lor hx hb dL_law_382 ?_
  refine lv_topl (fun v382 e382 => ?_)
  have hI := I.2.2.2.2.2.2.1
  refine lm_i (As := [.int (xs (x4 + 1).toNatClampNeg), .int (xs (x4 + 2).toNatClampNeg), .long v382]) (rest := [.int r345]) I ⟨hx, hb, hml, hown, hts⟩ (c_X10_cast_0 l D cy mo a f g r q ((xs (x4 + 1).toNatClampNeg)) ((xs (x4 + 2).toNatClampNeg)) v382 hDM hI h10) (cwV 3 hts gL_law_X10_cast rfl rfl rfl (by decide +kernel) ⟨Nat.le_of_ble_eq_true rfl, Nat.le_of_ble_eq_true rfl⟩) hK hAM rfl hl.1 rfl (Nat.le_of_ble_eq_true rfl) dL_law_383 ⟨by omega, by omega⟩ (fun _ _ h9 => by obtain ⟨rfl, h9⟩ := h9; exact hI) (fun r383 u H locs q383 I => ?_)
  obtain ⟨-, q383⟩ := q383
  obtain ⟨f, g, r, q⟩ := u
  have I : LI D cy s xo mo ou a M G W' f g r q H locs := I
  subst e382
  subst e381
  subst e344
  subst e343
  have e9 : r345 = r383 := q345.trans q383.symm
  refine lv_icmp_eq (tgt := 2469) hx hb dL_law_386 (by decide) (fun c9 => ?_) (fun c9 => absurd e9 c9)
  refine W.widen (k := C + 7) (n := S + 588) (by omega) (by omega) ?_
  exact kk _ _ _ _ _ _ _ _ _ I (lv_sub hl [0, 1, 2, 3, 4] rfl)
set_option maxHeartbeats 4000000 in
set_option maxRecDepth 100000 in
theorem lcase_3 {p : Program} {l : Launch} {e : Env} {s : State} {m : MethodId} {below : List Frame} {meth : Method} {c : Code} {b L : Nat} {xs : Nat → Int32} {D : va_G} {cy : Nat → ClassId} {xo mo ou : Nat} {a : Nat → Nat} {M : Option Nat} {G : cG} {W' : va_W} {f : Nat → Int32} {g : Nat → Int64} {r : Nat → Nat → Int32} {q : Nat → Nat → Int64} {H : Heap} {locs : List Loc} {ls : Array Slot} {Q : State → Prop} {C S : Nat} (X : LX p l s m c b L xs D cy mo a) (I : LI D cy s xo mo ou a M G W' f g r q H locs) (hF : FR cy xo W' f r) {x4 : Int32} (h4 : 0 ≤ x4.toInt ∧ x4.toInt + 8 ≤ (L : Int) ∧ L ≤ 4096) (hC : C + 7 ≤ 600002) (hSl : S + 53273 ≤ 7302232) (hl : lv_has ls 8 [(0, .ref b), (1, .ref xo), (2, .ref mo), (3, .ref ou), (4, .int x4)]) (kk : ∀ (G : cG) (W' : va_W) (f : Nat → Int32) (g : Nat → Int64) (r : Nat → Nat → Int32) (q : Nat → Nat → Int64) (H : Heap) (locs : List Loc) (ls : Array Slot), LI D cy s xo mo ou a M G W' f g r q H locs → lv_has ls 8 [(0, .ref b), (1, .ref xo), (2, .ref mo), (3, .ref ou), (4, .int x4)] → W p l e room_1 s m #[Value.ref b] below meth c H locs (C + 7) (S + 588) Q (F0 m 2469 ls [])) : W p l e room_1 s m #[Value.ref b] below meth c H locs C S Q (F0 m 391 ls []) := by
  obtain ⟨⟨hx, hb, hml, hown, hts⟩, ⟨hXs, hbl⟩, ⟨hK, hV, hZ, hXT⟩, hst, hDM, hAM⟩ := id X
  have h1 : f 1 = 0 := hF.1 1
  have h10 : (f 1).toInt = 0 := by rw [h1]; rfl
  have h23 : f 23 = 0 := hF.1 23
  have h230 : (f 23).toInt = 0 := by rw [h23]; rfl
  have h29 : ∀ i, r 29 i = 0 := hF.2.1
  have hbA : ¬ AL s b := Nat.not_le.mpr hbl
  have hRc : room_1.cells = 600002 := rfl
  have hRs : room_1.slots = 7302232 := rfl
  have hn1 : vp_in (x4 + 1) L := l_in (c := 1) h4 rfl (by decide)
  have hn2 : vp_in (x4 + 2) L := l_in (c := 2) h4 rfl (by decide)
  have hn3 : vp_in (x4 + 3) L := l_in (c := 3) h4 rfl (by decide)
  have hn4 : vp_in (x4 + 4) L := l_in (c := 4) h4 rfl (by decide)
  have hn5 : vp_in (x4 + 5) L := l_in (c := 5) h4 rfl (by decide)
  have hn6 : vp_in (x4 + 6) L := l_in (c := 6) h4 rfl (by decide)
  have hn7 : vp_in (x4 + 7) L := l_in (c := 7) h4 rfl (by decide)
  refine lv_aload_n hx hb dL_law_391 rfl (lv_at hl 1 rfl) ?_
  refine lv_aload_n hx hb dL_law_392 rfl (lv_at hl 0 rfl) ?_
  refine lv_iload hx hb dL_law_393 (lv_at hl 4 rfl) ?_
  refine lv_iconst (v := 1) hx hb dL_law_395 (by decide) ?_
  refine lv_iadd hx hb dL_law_396 ?_
  refine va_sld hx hb hXs hbl hbA I.2.2.2.2.2.2.2.2.1 hn1 dL_law_397 ?_
  refine lv_aload_n hx hb dL_law_398 rfl (lv_at hl 0 rfl) ?_
  refine lv_iload hx hb dL_law_399 (lv_at hl 4 rfl) ?_
  refine lv_iconst (v := 2) hx hb dL_law_401 (by decide) ?_
  refine lv_iadd hx hb dL_law_402 ?_
  refine va_sld hx hb hXs hbl hbA I.2.2.2.2.2.2.2.2.1 hn2 dL_law_403 ?_
  obtain ⟨bs, js, sh, wk, ll, jc, lc, lb, hM⟩ := I.2.2.2.2.2.2.2.1
  obtain ⟨rfl, rfl, rfl, hSh, fl, hfl⟩ := hF.at I.2.2.1 hM
  refine lk3_ri I (va_runV (g := F0 m 404 ls ([.int (xs (x4 + 2).toNatClampNeg), .int (xs (x4 + 1).toNatClampNeg), .ref xo])) (As := [.int (xs (x4 + 1).toNatClampNeg), .int (xs (x4 + 2).toNatClampNeg)]) (rest := []) ⟨hx, hb, hml, hown, hts⟩ (c_X9_untell_0 l D cy (AC s mo a) G W' xo ((xs (x4 + 1).toNatClampNeg)) ((xs (x4 + 2).toNatClampNeg)) I.2.2.1 I.2.2.2.1 I.2.2.2.2.1 hM h10) (cwV 2 hts gL_law_X9_untell rfl rfl rfl (by decide +kernel) ⟨Nat.le_of_ble_eq_true rfl, Nat.le_of_ble_eq_true rfl⟩) (l_preV I hK hV) rfl rfl hl.1 rfl (lv_room (Nat.le_of_ble_eq_true rfl)) dL_law_404 ⟨by omega, by omega⟩) (fun r404 u H locs q404 hX I => ?_)
  obtain ⟨G, W'⟩ := u
  have I : LI D cy s xo mo ou a M G W' f g r q H locs := I
  refine lv_aload_n hx hb dL_law_407 rfl (lv_at hl 2 rfl) ?_
  refine lv_aload_n hx hb dL_law_408 rfl (lv_at hl 0 rfl) ?_
  refine lv_iload hx hb dL_law_409 (lv_at hl 4 rfl) ?_
  refine lv_iconst (v := 1) hx hb dL_law_411 (by decide) ?_
  refine lv_iadd hx hb dL_law_412 ?_
  refine va_sld hx hb hXs hbl hbA I.2.2.2.2.2.2.2.2.1 hn1 dL_law_413 ?_
  refine lv_aload_n hx hb dL_law_414 rfl (lv_at hl 0 rfl) ?_
  refine lv_iload hx hb dL_law_415 (lv_at hl 4 rfl) ?_
  refine lv_iconst (v := 2) hx hb dL_law_417 (by decide) ?_
  refine lv_iadd hx hb dL_law_418 ?_
  refine va_sld hx hb hXs hbl hbA I.2.2.2.2.2.2.2.2.1 hn2 dL_law_419 ?_
  have hI := I.2.2.2.2.2.2.1
  refine lm_i (As := [.int (xs (x4 + 1).toNatClampNeg), .int (xs (x4 + 2).toNatClampNeg)]) (rest := [.int r404]) I ⟨hx, hb, hml, hown, hts⟩ (c_X10_untell_0 l D cy mo a f g r q ((xs (x4 + 1).toNatClampNeg)) ((xs (x4 + 2).toNatClampNeg)) hDM hI h10) (cwV 2 hts gL_law_X10_untell rfl rfl rfl (by decide +kernel) ⟨Nat.le_of_ble_eq_true rfl, Nat.le_of_ble_eq_true rfl⟩) hK hAM rfl hl.1 rfl (Nat.le_of_ble_eq_true rfl) dL_law_420 ⟨by omega, by omega⟩ (fun _ _ h9 => by obtain ⟨rfl, h9⟩ := h9; exact hI) (fun r420 u H locs q420 I => ?_)
  obtain ⟨-, q420⟩ := q420
  obtain ⟨f, g, r, q⟩ := u
  have I : LI D cy s xo mo ou a M G W' f g r q H locs := I
  have e9 : r404 = r420 := q404.trans q420.symm
  refine lv_icmp_eq (tgt := 2469) hx hb dL_law_423 (by decide) (fun c9 => ?_) (fun c9 => absurd e9 c9)
  refine W.widen (k := C + 7) (n := S + 588) (by omega) (by omega) ?_
  exact kk _ _ _ _ _ _ _ _ _ I (lv_sub hl [0, 1, 2, 3, 4] rfl)
set_option maxHeartbeats 4000000 in
set_option maxRecDepth 100000 in
theorem lcase_4 {p : Program} {l : Launch} {e : Env} {s : State} {m : MethodId} {below : List Frame} {meth : Method} {c : Code} {b L : Nat} {xs : Nat → Int32} {D : va_G} {cy : Nat → ClassId} {xo mo ou : Nat} {a : Nat → Nat} {M : Option Nat} {G : cG} {W' : va_W} {f : Nat → Int32} {g : Nat → Int64} {r : Nat → Nat → Int32} {q : Nat → Nat → Int64} {H : Heap} {locs : List Loc} {ls : Array Slot} {Q : State → Prop} {C S : Nat} (X : LX p l s m c b L xs D cy mo a) (I : LI D cy s xo mo ou a M G W' f g r q H locs) (hF : FR cy xo W' f r) {x4 : Int32} (h4 : 0 ≤ x4.toInt ∧ x4.toInt + 8 ≤ (L : Int) ∧ L ≤ 4096) (hC : C + 7 ≤ 600002) (hSl : S + 53273 ≤ 7302232) (hl : lv_has ls 8 [(0, .ref b), (1, .ref xo), (2, .ref mo), (3, .ref ou), (4, .int x4)]) (kk : ∀ (G : cG) (W' : va_W) (f : Nat → Int32) (g : Nat → Int64) (r : Nat → Nat → Int32) (q : Nat → Nat → Int64) (H : Heap) (locs : List Loc) (ls : Array Slot), LI D cy s xo mo ou a M G W' f g r q H locs → lv_has ls 8 [(0, .ref b), (1, .ref xo), (2, .ref mo), (3, .ref ou), (4, .int x4)] → W p l e room_1 s m #[Value.ref b] below meth c H locs (C + 7) (S + 588) Q (F0 m 2469 ls [])) : W p l e room_1 s m #[Value.ref b] below meth c H locs C S Q (F0 m 428 ls []) := by
  obtain ⟨⟨hx, hb, hml, hown, hts⟩, ⟨hXs, hbl⟩, ⟨hK, hV, hZ, hXT⟩, hst, hDM, hAM⟩ := id X
  have h1 : f 1 = 0 := hF.1 1
  have h10 : (f 1).toInt = 0 := by rw [h1]; rfl
  have h23 : f 23 = 0 := hF.1 23
  have h230 : (f 23).toInt = 0 := by rw [h23]; rfl
  have h29 : ∀ i, r 29 i = 0 := hF.2.1
  have hbA : ¬ AL s b := Nat.not_le.mpr hbl
  have hRc : room_1.cells = 600002 := rfl
  have hRs : room_1.slots = 7302232 := rfl
  have hn1 : vp_in (x4 + 1) L := l_in (c := 1) h4 rfl (by decide)
  have hn2 : vp_in (x4 + 2) L := l_in (c := 2) h4 rfl (by decide)
  have hn3 : vp_in (x4 + 3) L := l_in (c := 3) h4 rfl (by decide)
  have hn4 : vp_in (x4 + 4) L := l_in (c := 4) h4 rfl (by decide)
  have hn5 : vp_in (x4 + 5) L := l_in (c := 5) h4 rfl (by decide)
  have hn6 : vp_in (x4 + 6) L := l_in (c := 6) h4 rfl (by decide)
  have hn7 : vp_in (x4 + 7) L := l_in (c := 7) h4 rfl (by decide)
  refine lv_aload_n hx hb dL_law_428 rfl (lv_at hl 1 rfl) ?_
  refine lv_aload_n hx hb dL_law_429 rfl (lv_at hl 0 rfl) ?_
  refine lv_iload hx hb dL_law_430 (lv_at hl 4 rfl) ?_
  refine lv_iconst (v := 1) hx hb dL_law_432 (by decide) ?_
  refine lv_iadd hx hb dL_law_433 ?_
  refine va_sld hx hb hXs hbl hbA I.2.2.2.2.2.2.2.2.1 hn1 dL_law_434 ?_
  refine lv_aload_n hx hb dL_law_435 rfl (lv_at hl 0 rfl) ?_
  refine lv_iload hx hb dL_law_436 (lv_at hl 4 rfl) ?_
  refine lv_iconst (v := 2) hx hb dL_law_438 (by decide) ?_
  refine lv_iadd hx hb dL_law_439 ?_
  refine va_sld hx hb hXs hbl hbA I.2.2.2.2.2.2.2.2.1 hn2 dL_law_440 ?_
  refine lv_aload_n hx hb dL_law_441 rfl (lv_at hl 0 rfl) ?_
  refine lv_iload hx hb dL_law_442 (lv_at hl 4 rfl) ?_
  refine lv_iconst (v := 3) hx hb dL_law_444 (by decide) ?_
  refine lv_iadd hx hb dL_law_445 ?_
  refine va_sld hx hb hXs hbl hbA I.2.2.2.2.2.2.2.2.1 hn3 dL_law_446 ?_
  obtain ⟨bs, js, sh, wk, ll, jc, lc, lb, hM⟩ := I.2.2.2.2.2.2.2.1
  obtain ⟨rfl, rfl, rfl, hSh, fl, hfl⟩ := hF.at I.2.2.1 hM
  refine lk3_ri I (va_runV (g := F0 m 447 ls ([.int (xs (x4 + 3).toNatClampNeg), .int (xs (x4 + 2).toNatClampNeg), .int (xs (x4 + 1).toNatClampNeg), .ref xo])) (As := [.int (xs (x4 + 1).toNatClampNeg), .int (xs (x4 + 2).toNatClampNeg), .int (xs (x4 + 3).toNatClampNeg)]) (rest := []) ⟨hx, hb, hml, hown, hts⟩ (c_X9_hold_0 l D cy (AC s mo a) G W' xo ((xs (x4 + 1).toNatClampNeg)) ((xs (x4 + 2).toNatClampNeg)) ((xs (x4 + 3).toNatClampNeg)) I.2.2.1 I.2.2.2.1 I.2.2.2.2.1 hM h10) (cwV 3 hts gL_law_X9_hold rfl rfl rfl (by decide +kernel) ⟨Nat.le_of_ble_eq_true rfl, Nat.le_of_ble_eq_true rfl⟩) (l_preV I hK hV) rfl rfl hl.1 rfl (lv_room (Nat.le_of_ble_eq_true rfl)) dL_law_447 ⟨by omega, by omega⟩) (fun r447 u H locs q447 hX I => ?_)
  obtain ⟨G, W'⟩ := u
  have I : LI D cy s xo mo ou a M G W' f g r q H locs := I
  refine lv_aload_n hx hb dL_law_450 rfl (lv_at hl 2 rfl) ?_
  refine lv_aload_n hx hb dL_law_451 rfl (lv_at hl 0 rfl) ?_
  refine lv_iload hx hb dL_law_452 (lv_at hl 4 rfl) ?_
  refine lv_iconst (v := 1) hx hb dL_law_454 (by decide) ?_
  refine lv_iadd hx hb dL_law_455 ?_
  refine va_sld hx hb hXs hbl hbA I.2.2.2.2.2.2.2.2.1 hn1 dL_law_456 ?_
  refine lv_aload_n hx hb dL_law_457 rfl (lv_at hl 0 rfl) ?_
  refine lv_iload hx hb dL_law_458 (lv_at hl 4 rfl) ?_
  refine lv_iconst (v := 2) hx hb dL_law_460 (by decide) ?_
  refine lv_iadd hx hb dL_law_461 ?_
  refine va_sld hx hb hXs hbl hbA I.2.2.2.2.2.2.2.2.1 hn2 dL_law_462 ?_
  refine lv_aload_n hx hb dL_law_463 rfl (lv_at hl 0 rfl) ?_
  refine lv_iload hx hb dL_law_464 (lv_at hl 4 rfl) ?_
  refine lv_iconst (v := 3) hx hb dL_law_466 (by decide) ?_
  refine lv_iadd hx hb dL_law_467 ?_
  refine va_sld hx hb hXs hbl hbA I.2.2.2.2.2.2.2.2.1 hn3 dL_law_468 ?_
  have hI := I.2.2.2.2.2.2.1
  refine lm_i (As := [.int (xs (x4 + 1).toNatClampNeg), .int (xs (x4 + 2).toNatClampNeg), .int (xs (x4 + 3).toNatClampNeg)]) (rest := [.int r447]) I ⟨hx, hb, hml, hown, hts⟩ (c_X10_hold_0 l D cy mo a f g r q ((xs (x4 + 1).toNatClampNeg)) ((xs (x4 + 2).toNatClampNeg)) ((xs (x4 + 3).toNatClampNeg)) hDM hI h10) (cwV 3 hts gL_law_X10_hold rfl rfl rfl (by decide +kernel) ⟨Nat.le_of_ble_eq_true rfl, Nat.le_of_ble_eq_true rfl⟩) hK hAM rfl hl.1 rfl (Nat.le_of_ble_eq_true rfl) dL_law_469 ⟨by omega, by omega⟩ (fun _ _ h9 => by obtain ⟨rfl, h9⟩ := h9; exact hI) (fun r469 u H locs q469 I => ?_)
  obtain ⟨-, q469⟩ := q469
  obtain ⟨f, g, r, q⟩ := u
  have I : LI D cy s xo mo ou a M G W' f g r q H locs := I
  have e9 : r447 = r469 := q447.trans q469.symm
  refine lv_icmp_eq (tgt := 2469) hx hb dL_law_472 (by decide) (fun c9 => ?_) (fun c9 => absurd e9 c9)
  refine W.widen (k := C + 7) (n := S + 588) (by omega) (by omega) ?_
  exact kk _ _ _ _ _ _ _ _ _ I (lv_sub hl [0, 1, 2, 3, 4] rfl)
set_option maxHeartbeats 4000000 in
set_option maxRecDepth 100000 in
theorem lcase_5 {p : Program} {l : Launch} {e : Env} {s : State} {m : MethodId} {below : List Frame} {meth : Method} {c : Code} {b L : Nat} {xs : Nat → Int32} {D : va_G} {cy : Nat → ClassId} {xo mo ou : Nat} {a : Nat → Nat} {M : Option Nat} {G : cG} {W' : va_W} {f : Nat → Int32} {g : Nat → Int64} {r : Nat → Nat → Int32} {q : Nat → Nat → Int64} {H : Heap} {locs : List Loc} {ls : Array Slot} {Q : State → Prop} {C S : Nat} (X : LX p l s m c b L xs D cy mo a) (I : LI D cy s xo mo ou a M G W' f g r q H locs) (hF : FR cy xo W' f r) {x4 : Int32} (h4 : 0 ≤ x4.toInt ∧ x4.toInt + 8 ≤ (L : Int) ∧ L ≤ 4096) (hC : C + 7 ≤ 600002) (hSl : S + 53273 ≤ 7302232) (hl : lv_has ls 8 [(0, .ref b), (1, .ref xo), (2, .ref mo), (3, .ref ou), (4, .int x4)]) (kk : ∀ (G : cG) (W' : va_W) (f : Nat → Int32) (g : Nat → Int64) (r : Nat → Nat → Int32) (q : Nat → Nat → Int64) (H : Heap) (locs : List Loc) (ls : Array Slot), LI D cy s xo mo ou a M G W' f g r q H locs → lv_has ls 8 [(0, .ref b), (1, .ref xo), (2, .ref mo), (3, .ref ou), (4, .int x4)] → W p l e room_1 s m #[Value.ref b] below meth c H locs (C + 7) (S + 588) Q (F0 m 2469 ls [])) : W p l e room_1 s m #[Value.ref b] below meth c H locs C S Q (F0 m 477 ls []) := by
  obtain ⟨⟨hx, hb, hml, hown, hts⟩, ⟨hXs, hbl⟩, ⟨hK, hV, hZ, hXT⟩, hst, hDM, hAM⟩ := id X
  have h1 : f 1 = 0 := hF.1 1
  have h10 : (f 1).toInt = 0 := by rw [h1]; rfl
  have h23 : f 23 = 0 := hF.1 23
  have h230 : (f 23).toInt = 0 := by rw [h23]; rfl
  have h29 : ∀ i, r 29 i = 0 := hF.2.1
  have hbA : ¬ AL s b := Nat.not_le.mpr hbl
  have hRc : room_1.cells = 600002 := rfl
  have hRs : room_1.slots = 7302232 := rfl
  have hn1 : vp_in (x4 + 1) L := l_in (c := 1) h4 rfl (by decide)
  have hn2 : vp_in (x4 + 2) L := l_in (c := 2) h4 rfl (by decide)
  have hn3 : vp_in (x4 + 3) L := l_in (c := 3) h4 rfl (by decide)
  have hn4 : vp_in (x4 + 4) L := l_in (c := 4) h4 rfl (by decide)
  have hn5 : vp_in (x4 + 5) L := l_in (c := 5) h4 rfl (by decide)
  have hn6 : vp_in (x4 + 6) L := l_in (c := 6) h4 rfl (by decide)
  have hn7 : vp_in (x4 + 7) L := l_in (c := 7) h4 rfl (by decide)
  refine lv_aload_n hx hb dL_law_477 rfl (lv_at hl 1 rfl) ?_
  refine lv_aload_n hx hb dL_law_478 rfl (lv_at hl 0 rfl) ?_
  refine lv_iload hx hb dL_law_479 (lv_at hl 4 rfl) ?_
  refine lv_iconst (v := 1) hx hb dL_law_481 (by decide) ?_
  refine lv_iadd hx hb dL_law_482 ?_
  refine va_sld hx hb hXs hbl hbA I.2.2.2.2.2.2.2.2.1 hn1 dL_law_483 ?_
  refine lv_aload_n hx hb dL_law_484 rfl (lv_at hl 0 rfl) ?_
  refine lv_iload hx hb dL_law_485 (lv_at hl 4 rfl) ?_
  refine lv_iconst (v := 2) hx hb dL_law_487 (by decide) ?_
  refine lv_iadd hx hb dL_law_488 ?_
  refine va_sld hx hb hXs hbl hbA I.2.2.2.2.2.2.2.2.1 hn2 dL_law_489 ?_
  refine lv_aload_n hx hb dL_law_490 rfl (lv_at hl 0 rfl) ?_
  refine lv_iload hx hb dL_law_491 (lv_at hl 4 rfl) ?_
  refine lv_iconst (v := 3) hx hb dL_law_493 (by decide) ?_
  refine lv_iadd hx hb dL_law_494 ?_
  refine va_sld hx hb hXs hbl hbA I.2.2.2.2.2.2.2.2.1 hn3 dL_law_495 ?_
  obtain ⟨bs, js, sh, wk, ll, jc, lc, lb, hM⟩ := I.2.2.2.2.2.2.2.1
  obtain ⟨rfl, rfl, rfl, hSh, fl, hfl⟩ := hF.at I.2.2.1 hM
  refine lk3_ri I (va_runV (g := F0 m 496 ls ([.int (xs (x4 + 3).toNatClampNeg), .int (xs (x4 + 2).toNatClampNeg), .int (xs (x4 + 1).toNatClampNeg), .ref xo])) (As := [.int (xs (x4 + 1).toNatClampNeg), .int (xs (x4 + 2).toNatClampNeg), .int (xs (x4 + 3).toNatClampNeg)]) (rest := []) ⟨hx, hb, hml, hown, hts⟩ (c_X9_mark_0 l D cy (AC s mo a) G W' xo ((xs (x4 + 1).toNatClampNeg)) ((xs (x4 + 2).toNatClampNeg)) ((xs (x4 + 3).toNatClampNeg)) I.2.2.1 I.2.2.2.1 I.2.2.2.2.1 hM h10) (cwV 3 hts gL_law_X9_mark rfl rfl rfl (by decide +kernel) ⟨Nat.le_of_ble_eq_true rfl, Nat.le_of_ble_eq_true rfl⟩) (l_preV I hK hV) rfl rfl hl.1 rfl (lv_room (Nat.le_of_ble_eq_true rfl)) dL_law_496 ⟨by omega, by omega⟩) (fun r496 u H locs q496 hX I => ?_)
  obtain ⟨G, W'⟩ := u
  have I : LI D cy s xo mo ou a M G W' f g r q H locs := I
  refine lv_aload_n hx hb dL_law_499 rfl (lv_at hl 2 rfl) ?_
  refine lv_aload_n hx hb dL_law_500 rfl (lv_at hl 0 rfl) ?_
  refine lv_iload hx hb dL_law_501 (lv_at hl 4 rfl) ?_
  refine lv_iconst (v := 1) hx hb dL_law_503 (by decide) ?_
  refine lv_iadd hx hb dL_law_504 ?_
  refine va_sld hx hb hXs hbl hbA I.2.2.2.2.2.2.2.2.1 hn1 dL_law_505 ?_
  refine lv_aload_n hx hb dL_law_506 rfl (lv_at hl 0 rfl) ?_
  refine lv_iload hx hb dL_law_507 (lv_at hl 4 rfl) ?_
  refine lv_iconst (v := 2) hx hb dL_law_509 (by decide) ?_
  refine lv_iadd hx hb dL_law_510 ?_
  refine va_sld hx hb hXs hbl hbA I.2.2.2.2.2.2.2.2.1 hn2 dL_law_511 ?_
  refine lv_aload_n hx hb dL_law_512 rfl (lv_at hl 0 rfl) ?_
  refine lv_iload hx hb dL_law_513 (lv_at hl 4 rfl) ?_
  refine lv_iconst (v := 3) hx hb dL_law_515 (by decide) ?_
  refine lv_iadd hx hb dL_law_516 ?_
  refine va_sld hx hb hXs hbl hbA I.2.2.2.2.2.2.2.2.1 hn3 dL_law_517 ?_
  have hI := I.2.2.2.2.2.2.1
  refine lm_i (As := [.int (xs (x4 + 1).toNatClampNeg), .int (xs (x4 + 2).toNatClampNeg), .int (xs (x4 + 3).toNatClampNeg)]) (rest := [.int r496]) I ⟨hx, hb, hml, hown, hts⟩ (c_X10_mark_0 l D cy mo a f g r q ((xs (x4 + 1).toNatClampNeg)) ((xs (x4 + 2).toNatClampNeg)) ((xs (x4 + 3).toNatClampNeg)) hDM hI h10) (cwV 3 hts gL_law_X10_mark rfl rfl rfl (by decide +kernel) ⟨Nat.le_of_ble_eq_true rfl, Nat.le_of_ble_eq_true rfl⟩) hK hAM rfl hl.1 rfl (Nat.le_of_ble_eq_true rfl) dL_law_518 ⟨by omega, by omega⟩ (fun _ _ h9 => by obtain ⟨rfl, h9⟩ := h9; exact hI) (fun r518 u H locs q518 I => ?_)
  obtain ⟨-, q518⟩ := q518
  obtain ⟨f, g, r, q⟩ := u
  have I : LI D cy s xo mo ou a M G W' f g r q H locs := I
  have e9 : r496 = r518 := q496.trans q518.symm
  refine lv_icmp_eq (tgt := 2469) hx hb dL_law_521 (by decide) (fun c9 => ?_) (fun c9 => absurd e9 c9)
  refine W.widen (k := C + 7) (n := S + 588) (by omega) (by omega) ?_
  exact kk _ _ _ _ _ _ _ _ _ I (lv_sub hl [0, 1, 2, 3, 4] rfl)
set_option maxHeartbeats 4000000 in
set_option maxRecDepth 100000 in
theorem lcase_6 {p : Program} {l : Launch} {e : Env} {s : State} {m : MethodId} {below : List Frame} {meth : Method} {c : Code} {b L : Nat} {xs : Nat → Int32} {D : va_G} {cy : Nat → ClassId} {xo mo ou : Nat} {a : Nat → Nat} {M : Option Nat} {G : cG} {W' : va_W} {f : Nat → Int32} {g : Nat → Int64} {r : Nat → Nat → Int32} {q : Nat → Nat → Int64} {H : Heap} {locs : List Loc} {ls : Array Slot} {Q : State → Prop} {C S : Nat} (X : LX p l s m c b L xs D cy mo a) (I : LI D cy s xo mo ou a M G W' f g r q H locs) (hF : FR cy xo W' f r) {x4 : Int32} (h4 : 0 ≤ x4.toInt ∧ x4.toInt + 8 ≤ (L : Int) ∧ L ≤ 4096) (hC : C + 7 ≤ 600002) (hSl : S + 53273 ≤ 7302232) (hl : lv_has ls 8 [(0, .ref b), (1, .ref xo), (2, .ref mo), (3, .ref ou), (4, .int x4)]) (kk : ∀ (G : cG) (W' : va_W) (f : Nat → Int32) (g : Nat → Int64) (r : Nat → Nat → Int32) (q : Nat → Nat → Int64) (H : Heap) (locs : List Loc) (ls : Array Slot), LI D cy s xo mo ou a M G W' f g r q H locs → lv_has ls 8 [(0, .ref b), (1, .ref xo), (2, .ref mo), (3, .ref ou), (4, .int x4)] → W p l e room_1 s m #[Value.ref b] below meth c H locs (C + 7) (S + 588) Q (F0 m 2469 ls [])) : W p l e room_1 s m #[Value.ref b] below meth c H locs C S Q (F0 m 526 ls []) := by
  obtain ⟨⟨hx, hb, hml, hown, hts⟩, ⟨hXs, hbl⟩, ⟨hK, hV, hZ, hXT⟩, hst, hDM, hAM⟩ := id X
  have h1 : f 1 = 0 := hF.1 1
  have h10 : (f 1).toInt = 0 := by rw [h1]; rfl
  have h23 : f 23 = 0 := hF.1 23
  have h230 : (f 23).toInt = 0 := by rw [h23]; rfl
  have h29 : ∀ i, r 29 i = 0 := hF.2.1
  have hbA : ¬ AL s b := Nat.not_le.mpr hbl
  have hRc : room_1.cells = 600002 := rfl
  have hRs : room_1.slots = 7302232 := rfl
  have hn1 : vp_in (x4 + 1) L := l_in (c := 1) h4 rfl (by decide)
  have hn2 : vp_in (x4 + 2) L := l_in (c := 2) h4 rfl (by decide)
  have hn3 : vp_in (x4 + 3) L := l_in (c := 3) h4 rfl (by decide)
  have hn4 : vp_in (x4 + 4) L := l_in (c := 4) h4 rfl (by decide)
  have hn5 : vp_in (x4 + 5) L := l_in (c := 5) h4 rfl (by decide)
  have hn6 : vp_in (x4 + 6) L := l_in (c := 6) h4 rfl (by decide)
  have hn7 : vp_in (x4 + 7) L := l_in (c := 7) h4 rfl (by decide)
  refine lv_aload_n hx hb dL_law_526 rfl (lv_at hl 1 rfl) ?_
  refine lv_aload_n hx hb dL_law_527 rfl (lv_at hl 0 rfl) ?_
  refine lv_iload hx hb dL_law_528 (lv_at hl 4 rfl) ?_
  refine lv_iconst (v := 1) hx hb dL_law_530 (by decide) ?_
  refine lv_iadd hx hb dL_law_531 ?_
  refine va_sld hx hb hXs hbl hbA I.2.2.2.2.2.2.2.2.1 hn1 dL_law_532 ?_
  refine lv_aload_n hx hb dL_law_533 rfl (lv_at hl 0 rfl) ?_
  refine lv_iload hx hb dL_law_534 (lv_at hl 4 rfl) ?_
  refine lv_iconst (v := 2) hx hb dL_law_536 (by decide) ?_
  refine lv_iadd hx hb dL_law_537 ?_
  refine va_sld hx hb hXs hbl hbA I.2.2.2.2.2.2.2.2.1 hn2 dL_law_538 ?_
  refine lv_aload_n hx hb dL_law_539 rfl (lv_at hl 0 rfl) ?_
  refine lv_iload hx hb dL_law_540 (lv_at hl 4 rfl) ?_
  refine lv_iconst (v := 3) hx hb dL_law_542 (by decide) ?_
  refine lv_iadd hx hb dL_law_543 ?_
  refine va_sld hx hb hXs hbl hbA I.2.2.2.2.2.2.2.2.1 hn3 dL_law_544 ?_
  obtain ⟨bs, js, sh, wk, ll, jc, lc, lb, hM⟩ := I.2.2.2.2.2.2.2.1
  obtain ⟨rfl, rfl, rfl, hSh, fl, hfl⟩ := hF.at I.2.2.1 hM
  refine lk3_ri I (va_runV (g := F0 m 545 ls ([.int (xs (x4 + 3).toNatClampNeg), .int (xs (x4 + 2).toNatClampNeg), .int (xs (x4 + 1).toNatClampNeg), .ref xo])) (As := [.int (xs (x4 + 1).toNatClampNeg), .int (xs (x4 + 2).toNatClampNeg), .int (xs (x4 + 3).toNatClampNeg)]) (rest := []) ⟨hx, hb, hml, hown, hts⟩ (c_X9_told_0 l D cy (AC s mo a) G W' xo ((xs (x4 + 1).toNatClampNeg)) ((xs (x4 + 2).toNatClampNeg)) ((xs (x4 + 3).toNatClampNeg)) I.2.2.1 I.2.2.2.1 I.2.2.2.2.1 hM h10) (cwV 3 hts gL_law_X9_told rfl rfl rfl (by decide +kernel) ⟨Nat.le_of_ble_eq_true rfl, Nat.le_of_ble_eq_true rfl⟩) (l_preV I hK hV) rfl rfl hl.1 rfl (lv_room (Nat.le_of_ble_eq_true rfl)) dL_law_545 ⟨by omega, by omega⟩) (fun r545 u H locs q545 hX I => ?_)
  obtain ⟨G, W'⟩ := u
  have I : LI D cy s xo mo ou a M G W' f g r q H locs := I
  refine lv_aload_n hx hb dL_law_548 rfl (lv_at hl 2 rfl) ?_
  refine lv_aload_n hx hb dL_law_549 rfl (lv_at hl 0 rfl) ?_
  refine lv_iload hx hb dL_law_550 (lv_at hl 4 rfl) ?_
  refine lv_iconst (v := 1) hx hb dL_law_552 (by decide) ?_
  refine lv_iadd hx hb dL_law_553 ?_
  refine va_sld hx hb hXs hbl hbA I.2.2.2.2.2.2.2.2.1 hn1 dL_law_554 ?_
  refine lv_aload_n hx hb dL_law_555 rfl (lv_at hl 0 rfl) ?_
  refine lv_iload hx hb dL_law_556 (lv_at hl 4 rfl) ?_
  refine lv_iconst (v := 2) hx hb dL_law_558 (by decide) ?_
  refine lv_iadd hx hb dL_law_559 ?_
  refine va_sld hx hb hXs hbl hbA I.2.2.2.2.2.2.2.2.1 hn2 dL_law_560 ?_
  refine lv_aload_n hx hb dL_law_561 rfl (lv_at hl 0 rfl) ?_
  refine lv_iload hx hb dL_law_562 (lv_at hl 4 rfl) ?_
  refine lv_iconst (v := 3) hx hb dL_law_564 (by decide) ?_
  refine lv_iadd hx hb dL_law_565 ?_
  refine va_sld hx hb hXs hbl hbA I.2.2.2.2.2.2.2.2.1 hn3 dL_law_566 ?_
  have hI := I.2.2.2.2.2.2.1
  refine lm_i (As := [.int (xs (x4 + 1).toNatClampNeg), .int (xs (x4 + 2).toNatClampNeg), .int (xs (x4 + 3).toNatClampNeg)]) (rest := [.int r545]) I ⟨hx, hb, hml, hown, hts⟩ (c_X10_told_0 l D cy mo a f g r q ((xs (x4 + 1).toNatClampNeg)) ((xs (x4 + 2).toNatClampNeg)) ((xs (x4 + 3).toNatClampNeg)) hDM hI h10) (cwV 3 hts gL_law_X10_told rfl rfl rfl (by decide +kernel) ⟨Nat.le_of_ble_eq_true rfl, Nat.le_of_ble_eq_true rfl⟩) hK hAM rfl hl.1 rfl (Nat.le_of_ble_eq_true rfl) dL_law_567 ⟨by omega, by omega⟩ (fun _ _ h9 => by obtain ⟨rfl, h9⟩ := h9; exact hI) (fun r567 u H locs q567 I => ?_)
  obtain ⟨-, q567⟩ := q567
  obtain ⟨f, g, r, q⟩ := u
  have I : LI D cy s xo mo ou a M G W' f g r q H locs := I
  have e9 : r545 = r567 := q545.trans q567.symm
  refine lv_icmp_eq (tgt := 2469) hx hb dL_law_570 (by decide) (fun c9 => ?_) (fun c9 => absurd e9 c9)
  refine W.widen (k := C + 7) (n := S + 588) (by omega) (by omega) ?_
  exact kk _ _ _ _ _ _ _ _ _ I (lv_sub hl [0, 1, 2, 3, 4] rfl)
set_option maxHeartbeats 4000000 in
set_option maxRecDepth 100000 in
theorem lcase_7 {p : Program} {l : Launch} {e : Env} {s : State} {m : MethodId} {below : List Frame} {meth : Method} {c : Code} {b L : Nat} {xs : Nat → Int32} {D : va_G} {cy : Nat → ClassId} {xo mo ou : Nat} {a : Nat → Nat} {M : Option Nat} {G : cG} {W' : va_W} {f : Nat → Int32} {g : Nat → Int64} {r : Nat → Nat → Int32} {q : Nat → Nat → Int64} {H : Heap} {locs : List Loc} {ls : Array Slot} {Q : State → Prop} {C S : Nat} (X : LX p l s m c b L xs D cy mo a) (I : LI D cy s xo mo ou a M G W' f g r q H locs) (hF : FR cy xo W' f r) {x4 : Int32} (h4 : 0 ≤ x4.toInt ∧ x4.toInt + 8 ≤ (L : Int) ∧ L ≤ 4096) (hC : C + 7 ≤ 600002) (hSl : S + 53273 ≤ 7302232) (hl : lv_has ls 8 [(0, .ref b), (1, .ref xo), (2, .ref mo), (3, .ref ou), (4, .int x4)]) (kk : ∀ (G : cG) (W' : va_W) (f : Nat → Int32) (g : Nat → Int64) (r : Nat → Nat → Int32) (q : Nat → Nat → Int64) (H : Heap) (locs : List Loc) (ls : Array Slot), LI D cy s xo mo ou a M G W' f g r q H locs → lv_has ls 8 [(0, .ref b), (1, .ref xo), (2, .ref mo), (3, .ref ou), (4, .int x4)] → W p l e room_1 s m #[Value.ref b] below meth c H locs (C + 7) (S + 588) Q (F0 m 2469 ls [])) : W p l e room_1 s m #[Value.ref b] below meth c H locs C S Q (F0 m 575 ls []) := by
  obtain ⟨⟨hx, hb, hml, hown, hts⟩, ⟨hXs, hbl⟩, ⟨hK, hV, hZ, hXT⟩, hst, hDM, hAM⟩ := id X
  have h1 : f 1 = 0 := hF.1 1
  have h10 : (f 1).toInt = 0 := by rw [h1]; rfl
  have h23 : f 23 = 0 := hF.1 23
  have h230 : (f 23).toInt = 0 := by rw [h23]; rfl
  have h29 : ∀ i, r 29 i = 0 := hF.2.1
  have hbA : ¬ AL s b := Nat.not_le.mpr hbl
  have hRc : room_1.cells = 600002 := rfl
  have hRs : room_1.slots = 7302232 := rfl
  have hn1 : vp_in (x4 + 1) L := l_in (c := 1) h4 rfl (by decide)
  have hn2 : vp_in (x4 + 2) L := l_in (c := 2) h4 rfl (by decide)
  have hn3 : vp_in (x4 + 3) L := l_in (c := 3) h4 rfl (by decide)
  have hn4 : vp_in (x4 + 4) L := l_in (c := 4) h4 rfl (by decide)
  have hn5 : vp_in (x4 + 5) L := l_in (c := 5) h4 rfl (by decide)
  have hn6 : vp_in (x4 + 6) L := l_in (c := 6) h4 rfl (by decide)
  have hn7 : vp_in (x4 + 7) L := l_in (c := 7) h4 rfl (by decide)
  refine lv_aload_n hx hb dL_law_575 rfl (lv_at hl 1 rfl) ?_
  refine lv_aload_n hx hb dL_law_576 rfl (lv_at hl 0 rfl) ?_
  refine lv_iload hx hb dL_law_577 (lv_at hl 4 rfl) ?_
  refine lv_iconst (v := 1) hx hb dL_law_579 (by decide) ?_
  refine lv_iadd hx hb dL_law_580 ?_
  refine va_sld hx hb hXs hbl hbA I.2.2.2.2.2.2.2.2.1 hn1 dL_law_581 ?_
  refine lv_aload_n hx hb dL_law_582 rfl (lv_at hl 0 rfl) ?_
  refine lv_iload hx hb dL_law_583 (lv_at hl 4 rfl) ?_
  refine lv_iconst (v := 2) hx hb dL_law_585 (by decide) ?_
  refine lv_iadd hx hb dL_law_586 ?_
  refine va_sld hx hb hXs hbl hbA I.2.2.2.2.2.2.2.2.1 hn2 dL_law_587 ?_
  refine lv_aload_n hx hb dL_law_588 rfl (lv_at hl 0 rfl) ?_
  refine lv_iload hx hb dL_law_589 (lv_at hl 4 rfl) ?_
  refine lv_iconst (v := 3) hx hb dL_law_591 (by decide) ?_
  refine lv_iadd hx hb dL_law_592 ?_
  refine va_sld hx hb hXs hbl hbA I.2.2.2.2.2.2.2.2.1 hn3 dL_law_593 ?_
  refine lv_i2l (v := ((xs (x4 + 3).toNatClampNeg)).toInt64) hx hb dL_law_594 rfl ?_
  refine lv_bipush (v := 32) hx hb dL_law_595 (by decide) ?_
  refine lv_lshl (v := (((xs (x4 + 3).toNatClampNeg)).toInt64) <<< ((32 : Int32).toInt64 &&& 63)) hx hb dL_law_597 rfl ?_
  refine lv_aload_n hx hb dL_law_598 rfl (lv_at hl 0 rfl) ?_
  refine lv_iload hx hb dL_law_599 (lv_at hl 4 rfl) ?_
  refine lv_iconst (v := 4) hx hb dL_law_601 (by decide) ?_
  refine lv_iadd hx hb dL_law_602 ?_
  refine va_sld hx hb hXs hbl hbA I.2.2.2.2.2.2.2.2.1 hn4 dL_law_603 ?_
  refine lv_i2l (v := ((xs (x4 + 4).toNatClampNeg)).toInt64) hx hb dL_law_604 rfl ?_
  refine lv_ldc2 hx hb hown (hts (.constantLong RL 45 (4294967295)) (by decide +kernel)) dL_law_605 ?_
  refine lv_land hx hb dL_law_608 ?_
  refine lv_topl (fun v608 e608 => ?_)
  refine lv_lor hx hb dL_law_609 ?_
  refine lv_topl (fun v609 e609 => ?_)
  refine lv_aload_n hx hb dL_law_610 rfl (lv_at hl 0 rfl) ?_
  refine lv_iload hx hb dL_law_611 (lv_at hl 4 rfl) ?_
  refine lv_iconst (v := 5) hx hb dL_law_613 (by decide) ?_
  refine lv_iadd hx hb dL_law_614 ?_
  refine va_sld hx hb hXs hbl hbA I.2.2.2.2.2.2.2.2.1 hn5 dL_law_615 ?_
  refine lv_aload_n hx hb dL_law_616 rfl (lv_at hl 0 rfl) ?_
  refine lv_iload hx hb dL_law_617 (lv_at hl 4 rfl) ?_
  refine lv_bipush (v := 6) hx hb dL_law_619 (by decide) ?_
  refine lv_iadd hx hb dL_law_621 ?_
  refine va_sld hx hb hXs hbl hbA I.2.2.2.2.2.2.2.2.1 hn6 dL_law_622 ?_
  refine lk_i I (va_runV (g := F0 m 623 ls ([.int (xs (x4 + 6).toNatClampNeg), .int (xs (x4 + 5).toNatClampNeg), .long v609, .int (xs (x4 + 2).toNatClampNeg), .int (xs (x4 + 1).toNatClampNeg), .ref xo])) (As := [.int (xs (x4 + 1).toNatClampNeg), .int (xs (x4 + 2).toNatClampNeg), .long v609, .int (xs (x4 + 5).toNatClampNeg), .int (xs (x4 + 6).toNatClampNeg)]) (rest := []) ⟨hx, hb, hml, hown, hts⟩ (c_X9_shadow_x l D cy (AC s mo a) G W' xo ((xs (x4 + 1).toNatClampNeg)) ((xs (x4 + 2).toNatClampNeg)) v609 ((xs (x4 + 5).toNatClampNeg)) ((xs (x4 + 6).toNatClampNeg)) I.2.2.1 I.2.2.2.1 I.2.2.2.2.1) (cwV 5 hts gL_law_X9_shadow rfl rfl rfl (by decide +kernel) ⟨Nat.le_of_ble_eq_true rfl, Nat.le_of_ble_eq_true rfl⟩) (l_preV I hK hV) rfl rfl hl.1 rfl (lv_room (Nat.le_of_ble_eq_true rfl)) dL_law_623 ⟨by omega, by omega⟩) rfl (fun r623 u H locs q623 I => ?_)
  obtain ⟨G, W'⟩ := u
  have I : LI D cy s xo mo ou a M G W' f g r q H locs := I
  refine lv_aload_n hx hb dL_law_626 rfl (lv_at hl 2 rfl) ?_
  refine lv_aload_n hx hb dL_law_627 rfl (lv_at hl 0 rfl) ?_
  refine lv_iload hx hb dL_law_628 (lv_at hl 4 rfl) ?_
  refine lv_iconst (v := 1) hx hb dL_law_630 (by decide) ?_
  refine lv_iadd hx hb dL_law_631 ?_
  refine va_sld hx hb hXs hbl hbA I.2.2.2.2.2.2.2.2.1 hn1 dL_law_632 ?_
  refine lv_aload_n hx hb dL_law_633 rfl (lv_at hl 0 rfl) ?_
  refine lv_iload hx hb dL_law_634 (lv_at hl 4 rfl) ?_
  refine lv_iconst (v := 2) hx hb dL_law_636 (by decide) ?_
  refine lv_iadd hx hb dL_law_637 ?_
  refine va_sld hx hb hXs hbl hbA I.2.2.2.2.2.2.2.2.1 hn2 dL_law_638 ?_
  refine lv_aload_n hx hb dL_law_639 rfl (lv_at hl 0 rfl) ?_
  refine lv_iload hx hb dL_law_640 (lv_at hl 4 rfl) ?_
  refine lv_iconst (v := 3) hx hb dL_law_642 (by decide) ?_
  refine lv_iadd hx hb dL_law_643 ?_
  refine va_sld hx hb hXs hbl hbA I.2.2.2.2.2.2.2.2.1 hn3 dL_law_644 ?_
  refine lv_i2l (v := ((xs (x4 + 3).toNatClampNeg)).toInt64) hx hb dL_law_645 rfl ?_
  refine lv_bipush (v := 32) hx hb dL_law_646 (by decide) ?_
  refine lv_lshl (v := (((xs (x4 + 3).toNatClampNeg)).toInt64) <<< ((32 : Int32).toInt64 &&& 63)) hx hb dL_law_648 rfl ?_
  refine lv_aload_n hx hb dL_law_649 rfl (lv_at hl 0 rfl) ?_
  refine lv_iload hx hb dL_law_650 (lv_at hl 4 rfl) ?_
  refine lv_iconst (v := 4) hx hb dL_law_652 (by decide) ?_
  refine lv_iadd hx hb dL_law_653 ?_
  refine va_sld hx hb hXs hbl hbA I.2.2.2.2.2.2.2.2.1 hn4 dL_law_654 ?_
  refine lv_i2l (v := ((xs (x4 + 4).toNatClampNeg)).toInt64) hx hb dL_law_655 rfl ?_
  refine lv_ldc2 hx hb hown (hts (.constantLong RL 45 (4294967295)) (by decide +kernel)) dL_law_656 ?_
  refine lv_land hx hb dL_law_659 ?_
  refine lv_topl (fun v659 e659 => ?_)
  refine lv_lor hx hb dL_law_660 ?_
  refine lv_topl (fun v660 e660 => ?_)
  refine lv_aload_n hx hb dL_law_661 rfl (lv_at hl 0 rfl) ?_
  refine lv_iload hx hb dL_law_662 (lv_at hl 4 rfl) ?_
  refine lv_iconst (v := 5) hx hb dL_law_664 (by decide) ?_
  refine lv_iadd hx hb dL_law_665 ?_
  refine va_sld hx hb hXs hbl hbA I.2.2.2.2.2.2.2.2.1 hn5 dL_law_666 ?_
  refine lv_aload_n hx hb dL_law_667 rfl (lv_at hl 0 rfl) ?_
  refine lv_iload hx hb dL_law_668 (lv_at hl 4 rfl) ?_
  refine lv_bipush (v := 6) hx hb dL_law_670 (by decide) ?_
  refine lv_iadd hx hb dL_law_672 ?_
  refine va_sld hx hb hXs hbl hbA I.2.2.2.2.2.2.2.2.1 hn6 dL_law_673 ?_
  have hI := I.2.2.2.2.2.2.1
  refine lm_i (As := [.int (xs (x4 + 1).toNatClampNeg), .int (xs (x4 + 2).toNatClampNeg), .long v660, .int (xs (x4 + 5).toNatClampNeg), .int (xs (x4 + 6).toNatClampNeg)]) (rest := [.int r623]) I ⟨hx, hb, hml, hown, hts⟩ (c_X10_shadow_x l D cy mo a f g r q ((xs (x4 + 1).toNatClampNeg)) ((xs (x4 + 2).toNatClampNeg)) v660 ((xs (x4 + 5).toNatClampNeg)) ((xs (x4 + 6).toNatClampNeg)) hDM) (cwV 5 hts gL_law_X10_shadow rfl rfl rfl (by decide +kernel) ⟨Nat.le_of_ble_eq_true rfl, Nat.le_of_ble_eq_true rfl⟩) hK hAM rfl hl.1 rfl (Nat.le_of_ble_eq_true rfl) dL_law_674 ⟨by omega, by omega⟩ (fun _ _ h9 => by obtain ⟨rfl, h9⟩ := h9; exact hI) (fun r674 u H locs q674 I => ?_)
  obtain ⟨-, q674⟩ := q674
  obtain ⟨f, g, r, q⟩ := u
  have I : LI D cy s xo mo ou a M G W' f g r q H locs := I
  subst e660
  subst e659
  subst e609
  subst e608
  have e9 : r623 = r674 := shA_eq q623 q674
  refine lv_icmp_eq (tgt := 2469) hx hb dL_law_677 (by decide) (fun c9 => ?_) (fun c9 => absurd e9 c9)
  refine W.widen (k := C + 7) (n := S + 588) (by omega) (by omega) ?_
  exact kk _ _ _ _ _ _ _ _ _ I (lv_sub hl [0, 1, 2, 3, 4] rfl)
set_option maxHeartbeats 4000000 in
set_option maxRecDepth 100000 in
theorem lcase_8 {p : Program} {l : Launch} {e : Env} {s : State} {m : MethodId} {below : List Frame} {meth : Method} {c : Code} {b L : Nat} {xs : Nat → Int32} {D : va_G} {cy : Nat → ClassId} {xo mo ou : Nat} {a : Nat → Nat} {M : Option Nat} {G : cG} {W' : va_W} {f : Nat → Int32} {g : Nat → Int64} {r : Nat → Nat → Int32} {q : Nat → Nat → Int64} {H : Heap} {locs : List Loc} {ls : Array Slot} {Q : State → Prop} {C S : Nat} (X : LX p l s m c b L xs D cy mo a) (I : LI D cy s xo mo ou a M G W' f g r q H locs) (hF : FR cy xo W' f r) {x4 : Int32} (h4 : 0 ≤ x4.toInt ∧ x4.toInt + 8 ≤ (L : Int) ∧ L ≤ 4096) (hC : C + 7 ≤ 600002) (hSl : S + 53273 ≤ 7302232) (hl : lv_has ls 8 [(0, .ref b), (1, .ref xo), (2, .ref mo), (3, .ref ou), (4, .int x4)]) (kk : ∀ (G : cG) (W' : va_W) (f : Nat → Int32) (g : Nat → Int64) (r : Nat → Nat → Int32) (q : Nat → Nat → Int64) (H : Heap) (locs : List Loc) (ls : Array Slot), LI D cy s xo mo ou a M G W' f g r q H locs → lv_has ls 8 [(0, .ref b), (1, .ref xo), (2, .ref mo), (3, .ref ou), (4, .int x4)] → W p l e room_1 s m #[Value.ref b] below meth c H locs (C + 7) (S + 588) Q (F0 m 2469 ls [])) : W p l e room_1 s m #[Value.ref b] below meth c H locs C S Q (F0 m 682 ls []) := by
  obtain ⟨⟨hx, hb, hml, hown, hts⟩, ⟨hXs, hbl⟩, ⟨hK, hV, hZ, hXT⟩, hst, hDM, hAM⟩ := id X
  have h1 : f 1 = 0 := hF.1 1
  have h10 : (f 1).toInt = 0 := by rw [h1]; rfl
  have h23 : f 23 = 0 := hF.1 23
  have h230 : (f 23).toInt = 0 := by rw [h23]; rfl
  have h29 : ∀ i, r 29 i = 0 := hF.2.1
  have hbA : ¬ AL s b := Nat.not_le.mpr hbl
  have hRc : room_1.cells = 600002 := rfl
  have hRs : room_1.slots = 7302232 := rfl
  have hn1 : vp_in (x4 + 1) L := l_in (c := 1) h4 rfl (by decide)
  have hn2 : vp_in (x4 + 2) L := l_in (c := 2) h4 rfl (by decide)
  have hn3 : vp_in (x4 + 3) L := l_in (c := 3) h4 rfl (by decide)
  have hn4 : vp_in (x4 + 4) L := l_in (c := 4) h4 rfl (by decide)
  have hn5 : vp_in (x4 + 5) L := l_in (c := 5) h4 rfl (by decide)
  have hn6 : vp_in (x4 + 6) L := l_in (c := 6) h4 rfl (by decide)
  have hn7 : vp_in (x4 + 7) L := l_in (c := 7) h4 rfl (by decide)
  refine lv_aload_n hx hb dL_law_682 rfl (lv_at hl 1 rfl) ?_
  refine lv_aload_n hx hb dL_law_683 rfl (lv_at hl 0 rfl) ?_
  refine lv_iload hx hb dL_law_684 (lv_at hl 4 rfl) ?_
  refine lv_iconst (v := 1) hx hb dL_law_686 (by decide) ?_
  refine lv_iadd hx hb dL_law_687 ?_
  refine va_sld hx hb hXs hbl hbA I.2.2.2.2.2.2.2.2.1 hn1 dL_law_688 ?_
  refine lv_aload_n hx hb dL_law_689 rfl (lv_at hl 0 rfl) ?_
  refine lv_iload hx hb dL_law_690 (lv_at hl 4 rfl) ?_
  refine lv_iconst (v := 2) hx hb dL_law_692 (by decide) ?_
  refine lv_iadd hx hb dL_law_693 ?_
  refine va_sld hx hb hXs hbl hbA I.2.2.2.2.2.2.2.2.1 hn2 dL_law_694 ?_
  refine lv_i2l (v := ((xs (x4 + 2).toNatClampNeg)).toInt64) hx hb dL_law_695 rfl ?_
  refine lv_bipush (v := 32) hx hb dL_law_696 (by decide) ?_
  refine lv_lshl (v := (((xs (x4 + 2).toNatClampNeg)).toInt64) <<< ((32 : Int32).toInt64 &&& 63)) hx hb dL_law_698 rfl ?_
  refine lv_aload_n hx hb dL_law_699 rfl (lv_at hl 0 rfl) ?_
  refine lv_iload hx hb dL_law_700 (lv_at hl 4 rfl) ?_
  refine lv_iconst (v := 3) hx hb dL_law_702 (by decide) ?_
  refine lv_iadd hx hb dL_law_703 ?_
  refine va_sld hx hb hXs hbl hbA I.2.2.2.2.2.2.2.2.1 hn3 dL_law_704 ?_
  refine lv_i2l (v := ((xs (x4 + 3).toNatClampNeg)).toInt64) hx hb dL_law_705 rfl ?_
  refine lv_ldc2 hx hb hown (hts (.constantLong RL 45 (4294967295)) (by decide +kernel)) dL_law_706 ?_
  refine lv_land hx hb dL_law_709 ?_
  refine lv_topl (fun v709 e709 => ?_)
  refine lv_lor hx hb dL_law_710 ?_
  refine lv_topl (fun v710 e710 => ?_)
  obtain ⟨bs, js, sh, wk, ll, jc, lc, lb, hM⟩ := I.2.2.2.2.2.2.2.1
  obtain ⟨rfl, rfl, rfl, hSh, fl, hfl⟩ := hF.at I.2.2.1 hM
  refine lk3_ri I (va_runV (g := F0 m 711 ls ([.long v710, .int (xs (x4 + 1).toNatClampNeg), .ref xo])) (As := [.int (xs (x4 + 1).toNatClampNeg), .long v710]) (rest := []) ⟨hx, hb, hml, hown, hts⟩ (c_X9_fits_0 l D cy (AC s mo a) G W' xo ((xs (x4 + 1).toNatClampNeg)) v710 I.2.2.1 I.2.2.2.1 I.2.2.2.2.1 hM h10) (cwV 2 hts gL_law_X9_fits rfl rfl rfl (by decide +kernel) ⟨Nat.le_of_ble_eq_true rfl, Nat.le_of_ble_eq_true rfl⟩) (l_preV I hK hV) rfl rfl hl.1 rfl (lv_room (Nat.le_of_ble_eq_true rfl)) dL_law_711 ⟨by omega, by omega⟩) (fun r711 u H locs q711 hX I => ?_)
  obtain ⟨G, W'⟩ := u
  have I : LI D cy s xo mo ou a M G W' f g r q H locs := I
  refine lv_aload_n hx hb dL_law_714 rfl (lv_at hl 2 rfl) ?_
  refine lv_aload_n hx hb dL_law_715 rfl (lv_at hl 0 rfl) ?_
  refine lv_iload hx hb dL_law_716 (lv_at hl 4 rfl) ?_
  refine lv_iconst (v := 1) hx hb dL_law_718 (by decide) ?_
  refine lv_iadd hx hb dL_law_719 ?_
  refine va_sld hx hb hXs hbl hbA I.2.2.2.2.2.2.2.2.1 hn1 dL_law_720 ?_
  refine lv_aload_n hx hb dL_law_721 rfl (lv_at hl 0 rfl) ?_
  refine lv_iload hx hb dL_law_722 (lv_at hl 4 rfl) ?_
  refine lv_iconst (v := 2) hx hb dL_law_724 (by decide) ?_
  refine lv_iadd hx hb dL_law_725 ?_
  refine va_sld hx hb hXs hbl hbA I.2.2.2.2.2.2.2.2.1 hn2 dL_law_726 ?_
  refine lv_i2l (v := ((xs (x4 + 2).toNatClampNeg)).toInt64) hx hb dL_law_727 rfl ?_
  refine lv_bipush (v := 32) hx hb dL_law_728 (by decide) ?_
  refine lv_lshl (v := (((xs (x4 + 2).toNatClampNeg)).toInt64) <<< ((32 : Int32).toInt64 &&& 63)) hx hb dL_law_730 rfl ?_
  refine lv_aload_n hx hb dL_law_731 rfl (lv_at hl 0 rfl) ?_
  refine lv_iload hx hb dL_law_732 (lv_at hl 4 rfl) ?_
  refine lv_iconst (v := 3) hx hb dL_law_734 (by decide) ?_
  refine lv_iadd hx hb dL_law_735 ?_
  refine va_sld hx hb hXs hbl hbA I.2.2.2.2.2.2.2.2.1 hn3 dL_law_736 ?_
  refine lv_i2l (v := ((xs (x4 + 3).toNatClampNeg)).toInt64) hx hb dL_law_737 rfl ?_
  refine lv_ldc2 hx hb hown (hts (.constantLong RL 45 (4294967295)) (by decide +kernel)) dL_law_738 ?_
  refine lv_land hx hb dL_law_741 ?_
  refine lv_topl (fun v741 e741 => ?_)
  refine lv_lor hx hb dL_law_742 ?_
  refine lv_topl (fun v742 e742 => ?_)
  have hI := I.2.2.2.2.2.2.1
  refine lm_i (As := [.int (xs (x4 + 1).toNatClampNeg), .long v742]) (rest := [.int r711]) I ⟨hx, hb, hml, hown, hts⟩ (c_X10_fits_0 l D cy mo a f g r q ((xs (x4 + 1).toNatClampNeg)) v742 hDM hI h10) (cwV 2 hts gL_law_X10_fits rfl rfl rfl (by decide +kernel) ⟨Nat.le_of_ble_eq_true rfl, Nat.le_of_ble_eq_true rfl⟩) hK hAM rfl hl.1 rfl (Nat.le_of_ble_eq_true rfl) dL_law_743 ⟨by omega, by omega⟩ (fun _ _ h9 => by obtain ⟨rfl, h9⟩ := h9; exact hI) (fun r743 u H locs q743 I => ?_)
  obtain ⟨-, q743⟩ := q743
  obtain ⟨f, g, r, q⟩ := u
  have I : LI D cy s xo mo ou a M G W' f g r q H locs := I
  subst e742
  subst e741
  subst e710
  subst e709
  have e9 : r711 = r743 := q711.trans q743.symm
  refine lv_icmp_eq (tgt := 2469) hx hb dL_law_746 (by decide) (fun c9 => ?_) (fun c9 => absurd e9 c9)
  refine W.widen (k := C + 7) (n := S + 588) (by omega) (by omega) ?_
  exact kk _ _ _ _ _ _ _ _ _ I (lv_sub hl [0, 1, 2, 3, 4] rfl)
set_option maxHeartbeats 4000000 in
set_option maxRecDepth 100000 in
theorem lcase_9 {p : Program} {l : Launch} {e : Env} {s : State} {m : MethodId} {below : List Frame} {meth : Method} {c : Code} {b L : Nat} {xs : Nat → Int32} {D : va_G} {cy : Nat → ClassId} {xo mo ou : Nat} {a : Nat → Nat} {M : Option Nat} {G : cG} {W' : va_W} {f : Nat → Int32} {g : Nat → Int64} {r : Nat → Nat → Int32} {q : Nat → Nat → Int64} {H : Heap} {locs : List Loc} {ls : Array Slot} {Q : State → Prop} {C S : Nat} (X : LX p l s m c b L xs D cy mo a) (I : LI D cy s xo mo ou a M G W' f g r q H locs) (hF : FR cy xo W' f r) {x4 : Int32} (h4 : 0 ≤ x4.toInt ∧ x4.toInt + 8 ≤ (L : Int) ∧ L ≤ 4096) (hC : C + 7 ≤ 600002) (hSl : S + 53273 ≤ 7302232) (hl : lv_has ls 8 [(0, .ref b), (1, .ref xo), (2, .ref mo), (3, .ref ou), (4, .int x4)]) (kk : ∀ (G : cG) (W' : va_W) (f : Nat → Int32) (g : Nat → Int64) (r : Nat → Nat → Int32) (q : Nat → Nat → Int64) (H : Heap) (locs : List Loc) (ls : Array Slot), LI D cy s xo mo ou a M G W' f g r q H locs → lv_has ls 8 [(0, .ref b), (1, .ref xo), (2, .ref mo), (3, .ref ou), (4, .int x4)] → W p l e room_1 s m #[Value.ref b] below meth c H locs (C + 7) (S + 588) Q (F0 m 2469 ls [])) : W p l e room_1 s m #[Value.ref b] below meth c H locs C S Q (F0 m 751 ls []) := by
  obtain ⟨⟨hx, hb, hml, hown, hts⟩, ⟨hXs, hbl⟩, ⟨hK, hV, hZ, hXT⟩, hst, hDM, hAM⟩ := id X
  have h1 : f 1 = 0 := hF.1 1
  have h10 : (f 1).toInt = 0 := by rw [h1]; rfl
  have h23 : f 23 = 0 := hF.1 23
  have h230 : (f 23).toInt = 0 := by rw [h23]; rfl
  have h29 : ∀ i, r 29 i = 0 := hF.2.1
  have hbA : ¬ AL s b := Nat.not_le.mpr hbl
  have hRc : room_1.cells = 600002 := rfl
  have hRs : room_1.slots = 7302232 := rfl
  have hn1 : vp_in (x4 + 1) L := l_in (c := 1) h4 rfl (by decide)
  have hn2 : vp_in (x4 + 2) L := l_in (c := 2) h4 rfl (by decide)
  have hn3 : vp_in (x4 + 3) L := l_in (c := 3) h4 rfl (by decide)
  have hn4 : vp_in (x4 + 4) L := l_in (c := 4) h4 rfl (by decide)
  have hn5 : vp_in (x4 + 5) L := l_in (c := 5) h4 rfl (by decide)
  have hn6 : vp_in (x4 + 6) L := l_in (c := 6) h4 rfl (by decide)
  have hn7 : vp_in (x4 + 7) L := l_in (c := 7) h4 rfl (by decide)
  refine lv_aload_n hx hb dL_law_751 rfl (lv_at hl 1 rfl) ?_
  refine lv_aload_n hx hb dL_law_752 rfl (lv_at hl 0 rfl) ?_
  refine lv_iload hx hb dL_law_753 (lv_at hl 4 rfl) ?_
  refine lv_iconst (v := 1) hx hb dL_law_755 (by decide) ?_
  refine lv_iadd hx hb dL_law_756 ?_
  refine va_sld hx hb hXs hbl hbA I.2.2.2.2.2.2.2.2.1 hn1 dL_law_757 ?_
  obtain ⟨bs, js, sh, wk, ll, jc, lc, lb, hM⟩ := I.2.2.2.2.2.2.2.1
  obtain ⟨rfl, rfl, rfl, hSh, fl, hfl⟩ := hF.at I.2.2.1 hM
  refine lk3_ri I (va_runV (g := F0 m 758 ls ([.int (xs (x4 + 1).toNatClampNeg), .ref xo])) (As := [.int (xs (x4 + 1).toNatClampNeg)]) (rest := []) ⟨hx, hb, hml, hown, hts⟩ (c_X9_count_0 l D cy (AC s mo a) G W' xo ((xs (x4 + 1).toNatClampNeg)) I.2.2.1 I.2.2.2.1 I.2.2.2.2.1 hM h10) (cwV 1 hts gL_law_X9_count rfl rfl rfl (by decide +kernel) ⟨Nat.le_of_ble_eq_true rfl, Nat.le_of_ble_eq_true rfl⟩) (l_preV I hK hV) rfl rfl hl.1 rfl (lv_room (Nat.le_of_ble_eq_true rfl)) dL_law_758 ⟨by omega, by omega⟩) (fun r758 u H locs q758 hX I => ?_)
  obtain ⟨G, W'⟩ := u
  have I : LI D cy s xo mo ou a M G W' f g r q H locs := I
  refine lv_aload_n hx hb dL_law_761 rfl (lv_at hl 2 rfl) ?_
  refine lv_aload_n hx hb dL_law_762 rfl (lv_at hl 0 rfl) ?_
  refine lv_iload hx hb dL_law_763 (lv_at hl 4 rfl) ?_
  refine lv_iconst (v := 1) hx hb dL_law_765 (by decide) ?_
  refine lv_iadd hx hb dL_law_766 ?_
  refine va_sld hx hb hXs hbl hbA I.2.2.2.2.2.2.2.2.1 hn1 dL_law_767 ?_
  have hI := I.2.2.2.2.2.2.1
  refine lm_i (As := [.int (xs (x4 + 1).toNatClampNeg)]) (rest := [.int r758]) I ⟨hx, hb, hml, hown, hts⟩ (c_X10_count_0 l D cy mo a f g r q ((xs (x4 + 1).toNatClampNeg)) hDM hI h10) (cwV 1 hts gL_law_X10_count rfl rfl rfl (by decide +kernel) ⟨Nat.le_of_ble_eq_true rfl, Nat.le_of_ble_eq_true rfl⟩) hK hAM rfl hl.1 rfl (Nat.le_of_ble_eq_true rfl) dL_law_768 ⟨by omega, by omega⟩ (fun _ _ h9 => by obtain ⟨rfl, h9⟩ := h9; exact hI) (fun r768 u H locs q768 I => ?_)
  obtain ⟨-, q768⟩ := q768
  obtain ⟨f, g, r, q⟩ := u
  have I : LI D cy s xo mo ou a M G W' f g r q H locs := I
  have e9 : r758 = r768 := q758.trans q768.symm
  refine lv_icmp_eq (tgt := 2469) hx hb dL_law_771 (by decide) (fun c9 => ?_) (fun c9 => absurd e9 c9)
  refine W.widen (k := C + 7) (n := S + 588) (by omega) (by omega) ?_
  exact kk _ _ _ _ _ _ _ _ _ I (lv_sub hl [0, 1, 2, 3, 4] rfl)
set_option maxHeartbeats 4000000 in
set_option maxRecDepth 100000 in
theorem lcase_10 {p : Program} {l : Launch} {e : Env} {s : State} {m : MethodId} {below : List Frame} {meth : Method} {c : Code} {b L : Nat} {xs : Nat → Int32} {D : va_G} {cy : Nat → ClassId} {xo mo ou : Nat} {a : Nat → Nat} {M : Option Nat} {G : cG} {W' : va_W} {f : Nat → Int32} {g : Nat → Int64} {r : Nat → Nat → Int32} {q : Nat → Nat → Int64} {H : Heap} {locs : List Loc} {ls : Array Slot} {Q : State → Prop} {C S : Nat} (X : LX p l s m c b L xs D cy mo a) (I : LI D cy s xo mo ou a M G W' f g r q H locs) (hF : FR cy xo W' f r) {x4 : Int32} (h4 : 0 ≤ x4.toInt ∧ x4.toInt + 8 ≤ (L : Int) ∧ L ≤ 4096) (hC : C + 7 ≤ 600002) (hSl : S + 53273 ≤ 7302232) (hl : lv_has ls 8 [(0, .ref b), (1, .ref xo), (2, .ref mo), (3, .ref ou), (4, .int x4)]) (kk : ∀ (G : cG) (W' : va_W) (f : Nat → Int32) (g : Nat → Int64) (r : Nat → Nat → Int32) (q : Nat → Nat → Int64) (H : Heap) (locs : List Loc) (ls : Array Slot), LI D cy s xo mo ou a M G W' f g r q H locs → lv_has ls 8 [(0, .ref b), (1, .ref xo), (2, .ref mo), (3, .ref ou), (4, .int x4)] → W p l e room_1 s m #[Value.ref b] below meth c H locs (C + 7) (S + 588) Q (F0 m 2469 ls [])) : W p l e room_1 s m #[Value.ref b] below meth c H locs C S Q (F0 m 776 ls []) := by
  obtain ⟨⟨hx, hb, hml, hown, hts⟩, ⟨hXs, hbl⟩, ⟨hK, hV, hZ, hXT⟩, hst, hDM, hAM⟩ := id X
  have h1 : f 1 = 0 := hF.1 1
  have h10 : (f 1).toInt = 0 := by rw [h1]; rfl
  have h23 : f 23 = 0 := hF.1 23
  have h230 : (f 23).toInt = 0 := by rw [h23]; rfl
  have h29 : ∀ i, r 29 i = 0 := hF.2.1
  have hbA : ¬ AL s b := Nat.not_le.mpr hbl
  have hRc : room_1.cells = 600002 := rfl
  have hRs : room_1.slots = 7302232 := rfl
  have hn1 : vp_in (x4 + 1) L := l_in (c := 1) h4 rfl (by decide)
  have hn2 : vp_in (x4 + 2) L := l_in (c := 2) h4 rfl (by decide)
  have hn3 : vp_in (x4 + 3) L := l_in (c := 3) h4 rfl (by decide)
  have hn4 : vp_in (x4 + 4) L := l_in (c := 4) h4 rfl (by decide)
  have hn5 : vp_in (x4 + 5) L := l_in (c := 5) h4 rfl (by decide)
  have hn6 : vp_in (x4 + 6) L := l_in (c := 6) h4 rfl (by decide)
  have hn7 : vp_in (x4 + 7) L := l_in (c := 7) h4 rfl (by decide)
  refine lv_aload_n hx hb dL_law_776 rfl (lv_at hl 1 rfl) ?_
  refine lv_aload_n hx hb dL_law_777 rfl (lv_at hl 0 rfl) ?_
  refine lv_iload hx hb dL_law_778 (lv_at hl 4 rfl) ?_
  refine lv_iconst (v := 1) hx hb dL_law_780 (by decide) ?_
  refine lv_iadd hx hb dL_law_781 ?_
  refine va_sld hx hb hXs hbl hbA I.2.2.2.2.2.2.2.2.1 hn1 dL_law_782 ?_
  refine lv_aload_n hx hb dL_law_783 rfl (lv_at hl 0 rfl) ?_
  refine lv_iload hx hb dL_law_784 (lv_at hl 4 rfl) ?_
  refine lv_iconst (v := 2) hx hb dL_law_786 (by decide) ?_
  refine lv_iadd hx hb dL_law_787 ?_
  refine va_sld hx hb hXs hbl hbA I.2.2.2.2.2.2.2.2.1 hn2 dL_law_788 ?_
  obtain ⟨bs, js, sh, wk, ll, jc, lc, lb, hM⟩ := I.2.2.2.2.2.2.2.1
  obtain ⟨rfl, rfl, rfl, hSh, fl, hfl⟩ := hF.at I.2.2.1 hM
  refine lk3_rl I (va_runV (g := F0 m 789 ls ([.int (xs (x4 + 2).toNatClampNeg), .int (xs (x4 + 1).toNatClampNeg), .ref xo])) (As := [.int (xs (x4 + 1).toNatClampNeg), .int (xs (x4 + 2).toNatClampNeg)]) (rest := []) ⟨hx, hb, hml, hown, hts⟩ (c_X9_find_0 l D cy (AC s mo a) G W' xo ((xs (x4 + 1).toNatClampNeg)) ((xs (x4 + 2).toNatClampNeg)) I.2.2.1 I.2.2.2.1 I.2.2.2.2.1 hM h10) (cwV 2 hts gL_law_X9_find rfl rfl rfl (by decide +kernel) ⟨Nat.le_of_ble_eq_true rfl, Nat.le_of_ble_eq_true rfl⟩) (l_preV I hK hV) rfl rfl hl.1 rfl (lv_room (Nat.le_of_ble_eq_true rfl)) dL_law_789 ⟨by omega, by omega⟩) (fun r789 u H locs q789 hX I => ?_)
  obtain ⟨G, W'⟩ := u
  have I : LI D cy s xo mo ou a M G W' f g r q H locs := I
  refine lv_aload_n hx hb dL_law_792 rfl (lv_at hl 2 rfl) ?_
  refine lv_aload_n hx hb dL_law_793 rfl (lv_at hl 0 rfl) ?_
  refine lv_iload hx hb dL_law_794 (lv_at hl 4 rfl) ?_
  refine lv_iconst (v := 1) hx hb dL_law_796 (by decide) ?_
  refine lv_iadd hx hb dL_law_797 ?_
  refine va_sld hx hb hXs hbl hbA I.2.2.2.2.2.2.2.2.1 hn1 dL_law_798 ?_
  refine lv_aload_n hx hb dL_law_799 rfl (lv_at hl 0 rfl) ?_
  refine lv_iload hx hb dL_law_800 (lv_at hl 4 rfl) ?_
  refine lv_iconst (v := 2) hx hb dL_law_802 (by decide) ?_
  refine lv_iadd hx hb dL_law_803 ?_
  refine va_sld hx hb hXs hbl hbA I.2.2.2.2.2.2.2.2.1 hn2 dL_law_804 ?_
  have hI := I.2.2.2.2.2.2.1
  refine lm_l (As := [.int (xs (x4 + 1).toNatClampNeg), .int (xs (x4 + 2).toNatClampNeg)]) (rest := [.long r789]) I ⟨hx, hb, hml, hown, hts⟩ (c_X10_find_0 l D cy mo a f g r q ((xs (x4 + 1).toNatClampNeg)) ((xs (x4 + 2).toNatClampNeg)) hDM hI h10) (cwV 2 hts gL_law_X10_find rfl rfl rfl (by decide +kernel) ⟨Nat.le_of_ble_eq_true rfl, Nat.le_of_ble_eq_true rfl⟩) hK hAM rfl hl.1 rfl (Nat.le_of_ble_eq_true rfl) dL_law_805 ⟨by omega, by omega⟩ (fun _ _ h9 => by obtain ⟨rfl, h9⟩ := h9; exact hI) (fun r805 u H locs q805 I => ?_)
  obtain ⟨-, q805⟩ := q805
  obtain ⟨f, g, r, q⟩ := u
  have I : LI D cy s xo mo ou a M G W' f g r q H locs := I
  refine W.lcmp hx hb dL_law_808 ?_
  have e9 : r789 = r805 := q789.trans q805.symm
  refine lv_if_eq (tgt := 2469) hx hb dL_law_809 (by decide) (fun c9 => ?_) (fun c9 => absurd ((lg_cmp_eq _ _).mpr e9) c9)
  refine W.widen (k := C + 7) (n := S + 588) (by omega) (by omega) ?_
  exact kk _ _ _ _ _ _ _ _ _ I (lv_sub hl [0, 1, 2, 3, 4] rfl)
set_option maxHeartbeats 4000000 in
set_option maxRecDepth 100000 in
theorem lcase_11 {p : Program} {l : Launch} {e : Env} {s : State} {m : MethodId} {below : List Frame} {meth : Method} {c : Code} {b L : Nat} {xs : Nat → Int32} {D : va_G} {cy : Nat → ClassId} {xo mo ou : Nat} {a : Nat → Nat} {M : Option Nat} {G : cG} {W' : va_W} {f : Nat → Int32} {g : Nat → Int64} {r : Nat → Nat → Int32} {q : Nat → Nat → Int64} {H : Heap} {locs : List Loc} {ls : Array Slot} {Q : State → Prop} {C S : Nat} (X : LX p l s m c b L xs D cy mo a) (I : LI D cy s xo mo ou a M G W' f g r q H locs) (hF : FR cy xo W' f r) {x4 : Int32} (h4 : 0 ≤ x4.toInt ∧ x4.toInt + 8 ≤ (L : Int) ∧ L ≤ 4096) (hC : C + 7 ≤ 600002) (hSl : S + 53273 ≤ 7302232) (hl : lv_has ls 8 [(0, .ref b), (1, .ref xo), (2, .ref mo), (3, .ref ou), (4, .int x4)]) (kk : ∀ (G : cG) (W' : va_W) (f : Nat → Int32) (g : Nat → Int64) (r : Nat → Nat → Int32) (q : Nat → Nat → Int64) (H : Heap) (locs : List Loc) (ls : Array Slot), LI D cy s xo mo ou a M G W' f g r q H locs → lv_has ls 8 [(0, .ref b), (1, .ref xo), (2, .ref mo), (3, .ref ou), (4, .int x4)] → W p l e room_1 s m #[Value.ref b] below meth c H locs (C + 7) (S + 588) Q (F0 m 2469 ls [])) : W p l e room_1 s m #[Value.ref b] below meth c H locs C S Q (F0 m 814 ls []) := by
  obtain ⟨⟨hx, hb, hml, hown, hts⟩, ⟨hXs, hbl⟩, ⟨hK, hV, hZ, hXT⟩, hst, hDM, hAM⟩ := id X
  have h1 : f 1 = 0 := hF.1 1
  have h10 : (f 1).toInt = 0 := by rw [h1]; rfl
  have h23 : f 23 = 0 := hF.1 23
  have h230 : (f 23).toInt = 0 := by rw [h23]; rfl
  have h29 : ∀ i, r 29 i = 0 := hF.2.1
  have hbA : ¬ AL s b := Nat.not_le.mpr hbl
  have hRc : room_1.cells = 600002 := rfl
  have hRs : room_1.slots = 7302232 := rfl
  have hn1 : vp_in (x4 + 1) L := l_in (c := 1) h4 rfl (by decide)
  have hn2 : vp_in (x4 + 2) L := l_in (c := 2) h4 rfl (by decide)
  have hn3 : vp_in (x4 + 3) L := l_in (c := 3) h4 rfl (by decide)
  have hn4 : vp_in (x4 + 4) L := l_in (c := 4) h4 rfl (by decide)
  have hn5 : vp_in (x4 + 5) L := l_in (c := 5) h4 rfl (by decide)
  have hn6 : vp_in (x4 + 6) L := l_in (c := 6) h4 rfl (by decide)
  have hn7 : vp_in (x4 + 7) L := l_in (c := 7) h4 rfl (by decide)
  refine lv_aload_n hx hb dL_law_814 rfl (lv_at hl 1 rfl) ?_
  refine lv_aload_n hx hb dL_law_815 rfl (lv_at hl 0 rfl) ?_
  refine lv_iload hx hb dL_law_816 (lv_at hl 4 rfl) ?_
  refine lv_iconst (v := 1) hx hb dL_law_818 (by decide) ?_
  refine lv_iadd hx hb dL_law_819 ?_
  refine va_sld hx hb hXs hbl hbA I.2.2.2.2.2.2.2.2.1 hn1 dL_law_820 ?_
  refine lv_aload_n hx hb dL_law_821 rfl (lv_at hl 0 rfl) ?_
  refine lv_iload hx hb dL_law_822 (lv_at hl 4 rfl) ?_
  refine lv_iconst (v := 2) hx hb dL_law_824 (by decide) ?_
  refine lv_iadd hx hb dL_law_825 ?_
  refine va_sld hx hb hXs hbl hbA I.2.2.2.2.2.2.2.2.1 hn2 dL_law_826 ?_
  refine lv_i2l (v := ((xs (x4 + 2).toNatClampNeg)).toInt64) hx hb dL_law_827 rfl ?_
  refine lv_bipush (v := 32) hx hb dL_law_828 (by decide) ?_
  refine lv_lshl (v := (((xs (x4 + 2).toNatClampNeg)).toInt64) <<< ((32 : Int32).toInt64 &&& 63)) hx hb dL_law_830 rfl ?_
  refine lv_aload_n hx hb dL_law_831 rfl (lv_at hl 0 rfl) ?_
  refine lv_iload hx hb dL_law_832 (lv_at hl 4 rfl) ?_
  refine lv_iconst (v := 3) hx hb dL_law_834 (by decide) ?_
  refine lv_iadd hx hb dL_law_835 ?_
  refine va_sld hx hb hXs hbl hbA I.2.2.2.2.2.2.2.2.1 hn3 dL_law_836 ?_
  refine lv_i2l (v := ((xs (x4 + 3).toNatClampNeg)).toInt64) hx hb dL_law_837 rfl ?_
  refine lv_ldc2 hx hb hown (hts (.constantLong RL 45 (4294967295)) (by decide +kernel)) dL_law_838 ?_
  refine lv_land hx hb dL_law_841 ?_
  refine lv_topl (fun v841 e841 => ?_)
  refine lv_lor hx hb dL_law_842 ?_
  refine lv_topl (fun v842 e842 => ?_)
  obtain ⟨bs, js, sh, wk, ll, jc, lc, lb, hM⟩ := I.2.2.2.2.2.2.2.1
  obtain ⟨rfl, rfl, rfl, hSh, fl, hfl⟩ := hF.at I.2.2.1 hM
  refine lk3_ri I (va_runV (g := F0 m 843 ls ([.long v842, .int (xs (x4 + 1).toNatClampNeg), .ref xo])) (As := [.int (xs (x4 + 1).toNatClampNeg), .long v842]) (rest := []) ⟨hx, hb, hml, hown, hts⟩ (c_X9_rank_0 l D cy (AC s mo a) G W' xo ((xs (x4 + 1).toNatClampNeg)) v842 I.2.2.1 I.2.2.2.1 I.2.2.2.2.1 hM h10) (cwV 2 hts gL_law_X9_rank rfl rfl rfl (by decide +kernel) ⟨Nat.le_of_ble_eq_true rfl, Nat.le_of_ble_eq_true rfl⟩) (l_preV I hK hV) rfl rfl hl.1 rfl (lv_room (Nat.le_of_ble_eq_true rfl)) dL_law_843 ⟨by omega, by omega⟩) (fun r843 u H locs q843 hX I => ?_)
  obtain ⟨G, W'⟩ := u
  have I : LI D cy s xo mo ou a M G W' f g r q H locs := I
  refine lv_aload_n hx hb dL_law_846 rfl (lv_at hl 2 rfl) ?_
  refine lv_aload_n hx hb dL_law_847 rfl (lv_at hl 0 rfl) ?_
  refine lv_iload hx hb dL_law_848 (lv_at hl 4 rfl) ?_
  refine lv_iconst (v := 1) hx hb dL_law_850 (by decide) ?_
  refine lv_iadd hx hb dL_law_851 ?_
  refine va_sld hx hb hXs hbl hbA I.2.2.2.2.2.2.2.2.1 hn1 dL_law_852 ?_
  refine lv_aload_n hx hb dL_law_853 rfl (lv_at hl 0 rfl) ?_
  refine lv_iload hx hb dL_law_854 (lv_at hl 4 rfl) ?_
  refine lv_iconst (v := 2) hx hb dL_law_856 (by decide) ?_
  refine lv_iadd hx hb dL_law_857 ?_
  refine va_sld hx hb hXs hbl hbA I.2.2.2.2.2.2.2.2.1 hn2 dL_law_858 ?_
  refine lv_i2l (v := ((xs (x4 + 2).toNatClampNeg)).toInt64) hx hb dL_law_859 rfl ?_
  refine lv_bipush (v := 32) hx hb dL_law_860 (by decide) ?_
  refine lv_lshl (v := (((xs (x4 + 2).toNatClampNeg)).toInt64) <<< ((32 : Int32).toInt64 &&& 63)) hx hb dL_law_862 rfl ?_
  refine lv_aload_n hx hb dL_law_863 rfl (lv_at hl 0 rfl) ?_
  refine lv_iload hx hb dL_law_864 (lv_at hl 4 rfl) ?_
  refine lv_iconst (v := 3) hx hb dL_law_866 (by decide) ?_
  refine lv_iadd hx hb dL_law_867 ?_
  refine va_sld hx hb hXs hbl hbA I.2.2.2.2.2.2.2.2.1 hn3 dL_law_868 ?_
  refine lv_i2l (v := ((xs (x4 + 3).toNatClampNeg)).toInt64) hx hb dL_law_869 rfl ?_
  refine lv_ldc2 hx hb hown (hts (.constantLong RL 45 (4294967295)) (by decide +kernel)) dL_law_870 ?_
  refine lv_land hx hb dL_law_873 ?_
  refine lv_topl (fun v873 e873 => ?_)
  refine lv_lor hx hb dL_law_874 ?_
  refine lv_topl (fun v874 e874 => ?_)
  have hI := I.2.2.2.2.2.2.1
  refine lm_i (As := [.int (xs (x4 + 1).toNatClampNeg), .long v874]) (rest := [.int r843]) I ⟨hx, hb, hml, hown, hts⟩ (c_X10_rank_0 l D cy mo a f g r q ((xs (x4 + 1).toNatClampNeg)) v874 hDM hI h10) (cwV 2 hts gL_law_X10_rank rfl rfl rfl (by decide +kernel) ⟨Nat.le_of_ble_eq_true rfl, Nat.le_of_ble_eq_true rfl⟩) hK hAM rfl hl.1 rfl (Nat.le_of_ble_eq_true rfl) dL_law_875 ⟨by omega, by omega⟩ (fun _ _ h9 => by obtain ⟨rfl, h9⟩ := h9; exact hI) (fun r875 u H locs q875 I => ?_)
  obtain ⟨-, q875⟩ := q875
  obtain ⟨f, g, r, q⟩ := u
  have I : LI D cy s xo mo ou a M G W' f g r q H locs := I
  subst e874
  subst e873
  subst e842
  subst e841
  have e9 : r843 = r875 := q843.trans q875.symm
  refine lv_icmp_eq (tgt := 2469) hx hb dL_law_878 (by decide) (fun c9 => ?_) (fun c9 => absurd e9 c9)
  refine W.widen (k := C + 7) (n := S + 588) (by omega) (by omega) ?_
  exact kk _ _ _ _ _ _ _ _ _ I (lv_sub hl [0, 1, 2, 3, 4] rfl)
set_option maxHeartbeats 4000000 in
set_option maxRecDepth 100000 in
theorem lcase_12 {p : Program} {l : Launch} {e : Env} {s : State} {m : MethodId} {below : List Frame} {meth : Method} {c : Code} {b L : Nat} {xs : Nat → Int32} {D : va_G} {cy : Nat → ClassId} {xo mo ou : Nat} {a : Nat → Nat} {M : Option Nat} {G : cG} {W' : va_W} {f : Nat → Int32} {g : Nat → Int64} {r : Nat → Nat → Int32} {q : Nat → Nat → Int64} {H : Heap} {locs : List Loc} {ls : Array Slot} {Q : State → Prop} {C S : Nat} (X : LX p l s m c b L xs D cy mo a) (I : LI D cy s xo mo ou a M G W' f g r q H locs) (hF : FR cy xo W' f r) {x4 : Int32} (h4 : 0 ≤ x4.toInt ∧ x4.toInt + 8 ≤ (L : Int) ∧ L ≤ 4096) (hC : C + 7 ≤ 600002) (hSl : S + 53273 ≤ 7302232) (hl : lv_has ls 8 [(0, .ref b), (1, .ref xo), (2, .ref mo), (3, .ref ou), (4, .int x4)]) (kk : ∀ (G : cG) (W' : va_W) (f : Nat → Int32) (g : Nat → Int64) (r : Nat → Nat → Int32) (q : Nat → Nat → Int64) (H : Heap) (locs : List Loc) (ls : Array Slot), LI D cy s xo mo ou a M G W' f g r q H locs → lv_has ls 8 [(0, .ref b), (1, .ref xo), (2, .ref mo), (3, .ref ou), (4, .int x4)] → W p l e room_1 s m #[Value.ref b] below meth c H locs (C + 7) (S + 588) Q (F0 m 2469 ls [])) : W p l e room_1 s m #[Value.ref b] below meth c H locs C S Q (F0 m 883 ls []) := by
  obtain ⟨⟨hx, hb, hml, hown, hts⟩, ⟨hXs, hbl⟩, ⟨hK, hV, hZ, hXT⟩, hst, hDM, hAM⟩ := id X
  have h1 : f 1 = 0 := hF.1 1
  have h10 : (f 1).toInt = 0 := by rw [h1]; rfl
  have h23 : f 23 = 0 := hF.1 23
  have h230 : (f 23).toInt = 0 := by rw [h23]; rfl
  have h29 : ∀ i, r 29 i = 0 := hF.2.1
  have hbA : ¬ AL s b := Nat.not_le.mpr hbl
  have hRc : room_1.cells = 600002 := rfl
  have hRs : room_1.slots = 7302232 := rfl
  have hn1 : vp_in (x4 + 1) L := l_in (c := 1) h4 rfl (by decide)
  have hn2 : vp_in (x4 + 2) L := l_in (c := 2) h4 rfl (by decide)
  have hn3 : vp_in (x4 + 3) L := l_in (c := 3) h4 rfl (by decide)
  have hn4 : vp_in (x4 + 4) L := l_in (c := 4) h4 rfl (by decide)
  have hn5 : vp_in (x4 + 5) L := l_in (c := 5) h4 rfl (by decide)
  have hn6 : vp_in (x4 + 6) L := l_in (c := 6) h4 rfl (by decide)
  have hn7 : vp_in (x4 + 7) L := l_in (c := 7) h4 rfl (by decide)
  refine lv_aload_n hx hb dL_law_883 rfl (lv_at hl 1 rfl) ?_
  refine lv_aload_n hx hb dL_law_884 rfl (lv_at hl 0 rfl) ?_
  refine lv_iload hx hb dL_law_885 (lv_at hl 4 rfl) ?_
  refine lv_iconst (v := 1) hx hb dL_law_887 (by decide) ?_
  refine lv_iadd hx hb dL_law_888 ?_
  refine va_sld hx hb hXs hbl hbA I.2.2.2.2.2.2.2.2.1 hn1 dL_law_889 ?_
  refine lv_aload_n hx hb dL_law_890 rfl (lv_at hl 0 rfl) ?_
  refine lv_iload hx hb dL_law_891 (lv_at hl 4 rfl) ?_
  refine lv_iconst (v := 2) hx hb dL_law_893 (by decide) ?_
  refine lv_iadd hx hb dL_law_894 ?_
  refine va_sld hx hb hXs hbl hbA I.2.2.2.2.2.2.2.2.1 hn2 dL_law_895 ?_
  obtain ⟨bs, js, sh, wk, ll, jc, lc, lb, hM⟩ := I.2.2.2.2.2.2.2.1
  obtain ⟨rfl, rfl, rfl, hSh, fl, hfl⟩ := hF.at I.2.2.1 hM
  refine lk3_ri I (va_runV (g := F0 m 896 ls ([.int (xs (x4 + 2).toNatClampNeg), .int (xs (x4 + 1).toNatClampNeg), .ref xo])) (As := [.int (xs (x4 + 1).toNatClampNeg), .int (xs (x4 + 2).toNatClampNeg)]) (rest := []) ⟨hx, hb, hml, hown, hts⟩ (c_X9_sure_0 l D cy (AC s mo a) G W' xo ((xs (x4 + 1).toNatClampNeg)) ((xs (x4 + 2).toNatClampNeg)) I.2.2.1 I.2.2.2.1 I.2.2.2.2.1 hM h10) (cwV 2 hts gL_law_X9_sure rfl rfl rfl (by decide +kernel) ⟨Nat.le_of_ble_eq_true rfl, Nat.le_of_ble_eq_true rfl⟩) (l_preV I hK hV) rfl rfl hl.1 rfl (lv_room (Nat.le_of_ble_eq_true rfl)) dL_law_896 ⟨by omega, by omega⟩) (fun r896 u H locs q896 hX I => ?_)
  obtain ⟨G, W'⟩ := u
  have I : LI D cy s xo mo ou a M G W' f g r q H locs := I
  refine lv_aload_n hx hb dL_law_899 rfl (lv_at hl 2 rfl) ?_
  refine lv_aload_n hx hb dL_law_900 rfl (lv_at hl 0 rfl) ?_
  refine lv_iload hx hb dL_law_901 (lv_at hl 4 rfl) ?_
  refine lv_iconst (v := 1) hx hb dL_law_903 (by decide) ?_
  refine lv_iadd hx hb dL_law_904 ?_
  refine va_sld hx hb hXs hbl hbA I.2.2.2.2.2.2.2.2.1 hn1 dL_law_905 ?_
  refine lv_aload_n hx hb dL_law_906 rfl (lv_at hl 0 rfl) ?_
  refine lv_iload hx hb dL_law_907 (lv_at hl 4 rfl) ?_
  refine lv_iconst (v := 2) hx hb dL_law_909 (by decide) ?_
  refine lv_iadd hx hb dL_law_910 ?_
  refine va_sld hx hb hXs hbl hbA I.2.2.2.2.2.2.2.2.1 hn2 dL_law_911 ?_
  have hI := I.2.2.2.2.2.2.1
  refine lm_i (As := [.int (xs (x4 + 1).toNatClampNeg), .int (xs (x4 + 2).toNatClampNeg)]) (rest := [.int r896]) I ⟨hx, hb, hml, hown, hts⟩ (c_X10_sure_0 l D cy mo a f g r q ((xs (x4 + 1).toNatClampNeg)) ((xs (x4 + 2).toNatClampNeg)) hDM hI h10) (cwV 2 hts gL_law_X10_sure rfl rfl rfl (by decide +kernel) ⟨Nat.le_of_ble_eq_true rfl, Nat.le_of_ble_eq_true rfl⟩) hK hAM rfl hl.1 rfl (Nat.le_of_ble_eq_true rfl) dL_law_912 ⟨by omega, by omega⟩ (fun _ _ h9 => by obtain ⟨rfl, h9⟩ := h9; exact hI) (fun r912 u H locs q912 I => ?_)
  obtain ⟨-, q912⟩ := q912
  obtain ⟨f, g, r, q⟩ := u
  have I : LI D cy s xo mo ou a M G W' f g r q H locs := I
  have e9 : r896 = r912 := q896.trans q912.symm
  refine lv_icmp_eq (tgt := 2469) hx hb dL_law_915 (by decide) (fun c9 => ?_) (fun c9 => absurd e9 c9)
  refine W.widen (k := C + 7) (n := S + 588) (by omega) (by omega) ?_
  exact kk _ _ _ _ _ _ _ _ _ I (lv_sub hl [0, 1, 2, 3, 4] rfl)
set_option maxHeartbeats 4000000 in
set_option maxRecDepth 100000 in
theorem lcase_13 {p : Program} {l : Launch} {e : Env} {s : State} {m : MethodId} {below : List Frame} {meth : Method} {c : Code} {b L : Nat} {xs : Nat → Int32} {D : va_G} {cy : Nat → ClassId} {xo mo ou : Nat} {a : Nat → Nat} {M : Option Nat} {G : cG} {W' : va_W} {f : Nat → Int32} {g : Nat → Int64} {r : Nat → Nat → Int32} {q : Nat → Nat → Int64} {H : Heap} {locs : List Loc} {ls : Array Slot} {Q : State → Prop} {C S : Nat} (X : LX p l s m c b L xs D cy mo a) (I : LI D cy s xo mo ou a M G W' f g r q H locs) (hF : FR cy xo W' f r) {x4 : Int32} (h4 : 0 ≤ x4.toInt ∧ x4.toInt + 8 ≤ (L : Int) ∧ L ≤ 4096) (hC : C + 7 ≤ 600002) (hSl : S + 53273 ≤ 7302232) (hl : lv_has ls 8 [(0, .ref b), (1, .ref xo), (2, .ref mo), (3, .ref ou), (4, .int x4)]) (kk : ∀ (G : cG) (W' : va_W) (f : Nat → Int32) (g : Nat → Int64) (r : Nat → Nat → Int32) (q : Nat → Nat → Int64) (H : Heap) (locs : List Loc) (ls : Array Slot), LI D cy s xo mo ou a M G W' f g r q H locs → lv_has ls 8 [(0, .ref b), (1, .ref xo), (2, .ref mo), (3, .ref ou), (4, .int x4)] → W p l e room_1 s m #[Value.ref b] below meth c H locs (C + 7) (S + 588) Q (F0 m 2469 ls [])) : W p l e room_1 s m #[Value.ref b] below meth c H locs C S Q (F0 m 920 ls []) := by
  obtain ⟨⟨hx, hb, hml, hown, hts⟩, ⟨hXs, hbl⟩, ⟨hK, hV, hZ, hXT⟩, hst, hDM, hAM⟩ := id X
  have h1 : f 1 = 0 := hF.1 1
  have h10 : (f 1).toInt = 0 := by rw [h1]; rfl
  have h23 : f 23 = 0 := hF.1 23
  have h230 : (f 23).toInt = 0 := by rw [h23]; rfl
  have h29 : ∀ i, r 29 i = 0 := hF.2.1
  have hbA : ¬ AL s b := Nat.not_le.mpr hbl
  have hRc : room_1.cells = 600002 := rfl
  have hRs : room_1.slots = 7302232 := rfl
  have hn1 : vp_in (x4 + 1) L := l_in (c := 1) h4 rfl (by decide)
  have hn2 : vp_in (x4 + 2) L := l_in (c := 2) h4 rfl (by decide)
  have hn3 : vp_in (x4 + 3) L := l_in (c := 3) h4 rfl (by decide)
  have hn4 : vp_in (x4 + 4) L := l_in (c := 4) h4 rfl (by decide)
  have hn5 : vp_in (x4 + 5) L := l_in (c := 5) h4 rfl (by decide)
  have hn6 : vp_in (x4 + 6) L := l_in (c := 6) h4 rfl (by decide)
  have hn7 : vp_in (x4 + 7) L := l_in (c := 7) h4 rfl (by decide)
  refine lv_aload_n hx hb dL_law_920 rfl (lv_at hl 1 rfl) ?_
  refine lv_aload_n hx hb dL_law_921 rfl (lv_at hl 0 rfl) ?_
  refine lv_iload hx hb dL_law_922 (lv_at hl 4 rfl) ?_
  refine lv_iconst (v := 1) hx hb dL_law_924 (by decide) ?_
  refine lv_iadd hx hb dL_law_925 ?_
  refine va_sld hx hb hXs hbl hbA I.2.2.2.2.2.2.2.2.1 hn1 dL_law_926 ?_
  obtain ⟨bs, js, sh, wk, ll, jc, lc, lb, hM⟩ := I.2.2.2.2.2.2.2.1
  obtain ⟨rfl, rfl, rfl, hSh, fl, hfl⟩ := hF.at I.2.2.1 hM
  refine lk3_ri I (va_runV (g := F0 m 927 ls ([.int (xs (x4 + 1).toNatClampNeg), .ref xo])) (As := [.int (xs (x4 + 1).toNatClampNeg)]) (rest := []) ⟨hx, hb, hml, hown, hts⟩ (c_X9_clash_0 l D cy (AC s mo a) G W' xo ((xs (x4 + 1).toNatClampNeg)) I.2.2.1 I.2.2.2.1 I.2.2.2.2.1 hM h10) (cwV 1 hts gL_law_X9_clash rfl rfl rfl (by decide +kernel) ⟨Nat.le_of_ble_eq_true rfl, Nat.le_of_ble_eq_true rfl⟩) (l_preV I hK hV) rfl rfl hl.1 rfl (lv_room (Nat.le_of_ble_eq_true rfl)) dL_law_927 ⟨by omega, by omega⟩) (fun r927 u H locs q927 hX I => ?_)
  obtain ⟨G, W'⟩ := u
  have I : LI D cy s xo mo ou a M G W' f g r q H locs := I
  refine lv_aload_n hx hb dL_law_930 rfl (lv_at hl 2 rfl) ?_
  refine lv_aload_n hx hb dL_law_931 rfl (lv_at hl 0 rfl) ?_
  refine lv_iload hx hb dL_law_932 (lv_at hl 4 rfl) ?_
  refine lv_iconst (v := 1) hx hb dL_law_934 (by decide) ?_
  refine lv_iadd hx hb dL_law_935 ?_
  refine va_sld hx hb hXs hbl hbA I.2.2.2.2.2.2.2.2.1 hn1 dL_law_936 ?_
  have hI := I.2.2.2.2.2.2.1
  refine lm_i (As := [.int (xs (x4 + 1).toNatClampNeg)]) (rest := [.int r927]) I ⟨hx, hb, hml, hown, hts⟩ (c_X10_clash_0 l D cy mo a f g r q ((xs (x4 + 1).toNatClampNeg)) hDM hI h10) (cwV 1 hts gL_law_X10_clash rfl rfl rfl (by decide +kernel) ⟨Nat.le_of_ble_eq_true rfl, Nat.le_of_ble_eq_true rfl⟩) hK hAM rfl hl.1 rfl (Nat.le_of_ble_eq_true rfl) dL_law_937 ⟨by omega, by omega⟩ (fun _ _ h9 => by obtain ⟨rfl, h9⟩ := h9; exact hI) (fun r937 u H locs q937 I => ?_)
  obtain ⟨-, q937⟩ := q937
  obtain ⟨f, g, r, q⟩ := u
  have I : LI D cy s xo mo ou a M G W' f g r q H locs := I
  have e9 : r927 = r937 := q927.trans q937.symm
  refine lv_icmp_eq (tgt := 2469) hx hb dL_law_940 (by decide) (fun c9 => ?_) (fun c9 => absurd e9 c9)
  refine W.widen (k := C + 7) (n := S + 588) (by omega) (by omega) ?_
  exact kk _ _ _ _ _ _ _ _ _ I (lv_sub hl [0, 1, 2, 3, 4] rfl)
set_option maxHeartbeats 4000000 in
set_option maxRecDepth 100000 in
theorem lcase_14 {p : Program} {l : Launch} {e : Env} {s : State} {m : MethodId} {below : List Frame} {meth : Method} {c : Code} {b L : Nat} {xs : Nat → Int32} {D : va_G} {cy : Nat → ClassId} {xo mo ou : Nat} {a : Nat → Nat} {M : Option Nat} {G : cG} {W' : va_W} {f : Nat → Int32} {g : Nat → Int64} {r : Nat → Nat → Int32} {q : Nat → Nat → Int64} {H : Heap} {locs : List Loc} {ls : Array Slot} {Q : State → Prop} {C S : Nat} (X : LX p l s m c b L xs D cy mo a) (I : LI D cy s xo mo ou a M G W' f g r q H locs) (hF : FR cy xo W' f r) {x4 : Int32} (h4 : 0 ≤ x4.toInt ∧ x4.toInt + 8 ≤ (L : Int) ∧ L ≤ 4096) (hC : C + 7 ≤ 600002) (hSl : S + 53273 ≤ 7302232) (hl : lv_has ls 8 [(0, .ref b), (1, .ref xo), (2, .ref mo), (3, .ref ou), (4, .int x4)]) (kk : ∀ (G : cG) (W' : va_W) (f : Nat → Int32) (g : Nat → Int64) (r : Nat → Nat → Int32) (q : Nat → Nat → Int64) (H : Heap) (locs : List Loc) (ls : Array Slot), LI D cy s xo mo ou a M G W' f g r q H locs → lv_has ls 8 [(0, .ref b), (1, .ref xo), (2, .ref mo), (3, .ref ou), (4, .int x4)] → W p l e room_1 s m #[Value.ref b] below meth c H locs (C + 7) (S + 588) Q (F0 m 2469 ls [])) : W p l e room_1 s m #[Value.ref b] below meth c H locs C S Q (F0 m 945 ls []) := by
  obtain ⟨⟨hx, hb, hml, hown, hts⟩, ⟨hXs, hbl⟩, ⟨hK, hV, hZ, hXT⟩, hst, hDM, hAM⟩ := id X
  have h1 : f 1 = 0 := hF.1 1
  have h10 : (f 1).toInt = 0 := by rw [h1]; rfl
  have h23 : f 23 = 0 := hF.1 23
  have h230 : (f 23).toInt = 0 := by rw [h23]; rfl
  have h29 : ∀ i, r 29 i = 0 := hF.2.1
  have hbA : ¬ AL s b := Nat.not_le.mpr hbl
  have hRc : room_1.cells = 600002 := rfl
  have hRs : room_1.slots = 7302232 := rfl
  have hn1 : vp_in (x4 + 1) L := l_in (c := 1) h4 rfl (by decide)
  have hn2 : vp_in (x4 + 2) L := l_in (c := 2) h4 rfl (by decide)
  have hn3 : vp_in (x4 + 3) L := l_in (c := 3) h4 rfl (by decide)
  have hn4 : vp_in (x4 + 4) L := l_in (c := 4) h4 rfl (by decide)
  have hn5 : vp_in (x4 + 5) L := l_in (c := 5) h4 rfl (by decide)
  have hn6 : vp_in (x4 + 6) L := l_in (c := 6) h4 rfl (by decide)
  have hn7 : vp_in (x4 + 7) L := l_in (c := 7) h4 rfl (by decide)
  refine lv_aload_n hx hb dL_law_945 rfl (lv_at hl 1 rfl) ?_
  refine lv_aload_n hx hb dL_law_946 rfl (lv_at hl 0 rfl) ?_
  refine lv_iload hx hb dL_law_947 (lv_at hl 4 rfl) ?_
  refine lv_iconst (v := 1) hx hb dL_law_949 (by decide) ?_
  refine lv_iadd hx hb dL_law_950 ?_
  refine va_sld hx hb hXs hbl hbA I.2.2.2.2.2.2.2.2.1 hn1 dL_law_951 ?_
  refine lv_aload_n hx hb dL_law_952 rfl (lv_at hl 3 rfl) ?_
  obtain ⟨bs, js, sh, wk, ll, jc, lc, lb, hM⟩ := I.2.2.2.2.2.2.2.1
  obtain ⟨rfl, rfl, rfl, hSh, fl, hfl⟩ := hF.at I.2.2.1 hM
  refine lk3_ri I (vx_runSW (g := F0 m 953 ls ([.ref ou, .int (xs (x4 + 1).toNatClampNeg), .ref xo])) (As := [.ref xo, .int (xs (x4 + 1).toNatClampNeg), .ref ou]) (rest := []) ⟨hx, hb, hml, hown, hts⟩ (c_L_best_0 l hst D cy (AC s mo a) G W' xo ((xs (x4 + 1).toNatClampNeg)) ou I.2.2.1 I.2.2.2.1 I.2.2.2.2.1 hM I.2.2.2.2.2.1 h10) (vx_cwSW 3 hts gL_law_L_best rfl rfl rfl (by decide +kernel) ⟨Nat.le_of_ble_eq_true rfl, Nat.le_of_ble_eq_true rfl⟩) (l_preS I hK hV hZ hXT) rfl rfl hl.1 rfl (lv_room (Nat.le_of_ble_eq_true rfl)) dL_law_953 ⟨by omega, by omega⟩) (fun r953 u H locs q953 hX I => ?_)
  obtain ⟨G, W'⟩ := u
  have I : LI D cy s xo mo ou a M G W' f g r q H locs := I
  have qL := q953
  refine lv_istore (lv' := [(5, .int r953), (0, .ref b), (1, .ref xo), (2, .ref mo), (3, .ref ou), (4, .int x4)]) hx hb dL_law_956 hl (by decide) rfl (fun ls hl => ?_)
  refine lv_aload_n hx hb dL_law_958 rfl (lv_at hl 3 rfl) ?_
  refine lv_aload_n hx hb dL_law_959 rfl (lv_at hl 1 rfl) ?_
  refine lv_iload hx hb dL_law_960 (lv_at hl 5 rfl) ?_
  refine lv_iconst (v := 1) hx hb dL_law_962 (by decide) ?_
  refine lv_iadd hx hb dL_law_963 ?_
  refine va_sld hx hb hXs hbl hbA I.2.2.2.2.2.2.2.2.1 hn1 dL_law_964 ?_
  have hI := I.2.2.2.2.2.2.1
  refine lm_i (As := [.int (xs (x4 + 1).toNatClampNeg)]) (rest := []) I ⟨hx, hb, hml, hown, hts⟩ (c_X10_best_0 l D cy mo a f g r q ((xs (x4 + 1).toNatClampNeg)) hDM hI h10) (cwV 1 hts gL_law_X10_best rfl rfl rfl (by decide +kernel) ⟨Nat.le_of_ble_eq_true rfl, Nat.le_of_ble_eq_true rfl⟩) hK hAM rfl hl.1 rfl (Nat.le_of_ble_eq_true rfl) dL_law_965 ⟨by omega, by omega⟩ (fun _ _ h9 => by obtain ⟨_, rfl, h9⟩ := h9; exact hI) (fun r965 u H locs q965 I => ?_)
  have qR : u.1 0 = 1 := by obtain ⟨th9, rfl, h9⟩ := q965; exact h9
  obtain ⟨f, g, r, q⟩ := u
  have qR : f 0 = 1 := qR
  have I : LI D cy s xo mo ou a M G W' f g r q H locs := I
  refine lv_istore (lv' := [(6, .int r965), (5, .int r953), (0, .ref b), (1, .ref xo), (2, .ref mo), (3, .ref ou), (4, .int x4)]) hx hb dL_law_968 hl (by decide) rfl (fun ls hl => ?_)
  refine lv_aload_n hx hb dL_law_970 rfl (lv_at hl 4 rfl) ?_
  have hI := I.2.2.2.2.2.2.1
  refine lm_i (As := []) (rest := []) I ⟨hx, hb, hml, hown, hts⟩ (c_X10_thrown_x l D cy mo a f g r q  hDM) (cwV 0 hts gL_law_X10_thrown rfl rfl rfl (by decide +kernel) ⟨Nat.le_of_ble_eq_true rfl, Nat.le_of_ble_eq_true rfl⟩) hK hAM rfl hl.1 rfl (Nat.le_of_ble_eq_true rfl) dL_law_971 ⟨by omega, by omega⟩ (fun _ _ h9 => by obtain ⟨rfl, h9⟩ := h9; exact hI) (fun r971 u H locs q971 I => ?_)
  have qT : r971 = f 0 := by obtain ⟨rfl, h9⟩ := q971; exact h9
  obtain ⟨f, g, r, q⟩ := u
  have I : LI D cy s xo mo ou a M G W' f g r q H locs := I
  have e9 : r971 = r953 := qT.trans (qR.trans qL.symm)
  refine lv_iload hx hb dL_law_974 (lv_at hl 1 rfl) ?_
  refine lv_icmp_eq (tgt := 981) hx hb dL_law_976 (by decide) (fun c9 => ?_) (fun c9 => absurd e9 c9)
  refine lv_iload hx hb dL_law_981 (lv_at hl 1 rfl) ?_
  refine lv_if_ne (tgt := 998) hx hb dL_law_983 (by decide) (fun c983 => ?_) (fun c983 => absurd c983 (fun z9 => absurd (qL.symm.trans z9) (by decide)))
  refine lv_goto (tgt := 2469) hx hb dL_law_998 (by decide) ?_
  refine W.widen (k := C + 7) (n := S + 588) (by omega) (by omega) ?_
  exact kk _ _ _ _ _ _ _ _ _ I (lv_sub hl [2, 3, 4, 5, 6] rfl)
set_option maxHeartbeats 4000000 in
set_option maxRecDepth 100000 in
theorem lcase_15 {p : Program} {l : Launch} {e : Env} {s : State} {m : MethodId} {below : List Frame} {meth : Method} {c : Code} {b L : Nat} {xs : Nat → Int32} {D : va_G} {cy : Nat → ClassId} {xo mo ou : Nat} {a : Nat → Nat} {M : Option Nat} {G : cG} {W' : va_W} {f : Nat → Int32} {g : Nat → Int64} {r : Nat → Nat → Int32} {q : Nat → Nat → Int64} {H : Heap} {locs : List Loc} {ls : Array Slot} {Q : State → Prop} {C S : Nat} (X : LX p l s m c b L xs D cy mo a) (I : LI D cy s xo mo ou a M G W' f g r q H locs) (hF : FR cy xo W' f r) {x4 : Int32} (h4 : 0 ≤ x4.toInt ∧ x4.toInt + 8 ≤ (L : Int) ∧ L ≤ 4096) (hC : C + 7 ≤ 600002) (hSl : S + 53273 ≤ 7302232) (hl : lv_has ls 8 [(0, .ref b), (1, .ref xo), (2, .ref mo), (3, .ref ou), (4, .int x4)]) (kk : ∀ (G : cG) (W' : va_W) (f : Nat → Int32) (g : Nat → Int64) (r : Nat → Nat → Int32) (q : Nat → Nat → Int64) (H : Heap) (locs : List Loc) (ls : Array Slot), LI D cy s xo mo ou a M G W' f g r q H locs → lv_has ls 8 [(0, .ref b), (1, .ref xo), (2, .ref mo), (3, .ref ou), (4, .int x4)] → W p l e room_1 s m #[Value.ref b] below meth c H locs (C + 7) (S + 588) Q (F0 m 2469 ls [])) : W p l e room_1 s m #[Value.ref b] below meth c H locs C S Q (F0 m 1001 ls []) := by
  obtain ⟨⟨hx, hb, hml, hown, hts⟩, ⟨hXs, hbl⟩, ⟨hK, hV, hZ, hXT⟩, hst, hDM, hAM⟩ := id X
  have h1 : f 1 = 0 := hF.1 1
  have h10 : (f 1).toInt = 0 := by rw [h1]; rfl
  have h23 : f 23 = 0 := hF.1 23
  have h230 : (f 23).toInt = 0 := by rw [h23]; rfl
  have h29 : ∀ i, r 29 i = 0 := hF.2.1
  have hbA : ¬ AL s b := Nat.not_le.mpr hbl
  have hRc : room_1.cells = 600002 := rfl
  have hRs : room_1.slots = 7302232 := rfl
  have hn1 : vp_in (x4 + 1) L := l_in (c := 1) h4 rfl (by decide)
  have hn2 : vp_in (x4 + 2) L := l_in (c := 2) h4 rfl (by decide)
  have hn3 : vp_in (x4 + 3) L := l_in (c := 3) h4 rfl (by decide)
  have hn4 : vp_in (x4 + 4) L := l_in (c := 4) h4 rfl (by decide)
  have hn5 : vp_in (x4 + 5) L := l_in (c := 5) h4 rfl (by decide)
  have hn6 : vp_in (x4 + 6) L := l_in (c := 6) h4 rfl (by decide)
  have hn7 : vp_in (x4 + 7) L := l_in (c := 7) h4 rfl (by decide)
  refine lv_aload_n hx hb dL_law_1001 rfl (lv_at hl 1 rfl) ?_
  refine lv_aload_n hx hb dL_law_1002 rfl (lv_at hl 0 rfl) ?_
  refine lv_iload hx hb dL_law_1003 (lv_at hl 4 rfl) ?_
  refine lv_iconst (v := 1) hx hb dL_law_1005 (by decide) ?_
  refine lv_iadd hx hb dL_law_1006 ?_
  refine va_sld hx hb hXs hbl hbA I.2.2.2.2.2.2.2.2.1 hn1 dL_law_1007 ?_
  refine lv_aload_n hx hb dL_law_1008 rfl (lv_at hl 3 rfl) ?_
  obtain ⟨bs, js, sh, wk, ll, jc, lc, lb, hM⟩ := I.2.2.2.2.2.2.2.1
  obtain ⟨rfl, rfl, rfl, hSh, fl, hfl⟩ := hF.at I.2.2.1 hM
  refine lk3_ri I (vx_runSW (g := F0 m 1009 ls ([.ref ou, .int (xs (x4 + 1).toNatClampNeg), .ref xo])) (As := [.ref xo, .int (xs (x4 + 1).toNatClampNeg), .ref ou]) (rest := []) ⟨hx, hb, hml, hown, hts⟩ (c_L_bestOne_0 l hst D cy (AC s mo a) G W' xo ((xs (x4 + 1).toNatClampNeg)) ou I.2.2.1 I.2.2.2.1 I.2.2.2.2.1 hM I.2.2.2.2.2.1 h10) (vx_cwSW 3 hts gL_law_L_bestOne rfl rfl rfl (by decide +kernel) ⟨Nat.le_of_ble_eq_true rfl, Nat.le_of_ble_eq_true rfl⟩) (l_preS I hK hV hZ hXT) rfl rfl hl.1 rfl (lv_room (Nat.le_of_ble_eq_true rfl)) dL_law_1009 ⟨by omega, by omega⟩) (fun r1009 u H locs q1009 hX I => ?_)
  obtain ⟨G, W'⟩ := u
  have I : LI D cy s xo mo ou a M G W' f g r q H locs := I
  have qL := q1009
  refine lv_istore (lv' := [(5, .int r1009), (0, .ref b), (1, .ref xo), (2, .ref mo), (3, .ref ou), (4, .int x4)]) hx hb dL_law_1012 hl (by decide) rfl (fun ls hl => ?_)
  refine lv_aload_n hx hb dL_law_1014 rfl (lv_at hl 3 rfl) ?_
  refine lv_aload_n hx hb dL_law_1015 rfl (lv_at hl 1 rfl) ?_
  refine lv_iload hx hb dL_law_1016 (lv_at hl 5 rfl) ?_
  refine lv_iconst (v := 1) hx hb dL_law_1018 (by decide) ?_
  refine lv_iadd hx hb dL_law_1019 ?_
  refine va_sld hx hb hXs hbl hbA I.2.2.2.2.2.2.2.2.1 hn1 dL_law_1020 ?_
  have hI := I.2.2.2.2.2.2.1
  refine lm_l (As := [.int (xs (x4 + 1).toNatClampNeg)]) (rest := []) I ⟨hx, hb, hml, hown, hts⟩ (c_X10_bestOne_0 l D cy mo a f g r q ((xs (x4 + 1).toNatClampNeg)) hDM hI h10) (cwV 1 hts gL_law_X10_bestOne rfl rfl rfl (by decide +kernel) ⟨Nat.le_of_ble_eq_true rfl, Nat.le_of_ble_eq_true rfl⟩) hK hAM rfl hl.1 rfl (Nat.le_of_ble_eq_true rfl) dL_law_1021 ⟨by omega, by omega⟩ (fun _ _ h9 => by obtain ⟨_, rfl, h9⟩ := h9; exact hI) (fun r1021 u H locs q1021 I => ?_)
  have qR : u.1 0 = 1 := by obtain ⟨th9, rfl, h9⟩ := q1021; exact h9
  obtain ⟨f, g, r, q⟩ := u
  have qR : f 0 = 1 := qR
  have I : LI D cy s xo mo ou a M G W' f g r q H locs := I
  refine lv_lstore (lv' := [(6, .long r1021), (5, .int r1009), (0, .ref b), (1, .ref xo), (2, .ref mo), (3, .ref ou), (4, .int x4)]) hx hb dL_law_1024 hl (by decide) rfl (fun ls hl => ?_)
  refine lv_aload_n hx hb dL_law_1026 rfl (lv_at hl 4 rfl) ?_
  have hI := I.2.2.2.2.2.2.1
  refine lm_i (As := []) (rest := []) I ⟨hx, hb, hml, hown, hts⟩ (c_X10_thrown_x l D cy mo a f g r q  hDM) (cwV 0 hts gL_law_X10_thrown rfl rfl rfl (by decide +kernel) ⟨Nat.le_of_ble_eq_true rfl, Nat.le_of_ble_eq_true rfl⟩) hK hAM rfl hl.1 rfl (Nat.le_of_ble_eq_true rfl) dL_law_1027 ⟨by omega, by omega⟩ (fun _ _ h9 => by obtain ⟨rfl, h9⟩ := h9; exact hI) (fun r1027 u H locs q1027 I => ?_)
  have qT : r1027 = f 0 := by obtain ⟨rfl, h9⟩ := q1027; exact h9
  obtain ⟨f, g, r, q⟩ := u
  have I : LI D cy s xo mo ou a M G W' f g r q H locs := I
  have e9 : r1027 = r1009 := qT.trans (qR.trans qL.symm)
  refine lv_iload hx hb dL_law_1030 (lv_at hl 1 rfl) ?_
  refine lv_icmp_eq (tgt := 1037) hx hb dL_law_1032 (by decide) (fun c9 => ?_) (fun c9 => absurd e9 c9)
  refine lv_iload hx hb dL_law_1037 (lv_at hl 1 rfl) ?_
  refine lv_if_ne (tgt := 1053) hx hb dL_law_1039 (by decide) (fun c1039 => ?_) (fun c1039 => absurd c1039 (fun z9 => absurd (qL.symm.trans z9) (by decide)))
  refine lv_goto (tgt := 2469) hx hb dL_law_1053 (by decide) ?_
  refine W.widen (k := C + 7) (n := S + 588) (by omega) (by omega) ?_
  exact kk _ _ _ _ _ _ _ _ _ I (lv_sub hl [2, 3, 4, 5, 6] rfl)
set_option maxHeartbeats 4000000 in
set_option maxRecDepth 100000 in
theorem lcase_16 {p : Program} {l : Launch} {e : Env} {s : State} {m : MethodId} {below : List Frame} {meth : Method} {c : Code} {b L : Nat} {xs : Nat → Int32} {D : va_G} {cy : Nat → ClassId} {xo mo ou : Nat} {a : Nat → Nat} {M : Option Nat} {G : cG} {W' : va_W} {f : Nat → Int32} {g : Nat → Int64} {r : Nat → Nat → Int32} {q : Nat → Nat → Int64} {H : Heap} {locs : List Loc} {ls : Array Slot} {Q : State → Prop} {C S : Nat} (X : LX p l s m c b L xs D cy mo a) (I : LI D cy s xo mo ou a M G W' f g r q H locs) (hF : FR cy xo W' f r) {x4 : Int32} (h4 : 0 ≤ x4.toInt ∧ x4.toInt + 8 ≤ (L : Int) ∧ L ≤ 4096) (hC : C + 7 ≤ 600002) (hSl : S + 53273 ≤ 7302232) (hl : lv_has ls 8 [(0, .ref b), (1, .ref xo), (2, .ref mo), (3, .ref ou), (4, .int x4)]) (kk : ∀ (G : cG) (W' : va_W) (f : Nat → Int32) (g : Nat → Int64) (r : Nat → Nat → Int32) (q : Nat → Nat → Int64) (H : Heap) (locs : List Loc) (ls : Array Slot), LI D cy s xo mo ou a M G W' f g r q H locs → lv_has ls 8 [(0, .ref b), (1, .ref xo), (2, .ref mo), (3, .ref ou), (4, .int x4)] → W p l e room_1 s m #[Value.ref b] below meth c H locs (C + 7) (S + 588) Q (F0 m 2469 ls [])) : W p l e room_1 s m #[Value.ref b] below meth c H locs C S Q (F0 m 1056 ls []) := by
  obtain ⟨⟨hx, hb, hml, hown, hts⟩, ⟨hXs, hbl⟩, ⟨hK, hV, hZ, hXT⟩, hst, hDM, hAM⟩ := id X
  have h1 : f 1 = 0 := hF.1 1
  have h10 : (f 1).toInt = 0 := by rw [h1]; rfl
  have h23 : f 23 = 0 := hF.1 23
  have h230 : (f 23).toInt = 0 := by rw [h23]; rfl
  have h29 : ∀ i, r 29 i = 0 := hF.2.1
  have hbA : ¬ AL s b := Nat.not_le.mpr hbl
  have hRc : room_1.cells = 600002 := rfl
  have hRs : room_1.slots = 7302232 := rfl
  have hn1 : vp_in (x4 + 1) L := l_in (c := 1) h4 rfl (by decide)
  have hn2 : vp_in (x4 + 2) L := l_in (c := 2) h4 rfl (by decide)
  have hn3 : vp_in (x4 + 3) L := l_in (c := 3) h4 rfl (by decide)
  have hn4 : vp_in (x4 + 4) L := l_in (c := 4) h4 rfl (by decide)
  have hn5 : vp_in (x4 + 5) L := l_in (c := 5) h4 rfl (by decide)
  have hn6 : vp_in (x4 + 6) L := l_in (c := 6) h4 rfl (by decide)
  have hn7 : vp_in (x4 + 7) L := l_in (c := 7) h4 rfl (by decide)
  refine lv_aload_n hx hb dL_law_1056 rfl (lv_at hl 1 rfl) ?_
  refine lv_aload_n hx hb dL_law_1057 rfl (lv_at hl 0 rfl) ?_
  refine lv_iload hx hb dL_law_1058 (lv_at hl 4 rfl) ?_
  refine lv_iconst (v := 1) hx hb dL_law_1060 (by decide) ?_
  refine lv_iadd hx hb dL_law_1061 ?_
  refine va_sld hx hb hXs hbl hbA I.2.2.2.2.2.2.2.2.1 hn1 dL_law_1062 ?_
  refine lv_aload_n hx hb dL_law_1063 rfl (lv_at hl 0 rfl) ?_
  refine lv_iload hx hb dL_law_1064 (lv_at hl 4 rfl) ?_
  refine lv_iconst (v := 2) hx hb dL_law_1066 (by decide) ?_
  refine lv_iadd hx hb dL_law_1067 ?_
  refine va_sld hx hb hXs hbl hbA I.2.2.2.2.2.2.2.2.1 hn2 dL_law_1068 ?_
  refine lv_aload_n hx hb dL_law_1069 rfl (lv_at hl 0 rfl) ?_
  refine lv_iload hx hb dL_law_1070 (lv_at hl 4 rfl) ?_
  refine lv_iconst (v := 3) hx hb dL_law_1072 (by decide) ?_
  refine lv_iadd hx hb dL_law_1073 ?_
  refine va_sld hx hb hXs hbl hbA I.2.2.2.2.2.2.2.2.1 hn3 dL_law_1074 ?_
  refine lv_i2l (v := ((xs (x4 + 3).toNatClampNeg)).toInt64) hx hb dL_law_1075 rfl ?_
  refine lv_bipush (v := 32) hx hb dL_law_1076 (by decide) ?_
  refine lv_lshl (v := (((xs (x4 + 3).toNatClampNeg)).toInt64) <<< ((32 : Int32).toInt64 &&& 63)) hx hb dL_law_1078 rfl ?_
  refine lv_aload_n hx hb dL_law_1079 rfl (lv_at hl 0 rfl) ?_
  refine lv_iload hx hb dL_law_1080 (lv_at hl 4 rfl) ?_
  refine lv_iconst (v := 4) hx hb dL_law_1082 (by decide) ?_
  refine lv_iadd hx hb dL_law_1083 ?_
  refine va_sld hx hb hXs hbl hbA I.2.2.2.2.2.2.2.2.1 hn4 dL_law_1084 ?_
  refine lv_i2l (v := ((xs (x4 + 4).toNatClampNeg)).toInt64) hx hb dL_law_1085 rfl ?_
  refine lv_ldc2 hx hb hown (hts (.constantLong RL 45 (4294967295)) (by decide +kernel)) dL_law_1086 ?_
  refine lv_land hx hb dL_law_1089 ?_
  refine lv_topl (fun v1089 e1089 => ?_)
  refine lv_lor hx hb dL_law_1090 ?_
  refine lv_topl (fun v1090 e1090 => ?_)
  refine lk_i I (va_runV (g := F0 m 1091 ls ([.long v1090, .int (xs (x4 + 2).toNatClampNeg), .int (xs (x4 + 1).toNatClampNeg), .ref xo])) (As := [.int (xs (x4 + 1).toNatClampNeg), .int (xs (x4 + 2).toNatClampNeg), .long v1090]) (rest := []) ⟨hx, hb, hml, hown, hts⟩ (c_X9_switches_x l D cy (AC s mo a) G W' xo ((xs (x4 + 1).toNatClampNeg)) ((xs (x4 + 2).toNatClampNeg)) v1090 I.2.2.1 I.2.2.2.1 I.2.2.2.2.1) (cwV 3 hts gL_law_X9_switches rfl rfl rfl (by decide +kernel) ⟨Nat.le_of_ble_eq_true rfl, Nat.le_of_ble_eq_true rfl⟩) (l_preV I hK hV) rfl rfl hl.1 rfl (lv_room (Nat.le_of_ble_eq_true rfl)) dL_law_1091 ⟨by omega, by omega⟩) rfl (fun r1091 u H locs q1091 I => ?_)
  obtain ⟨G, W'⟩ := u
  have I : LI D cy s xo mo ou a M G W' f g r q H locs := I
  refine lv_aload_n hx hb dL_law_1094 rfl (lv_at hl 2 rfl) ?_
  refine lv_aload_n hx hb dL_law_1095 rfl (lv_at hl 0 rfl) ?_
  refine lv_iload hx hb dL_law_1096 (lv_at hl 4 rfl) ?_
  refine lv_iconst (v := 1) hx hb dL_law_1098 (by decide) ?_
  refine lv_iadd hx hb dL_law_1099 ?_
  refine va_sld hx hb hXs hbl hbA I.2.2.2.2.2.2.2.2.1 hn1 dL_law_1100 ?_
  refine lv_aload_n hx hb dL_law_1101 rfl (lv_at hl 0 rfl) ?_
  refine lv_iload hx hb dL_law_1102 (lv_at hl 4 rfl) ?_
  refine lv_iconst (v := 2) hx hb dL_law_1104 (by decide) ?_
  refine lv_iadd hx hb dL_law_1105 ?_
  refine va_sld hx hb hXs hbl hbA I.2.2.2.2.2.2.2.2.1 hn2 dL_law_1106 ?_
  refine lv_aload_n hx hb dL_law_1107 rfl (lv_at hl 0 rfl) ?_
  refine lv_iload hx hb dL_law_1108 (lv_at hl 4 rfl) ?_
  refine lv_iconst (v := 3) hx hb dL_law_1110 (by decide) ?_
  refine lv_iadd hx hb dL_law_1111 ?_
  refine va_sld hx hb hXs hbl hbA I.2.2.2.2.2.2.2.2.1 hn3 dL_law_1112 ?_
  refine lv_i2l (v := ((xs (x4 + 3).toNatClampNeg)).toInt64) hx hb dL_law_1113 rfl ?_
  refine lv_bipush (v := 32) hx hb dL_law_1114 (by decide) ?_
  refine lv_lshl (v := (((xs (x4 + 3).toNatClampNeg)).toInt64) <<< ((32 : Int32).toInt64 &&& 63)) hx hb dL_law_1116 rfl ?_
  refine lv_aload_n hx hb dL_law_1117 rfl (lv_at hl 0 rfl) ?_
  refine lv_iload hx hb dL_law_1118 (lv_at hl 4 rfl) ?_
  refine lv_iconst (v := 4) hx hb dL_law_1120 (by decide) ?_
  refine lv_iadd hx hb dL_law_1121 ?_
  refine va_sld hx hb hXs hbl hbA I.2.2.2.2.2.2.2.2.1 hn4 dL_law_1122 ?_
  refine lv_i2l (v := ((xs (x4 + 4).toNatClampNeg)).toInt64) hx hb dL_law_1123 rfl ?_
  refine lv_ldc2 hx hb hown (hts (.constantLong RL 45 (4294967295)) (by decide +kernel)) dL_law_1124 ?_
  refine lv_land hx hb dL_law_1127 ?_
  refine lv_topl (fun v1127 e1127 => ?_)
  refine lv_lor hx hb dL_law_1128 ?_
  refine lv_topl (fun v1128 e1128 => ?_)
  have hI := I.2.2.2.2.2.2.1
  refine lm_i (As := [.int (xs (x4 + 1).toNatClampNeg), .int (xs (x4 + 2).toNatClampNeg), .long v1128]) (rest := [.int r1091]) I ⟨hx, hb, hml, hown, hts⟩ (c_X10_switches_x l D cy mo a f g r q ((xs (x4 + 1).toNatClampNeg)) ((xs (x4 + 2).toNatClampNeg)) v1128 hDM) (cwV 3 hts gL_law_X10_switches rfl rfl rfl (by decide +kernel) ⟨Nat.le_of_ble_eq_true rfl, Nat.le_of_ble_eq_true rfl⟩) hK hAM rfl hl.1 rfl (Nat.le_of_ble_eq_true rfl) dL_law_1129 ⟨by omega, by omega⟩ (fun _ _ h9 => by obtain ⟨_, rfl, h9⟩ := h9; exact hI) (fun r1129 u H locs q1129 I => ?_)
  obtain ⟨_, -, q1129⟩ := q1129
  obtain ⟨f, g, r, q⟩ := u
  have I : LI D cy s xo mo ou a M G W' f g r q H locs := I
  subst e1128
  subst e1127
  subst e1090
  subst e1089
  have e9 : r1091 = r1129 := swA_eq q1091 q1129
  refine lv_icmp_eq (tgt := 2469) hx hb dL_law_1132 (by decide) (fun c9 => ?_) (fun c9 => absurd e9 c9)
  refine W.widen (k := C + 7) (n := S + 588) (by omega) (by omega) ?_
  exact kk _ _ _ _ _ _ _ _ _ I (lv_sub hl [0, 1, 2, 3, 4] rfl)
set_option maxHeartbeats 4000000 in
set_option maxRecDepth 100000 in
theorem lcase_17 {p : Program} {l : Launch} {e : Env} {s : State} {m : MethodId} {below : List Frame} {meth : Method} {c : Code} {b L : Nat} {xs : Nat → Int32} {D : va_G} {cy : Nat → ClassId} {xo mo ou : Nat} {a : Nat → Nat} {M : Option Nat} {G : cG} {W' : va_W} {f : Nat → Int32} {g : Nat → Int64} {r : Nat → Nat → Int32} {q : Nat → Nat → Int64} {H : Heap} {locs : List Loc} {ls : Array Slot} {Q : State → Prop} {C S : Nat} (X : LX p l s m c b L xs D cy mo a) (I : LI D cy s xo mo ou a M G W' f g r q H locs) (hF : FR cy xo W' f r) {x4 : Int32} (h4 : 0 ≤ x4.toInt ∧ x4.toInt + 8 ≤ (L : Int) ∧ L ≤ 4096) (hC : C + 7 ≤ 600002) (hSl : S + 53273 ≤ 7302232) (hl : lv_has ls 8 [(0, .ref b), (1, .ref xo), (2, .ref mo), (3, .ref ou), (4, .int x4)]) (kk : ∀ (G : cG) (W' : va_W) (f : Nat → Int32) (g : Nat → Int64) (r : Nat → Nat → Int32) (q : Nat → Nat → Int64) (H : Heap) (locs : List Loc) (ls : Array Slot), LI D cy s xo mo ou a M G W' f g r q H locs → lv_has ls 8 [(0, .ref b), (1, .ref xo), (2, .ref mo), (3, .ref ou), (4, .int x4)] → W p l e room_1 s m #[Value.ref b] below meth c H locs (C + 7) (S + 588) Q (F0 m 2469 ls [])) : W p l e room_1 s m #[Value.ref b] below meth c H locs C S Q (F0 m 1137 ls []) := by
  obtain ⟨⟨hx, hb, hml, hown, hts⟩, ⟨hXs, hbl⟩, ⟨hK, hV, hZ, hXT⟩, hst, hDM, hAM⟩ := id X
  have h1 : f 1 = 0 := hF.1 1
  have h10 : (f 1).toInt = 0 := by rw [h1]; rfl
  have h23 : f 23 = 0 := hF.1 23
  have h230 : (f 23).toInt = 0 := by rw [h23]; rfl
  have h29 : ∀ i, r 29 i = 0 := hF.2.1
  have hbA : ¬ AL s b := Nat.not_le.mpr hbl
  have hRc : room_1.cells = 600002 := rfl
  have hRs : room_1.slots = 7302232 := rfl
  have hn1 : vp_in (x4 + 1) L := l_in (c := 1) h4 rfl (by decide)
  have hn2 : vp_in (x4 + 2) L := l_in (c := 2) h4 rfl (by decide)
  have hn3 : vp_in (x4 + 3) L := l_in (c := 3) h4 rfl (by decide)
  have hn4 : vp_in (x4 + 4) L := l_in (c := 4) h4 rfl (by decide)
  have hn5 : vp_in (x4 + 5) L := l_in (c := 5) h4 rfl (by decide)
  have hn6 : vp_in (x4 + 6) L := l_in (c := 6) h4 rfl (by decide)
  have hn7 : vp_in (x4 + 7) L := l_in (c := 7) h4 rfl (by decide)
  refine lv_aload_n hx hb dL_law_1137 rfl (lv_at hl 1 rfl) ?_
  refine lv_aload_n hx hb dL_law_1138 rfl (lv_at hl 0 rfl) ?_
  refine lv_iload hx hb dL_law_1139 (lv_at hl 4 rfl) ?_
  refine lv_iconst (v := 1) hx hb dL_law_1141 (by decide) ?_
  refine lv_iadd hx hb dL_law_1142 ?_
  refine va_sld hx hb hXs hbl hbA I.2.2.2.2.2.2.2.2.1 hn1 dL_law_1143 ?_
  refine lv_aload_n hx hb dL_law_1144 rfl (lv_at hl 0 rfl) ?_
  refine lv_iload hx hb dL_law_1145 (lv_at hl 4 rfl) ?_
  refine lv_iconst (v := 2) hx hb dL_law_1147 (by decide) ?_
  refine lv_iadd hx hb dL_law_1148 ?_
  refine va_sld hx hb hXs hbl hbA I.2.2.2.2.2.2.2.2.1 hn2 dL_law_1149 ?_
  refine lv_aload_n hx hb dL_law_1150 rfl (lv_at hl 0 rfl) ?_
  refine lv_iload hx hb dL_law_1151 (lv_at hl 4 rfl) ?_
  refine lv_iconst (v := 3) hx hb dL_law_1153 (by decide) ?_
  refine lv_iadd hx hb dL_law_1154 ?_
  refine va_sld hx hb hXs hbl hbA I.2.2.2.2.2.2.2.2.1 hn3 dL_law_1155 ?_
  refine lv_i2l (v := ((xs (x4 + 3).toNatClampNeg)).toInt64) hx hb dL_law_1156 rfl ?_
  refine lv_bipush (v := 32) hx hb dL_law_1157 (by decide) ?_
  refine lv_lshl (v := (((xs (x4 + 3).toNatClampNeg)).toInt64) <<< ((32 : Int32).toInt64 &&& 63)) hx hb dL_law_1159 rfl ?_
  refine lv_aload_n hx hb dL_law_1160 rfl (lv_at hl 0 rfl) ?_
  refine lv_iload hx hb dL_law_1161 (lv_at hl 4 rfl) ?_
  refine lv_iconst (v := 4) hx hb dL_law_1163 (by decide) ?_
  refine lv_iadd hx hb dL_law_1164 ?_
  refine va_sld hx hb hXs hbl hbA I.2.2.2.2.2.2.2.2.1 hn4 dL_law_1165 ?_
  refine lv_i2l (v := ((xs (x4 + 4).toNatClampNeg)).toInt64) hx hb dL_law_1166 rfl ?_
  refine lv_ldc2 hx hb hown (hts (.constantLong RL 45 (4294967295)) (by decide +kernel)) dL_law_1167 ?_
  refine lv_land hx hb dL_law_1170 ?_
  refine lv_topl (fun v1170 e1170 => ?_)
  refine lv_lor hx hb dL_law_1171 ?_
  refine lv_topl (fun v1171 e1171 => ?_)
  refine lv_aload_n hx hb dL_law_1172 rfl (lv_at hl 0 rfl) ?_
  refine lv_iload hx hb dL_law_1173 (lv_at hl 4 rfl) ?_
  refine lv_iconst (v := 5) hx hb dL_law_1175 (by decide) ?_
  refine lv_iadd hx hb dL_law_1176 ?_
  refine va_sld hx hb hXs hbl hbA I.2.2.2.2.2.2.2.2.1 hn5 dL_law_1177 ?_
  refine lk_l I (va_runV (g := F0 m 1178 ls ([.int (xs (x4 + 5).toNatClampNeg), .long v1171, .int (xs (x4 + 2).toNatClampNeg), .int (xs (x4 + 1).toNatClampNeg), .ref xo])) (As := [.int (xs (x4 + 1).toNatClampNeg), .int (xs (x4 + 2).toNatClampNeg), .long v1171, .int (xs (x4 + 5).toNatClampNeg)]) (rest := []) ⟨hx, hb, hml, hown, hts⟩ (c_X9_switched_x l D cy (AC s mo a) G W' xo ((xs (x4 + 1).toNatClampNeg)) ((xs (x4 + 2).toNatClampNeg)) v1171 ((xs (x4 + 5).toNatClampNeg)) I.2.2.1 I.2.2.2.1 I.2.2.2.2.1) (cwV 4 hts gL_law_X9_switched rfl rfl rfl (by decide +kernel) ⟨Nat.le_of_ble_eq_true rfl, Nat.le_of_ble_eq_true rfl⟩) (l_preV I hK hV) rfl rfl hl.1 rfl (lv_room (Nat.le_of_ble_eq_true rfl)) dL_law_1178 ⟨by omega, by omega⟩) rfl (fun r1178 u H locs q1178 I => ?_)
  obtain ⟨G, W'⟩ := u
  have I : LI D cy s xo mo ou a M G W' f g r q H locs := I
  refine lv_aload_n hx hb dL_law_1181 rfl (lv_at hl 2 rfl) ?_
  refine lv_aload_n hx hb dL_law_1182 rfl (lv_at hl 0 rfl) ?_
  refine lv_iload hx hb dL_law_1183 (lv_at hl 4 rfl) ?_
  refine lv_iconst (v := 1) hx hb dL_law_1185 (by decide) ?_
  refine lv_iadd hx hb dL_law_1186 ?_
  refine va_sld hx hb hXs hbl hbA I.2.2.2.2.2.2.2.2.1 hn1 dL_law_1187 ?_
  refine lv_aload_n hx hb dL_law_1188 rfl (lv_at hl 0 rfl) ?_
  refine lv_iload hx hb dL_law_1189 (lv_at hl 4 rfl) ?_
  refine lv_iconst (v := 2) hx hb dL_law_1191 (by decide) ?_
  refine lv_iadd hx hb dL_law_1192 ?_
  refine va_sld hx hb hXs hbl hbA I.2.2.2.2.2.2.2.2.1 hn2 dL_law_1193 ?_
  refine lv_aload_n hx hb dL_law_1194 rfl (lv_at hl 0 rfl) ?_
  refine lv_iload hx hb dL_law_1195 (lv_at hl 4 rfl) ?_
  refine lv_iconst (v := 3) hx hb dL_law_1197 (by decide) ?_
  refine lv_iadd hx hb dL_law_1198 ?_
  refine va_sld hx hb hXs hbl hbA I.2.2.2.2.2.2.2.2.1 hn3 dL_law_1199 ?_
  refine lv_i2l (v := ((xs (x4 + 3).toNatClampNeg)).toInt64) hx hb dL_law_1200 rfl ?_
  refine lv_bipush (v := 32) hx hb dL_law_1201 (by decide) ?_
  refine lv_lshl (v := (((xs (x4 + 3).toNatClampNeg)).toInt64) <<< ((32 : Int32).toInt64 &&& 63)) hx hb dL_law_1203 rfl ?_
  refine lv_aload_n hx hb dL_law_1204 rfl (lv_at hl 0 rfl) ?_
  refine lv_iload hx hb dL_law_1205 (lv_at hl 4 rfl) ?_
  refine lv_iconst (v := 4) hx hb dL_law_1207 (by decide) ?_
  refine lv_iadd hx hb dL_law_1208 ?_
  refine va_sld hx hb hXs hbl hbA I.2.2.2.2.2.2.2.2.1 hn4 dL_law_1209 ?_
  refine lv_i2l (v := ((xs (x4 + 4).toNatClampNeg)).toInt64) hx hb dL_law_1210 rfl ?_
  refine lv_ldc2 hx hb hown (hts (.constantLong RL 45 (4294967295)) (by decide +kernel)) dL_law_1211 ?_
  refine lv_land hx hb dL_law_1214 ?_
  refine lv_topl (fun v1214 e1214 => ?_)
  refine lv_lor hx hb dL_law_1215 ?_
  refine lv_topl (fun v1215 e1215 => ?_)
  refine lv_aload_n hx hb dL_law_1216 rfl (lv_at hl 0 rfl) ?_
  refine lv_iload hx hb dL_law_1217 (lv_at hl 4 rfl) ?_
  refine lv_iconst (v := 5) hx hb dL_law_1219 (by decide) ?_
  refine lv_iadd hx hb dL_law_1220 ?_
  refine va_sld hx hb hXs hbl hbA I.2.2.2.2.2.2.2.2.1 hn5 dL_law_1221 ?_
  have hI := I.2.2.2.2.2.2.1
  refine lm_l (As := [.int (xs (x4 + 1).toNatClampNeg), .int (xs (x4 + 2).toNatClampNeg), .long v1215, .int (xs (x4 + 5).toNatClampNeg)]) (rest := [.long r1178]) I ⟨hx, hb, hml, hown, hts⟩ (c_X10_switched_x l D cy mo a f g r q ((xs (x4 + 1).toNatClampNeg)) ((xs (x4 + 2).toNatClampNeg)) v1215 ((xs (x4 + 5).toNatClampNeg)) hDM) (cwV 4 hts gL_law_X10_switched rfl rfl rfl (by decide +kernel) ⟨Nat.le_of_ble_eq_true rfl, Nat.le_of_ble_eq_true rfl⟩) hK hAM rfl hl.1 rfl (Nat.le_of_ble_eq_true rfl) dL_law_1222 ⟨by omega, by omega⟩ (fun _ _ h9 => by obtain ⟨_, rfl, h9⟩ := h9; exact hI) (fun r1222 u H locs q1222 I => ?_)
  obtain ⟨_, -, q1222⟩ := q1222
  obtain ⟨f, g, r, q⟩ := u
  have I : LI D cy s xo mo ou a M G W' f g r q H locs := I
  refine W.lcmp hx hb dL_law_1225 ?_
  subst e1215
  subst e1214
  subst e1171
  subst e1170
  have e9 : r1178 = r1222 := swS_eq q1178 q1222
  refine lv_if_eq (tgt := 2469) hx hb dL_law_1226 (by decide) (fun c9 => ?_) (fun c9 => absurd ((lg_cmp_eq _ _).mpr e9) c9)
  refine W.widen (k := C + 7) (n := S + 588) (by omega) (by omega) ?_
  exact kk _ _ _ _ _ _ _ _ _ I (lv_sub hl [0, 1, 2, 3, 4] rfl)
