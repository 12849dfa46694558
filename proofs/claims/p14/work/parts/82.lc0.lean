set_option maxHeartbeats 4000000 in
set_option maxRecDepth 100000 in
theorem lcase_0 {p : Program} {l : Launch} {e : Env} {s : State} {m : MethodId} {below : List Frame} {meth : Method} {c : Code} {b L : Nat} {xs : Nat → Int32} {D : va_G} {cy : Nat → ClassId} {xo mo ou : Nat} {a : Nat → Nat} {M : Option Nat} {G : cG} {W' : va_W} {f : Nat → Int32} {g : Nat → Int64} {r : Nat → Nat → Int32} {q : Nat → Nat → Int64} {H : Heap} {locs : List Loc} {ls : Array Slot} {Q : State → Prop} {C S : Nat} (X : LX p l s m c b L xs D cy mo a) (I : LI D cy s xo mo ou a M G W' f g r q H locs) (hR : RlJ cy xo G W' f r) {x4 : Int32} (h4 : 0 ≤ x4.toInt ∧ x4.toInt + 8 ≤ (L : Int) ∧ L ≤ 4096) (hC : C + 7 ≤ 601024) (hSl : S + 53273 ≤ 7293034) (hl : lv_has ls 8 [(0, .ref b), (1, .ref xo), (2, .ref mo), (3, .ref ou), (4, .int x4)]) (kk : ∀ (G : cG) (W' : va_W) (f : Nat → Int32) (g : Nat → Int64) (r : Nat → Nat → Int32) (q : Nat → Nat → Int64) (H : Heap) (locs : List Loc) (ls : Array Slot), LI D cy s xo mo ou a M G W' f g r q H locs → RlJ cy xo G W' f r → lv_has ls 8 [(0, .ref b), (1, .ref xo), (2, .ref mo), (3, .ref ou), (4, .int x4)] → W p l e room_1 s m #[Value.ref b] below meth c H locs (C + 7) (S + 588) Q (F0 m 2327 ls [])) : W p l e room_1 s m #[Value.ref b] below meth c H locs C S Q (F0 m 200 ls []) := by
  obtain ⟨⟨hx, hb, hml, hown, hts⟩, ⟨hXs, hbl⟩, ⟨hK, hV, hZ, hXT⟩, hst, hDM, hAM⟩ := id X
  have I0 := I
  have hbA : ¬ AL s b := Nat.not_le.mpr hbl
  have hRc : room_1.cells = 601024 := rfl
  have hRs : room_1.slots = 7293034 := rfl
  have hn1 : vp_in (x4 + 1) L := l_in (c := 1) h4 rfl (by decide)
  have hn2 : vp_in (x4 + 2) L := l_in (c := 2) h4 rfl (by decide)
  have hn3 : vp_in (x4 + 3) L := l_in (c := 3) h4 rfl (by decide)
  have hn4 : vp_in (x4 + 4) L := l_in (c := 4) h4 rfl (by decide)
  have hn5 : vp_in (x4 + 5) L := l_in (c := 5) h4 rfl (by decide)
  have hn6 : vp_in (x4 + 6) L := l_in (c := 6) h4 rfl (by decide)
  have hn7 : vp_in (x4 + 7) L := l_in (c := 7) h4 rfl (by decide)
  refine lv_aload_n hx hb dL_law_200 rfl (lv_at hl 1 rfl) ?_
  refine lv_aload_n hx hb dL_law_201 rfl (lv_at hl 0 rfl) ?_
  refine lv_iload hx hb dL_law_202 (lv_at hl 4 rfl) ?_
  refine lv_iconst (v := 1) hx hb dL_law_204 (by decide) ?_
  refine lv_iadd hx hb dL_law_205 ?_
  refine va_sld hx hb hXs hbl hbA I.2.2.2.2.2.2.2.2.1 hn1 dL_law_206 ?_
  refine lv_aload_n hx hb dL_law_207 rfl (lv_at hl 0 rfl) ?_
  refine lv_iload hx hb dL_law_208 (lv_at hl 4 rfl) ?_
  refine lv_iconst (v := 2) hx hb dL_law_210 (by decide) ?_
  refine lv_iadd hx hb dL_law_211 ?_
  refine va_sld hx hb hXs hbl hbA I.2.2.2.2.2.2.2.2.1 hn2 dL_law_212 ?_
  refine lv_aload_n hx hb dL_law_213 rfl (lv_at hl 0 rfl) ?_
  refine lv_iload hx hb dL_law_214 (lv_at hl 4 rfl) ?_
  refine lv_iconst (v := 3) hx hb dL_law_216 (by decide) ?_
  refine lv_iadd hx hb dL_law_217 ?_
  refine va_sld hx hb hXs hbl hbA I.2.2.2.2.2.2.2.2.1 hn3 dL_law_218 ?_
  obtain ⟨bs, js, sh, wk, ll, jc, lc, lb, hM⟩ := I.2.2.2.2.2.2.2.1
  obtain ⟨hjc, fa, J, hfa, hJ⟩ := hR.at I.2.2.1 hM
  subst hjc
  refine lk3_s I (va_runV (g := F0 m 219 ls ([.int (xs (x4 + 3).toNatClampNeg), .int (xs (x4 + 2).toNatClampNeg), .int (xs (x4 + 1).toNatClampNeg), .ref xo])) (As := [.int (xs (x4 + 1).toNatClampNeg), .int (xs (x4 + 2).toNatClampNeg), .int (xs (x4 + 3).toNatClampNeg)]) (rest := []) ⟨hx, hb, hml, hown, hts⟩ (c_X9_job_z (Wd := fun _ => 0) (Ht := fun _ => 0) l D cy (AC s mo a) G W' xo ((xs (x4 + 1).toNatClampNeg)) ((xs (x4 + 2).toNatClampNeg)) ((xs (x4 + 3).toNatClampNeg)) I.2.2.1 I.2.2.2.1 I.2.2.2.2.1 hM hfa) (cwV 3 hts gL_law_X9_job rfl rfl rfl (by decide +kernel) ⟨Nat.le_of_ble_eq_true rfl, Nat.le_of_ble_eq_true rfl⟩) (l_preV I hK hV) rfl rfl hl.1 rfl (lv_room (Nat.le_of_ble_eq_true rfl)) dL_law_219 ⟨by omega, by omega⟩) (fun _ _ h9 => by obtain ⟨-, jc9, fb9, hm9, -⟩ := h9; exact ⟨_, _, _, _, _, jc9, _, _, hm9⟩) (fun r219 u H locs q219 hX I => ?_)
  obtain ⟨G1, W1⟩ := u
  have I : LI D cy s xo mo ou a M G1 W1 f g r q H locs := I
  have hX : cX none (chs [1, 7, 8, 9]) G W' G1 W1 := hX
  have qj := q219
  refine lv_pop hx hb dL_law_222 rfl ?_
  refine lv_aload_n hx hb dL_law_223 rfl (lv_at hl 2 rfl) ?_
  refine lv_aload_n hx hb dL_law_224 rfl (lv_at hl 0 rfl) ?_
  refine lv_iload hx hb dL_law_225 (lv_at hl 4 rfl) ?_
  refine lv_iconst (v := 1) hx hb dL_law_227 (by decide) ?_
  refine lv_iadd hx hb dL_law_228 ?_
  refine va_sld hx hb hXs hbl hbA I.2.2.2.2.2.2.2.2.1 hn1 dL_law_229 ?_
  refine lv_aload_n hx hb dL_law_230 rfl (lv_at hl 0 rfl) ?_
  refine lv_iload hx hb dL_law_231 (lv_at hl 4 rfl) ?_
  refine lv_iconst (v := 2) hx hb dL_law_233 (by decide) ?_
  refine lv_iadd hx hb dL_law_234 ?_
  refine va_sld hx hb hXs hbl hbA I.2.2.2.2.2.2.2.2.1 hn2 dL_law_235 ?_
  refine lv_aload_n hx hb dL_law_236 rfl (lv_at hl 0 rfl) ?_
  refine lv_iload hx hb dL_law_237 (lv_at hl 4 rfl) ?_
  refine lv_iconst (v := 3) hx hb dL_law_239 (by decide) ?_
  refine lv_iadd hx hb dL_law_240 ?_
  refine va_sld hx hb hXs hbl hbA I.2.2.2.2.2.2.2.2.1 hn3 dL_law_241 ?_
  have hI := I.2.2.2.2.2.2.1
  refine lm_i (As := [.int (xs (x4 + 1).toNatClampNeg), .int (xs (x4 + 2).toNatClampNeg), .int (xs (x4 + 3).toNatClampNeg)]) (rest := []) I ⟨hx, hb, hml, hown, hts⟩ (c_X10_job_z l D cy mo a f g r q ((xs (x4 + 1).toNatClampNeg)) ((xs (x4 + 2).toNatClampNeg)) ((xs (x4 + 3).toNatClampNeg)) hDM hI) (cwV 3 hts gL_law_X10_job rfl rfl rfl (by decide +kernel) ⟨Nat.le_of_ble_eq_true rfl, Nat.le_of_ble_eq_true rfl⟩) hK hAM rfl hl.1 rfl (Nat.le_of_ble_eq_true rfl) dL_law_242 ⟨by omega, by omega⟩ (fun _ _ h9 => by obtain ⟨_, _, _, _, _, _, rfl, h9⟩ := h9; exact h9.2.2) (fun r242 u H locs q242 I => ?_)
  obtain ⟨f1, g1, r1, q1⟩ := u
  have I : LI D cy s xo mo ou a M G1 W1 f1 g1 r1 q1 H locs := I
  refine lv_pop hx hb dL_law_245 rfl ?_
  refine lv_goto (tgt := 2327) hx hb dL_law_246 (by decide) ?_
  obtain ⟨-, jc9, fb9, hm9, hf9, hj9⟩ := qj
  obtain ⟨kd9, wd9, hg9, tl9, hd9, jb9, u9, -, h9, -⟩ := q242
  simp only [Prod.mk.injEq] at u9
  have I9 := I
  obtain ⟨rfl, rfl, rfl, rfl⟩ := u9
  have I := I9
  have h09 := I0.2.2.2.2.2.2.1.1.1
  have hR1 : RlJ cy xo G1 W1 (upd (upd f 0 (0 : Int32)) 1 jb9) (va_up (va_up (va_up (va_up (va_up r 2 kd9) 3 wd9) 4 hg9) 6 tl9) 7 hd9) := by
    rcases hj9 with ⟨k1, k2, x9, b9, a9, ms9, k3, k4, k5, k6, k7, k8, k9⟩ | ⟨k1, k2, k3⟩
    · rcases h9 with ⟨m1, m2, m3, m4, m5, m6, m7⟩ | ⟨m1, -⟩
      · have ej : jc9 = jb9 := Int32.toInt_inj.mp (by rw [k2, m2])
        subst ej
        subst k3
        obtain ⟨J9, hJ9⟩ := hJ.add (r1 := (va_up (va_up (va_up (va_up (va_up r 2 kd9) 3 wd9) 4 hg9) 6 tl9) 7 hd9)) I0.2.2.1 I0.2.2.2.1 h09 k1 k2 hX rfl rfl k4 k5 k6 k7 k8 k9 m5 m3 m4 rfl m6 m7 rfl
        exact ⟨_, _, _, _, _, _, _, _, _, J9, hm9, hf9, hJ9⟩
      · exact absurd k1 m1
    · rcases h9 with ⟨m1, -⟩ | ⟨-, m2, m3, m4, m5, m6, m7⟩
      · exact absurd m1 k1
      · subst k2
        subst k3
        subst m2
        exact ⟨_, _, _, _, _, _, _, _, _, J, hm9, hf9, hJ.keep (r1 := (va_up (va_up (va_up (va_up (va_up r 2 kd9) 3 wd9) 4 hg9) 6 tl9) 7 hd9)) I0.2.2.1 I0.2.2.2.1 hX rfl rfl m5 m3 m4 rfl m6 m7 rfl⟩
  refine W.widen (k := C + 7) (n := S + 588) (by omega) (by omega) ?_
  exact kk _ _ _ _ _ _ _ _ _ I hR1 (lv_sub hl [0, 1, 2, 3, 4] rfl)
set_option maxHeartbeats 4000000 in
set_option maxRecDepth 100000 in
theorem lcase_1 {p : Program} {l : Launch} {e : Env} {s : State} {m : MethodId} {below : List Frame} {meth : Method} {c : Code} {b L : Nat} {xs : Nat → Int32} {D : va_G} {cy : Nat → ClassId} {xo mo ou : Nat} {a : Nat → Nat} {M : Option Nat} {G : cG} {W' : va_W} {f : Nat → Int32} {g : Nat → Int64} {r : Nat → Nat → Int32} {q : Nat → Nat → Int64} {H : Heap} {locs : List Loc} {ls : Array Slot} {Q : State → Prop} {C S : Nat} (X : LX p l s m c b L xs D cy mo a) (I : LI D cy s xo mo ou a M G W' f g r q H locs) (hR : RlJ cy xo G W' f r) {x4 : Int32} (h4 : 0 ≤ x4.toInt ∧ x4.toInt + 8 ≤ (L : Int) ∧ L ≤ 4096) (hC : C + 7 ≤ 601024) (hSl : S + 53273 ≤ 7293034) (hl : lv_has ls 8 [(0, .ref b), (1, .ref xo), (2, .ref mo), (3, .ref ou), (4, .int x4)]) (kk : ∀ (G : cG) (W' : va_W) (f : Nat → Int32) (g : Nat → Int64) (r : Nat → Nat → Int32) (q : Nat → Nat → Int64) (H : Heap) (locs : List Loc) (ls : Array Slot), LI D cy s xo mo ou a M G W' f g r q H locs → RlJ cy xo G W' f r → lv_has ls 8 [(0, .ref b), (1, .ref xo), (2, .ref mo), (3, .ref ou), (4, .int x4)] → W p l e room_1 s m #[Value.ref b] below meth c H locs (C + 7) (S + 588) Q (F0 m 2327 ls [])) : W p l e room_1 s m #[Value.ref b] below meth c H locs C S Q (F0 m 249 ls []) := by
  obtain ⟨⟨hx, hb, hml, hown, hts⟩, ⟨hXs, hbl⟩, ⟨hK, hV, hZ, hXT⟩, hst, hDM, hAM⟩ := id X
  have I0 := I
  have hbA : ¬ AL s b := Nat.not_le.mpr hbl
  have hRc : room_1.cells = 601024 := rfl
  have hRs : room_1.slots = 7293034 := rfl
  have hn1 : vp_in (x4 + 1) L := l_in (c := 1) h4 rfl (by decide)
  have hn2 : vp_in (x4 + 2) L := l_in (c := 2) h4 rfl (by decide)
  have hn3 : vp_in (x4 + 3) L := l_in (c := 3) h4 rfl (by decide)
  have hn4 : vp_in (x4 + 4) L := l_in (c := 4) h4 rfl (by decide)
  have hn5 : vp_in (x4 + 5) L := l_in (c := 5) h4 rfl (by decide)
  have hn6 : vp_in (x4 + 6) L := l_in (c := 6) h4 rfl (by decide)
  have hn7 : vp_in (x4 + 7) L := l_in (c := 7) h4 rfl (by decide)
  refine lv_aload_n hx hb dL_law_249 rfl (lv_at hl 1 rfl) ?_
  refine lv_aload_n hx hb dL_law_250 rfl (lv_at hl 0 rfl) ?_
  refine lv_iload hx hb dL_law_251 (lv_at hl 4 rfl) ?_
  refine lv_iconst (v := 1) hx hb dL_law_253 (by decide) ?_
  refine lv_iadd hx hb dL_law_254 ?_
  refine va_sld hx hb hXs hbl hbA I.2.2.2.2.2.2.2.2.1 hn1 dL_law_255 ?_
  refine lv_aload_n hx hb dL_law_256 rfl (lv_at hl 0 rfl) ?_
  refine lv_iload hx hb dL_law_257 (lv_at hl 4 rfl) ?_
  refine lv_iconst (v := 2) hx hb dL_law_259 (by decide) ?_
  refine lv_iadd hx hb dL_law_260 ?_
  refine va_sld hx hb hXs hbl hbA I.2.2.2.2.2.2.2.2.1 hn2 dL_law_261 ?_
  refine lv_aload_n hx hb dL_law_262 rfl (lv_at hl 0 rfl) ?_
  refine lv_iload hx hb dL_law_263 (lv_at hl 4 rfl) ?_
  refine lv_iconst (v := 3) hx hb dL_law_265 (by decide) ?_
  refine lv_iadd hx hb dL_law_266 ?_
  refine va_sld hx hb hXs hbl hbA I.2.2.2.2.2.2.2.2.1 hn3 dL_law_267 ?_
  refine lv_aload_n hx hb dL_law_268 rfl (lv_at hl 0 rfl) ?_
  refine lv_iload hx hb dL_law_269 (lv_at hl 4 rfl) ?_
  refine lv_iconst (v := 4) hx hb dL_law_271 (by decide) ?_
  refine lv_iadd hx hb dL_law_272 ?_
  refine va_sld hx hb hXs hbl hbA I.2.2.2.2.2.2.2.2.1 hn4 dL_law_273 ?_
  obtain ⟨bs, js, sh, wk, ll, jc, lc, lb, hM⟩ := I.2.2.2.2.2.2.2.1
  obtain ⟨hjc, fa, J, hfa, hJ⟩ := hR.at I.2.2.1 hM
  subst hjc
  refine lk6 I (va_runV (g := F0 m 274 ls ([.int (xs (x4 + 4).toNatClampNeg), .int (xs (x4 + 3).toNatClampNeg), .int (xs (x4 + 2).toNatClampNeg), .int (xs (x4 + 1).toNatClampNeg), .ref xo])) (As := [.int (xs (x4 + 1).toNatClampNeg), .int (xs (x4 + 2).toNatClampNeg), .int (xs (x4 + 3).toNatClampNeg), .int (xs (x4 + 4).toNatClampNeg)]) (rest := []) ⟨hx, hb, hml, hown, hts⟩ (c_X9_sum_j l D cy (AC s mo a) G W' xo ((xs (x4 + 1).toNatClampNeg)) ((xs (x4 + 2).toNatClampNeg)) ((xs (x4 + 3).toNatClampNeg)) ((xs (x4 + 4).toNatClampNeg)) I.2.2.1 I.2.2.2.1 I.2.2.2.2.1 hM hfa hJ.sm hJ.js) (cwV 4 hts gL_law_X9_sum rfl rfl rfl (by decide +kernel) ⟨Nat.le_of_ble_eq_true rfl, Nat.le_of_ble_eq_true rfl⟩) (l_preV I hK hV) rfl rfl hl.1 rfl (lv_room (Nat.le_of_ble_eq_true rfl)) dL_law_274 ⟨by omega, by omega⟩) (fun r9 w9 hF9 q9 e8 he9 => hJ.fr I.2.2.1 I.2.2.2.1 hF9 (by rcases q9 with ⟨o9, _⟩ | ⟨_, _, e7⟩; exact Or.inl ⟨o9.1, fun z9 hz9 => hz9.imp id Or.inl⟩; exact Or.inr e7) I.2.2.2.2.1 (by decide) (by decide) he9) (fun r274 W1 H locs hF9 q9 I => ?_)
  have hq9 : (okJob (f 1) ((xs (x4 + 1).toNatClampNeg)) ∧ ∀ z, (z = jX (J ((xs (x4 + 1).toNatClampNeg)).toNatClampNeg) ∨ z = jS (J ((xs (x4 + 1).toNatClampNeg)).toNatClampNeg)) → z = jX (J ((xs (x4 + 1).toNatClampNeg)).toNatClampNeg) ∨ z = jS (J ((xs (x4 + 1).toNatClampNeg)).toNatClampNeg) ∨ (jK (J ((xs (x4 + 1).toNatClampNeg)).toNatClampNeg) = 4 ∧ z = jC (J ((xs (x4 + 1).toNatClampNeg)).toNatClampNeg))) ∨ W1 = W' := (by rcases q9 with ⟨o9, _⟩ | ⟨_, _, e9⟩; exact Or.inl ⟨o9.1, fun z9 hz9 => hz9.imp id Or.inl⟩; exact Or.inr e9)
  have I : LI D cy s xo mo ou a M G W1 f g r q H locs := I
  refine lv_pop hx hb dL_law_277 rfl ?_
  refine lv_aload_n hx hb dL_law_278 rfl (lv_at hl 2 rfl) ?_
  refine lv_aload_n hx hb dL_law_279 rfl (lv_at hl 0 rfl) ?_
  refine lv_iload hx hb dL_law_280 (lv_at hl 4 rfl) ?_
  refine lv_iconst (v := 1) hx hb dL_law_282 (by decide) ?_
  refine lv_iadd hx hb dL_law_283 ?_
  refine va_sld hx hb hXs hbl hbA I.2.2.2.2.2.2.2.2.1 hn1 dL_law_284 ?_
  refine lv_aload_n hx hb dL_law_285 rfl (lv_at hl 0 rfl) ?_
  refine lv_iload hx hb dL_law_286 (lv_at hl 4 rfl) ?_
  refine lv_iconst (v := 2) hx hb dL_law_288 (by decide) ?_
  refine lv_iadd hx hb dL_law_289 ?_
  refine va_sld hx hb hXs hbl hbA I.2.2.2.2.2.2.2.2.1 hn2 dL_law_290 ?_
  refine lv_aload_n hx hb dL_law_291 rfl (lv_at hl 0 rfl) ?_
  refine lv_iload hx hb dL_law_292 (lv_at hl 4 rfl) ?_
  refine lv_iconst (v := 3) hx hb dL_law_294 (by decide) ?_
  refine lv_iadd hx hb dL_law_295 ?_
  refine va_sld hx hb hXs hbl hbA I.2.2.2.2.2.2.2.2.1 hn3 dL_law_296 ?_
  refine lv_aload_n hx hb dL_law_297 rfl (lv_at hl 0 rfl) ?_
  refine lv_iload hx hb dL_law_298 (lv_at hl 4 rfl) ?_
  refine lv_iconst (v := 4) hx hb dL_law_300 (by decide) ?_
  refine lv_iadd hx hb dL_law_301 ?_
  refine va_sld hx hb hXs hbl hbA I.2.2.2.2.2.2.2.2.1 hn4 dL_law_302 ?_
  have hI := I.2.2.2.2.2.2.1
  refine lm_i (As := [.int (xs (x4 + 1).toNatClampNeg), .int (xs (x4 + 2).toNatClampNeg), .int (xs (x4 + 3).toNatClampNeg), .int (xs (x4 + 4).toNatClampNeg)]) (rest := []) I ⟨hx, hb, hml, hown, hts⟩ (c_X10_sum_y l D cy mo a f g r q ((xs (x4 + 1).toNatClampNeg)) ((xs (x4 + 2).toNatClampNeg)) ((xs (x4 + 3).toNatClampNeg)) ((xs (x4 + 4).toNatClampNeg)) hDM hI) (cwV 4 hts gL_law_X10_sum rfl rfl rfl (by decide +kernel) ⟨Nat.le_of_ble_eq_true rfl, Nat.le_of_ble_eq_true rfl⟩) hK hAM rfl hl.1 rfl (Nat.le_of_ble_eq_true rfl) dL_law_303 ⟨by omega, by omega⟩ (fun _ _ h9 => by obtain ⟨_, _, rfl, h9⟩ := h9; exact hI) (fun r303 u H locs q303 I => ?_)
  obtain ⟨f1, g1, r1, q1⟩ := u
  have I : LI D cy s xo mo ou a M G W1 f1 g1 r1 q1 H locs := I
  refine lv_pop hx hb dL_law_306 rfl ?_
  refine lv_goto (tgt := 2327) hx hb dL_law_307 (by decide) ?_
  obtain ⟨sm9, tl9, u9, h9⟩ := q303
  simp only [Prod.mk.injEq] at u9
  have I9 := I
  obtain ⟨rfl, rfl, rfl, rfl⟩ := u9
  have I := I9
  obtain ⟨-, -, -, hGj, -⟩ := w7sh I0.2.2.1 I0.2.2.2.1 I0.2.2.2.2.1 hM
  have hM1 := hJ.fr I0.2.2.1 I0.2.2.2.1 hF9 hq9 I0.2.2.2.2.1 (by decide) (by decide) hM
  have hfa1 := hJ.fr I0.2.2.1 I0.2.2.2.1 hF9 hq9 hGj (by decide) (by decide) hfa
  obtain ⟨J9, hJ9⟩ := hJ.sum (r1 := (va_up (va_up r 5 sm9) 6 tl9)) I0.2.2.1 I0.2.2.2.1 I0.2.2.2.2.2.2.1.1.2 hF9 (q9.imp (fun z9 => ⟨z9.1, z9.2.2⟩) (fun z9 => ⟨z9.1, z9.2.2⟩)) (h9.imp (fun z9 => ⟨z9.1, z9.2.2⟩) (fun z9 => ⟨z9.1, z9.2.2⟩)) rfl rfl rfl rfl rfl 
  have hR1 : RlJ cy xo G W1 (upd f 0 (0 : Int32)) (va_up (va_up r 5 sm9) 6 tl9) := ⟨_, _, _, _, _, _, _, _, fa, J9, hM1, hfa1, hJ9⟩
  refine W.widen (k := C + 7) (n := S + 588) (by omega) (by omega) ?_
  exact kk _ _ _ _ _ _ _ _ _ I hR1 (lv_sub hl [0, 1, 2, 3, 4] rfl)
set_option maxHeartbeats 4000000 in
set_option maxRecDepth 100000 in
theorem lcase_2 {p : Program} {l : Launch} {e : Env} {s : State} {m : MethodId} {below : List Frame} {meth : Method} {c : Code} {b L : Nat} {xs : Nat → Int32} {D : va_G} {cy : Nat → ClassId} {xo mo ou : Nat} {a : Nat → Nat} {M : Option Nat} {G : cG} {W' : va_W} {f : Nat → Int32} {g : Nat → Int64} {r : Nat → Nat → Int32} {q : Nat → Nat → Int64} {H : Heap} {locs : List Loc} {ls : Array Slot} {Q : State → Prop} {C S : Nat} (X : LX p l s m c b L xs D cy mo a) (I : LI D cy s xo mo ou a M G W' f g r q H locs) (hR : RlJ cy xo G W' f r) {x4 : Int32} (h4 : 0 ≤ x4.toInt ∧ x4.toInt + 8 ≤ (L : Int) ∧ L ≤ 4096) (hC : C + 7 ≤ 601024) (hSl : S + 53273 ≤ 7293034) (hl : lv_has ls 8 [(0, .ref b), (1, .ref xo), (2, .ref mo), (3, .ref ou), (4, .int x4)]) (kk : ∀ (G : cG) (W' : va_W) (f : Nat → Int32) (g : Nat → Int64) (r : Nat → Nat → Int32) (q : Nat → Nat → Int64) (H : Heap) (locs : List Loc) (ls : Array Slot), LI D cy s xo mo ou a M G W' f g r q H locs → RlJ cy xo G W' f r → lv_has ls 8 [(0, .ref b), (1, .ref xo), (2, .ref mo), (3, .ref ou), (4, .int x4)] → W p l e room_1 s m #[Value.ref b] below meth c H locs (C + 7) (S + 588) Q (F0 m 2327 ls [])) : W p l e room_1 s m #[Value.ref b] below meth c H locs C S Q (F0 m 310 ls []) := by
  obtain ⟨⟨hx, hb, hml, hown, hts⟩, ⟨hXs, hbl⟩, ⟨hK, hV, hZ, hXT⟩, hst, hDM, hAM⟩ := id X
  have I0 := I
  have hbA : ¬ AL s b := Nat.not_le.mpr hbl
  have hRc : room_1.cells = 601024 := rfl
  have hRs : room_1.slots = 7293034 := rfl
  have hn1 : vp_in (x4 + 1) L := l_in (c := 1) h4 rfl (by decide)
  have hn2 : vp_in (x4 + 2) L := l_in (c := 2) h4 rfl (by decide)
  have hn3 : vp_in (x4 + 3) L := l_in (c := 3) h4 rfl (by decide)
  have hn4 : vp_in (x4 + 4) L := l_in (c := 4) h4 rfl (by decide)
  have hn5 : vp_in (x4 + 5) L := l_in (c := 5) h4 rfl (by decide)
  have hn6 : vp_in (x4 + 6) L := l_in (c := 6) h4 rfl (by decide)
  have hn7 : vp_in (x4 + 7) L := l_in (c := 7) h4 rfl (by decide)
  refine lv_aload_n hx hb dL_law_310 rfl (lv_at hl 1 rfl) ?_
  refine lv_aload_n hx hb dL_law_311 rfl (lv_at hl 0 rfl) ?_
  refine lv_iload hx hb dL_law_312 (lv_at hl 4 rfl) ?_
  refine lv_iconst (v := 1) hx hb dL_law_314 (by decide) ?_
  refine lv_iadd hx hb dL_law_315 ?_
  refine va_sld hx hb hXs hbl hbA I.2.2.2.2.2.2.2.2.1 hn1 dL_law_316 ?_
  refine lv_aload_n hx hb dL_law_317 rfl (lv_at hl 0 rfl) ?_
  refine lv_iload hx hb dL_law_318 (lv_at hl 4 rfl) ?_
  refine lv_iconst (v := 2) hx hb dL_law_320 (by decide) ?_
  refine lv_iadd hx hb dL_law_321 ?_
  refine va_sld hx hb hXs hbl hbA I.2.2.2.2.2.2.2.2.1 hn2 dL_law_322 ?_
  refine lv_aload_n hx hb dL_law_323 rfl (lv_at hl 0 rfl) ?_
  refine lv_iload hx hb dL_law_324 (lv_at hl 4 rfl) ?_
  refine lv_iconst (v := 3) hx hb dL_law_326 (by decide) ?_
  refine lv_iadd hx hb dL_law_327 ?_
  refine va_sld hx hb hXs hbl hbA I.2.2.2.2.2.2.2.2.1 hn3 dL_law_328 ?_
  refine lv_i2l (v := ((xs (x4 + 3).toNatClampNeg)).toInt64) hx hb dL_law_329 rfl ?_
  refine lv_bipush (v := 32) hx hb dL_law_330 (by decide) ?_
  refine lv_lshl (v := (((xs (x4 + 3).toNatClampNeg)).toInt64) <<< ((32 : Int32).toInt64 &&& 63)) hx hb dL_law_332 rfl ?_
  refine lv_aload_n hx hb dL_law_333 rfl (lv_at hl 0 rfl) ?_
  refine lv_iload hx hb dL_law_334 (lv_at hl 4 rfl) ?_
  refine lv_iconst (v := 4) hx hb dL_law_336 (by decide) ?_
  refine lv_iadd hx hb dL_law_337 ?_
  refine va_sld hx hb hXs hbl hbA I.2.2.2.2.2.2.2.2.1 hn4 dL_law_338 ?_
  refine lv_i2l (v := ((xs (x4 + 4).toNatClampNeg)).toInt64) hx hb dL_law_339 rfl ?_
  refine lv_ldc2 hx hb hown (hts (.constantLong RL 45 (4294967295)) (by decide +kernel)) dL_law_340 ?_
  refine lv_land hx hb dL_law_343 ?_
  refine lv_topl (fun v343 e343 => ?_)
  refine lv_lor hx hb dL_law_344 ?_
  refine lv_topl (fun v344 e344 => ?_)
  obtain ⟨bs, js, sh, wk, ll, jc, lc, lb, hM⟩ := I.2.2.2.2.2.2.2.1
  obtain ⟨hjc, fa, J, hfa, hJ⟩ := hR.at I.2.2.1 hM
  subst hjc
  refine lk6 I (va_runV (g := F0 m 345 ls ([.long v344, .int (xs (x4 + 2).toNatClampNeg), .int (xs (x4 + 1).toNatClampNeg), .ref xo])) (As := [.int (xs (x4 + 1).toNatClampNeg), .int (xs (x4 + 2).toNatClampNeg), .long v344]) (rest := []) ⟨hx, hb, hml, hown, hts⟩ (c_X9_cast_j l D cy (AC s mo a) G W' xo ((xs (x4 + 1).toNatClampNeg)) ((xs (x4 + 2).toNatClampNeg)) v344 I.2.2.1 I.2.2.2.1 I.2.2.2.2.1 hM hfa hJ.sm hJ.js) (cwV 3 hts gL_law_X9_cast rfl rfl rfl (by decide +kernel) ⟨Nat.le_of_ble_eq_true rfl, Nat.le_of_ble_eq_true rfl⟩) (l_preV I hK hV) rfl rfl hl.1 rfl (lv_room (Nat.le_of_ble_eq_true rfl)) dL_law_345 ⟨by omega, by omega⟩) (fun r9 w9 hF9 q9 e8 he9 => hJ.fr I.2.2.1 I.2.2.2.1 hF9 (by rcases q9 with ⟨o9, _⟩ | ⟨_, _, e7⟩; exact Or.inl ⟨o9.1, fun z9 hz9 => hz9.imp id Or.inl⟩; exact Or.inr e7) I.2.2.2.2.1 (by decide) (by decide) he9) (fun r345 W1 H locs hF9 q9 I => ?_)
  have hq9 : (okJob (f 1) ((xs (x4 + 1).toNatClampNeg)) ∧ ∀ z, (z = jX (J ((xs (x4 + 1).toNatClampNeg)).toNatClampNeg) ∨ z = jS (J ((xs (x4 + 1).toNatClampNeg)).toNatClampNeg)) → z = jX (J ((xs (x4 + 1).toNatClampNeg)).toNatClampNeg) ∨ z = jS (J ((xs (x4 + 1).toNatClampNeg)).toNatClampNeg) ∨ (jK (J ((xs (x4 + 1).toNatClampNeg)).toNatClampNeg) = 4 ∧ z = jC (J ((xs (x4 + 1).toNatClampNeg)).toNatClampNeg))) ∨ W1 = W' := (by rcases q9 with ⟨o9, _⟩ | ⟨_, _, e9⟩; exact Or.inl ⟨o9.1, fun z9 hz9 => hz9.imp id Or.inl⟩; exact Or.inr e9)
  have I : LI D cy s xo mo ou a M G W1 f g r q H locs := I
  refine lv_pop hx hb dL_law_348 rfl ?_
  refine lv_aload_n hx hb dL_law_349 rfl (lv_at hl 2 rfl) ?_
  refine lv_aload_n hx hb dL_law_350 rfl (lv_at hl 0 rfl) ?_
  refine lv_iload hx hb dL_law_351 (lv_at hl 4 rfl) ?_
  refine lv_iconst (v := 1) hx hb dL_law_353 (by decide) ?_
  refine lv_iadd hx hb dL_law_354 ?_
  refine va_sld hx hb hXs hbl hbA I.2.2.2.2.2.2.2.2.1 hn1 dL_law_355 ?_
  refine lv_aload_n hx hb dL_law_356 rfl (lv_at hl 0 rfl) ?_
  refine lv_iload hx hb dL_law_357 (lv_at hl 4 rfl) ?_
  refine lv_iconst (v := 2) hx hb dL_law_359 (by decide) ?_
  refine lv_iadd hx hb dL_law_360 ?_
  refine va_sld hx hb hXs hbl hbA I.2.2.2.2.2.2.2.2.1 hn2 dL_law_361 ?_
  refine lv_aload_n hx hb dL_law_362 rfl (lv_at hl 0 rfl) ?_
  refine lv_iload hx hb dL_law_363 (lv_at hl 4 rfl) ?_
  refine lv_iconst (v := 3) hx hb dL_law_365 (by decide) ?_
  refine lv_iadd hx hb dL_law_366 ?_
  refine va_sld hx hb hXs hbl hbA I.2.2.2.2.2.2.2.2.1 hn3 dL_law_367 ?_
  refine lv_i2l (v := ((xs (x4 + 3).toNatClampNeg)).toInt64) hx hb dL_law_368 rfl ?_
  refine lv_bipush (v := 32) hx hb dL_law_369 (by decide) ?_
  refine lv_lshl (v := (((xs (x4 + 3).toNatClampNeg)).toInt64) <<< ((32 : Int32).toInt64 &&& 63)) hx hb dL_law_371 rfl ?_
  refine lv_aload_n hx hb dL_law_372 rfl (lv_at hl 0 rfl) ?_
  refine lv_iload hx hb dL_law_373 (lv_at hl 4 rfl) ?_
  refine lv_iconst (v := 4) hx hb dL_law_375 (by decide) ?_
  refine lv_iadd hx hb dL_law_376 ?_
  refine va_sld hx hb hXs hbl hbA I.2.2.2.2.2.2.2.2.1 hn4 dL_law_377 ?_
  refine lv_i2l (v := ((xs (x4 + 4).toNatClampNeg)).toInt64) hx hb dL_law_378 rfl ?_
  refine lv_ldc2 hx hb hown (hts (.constantLong RL 45 (4294967295)) (by decide +kernel)) dL_law_379 ?_
  refine lv_land hx hb dL_law_382 ?_
  refine lv_topl (fun v382 e382 => ?_)
  refine lv_lor hx hb dL_law_383 ?_
  refine lv_topl (fun v383 e383 => ?_)
  have hI := I.2.2.2.2.2.2.1
  refine lm_i (As := [.int (xs (x4 + 1).toNatClampNeg), .int (xs (x4 + 2).toNatClampNeg), .long v383]) (rest := []) I ⟨hx, hb, hml, hown, hts⟩ (c_X10_cast_y l D cy mo a f g r q ((xs (x4 + 1).toNatClampNeg)) ((xs (x4 + 2).toNatClampNeg)) v383 hDM hI) (cwV 3 hts gL_law_X10_cast rfl rfl rfl (by decide +kernel) ⟨Nat.le_of_ble_eq_true rfl, Nat.le_of_ble_eq_true rfl⟩) hK hAM rfl hl.1 rfl (Nat.le_of_ble_eq_true rfl) dL_law_384 ⟨by omega, by omega⟩ (fun _ _ h9 => by obtain ⟨_, _, rfl, h9⟩ := h9; exact hI) (fun r384 u H locs q384 I => ?_)
  obtain ⟨f1, g1, r1, q1⟩ := u
  have I : LI D cy s xo mo ou a M G W1 f1 g1 r1 q1 H locs := I
  refine lv_pop hx hb dL_law_387 rfl ?_
  refine lv_goto (tgt := 2327) hx hb dL_law_388 (by decide) ?_
  subst e383
  subst e382
  subst e344
  subst e343
  obtain ⟨sm9, tl9, u9, h9⟩ := q384
  simp only [Prod.mk.injEq] at u9
  have I9 := I
  obtain ⟨rfl, rfl, rfl, rfl⟩ := u9
  have I := I9
  obtain ⟨-, -, -, hGj, -⟩ := w7sh I0.2.2.1 I0.2.2.2.1 I0.2.2.2.2.1 hM
  have hM1 := hJ.fr I0.2.2.1 I0.2.2.2.1 hF9 hq9 I0.2.2.2.2.1 (by decide) (by decide) hM
  have hfa1 := hJ.fr I0.2.2.1 I0.2.2.2.1 hF9 hq9 hGj (by decide) (by decide) hfa
  obtain ⟨J9, hJ9⟩ := hJ.cast (r1 := (va_up (va_up r 5 sm9) 6 tl9)) I0.2.2.1 I0.2.2.2.1 I0.2.2.2.2.2.2.1.1.2 hF9 (q9.imp (fun z9 => ⟨z9.1, z9.2.2⟩) (fun z9 => ⟨z9.1, z9.2.2⟩)) (h9.imp (fun z9 => ⟨z9.1, z9.2.2⟩) (fun z9 => ⟨z9.1, z9.2.2⟩)) rfl rfl rfl rfl rfl 
  have hR1 : RlJ cy xo G W1 (upd f 0 (0 : Int32)) (va_up (va_up r 5 sm9) 6 tl9) := ⟨_, _, _, _, _, _, _, _, fa, J9, hM1, hfa1, hJ9⟩
  refine W.widen (k := C + 7) (n := S + 588) (by omega) (by omega) ?_
  exact kk _ _ _ _ _ _ _ _ _ I hR1 (lv_sub hl [0, 1, 2, 3, 4] rfl)
set_option maxHeartbeats 4000000 in
set_option maxRecDepth 100000 in
theorem lcase_3 {p : Program} {l : Launch} {e : Env} {s : State} {m : MethodId} {below : List Frame} {meth : Method} {c : Code} {b L : Nat} {xs : Nat → Int32} {D : va_G} {cy : Nat → ClassId} {xo mo ou : Nat} {a : Nat → Nat} {M : Option Nat} {G : cG} {W' : va_W} {f : Nat → Int32} {g : Nat → Int64} {r : Nat → Nat → Int32} {q : Nat → Nat → Int64} {H : Heap} {locs : List Loc} {ls : Array Slot} {Q : State → Prop} {C S : Nat} (X : LX p l s m c b L xs D cy mo a) (I : LI D cy s xo mo ou a M G W' f g r q H locs) (hR : RlJ cy xo G W' f r) {x4 : Int32} (h4 : 0 ≤ x4.toInt ∧ x4.toInt + 8 ≤ (L : Int) ∧ L ≤ 4096) (hC : C + 7 ≤ 601024) (hSl : S + 53273 ≤ 7293034) (hl : lv_has ls 8 [(0, .ref b), (1, .ref xo), (2, .ref mo), (3, .ref ou), (4, .int x4)]) (kk : ∀ (G : cG) (W' : va_W) (f : Nat → Int32) (g : Nat → Int64) (r : Nat → Nat → Int32) (q : Nat → Nat → Int64) (H : Heap) (locs : List Loc) (ls : Array Slot), LI D cy s xo mo ou a M G W' f g r q H locs → RlJ cy xo G W' f r → lv_has ls 8 [(0, .ref b), (1, .ref xo), (2, .ref mo), (3, .ref ou), (4, .int x4)] → W p l e room_1 s m #[Value.ref b] below meth c H locs (C + 7) (S + 588) Q (F0 m 2327 ls [])) : W p l e room_1 s m #[Value.ref b] below meth c H locs C S Q (F0 m 391 ls []) := by
  obtain ⟨⟨hx, hb, hml, hown, hts⟩, ⟨hXs, hbl⟩, ⟨hK, hV, hZ, hXT⟩, hst, hDM, hAM⟩ := id X
  have I0 := I
  have hbA : ¬ AL s b := Nat.not_le.mpr hbl
  have hRc : room_1.cells = 601024 := rfl
  have hRs : room_1.slots = 7293034 := rfl
  have hn1 : vp_in (x4 + 1) L := l_in (c := 1) h4 rfl (by decide)
  have hn2 : vp_in (x4 + 2) L := l_in (c := 2) h4 rfl (by decide)
  have hn3 : vp_in (x4 + 3) L := l_in (c := 3) h4 rfl (by decide)
  have hn4 : vp_in (x4 + 4) L := l_in (c := 4) h4 rfl (by decide)
  have hn5 : vp_in (x4 + 5) L := l_in (c := 5) h4 rfl (by decide)
  have hn6 : vp_in (x4 + 6) L := l_in (c := 6) h4 rfl (by decide)
  have hn7 : vp_in (x4 + 7) L := l_in (c := 7) h4 rfl (by decide)
  refine lv_aload_n hx hb dL_law_391 rfl (lv_at hl 1 rfl) ?_
  refine lv_aload_n hx hb dL_law_392 rfl (lv_at hl 0 rfl) ?_
  refine lv_iload hx hb dL_law_393 (lv_at hl 4 rfl) ?_
  refine lv_iconst (v := 1) hx hb dL_law_395 (by decide) ?_
  refine lv_iadd hx hb dL_law_396 ?_
  refine va_sld hx hb hXs hbl hbA I.2.2.2.2.2.2.2.2.1 hn1 dL_law_397 ?_
  refine lv_aload_n hx hb dL_law_398 rfl (lv_at hl 0 rfl) ?_
  refine lv_iload hx hb dL_law_399 (lv_at hl 4 rfl) ?_
  refine lv_iconst (v := 2) hx hb dL_law_401 (by decide) ?_
  refine lv_iadd hx hb dL_law_402 ?_
  refine va_sld hx hb hXs hbl hbA I.2.2.2.2.2.2.2.2.1 hn2 dL_law_403 ?_
  obtain ⟨bs, js, sh, wk, ll, jc, lc, lb, hM⟩ := I.2.2.2.2.2.2.2.1
  obtain ⟨hjc, fa, J, hfa, hJ⟩ := hR.at I.2.2.1 hM
  subst hjc
  refine lk6 I (va_runV (g := F0 m 404 ls ([.int (xs (x4 + 2).toNatClampNeg), .int (xs (x4 + 1).toNatClampNeg), .ref xo])) (As := [.int (xs (x4 + 1).toNatClampNeg), .int (xs (x4 + 2).toNatClampNeg)]) (rest := []) ⟨hx, hb, hml, hown, hts⟩ (c_X9_untell_j l D cy (AC s mo a) G W' xo ((xs (x4 + 1).toNatClampNeg)) ((xs (x4 + 2).toNatClampNeg)) I.2.2.1 I.2.2.2.1 I.2.2.2.2.1 hM hfa hJ.sm hJ.js) (cwV 2 hts gL_law_X9_untell rfl rfl rfl (by decide +kernel) ⟨Nat.le_of_ble_eq_true rfl, Nat.le_of_ble_eq_true rfl⟩) (l_preV I hK hV) rfl rfl hl.1 rfl (lv_room (Nat.le_of_ble_eq_true rfl)) dL_law_404 ⟨by omega, by omega⟩) (fun r9 w9 hF9 q9 e8 he9 => hJ.fr I.2.2.1 I.2.2.2.1 hF9 (by rcases q9 with ⟨o9, _⟩ | ⟨_, _, e7⟩; exact Or.inl ⟨o9.1, fun z9 hz9 => hz9.imp id Or.inl⟩; exact Or.inr e7) I.2.2.2.2.1 (by decide) (by decide) he9) (fun r404 W1 H locs hF9 q9 I => ?_)
  have hq9 : (okJob (f 1) ((xs (x4 + 1).toNatClampNeg)) ∧ ∀ z, (z = jX (J ((xs (x4 + 1).toNatClampNeg)).toNatClampNeg) ∨ z = jS (J ((xs (x4 + 1).toNatClampNeg)).toNatClampNeg)) → z = jX (J ((xs (x4 + 1).toNatClampNeg)).toNatClampNeg) ∨ z = jS (J ((xs (x4 + 1).toNatClampNeg)).toNatClampNeg) ∨ (jK (J ((xs (x4 + 1).toNatClampNeg)).toNatClampNeg) = 4 ∧ z = jC (J ((xs (x4 + 1).toNatClampNeg)).toNatClampNeg))) ∨ W1 = W' := (by rcases q9 with ⟨o9, _⟩ | ⟨_, _, e9⟩; exact Or.inl ⟨o9.1, fun z9 hz9 => hz9.imp id Or.inl⟩; exact Or.inr e9)
  have I : LI D cy s xo mo ou a M G W1 f g r q H locs := I
  refine lv_pop hx hb dL_law_407 rfl ?_
  refine lv_aload_n hx hb dL_law_408 rfl (lv_at hl 2 rfl) ?_
  refine lv_aload_n hx hb dL_law_409 rfl (lv_at hl 0 rfl) ?_
  refine lv_iload hx hb dL_law_410 (lv_at hl 4 rfl) ?_
  refine lv_iconst (v := 1) hx hb dL_law_412 (by decide) ?_
  refine lv_iadd hx hb dL_law_413 ?_
  refine va_sld hx hb hXs hbl hbA I.2.2.2.2.2.2.2.2.1 hn1 dL_law_414 ?_
  refine lv_aload_n hx hb dL_law_415 rfl (lv_at hl 0 rfl) ?_
  refine lv_iload hx hb dL_law_416 (lv_at hl 4 rfl) ?_
  refine lv_iconst (v := 2) hx hb dL_law_418 (by decide) ?_
  refine lv_iadd hx hb dL_law_419 ?_
  refine va_sld hx hb hXs hbl hbA I.2.2.2.2.2.2.2.2.1 hn2 dL_law_420 ?_
  have hI := I.2.2.2.2.2.2.1
  refine lm_i (As := [.int (xs (x4 + 1).toNatClampNeg), .int (xs (x4 + 2).toNatClampNeg)]) (rest := []) I ⟨hx, hb, hml, hown, hts⟩ (c_X10_untell_y l D cy mo a f g r q ((xs (x4 + 1).toNatClampNeg)) ((xs (x4 + 2).toNatClampNeg)) hDM hI) (cwV 2 hts gL_law_X10_untell rfl rfl rfl (by decide +kernel) ⟨Nat.le_of_ble_eq_true rfl, Nat.le_of_ble_eq_true rfl⟩) hK hAM rfl hl.1 rfl (Nat.le_of_ble_eq_true rfl) dL_law_421 ⟨by omega, by omega⟩ (fun _ _ h9 => by obtain ⟨_, rfl, h9⟩ := h9; exact hI) (fun r421 u H locs q421 I => ?_)
  obtain ⟨f1, g1, r1, q1⟩ := u
  have I : LI D cy s xo mo ou a M G W1 f1 g1 r1 q1 H locs := I
  refine lv_pop hx hb dL_law_424 rfl ?_
  refine lv_goto (tgt := 2327) hx hb dL_law_425 (by decide) ?_
  obtain ⟨tl9, u9, h9⟩ := q421
  simp only [Prod.mk.injEq] at u9
  have I9 := I
  obtain ⟨rfl, rfl, rfl, rfl⟩ := u9
  have I := I9
  obtain ⟨-, -, -, hGj, -⟩ := w7sh I0.2.2.1 I0.2.2.2.1 I0.2.2.2.2.1 hM
  have hM1 := hJ.fr I0.2.2.1 I0.2.2.2.1 hF9 hq9 I0.2.2.2.2.1 (by decide) (by decide) hM
  have hfa1 := hJ.fr I0.2.2.1 I0.2.2.2.1 hF9 hq9 hGj (by decide) (by decide) hfa
  obtain ⟨J9, hJ9⟩ := hJ.untell (r1 := (va_up r 6 tl9)) I0.2.2.1 I0.2.2.2.1 I0.2.2.2.2.2.2.1.1.2 hF9 (q9.imp (fun z9 => ⟨z9.1, z9.2.2⟩) (fun z9 => ⟨z9.1, z9.2.2⟩)) (h9.imp (fun z9 => ⟨z9.1, z9.2.2⟩) (fun z9 => ⟨z9.1, z9.2.2⟩)) rfl rfl rfl rfl rfl rfl 
  have hR1 : RlJ cy xo G W1 (upd f 0 (0 : Int32)) (va_up r 6 tl9) := ⟨_, _, _, _, _, _, _, _, fa, J9, hM1, hfa1, hJ9⟩
  refine W.widen (k := C + 7) (n := S + 588) (by omega) (by omega) ?_
  exact kk _ _ _ _ _ _ _ _ _ I hR1 (lv_sub hl [0, 1, 2, 3, 4] rfl)
set_option maxHeartbeats 4000000 in
set_option maxRecDepth 100000 in
theorem lcase_4 {p : Program} {l : Launch} {e : Env} {s : State} {m : MethodId} {below : List Frame} {meth : Method} {c : Code} {b L : Nat} {xs : Nat → Int32} {D : va_G} {cy : Nat → ClassId} {xo mo ou : Nat} {a : Nat → Nat} {M : Option Nat} {G : cG} {W' : va_W} {f : Nat → Int32} {g : Nat → Int64} {r : Nat → Nat → Int32} {q : Nat → Nat → Int64} {H : Heap} {locs : List Loc} {ls : Array Slot} {Q : State → Prop} {C S : Nat} (X : LX p l s m c b L xs D cy mo a) (I : LI D cy s xo mo ou a M G W' f g r q H locs) (hR : RlJ cy xo G W' f r) {x4 : Int32} (h4 : 0 ≤ x4.toInt ∧ x4.toInt + 8 ≤ (L : Int) ∧ L ≤ 4096) (hC : C + 7 ≤ 601024) (hSl : S + 53273 ≤ 7293034) (hl : lv_has ls 8 [(0, .ref b), (1, .ref xo), (2, .ref mo), (3, .ref ou), (4, .int x4)]) (kk : ∀ (G : cG) (W' : va_W) (f : Nat → Int32) (g : Nat → Int64) (r : Nat → Nat → Int32) (q : Nat → Nat → Int64) (H : Heap) (locs : List Loc) (ls : Array Slot), LI D cy s xo mo ou a M G W' f g r q H locs → RlJ cy xo G W' f r → lv_has ls 8 [(0, .ref b), (1, .ref xo), (2, .ref mo), (3, .ref ou), (4, .int x4)] → W p l e room_1 s m #[Value.ref b] below meth c H locs (C + 7) (S + 588) Q (F0 m 2327 ls [])) : W p l e room_1 s m #[Value.ref b] below meth c H locs C S Q (F0 m 428 ls []) := by
  obtain ⟨⟨hx, hb, hml, hown, hts⟩, ⟨hXs, hbl⟩, ⟨hK, hV, hZ, hXT⟩, hst, hDM, hAM⟩ := id X
  have I0 := I
  have hbA : ¬ AL s b := Nat.not_le.mpr hbl
  have hRc : room_1.cells = 601024 := rfl
  have hRs : room_1.slots = 7293034 := rfl
  have hn1 : vp_in (x4 + 1) L := l_in (c := 1) h4 rfl (by decide)
  have hn2 : vp_in (x4 + 2) L := l_in (c := 2) h4 rfl (by decide)
  have hn3 : vp_in (x4 + 3) L := l_in (c := 3) h4 rfl (by decide)
  have hn4 : vp_in (x4 + 4) L := l_in (c := 4) h4 rfl (by decide)
  have hn5 : vp_in (x4 + 5) L := l_in (c := 5) h4 rfl (by decide)
  have hn6 : vp_in (x4 + 6) L := l_in (c := 6) h4 rfl (by decide)
  have hn7 : vp_in (x4 + 7) L := l_in (c := 7) h4 rfl (by decide)
  refine lv_aload_n hx hb dL_law_428 rfl (lv_at hl 1 rfl) ?_
  refine lv_aload_n hx hb dL_law_429 rfl (lv_at hl 0 rfl) ?_
  refine lv_iload hx hb dL_law_430 (lv_at hl 4 rfl) ?_
  refine lv_iconst (v := 1) hx hb dL_law_432 (by decide) ?_
  refine lv_iadd hx hb dL_law_433 ?_
  refine va_sld hx hb hXs hbl hbA I.2.2.2.2.2.2.2.2.1 hn1 dL_law_434 ?_
  refine lv_aload_n hx hb dL_law_435 rfl (lv_at hl 0 rfl) ?_
  refine lv_iload hx hb dL_law_436 (lv_at hl 4 rfl) ?_
  refine lv_iconst (v := 2) hx hb dL_law_438 (by decide) ?_
  refine lv_iadd hx hb dL_law_439 ?_
  refine va_sld hx hb hXs hbl hbA I.2.2.2.2.2.2.2.2.1 hn2 dL_law_440 ?_
  refine lv_aload_n hx hb dL_law_441 rfl (lv_at hl 0 rfl) ?_
  refine lv_iload hx hb dL_law_442 (lv_at hl 4 rfl) ?_
  refine lv_iconst (v := 3) hx hb dL_law_444 (by decide) ?_
  refine lv_iadd hx hb dL_law_445 ?_
  refine va_sld hx hb hXs hbl hbA I.2.2.2.2.2.2.2.2.1 hn3 dL_law_446 ?_
  obtain ⟨bs, js, sh, wk, ll, jc, lc, lb, hM⟩ := I.2.2.2.2.2.2.2.1
  obtain ⟨hjc, fa, J, hfa, hJ⟩ := hR.at I.2.2.1 hM
  subst hjc
  refine lk6 I (va_runV (g := F0 m 447 ls ([.int (xs (x4 + 3).toNatClampNeg), .int (xs (x4 + 2).toNatClampNeg), .int (xs (x4 + 1).toNatClampNeg), .ref xo])) (As := [.int (xs (x4 + 1).toNatClampNeg), .int (xs (x4 + 2).toNatClampNeg), .int (xs (x4 + 3).toNatClampNeg)]) (rest := []) ⟨hx, hb, hml, hown, hts⟩ (c_X9_hold_j l D cy (AC s mo a) G W' xo ((xs (x4 + 1).toNatClampNeg)) ((xs (x4 + 2).toNatClampNeg)) ((xs (x4 + 3).toNatClampNeg)) I.2.2.1 I.2.2.2.1 I.2.2.2.2.1 hM hfa hJ.sm hJ.js) (cwV 3 hts gL_law_X9_hold rfl rfl rfl (by decide +kernel) ⟨Nat.le_of_ble_eq_true rfl, Nat.le_of_ble_eq_true rfl⟩) (l_preV I hK hV) rfl rfl hl.1 rfl (lv_room (Nat.le_of_ble_eq_true rfl)) dL_law_447 ⟨by omega, by omega⟩) (fun r9 w9 hF9 q9 e8 he9 => hJ.fr I.2.2.1 I.2.2.2.1 hF9 (by rcases q9 with ⟨o9, _⟩ | ⟨_, _, e7⟩; exact Or.inl ⟨o9.1, fun z9 hz9 => Or.inl hz9⟩; exact Or.inr e7) I.2.2.2.2.1 (by decide) (by decide) he9) (fun r447 W1 H locs hF9 q9 I => ?_)
  have hq9 : (okJob (f 1) ((xs (x4 + 1).toNatClampNeg)) ∧ ∀ z, z = jX (J ((xs (x4 + 1).toNatClampNeg)).toNatClampNeg) → z = jX (J ((xs (x4 + 1).toNatClampNeg)).toNatClampNeg) ∨ z = jS (J ((xs (x4 + 1).toNatClampNeg)).toNatClampNeg) ∨ (jK (J ((xs (x4 + 1).toNatClampNeg)).toNatClampNeg) = 4 ∧ z = jC (J ((xs (x4 + 1).toNatClampNeg)).toNatClampNeg))) ∨ W1 = W' := (by rcases q9 with ⟨o9, _⟩ | ⟨_, _, e9⟩; exact Or.inl ⟨o9.1, fun z9 hz9 => Or.inl hz9⟩; exact Or.inr e9)
  have I : LI D cy s xo mo ou a M G W1 f g r q H locs := I
  refine lv_pop hx hb dL_law_450 rfl ?_
  refine lv_aload_n hx hb dL_law_451 rfl (lv_at hl 2 rfl) ?_
  refine lv_aload_n hx hb dL_law_452 rfl (lv_at hl 0 rfl) ?_
  refine lv_iload hx hb dL_law_453 (lv_at hl 4 rfl) ?_
  refine lv_iconst (v := 1) hx hb dL_law_455 (by decide) ?_
  refine lv_iadd hx hb dL_law_456 ?_
  refine va_sld hx hb hXs hbl hbA I.2.2.2.2.2.2.2.2.1 hn1 dL_law_457 ?_
  refine lv_aload_n hx hb dL_law_458 rfl (lv_at hl 0 rfl) ?_
  refine lv_iload hx hb dL_law_459 (lv_at hl 4 rfl) ?_
  refine lv_iconst (v := 2) hx hb dL_law_461 (by decide) ?_
  refine lv_iadd hx hb dL_law_462 ?_
  refine va_sld hx hb hXs hbl hbA I.2.2.2.2.2.2.2.2.1 hn2 dL_law_463 ?_
  refine lv_aload_n hx hb dL_law_464 rfl (lv_at hl 0 rfl) ?_
  refine lv_iload hx hb dL_law_465 (lv_at hl 4 rfl) ?_
  refine lv_iconst (v := 3) hx hb dL_law_467 (by decide) ?_
  refine lv_iadd hx hb dL_law_468 ?_
  refine va_sld hx hb hXs hbl hbA I.2.2.2.2.2.2.2.2.1 hn3 dL_law_469 ?_
  have hI := I.2.2.2.2.2.2.1
  refine lm_i (As := [.int (xs (x4 + 1).toNatClampNeg), .int (xs (x4 + 2).toNatClampNeg), .int (xs (x4 + 3).toNatClampNeg)]) (rest := []) I ⟨hx, hb, hml, hown, hts⟩ (c_X10_hold_y l D cy mo a f g r q ((xs (x4 + 1).toNatClampNeg)) ((xs (x4 + 2).toNatClampNeg)) ((xs (x4 + 3).toNatClampNeg)) hDM hI) (cwV 3 hts gL_law_X10_hold rfl rfl rfl (by decide +kernel) ⟨Nat.le_of_ble_eq_true rfl, Nat.le_of_ble_eq_true rfl⟩) hK hAM rfl hl.1 rfl (Nat.le_of_ble_eq_true rfl) dL_law_470 ⟨by omega, by omega⟩ (fun _ _ h9 => by obtain ⟨_, rfl, h9⟩ := h9; exact hI) (fun r470 u H locs q470 I => ?_)
  obtain ⟨f1, g1, r1, q1⟩ := u
  have I : LI D cy s xo mo ou a M G W1 f1 g1 r1 q1 H locs := I
  refine lv_pop hx hb dL_law_473 rfl ?_
  refine lv_goto (tgt := 2327) hx hb dL_law_474 (by decide) ?_
  obtain ⟨hd9, u9, h9⟩ := q470
  simp only [Prod.mk.injEq] at u9
  have I9 := I
  obtain ⟨rfl, rfl, rfl, rfl⟩ := u9
  have I := I9
  obtain ⟨-, -, -, hGj, -⟩ := w7sh I0.2.2.1 I0.2.2.2.1 I0.2.2.2.2.1 hM
  have hM1 := hJ.fr I0.2.2.1 I0.2.2.2.1 hF9 hq9 I0.2.2.2.2.1 (by decide) (by decide) hM
  have hfa1 := hJ.fr I0.2.2.1 I0.2.2.2.1 hF9 hq9 hGj (by decide) (by decide) hfa
  obtain ⟨J9, hJ9⟩ := hJ.hold (r1 := (va_up r 7 hd9)) I0.2.2.1 I0.2.2.2.1 I0.2.2.2.2.2.2.1.1.2 hF9 (q9.imp (fun z9 => ⟨z9.1, z9.2.2⟩) (fun z9 => ⟨z9.1, z9.2.2⟩)) (h9.imp (fun z9 => ⟨z9.1, z9.2.2⟩) (fun z9 => ⟨z9.1, z9.2.2⟩)) rfl rfl rfl rfl rfl rfl 
  have hR1 : RlJ cy xo G W1 (upd f 0 (0 : Int32)) (va_up r 7 hd9) := ⟨_, _, _, _, _, _, _, _, fa, J9, hM1, hfa1, hJ9⟩
  refine W.widen (k := C + 7) (n := S + 588) (by omega) (by omega) ?_
  exact kk _ _ _ _ _ _ _ _ _ I hR1 (lv_sub hl [0, 1, 2, 3, 4] rfl)
set_option maxHeartbeats 4000000 in
set_option maxRecDepth 100000 in
theorem lcase_5 {p : Program} {l : Launch} {e : Env} {s : State} {m : MethodId} {below : List Frame} {meth : Method} {c : Code} {b L : Nat} {xs : Nat → Int32} {D : va_G} {cy : Nat → ClassId} {xo mo ou : Nat} {a : Nat → Nat} {M : Option Nat} {G : cG} {W' : va_W} {f : Nat → Int32} {g : Nat → Int64} {r : Nat → Nat → Int32} {q : Nat → Nat → Int64} {H : Heap} {locs : List Loc} {ls : Array Slot} {Q : State → Prop} {C S : Nat} (X : LX p l s m c b L xs D cy mo a) (I : LI D cy s xo mo ou a M G W' f g r q H locs) (hR : RlJ cy xo G W' f r) {x4 : Int32} (h4 : 0 ≤ x4.toInt ∧ x4.toInt + 8 ≤ (L : Int) ∧ L ≤ 4096) (hC : C + 7 ≤ 601024) (hSl : S + 53273 ≤ 7293034) (hl : lv_has ls 8 [(0, .ref b), (1, .ref xo), (2, .ref mo), (3, .ref ou), (4, .int x4)]) (kk : ∀ (G : cG) (W' : va_W) (f : Nat → Int32) (g : Nat → Int64) (r : Nat → Nat → Int32) (q : Nat → Nat → Int64) (H : Heap) (locs : List Loc) (ls : Array Slot), LI D cy s xo mo ou a M G W' f g r q H locs → RlJ cy xo G W' f r → lv_has ls 8 [(0, .ref b), (1, .ref xo), (2, .ref mo), (3, .ref ou), (4, .int x4)] → W p l e room_1 s m #[Value.ref b] below meth c H locs (C + 7) (S + 588) Q (F0 m 2327 ls [])) : W p l e room_1 s m #[Value.ref b] below meth c H locs C S Q (F0 m 477 ls []) := by
  obtain ⟨⟨hx, hb, hml, hown, hts⟩, ⟨hXs, hbl⟩, ⟨hK, hV, hZ, hXT⟩, hst, hDM, hAM⟩ := id X
  have I0 := I
  have hbA : ¬ AL s b := Nat.not_le.mpr hbl
  have hRc : room_1.cells = 601024 := rfl
  have hRs : room_1.slots = 7293034 := rfl
  have hn1 : vp_in (x4 + 1) L := l_in (c := 1) h4 rfl (by decide)
  have hn2 : vp_in (x4 + 2) L := l_in (c := 2) h4 rfl (by decide)
  have hn3 : vp_in (x4 + 3) L := l_in (c := 3) h4 rfl (by decide)
  have hn4 : vp_in (x4 + 4) L := l_in (c := 4) h4 rfl (by decide)
  have hn5 : vp_in (x4 + 5) L := l_in (c := 5) h4 rfl (by decide)
  have hn6 : vp_in (x4 + 6) L := l_in (c := 6) h4 rfl (by decide)
  have hn7 : vp_in (x4 + 7) L := l_in (c := 7) h4 rfl (by decide)
  refine lv_aload_n hx hb dL_law_477 rfl (lv_at hl 1 rfl) ?_
  refine lv_aload_n hx hb dL_law_478 rfl (lv_at hl 0 rfl) ?_
  refine lv_iload hx hb dL_law_479 (lv_at hl 4 rfl) ?_
  refine lv_iconst (v := 1) hx hb dL_law_481 (by decide) ?_
  refine lv_iadd hx hb dL_law_482 ?_
  refine va_sld hx hb hXs hbl hbA I.2.2.2.2.2.2.2.2.1 hn1 dL_law_483 ?_
  refine lv_aload_n hx hb dL_law_484 rfl (lv_at hl 0 rfl) ?_
  refine lv_iload hx hb dL_law_485 (lv_at hl 4 rfl) ?_
  refine lv_iconst (v := 2) hx hb dL_law_487 (by decide) ?_
  refine lv_iadd hx hb dL_law_488 ?_
  refine va_sld hx hb hXs hbl hbA I.2.2.2.2.2.2.2.2.1 hn2 dL_law_489 ?_
  refine lv_aload_n hx hb dL_law_490 rfl (lv_at hl 0 rfl) ?_
  refine lv_iload hx hb dL_law_491 (lv_at hl 4 rfl) ?_
  refine lv_iconst (v := 3) hx hb dL_law_493 (by decide) ?_
  refine lv_iadd hx hb dL_law_494 ?_
  refine va_sld hx hb hXs hbl hbA I.2.2.2.2.2.2.2.2.1 hn3 dL_law_495 ?_
  obtain ⟨bs, js, sh, wk, ll, jc, lc, lb, hM⟩ := I.2.2.2.2.2.2.2.1
  obtain ⟨hjc, fa, J, hfa, hJ⟩ := hR.at I.2.2.1 hM
  subst hjc
  refine lk6 I (va_runV (g := F0 m 496 ls ([.int (xs (x4 + 3).toNatClampNeg), .int (xs (x4 + 2).toNatClampNeg), .int (xs (x4 + 1).toNatClampNeg), .ref xo])) (As := [.int (xs (x4 + 1).toNatClampNeg), .int (xs (x4 + 2).toNatClampNeg), .int (xs (x4 + 3).toNatClampNeg)]) (rest := []) ⟨hx, hb, hml, hown, hts⟩ (c_X9_mark_j l D cy (AC s mo a) G W' xo ((xs (x4 + 1).toNatClampNeg)) ((xs (x4 + 2).toNatClampNeg)) ((xs (x4 + 3).toNatClampNeg)) I.2.2.1 I.2.2.2.1 I.2.2.2.2.1 hM hfa hJ.sm hJ.js (fun o9 k9 => (hJ.at o9).2.1 k9)) (cwV 3 hts gL_law_X9_mark rfl rfl rfl (by decide +kernel) ⟨Nat.le_of_ble_eq_true rfl, Nat.le_of_ble_eq_true rfl⟩) (l_preV I hK hV) rfl rfl hl.1 rfl (lv_room (Nat.le_of_ble_eq_true rfl)) dL_law_496 ⟨by omega, by omega⟩) (fun r9 w9 hF9 q9 e8 he9 => hJ.fr I.2.2.1 I.2.2.2.1 hF9 (by rcases q9 with ⟨o9, ⟨k9, _⟩ | ⟨_, _, e7⟩⟩ | ⟨_, _, e7⟩; exact Or.inl ⟨o9.1, fun z9 hz9 => Or.inr (Or.inr ⟨k9, hz9⟩)⟩; exact Or.inr e7; exact Or.inr e7) I.2.2.2.2.1 (by decide) (by decide) he9) (fun r496 W1 H locs hF9 q9 I => ?_)
  have hq9 : (okJob (f 1) ((xs (x4 + 1).toNatClampNeg)) ∧ ∀ z, z = jC (J ((xs (x4 + 1).toNatClampNeg)).toNatClampNeg) → z = jX (J ((xs (x4 + 1).toNatClampNeg)).toNatClampNeg) ∨ z = jS (J ((xs (x4 + 1).toNatClampNeg)).toNatClampNeg) ∨ (jK (J ((xs (x4 + 1).toNatClampNeg)).toNatClampNeg) = 4 ∧ z = jC (J ((xs (x4 + 1).toNatClampNeg)).toNatClampNeg))) ∨ W1 = W' := (by rcases q9 with ⟨o9, ⟨k9, _⟩ | ⟨_, _, e9⟩⟩ | ⟨_, _, e9⟩; exact Or.inl ⟨o9.1, fun z9 hz9 => Or.inr (Or.inr ⟨k9, hz9⟩)⟩; exact Or.inr e9; exact Or.inr e9)
  have I : LI D cy s xo mo ou a M G W1 f g r q H locs := I
  refine lv_pop hx hb dL_law_499 rfl ?_
  refine lv_aload_n hx hb dL_law_500 rfl (lv_at hl 2 rfl) ?_
  refine lv_aload_n hx hb dL_law_501 rfl (lv_at hl 0 rfl) ?_
  refine lv_iload hx hb dL_law_502 (lv_at hl 4 rfl) ?_
  refine lv_iconst (v := 1) hx hb dL_law_504 (by decide) ?_
  refine lv_iadd hx hb dL_law_505 ?_
  refine va_sld hx hb hXs hbl hbA I.2.2.2.2.2.2.2.2.1 hn1 dL_law_506 ?_
  refine lv_aload_n hx hb dL_law_507 rfl (lv_at hl 0 rfl) ?_
  refine lv_iload hx hb dL_law_508 (lv_at hl 4 rfl) ?_
  refine lv_iconst (v := 2) hx hb dL_law_510 (by decide) ?_
  refine lv_iadd hx hb dL_law_511 ?_
  refine va_sld hx hb hXs hbl hbA I.2.2.2.2.2.2.2.2.1 hn2 dL_law_512 ?_
  refine lv_aload_n hx hb dL_law_513 rfl (lv_at hl 0 rfl) ?_
  refine lv_iload hx hb dL_law_514 (lv_at hl 4 rfl) ?_
  refine lv_iconst (v := 3) hx hb dL_law_516 (by decide) ?_
  refine lv_iadd hx hb dL_law_517 ?_
  refine va_sld hx hb hXs hbl hbA I.2.2.2.2.2.2.2.2.1 hn3 dL_law_518 ?_
  have hI := I.2.2.2.2.2.2.1
  refine lm_i (As := [.int (xs (x4 + 1).toNatClampNeg), .int (xs (x4 + 2).toNatClampNeg), .int (xs (x4 + 3).toNatClampNeg)]) (rest := []) I ⟨hx, hb, hml, hown, hts⟩ (c_X10_mark_y l D cy mo a f g r q ((xs (x4 + 1).toNatClampNeg)) ((xs (x4 + 2).toNatClampNeg)) ((xs (x4 + 3).toNatClampNeg)) hDM hI) (cwV 3 hts gL_law_X10_mark rfl rfl rfl (by decide +kernel) ⟨Nat.le_of_ble_eq_true rfl, Nat.le_of_ble_eq_true rfl⟩) hK hAM rfl hl.1 rfl (Nat.le_of_ble_eq_true rfl) dL_law_519 ⟨by omega, by omega⟩ (fun _ _ h9 => by obtain ⟨_, rfl, h9⟩ := h9; exact hI) (fun r519 u H locs q519 I => ?_)
  obtain ⟨f1, g1, r1, q1⟩ := u
  have I : LI D cy s xo mo ou a M G W1 f1 g1 r1 q1 H locs := I
  refine lv_pop hx hb dL_law_522 rfl ?_
  refine lv_goto (tgt := 2327) hx hb dL_law_523 (by decide) ?_
  obtain ⟨wt9, u9, h9⟩ := q519
  simp only [Prod.mk.injEq] at u9
  have I9 := I
  obtain ⟨rfl, rfl, rfl, rfl⟩ := u9
  have I := I9
  obtain ⟨-, -, -, hGj, -⟩ := w7sh I0.2.2.1 I0.2.2.2.1 I0.2.2.2.2.1 hM
  have hM1 := hJ.fr I0.2.2.1 I0.2.2.2.1 hF9 hq9 I0.2.2.2.2.1 (by decide) (by decide) hM
  have hfa1 := hJ.fr I0.2.2.1 I0.2.2.2.1 hF9 hq9 hGj (by decide) (by decide) hfa
  obtain ⟨J9, hJ9⟩ := hJ.mark (r1 := (va_up r 8 wt9)) I0.2.2.1 I0.2.2.2.1 I0.2.2.2.2.2.2.1.1.2 hF9 (q9.imp (fun z9 => ⟨z9.1, z9.2.imp (fun y9 => ⟨y9.1, y9.2.2⟩) (fun y9 => ⟨y9.1, y9.2.2⟩)⟩) (fun z9 => ⟨z9.1, z9.2.2⟩)) (h9.imp (fun z9 => ⟨z9.1, z9.2.imp (fun y9 => ⟨y9.1, y9.2.2⟩) (fun y9 => ⟨y9.1, y9.2.2⟩)⟩) (fun z9 => ⟨z9.1, z9.2.2⟩)) rfl rfl rfl rfl rfl rfl 
  have hR1 : RlJ cy xo G W1 (upd f 0 (0 : Int32)) (va_up r 8 wt9) := ⟨_, _, _, _, _, _, _, _, fa, J9, hM1, hfa1, hJ9⟩
  refine W.widen (k := C + 7) (n := S + 588) (by omega) (by omega) ?_
  exact kk _ _ _ _ _ _ _ _ _ I hR1 (lv_sub hl [0, 1, 2, 3, 4] rfl)
set_option maxHeartbeats 4000000 in
set_option maxRecDepth 100000 in
theorem lcase_6 {p : Program} {l : Launch} {e : Env} {s : State} {m : MethodId} {below : List Frame} {meth : Method} {c : Code} {b L : Nat} {xs : Nat → Int32} {D : va_G} {cy : Nat → ClassId} {xo mo ou : Nat} {a : Nat → Nat} {M : Option Nat} {G : cG} {W' : va_W} {f : Nat → Int32} {g : Nat → Int64} {r : Nat → Nat → Int32} {q : Nat → Nat → Int64} {H : Heap} {locs : List Loc} {ls : Array Slot} {Q : State → Prop} {C S : Nat} (X : LX p l s m c b L xs D cy mo a) (I : LI D cy s xo mo ou a M G W' f g r q H locs) (hR : RlJ cy xo G W' f r) {x4 : Int32} (h4 : 0 ≤ x4.toInt ∧ x4.toInt + 8 ≤ (L : Int) ∧ L ≤ 4096) (hC : C + 7 ≤ 601024) (hSl : S + 53273 ≤ 7293034) (hl : lv_has ls 8 [(0, .ref b), (1, .ref xo), (2, .ref mo), (3, .ref ou), (4, .int x4)]) (kk : ∀ (G : cG) (W' : va_W) (f : Nat → Int32) (g : Nat → Int64) (r : Nat → Nat → Int32) (q : Nat → Nat → Int64) (H : Heap) (locs : List Loc) (ls : Array Slot), LI D cy s xo mo ou a M G W' f g r q H locs → RlJ cy xo G W' f r → lv_has ls 8 [(0, .ref b), (1, .ref xo), (2, .ref mo), (3, .ref ou), (4, .int x4)] → W p l e room_1 s m #[Value.ref b] below meth c H locs (C + 7) (S + 588) Q (F0 m 2327 ls [])) : W p l e room_1 s m #[Value.ref b] below meth c H locs C S Q (F0 m 526 ls []) := by
  obtain ⟨⟨hx, hb, hml, hown, hts⟩, ⟨hXs, hbl⟩, ⟨hK, hV, hZ, hXT⟩, hst, hDM, hAM⟩ := id X
  have I0 := I
  have hbA : ¬ AL s b := Nat.not_le.mpr hbl
  have hRc : room_1.cells = 601024 := rfl
  have hRs : room_1.slots = 7293034 := rfl
  have hn1 : vp_in (x4 + 1) L := l_in (c := 1) h4 rfl (by decide)
  have hn2 : vp_in (x4 + 2) L := l_in (c := 2) h4 rfl (by decide)
  have hn3 : vp_in (x4 + 3) L := l_in (c := 3) h4 rfl (by decide)
  have hn4 : vp_in (x4 + 4) L := l_in (c := 4) h4 rfl (by decide)
  have hn5 : vp_in (x4 + 5) L := l_in (c := 5) h4 rfl (by decide)
  have hn6 : vp_in (x4 + 6) L := l_in (c := 6) h4 rfl (by decide)
  have hn7 : vp_in (x4 + 7) L := l_in (c := 7) h4 rfl (by decide)
  refine lv_aload_n hx hb dL_law_526 rfl (lv_at hl 1 rfl) ?_
  refine lv_aload_n hx hb dL_law_527 rfl (lv_at hl 0 rfl) ?_
  refine lv_iload hx hb dL_law_528 (lv_at hl 4 rfl) ?_
  refine lv_iconst (v := 1) hx hb dL_law_530 (by decide) ?_
  refine lv_iadd hx hb dL_law_531 ?_
  refine va_sld hx hb hXs hbl hbA I.2.2.2.2.2.2.2.2.1 hn1 dL_law_532 ?_
  refine lv_aload_n hx hb dL_law_533 rfl (lv_at hl 0 rfl) ?_
  refine lv_iload hx hb dL_law_534 (lv_at hl 4 rfl) ?_
  refine lv_iconst (v := 2) hx hb dL_law_536 (by decide) ?_
  refine lv_iadd hx hb dL_law_537 ?_
  refine va_sld hx hb hXs hbl hbA I.2.2.2.2.2.2.2.2.1 hn2 dL_law_538 ?_
  refine lv_aload_n hx hb dL_law_539 rfl (lv_at hl 0 rfl) ?_
  refine lv_iload hx hb dL_law_540 (lv_at hl 4 rfl) ?_
  refine lv_iconst (v := 3) hx hb dL_law_542 (by decide) ?_
  refine lv_iadd hx hb dL_law_543 ?_
  refine va_sld hx hb hXs hbl hbA I.2.2.2.2.2.2.2.2.1 hn3 dL_law_544 ?_
  refine lk3_ri I (va_runV (g := F0 m 545 ls ([.int (xs (x4 + 3).toNatClampNeg), .int (xs (x4 + 2).toNatClampNeg), .int (xs (x4 + 1).toNatClampNeg), .ref xo])) (As := [.int (xs (x4 + 1).toNatClampNeg), .int (xs (x4 + 2).toNatClampNeg), .int (xs (x4 + 3).toNatClampNeg)]) (rest := []) ⟨hx, hb, hml, hown, hts⟩ (c_X9_told l D cy (AC s mo a) G W' xo ((xs (x4 + 1).toNatClampNeg)) ((xs (x4 + 2).toNatClampNeg)) ((xs (x4 + 3).toNatClampNeg)) I.2.2.1 I.2.2.2.1 I.2.2.2.2.1) (cwV 3 hts gL_law_X9_told rfl rfl rfl (by decide +kernel) ⟨Nat.le_of_ble_eq_true rfl, Nat.le_of_ble_eq_true rfl⟩) (l_preV I hK hV) rfl rfl hl.1 rfl (lv_room (Nat.le_of_ble_eq_true rfl)) dL_law_545 ⟨by omega, by omega⟩) (fun r545 u H locs q545 hX I => ?_)
  obtain ⟨G1, W1⟩ := u
  have I : LI D cy s xo mo ou a M G1 W1 f g r q H locs := I
  have hX : cX none (chs []) G W' G1 W1 := hX
  refine lv_pop hx hb dL_law_548 rfl ?_
  refine lv_aload_n hx hb dL_law_549 rfl (lv_at hl 2 rfl) ?_
  refine lv_aload_n hx hb dL_law_550 rfl (lv_at hl 0 rfl) ?_
  refine lv_iload hx hb dL_law_551 (lv_at hl 4 rfl) ?_
  refine lv_iconst (v := 1) hx hb dL_law_553 (by decide) ?_
  refine lv_iadd hx hb dL_law_554 ?_
  refine va_sld hx hb hXs hbl hbA I.2.2.2.2.2.2.2.2.1 hn1 dL_law_555 ?_
  refine lv_aload_n hx hb dL_law_556 rfl (lv_at hl 0 rfl) ?_
  refine lv_iload hx hb dL_law_557 (lv_at hl 4 rfl) ?_
  refine lv_iconst (v := 2) hx hb dL_law_559 (by decide) ?_
  refine lv_iadd hx hb dL_law_560 ?_
  refine va_sld hx hb hXs hbl hbA I.2.2.2.2.2.2.2.2.1 hn2 dL_law_561 ?_
  refine lv_aload_n hx hb dL_law_562 rfl (lv_at hl 0 rfl) ?_
  refine lv_iload hx hb dL_law_563 (lv_at hl 4 rfl) ?_
  refine lv_iconst (v := 3) hx hb dL_law_565 (by decide) ?_
  refine lv_iadd hx hb dL_law_566 ?_
  refine va_sld hx hb hXs hbl hbA I.2.2.2.2.2.2.2.2.1 hn3 dL_law_567 ?_
  have hI := I.2.2.2.2.2.2.1
  refine lm_i (As := [.int (xs (x4 + 1).toNatClampNeg), .int (xs (x4 + 2).toNatClampNeg), .int (xs (x4 + 3).toNatClampNeg)]) (rest := []) I ⟨hx, hb, hml, hown, hts⟩ (c_X10_told l D cy mo a f g r q ((xs (x4 + 1).toNatClampNeg)) ((xs (x4 + 2).toNatClampNeg)) ((xs (x4 + 3).toNatClampNeg)) hDM hI) (cwV 3 hts gL_law_X10_told rfl rfl rfl (by decide +kernel) ⟨Nat.le_of_ble_eq_true rfl, Nat.le_of_ble_eq_true rfl⟩) hK hAM rfl hl.1 rfl (Nat.le_of_ble_eq_true rfl) dL_law_568 ⟨by omega, by omega⟩ (fun _ _ h9 => by obtain ⟨rfl, h9⟩ := h9; exact hI) (fun r568 u H locs q568 I => ?_)
  have ef : u.1 1 = f 1 := by obtain ⟨rfl, -⟩ := q568; rfl
  have e2_ : u.2.2.1 2 = r 2 := by obtain ⟨rfl, -⟩ := q568; rfl
  have e3_ : u.2.2.1 3 = r 3 := by obtain ⟨rfl, -⟩ := q568; rfl
  have e4_ : u.2.2.1 4 = r 4 := by obtain ⟨rfl, -⟩ := q568; rfl
  have e5_ : u.2.2.1 5 = r 5 := by obtain ⟨rfl, -⟩ := q568; rfl
  have e6_ : u.2.2.1 6 = r 6 := by obtain ⟨rfl, -⟩ := q568; rfl
  have e7_ : u.2.2.1 7 = r 7 := by obtain ⟨rfl, -⟩ := q568; rfl
  have e8_ : u.2.2.1 8 = r 8 := by obtain ⟨rfl, -⟩ := q568; rfl
  obtain ⟨f1, g1, r1, q1⟩ := u
  have ef : f1 1 = f 1 := ef
  have e2_ : r1 2 = r 2 := e2_
  have e3_ : r1 3 = r 3 := e3_
  have e4_ : r1 4 = r 4 := e4_
  have e5_ : r1 5 = r 5 := e5_
  have e6_ : r1 6 = r 6 := e6_
  have e7_ : r1 7 = r 7 := e7_
  have e8_ : r1 8 = r 8 := e8_
  have I : LI D cy s xo mo ou a M G1 W1 f1 g1 r1 q1 H locs := I
  refine lv_pop hx hb dL_law_571 rfl ?_
  refine lv_goto (tgt := 2327) hx hb dL_law_572 (by decide) ?_
  have hR1 : RlJ cy xo G1 W1 f1 r1 := hR.keep I0.2.2.1 I0.2.2.2.1 I0.2.2.2.2.1 hX rfl rfl rfl rfl ef e2_ e3_ e4_ e5_ e6_ e7_ e8_
  refine W.widen (k := C + 7) (n := S + 588) (by omega) (by omega) ?_
  exact kk _ _ _ _ _ _ _ _ _ I hR1 (lv_sub hl [0, 1, 2, 3, 4] rfl)
set_option maxHeartbeats 4000000 in
set_option maxRecDepth 100000 in
theorem lcase_7 {p : Program} {l : Launch} {e : Env} {s : State} {m : MethodId} {below : List Frame} {meth : Method} {c : Code} {b L : Nat} {xs : Nat → Int32} {D : va_G} {cy : Nat → ClassId} {xo mo ou : Nat} {a : Nat → Nat} {M : Option Nat} {G : cG} {W' : va_W} {f : Nat → Int32} {g : Nat → Int64} {r : Nat → Nat → Int32} {q : Nat → Nat → Int64} {H : Heap} {locs : List Loc} {ls : Array Slot} {Q : State → Prop} {C S : Nat} (X : LX p l s m c b L xs D cy mo a) (I : LI D cy s xo mo ou a M G W' f g r q H locs) (hR : RlJ cy xo G W' f r) {x4 : Int32} (h4 : 0 ≤ x4.toInt ∧ x4.toInt + 8 ≤ (L : Int) ∧ L ≤ 4096) (hC : C + 7 ≤ 601024) (hSl : S + 53273 ≤ 7293034) (hl : lv_has ls 8 [(0, .ref b), (1, .ref xo), (2, .ref mo), (3, .ref ou), (4, .int x4)]) (kk : ∀ (G : cG) (W' : va_W) (f : Nat → Int32) (g : Nat → Int64) (r : Nat → Nat → Int32) (q : Nat → Nat → Int64) (H : Heap) (locs : List Loc) (ls : Array Slot), LI D cy s xo mo ou a M G W' f g r q H locs → RlJ cy xo G W' f r → lv_has ls 8 [(0, .ref b), (1, .ref xo), (2, .ref mo), (3, .ref ou), (4, .int x4)] → W p l e room_1 s m #[Value.ref b] below meth c H locs (C + 7) (S + 588) Q (F0 m 2327 ls [])) : W p l e room_1 s m #[Value.ref b] below meth c H locs C S Q (F0 m 575 ls []) := by
  obtain ⟨⟨hx, hb, hml, hown, hts⟩, ⟨hXs, hbl⟩, ⟨hK, hV, hZ, hXT⟩, hst, hDM, hAM⟩ := id X
  have I0 := I
  have hbA : ¬ AL s b := Nat.not_le.mpr hbl
  have hRc : room_1.cells = 601024 := rfl
  have hRs : room_1.slots = 7293034 := rfl
  have hn1 : vp_in (x4 + 1) L := l_in (c := 1) h4 rfl (by decide)
  have hn2 : vp_in (x4 + 2) L := l_in (c := 2) h4 rfl (by decide)
  have hn3 : vp_in (x4 + 3) L := l_in (c := 3) h4 rfl (by decide)
  have hn4 : vp_in (x4 + 4) L := l_in (c := 4) h4 rfl (by decide)
  have hn5 : vp_in (x4 + 5) L := l_in (c := 5) h4 rfl (by decide)
  have hn6 : vp_in (x4 + 6) L := l_in (c := 6) h4 rfl (by decide)
  have hn7 : vp_in (x4 + 7) L := l_in (c := 7) h4 rfl (by decide)
  refine lv_aload_n hx hb dL_law_575 rfl (lv_at hl 1 rfl) ?_
  refine lv_aload_n hx hb dL_law_576 rfl (lv_at hl 0 rfl) ?_
  refine lv_iload hx hb dL_law_577 (lv_at hl 4 rfl) ?_
  refine lv_iconst (v := 1) hx hb dL_law_579 (by decide) ?_
  refine lv_iadd hx hb dL_law_580 ?_
  refine va_sld hx hb hXs hbl hbA I.2.2.2.2.2.2.2.2.1 hn1 dL_law_581 ?_
  refine lv_aload_n hx hb dL_law_582 rfl (lv_at hl 0 rfl) ?_
  refine lv_iload hx hb dL_law_583 (lv_at hl 4 rfl) ?_
  refine lv_iconst (v := 2) hx hb dL_law_585 (by decide) ?_
  refine lv_iadd hx hb dL_law_586 ?_
  refine va_sld hx hb hXs hbl hbA I.2.2.2.2.2.2.2.2.1 hn2 dL_law_587 ?_
  refine lv_aload_n hx hb dL_law_588 rfl (lv_at hl 0 rfl) ?_
  refine lv_iload hx hb dL_law_589 (lv_at hl 4 rfl) ?_
  refine lv_iconst (v := 3) hx hb dL_law_591 (by decide) ?_
  refine lv_iadd hx hb dL_law_592 ?_
  refine va_sld hx hb hXs hbl hbA I.2.2.2.2.2.2.2.2.1 hn3 dL_law_593 ?_
  refine lv_i2l (v := ((xs (x4 + 3).toNatClampNeg)).toInt64) hx hb dL_law_594 rfl ?_
  refine lv_bipush (v := 32) hx hb dL_law_595 (by decide) ?_
  refine lv_lshl (v := (((xs (x4 + 3).toNatClampNeg)).toInt64) <<< ((32 : Int32).toInt64 &&& 63)) hx hb dL_law_597 rfl ?_
  refine lv_aload_n hx hb dL_law_598 rfl (lv_at hl 0 rfl) ?_
  refine lv_iload hx hb dL_law_599 (lv_at hl 4 rfl) ?_
  refine lv_iconst (v := 4) hx hb dL_law_601 (by decide) ?_
  refine lv_iadd hx hb dL_law_602 ?_
  refine va_sld hx hb hXs hbl hbA I.2.2.2.2.2.2.2.2.1 hn4 dL_law_603 ?_
  refine lv_i2l (v := ((xs (x4 + 4).toNatClampNeg)).toInt64) hx hb dL_law_604 rfl ?_
  refine lv_ldc2 hx hb hown (hts (.constantLong RL 45 (4294967295)) (by decide +kernel)) dL_law_605 ?_
  refine lv_land hx hb dL_law_608 ?_
  refine lv_topl (fun v608 e608 => ?_)
  refine lv_lor hx hb dL_law_609 ?_
  refine lv_topl (fun v609 e609 => ?_)
  refine lv_aload_n hx hb dL_law_610 rfl (lv_at hl 0 rfl) ?_
  refine lv_iload hx hb dL_law_611 (lv_at hl 4 rfl) ?_
  refine lv_iconst (v := 5) hx hb dL_law_613 (by decide) ?_
  refine lv_iadd hx hb dL_law_614 ?_
  refine va_sld hx hb hXs hbl hbA I.2.2.2.2.2.2.2.2.1 hn5 dL_law_615 ?_
  refine lv_aload_n hx hb dL_law_616 rfl (lv_at hl 0 rfl) ?_
  refine lv_iload hx hb dL_law_617 (lv_at hl 4 rfl) ?_
  refine lv_bipush (v := 6) hx hb dL_law_619 (by decide) ?_
  refine lv_iadd hx hb dL_law_621 ?_
  refine va_sld hx hb hXs hbl hbA I.2.2.2.2.2.2.2.2.1 hn6 dL_law_622 ?_
  refine lk3_i I (va_runV (g := F0 m 623 ls ([.int (xs (x4 + 6).toNatClampNeg), .int (xs (x4 + 5).toNatClampNeg), .long v609, .int (xs (x4 + 2).toNatClampNeg), .int (xs (x4 + 1).toNatClampNeg), .ref xo])) (As := [.int (xs (x4 + 1).toNatClampNeg), .int (xs (x4 + 2).toNatClampNeg), .long v609, .int (xs (x4 + 5).toNatClampNeg), .int (xs (x4 + 6).toNatClampNeg)]) (rest := []) ⟨hx, hb, hml, hown, hts⟩ (c_X9_shadow l D cy (AC s mo a) G W' xo ((xs (x4 + 1).toNatClampNeg)) ((xs (x4 + 2).toNatClampNeg)) v609 ((xs (x4 + 5).toNatClampNeg)) ((xs (x4 + 6).toNatClampNeg)) I.2.2.1 I.2.2.2.1 I.2.2.2.2.1) (cwV 5 hts gL_law_X9_shadow rfl rfl rfl (by decide +kernel) ⟨Nat.le_of_ble_eq_true rfl, Nat.le_of_ble_eq_true rfl⟩) (l_preV I hK hV) rfl rfl hl.1 rfl (lv_room (Nat.le_of_ble_eq_true rfl)) dL_law_623 ⟨by omega, by omega⟩) rfl (fun r623 u H locs q623 hX I => ?_)
  obtain ⟨G1, W1⟩ := u
  have I : LI D cy s xo mo ou a M G1 W1 f g r q H locs := I
  have hX : cX none (chs [1, 8]) G W' G1 W1 := hX
  refine lv_pop hx hb dL_law_626 rfl ?_
  refine lv_aload_n hx hb dL_law_627 rfl (lv_at hl 2 rfl) ?_
  refine lv_aload_n hx hb dL_law_628 rfl (lv_at hl 0 rfl) ?_
  refine lv_iload hx hb dL_law_629 (lv_at hl 4 rfl) ?_
  refine lv_iconst (v := 1) hx hb dL_law_631 (by decide) ?_
  refine lv_iadd hx hb dL_law_632 ?_
  refine va_sld hx hb hXs hbl hbA I.2.2.2.2.2.2.2.2.1 hn1 dL_law_633 ?_
  refine lv_aload_n hx hb dL_law_634 rfl (lv_at hl 0 rfl) ?_
  refine lv_iload hx hb dL_law_635 (lv_at hl 4 rfl) ?_
  refine lv_iconst (v := 2) hx hb dL_law_637 (by decide) ?_
  refine lv_iadd hx hb dL_law_638 ?_
  refine va_sld hx hb hXs hbl hbA I.2.2.2.2.2.2.2.2.1 hn2 dL_law_639 ?_
  refine lv_aload_n hx hb dL_law_640 rfl (lv_at hl 0 rfl) ?_
  refine lv_iload hx hb dL_law_641 (lv_at hl 4 rfl) ?_
  refine lv_iconst (v := 3) hx hb dL_law_643 (by decide) ?_
  refine lv_iadd hx hb dL_law_644 ?_
  refine va_sld hx hb hXs hbl hbA I.2.2.2.2.2.2.2.2.1 hn3 dL_law_645 ?_
  refine lv_i2l (v := ((xs (x4 + 3).toNatClampNeg)).toInt64) hx hb dL_law_646 rfl ?_
  refine lv_bipush (v := 32) hx hb dL_law_647 (by decide) ?_
  refine lv_lshl (v := (((xs (x4 + 3).toNatClampNeg)).toInt64) <<< ((32 : Int32).toInt64 &&& 63)) hx hb dL_law_649 rfl ?_
  refine lv_aload_n hx hb dL_law_650 rfl (lv_at hl 0 rfl) ?_
  refine lv_iload hx hb dL_law_651 (lv_at hl 4 rfl) ?_
  refine lv_iconst (v := 4) hx hb dL_law_653 (by decide) ?_
  refine lv_iadd hx hb dL_law_654 ?_
  refine va_sld hx hb hXs hbl hbA I.2.2.2.2.2.2.2.2.1 hn4 dL_law_655 ?_
  refine lv_i2l (v := ((xs (x4 + 4).toNatClampNeg)).toInt64) hx hb dL_law_656 rfl ?_
  refine lv_ldc2 hx hb hown (hts (.constantLong RL 45 (4294967295)) (by decide +kernel)) dL_law_657 ?_
  refine lv_land hx hb dL_law_660 ?_
  refine lv_topl (fun v660 e660 => ?_)
  refine lv_lor hx hb dL_law_661 ?_
  refine lv_topl (fun v661 e661 => ?_)
  refine lv_aload_n hx hb dL_law_662 rfl (lv_at hl 0 rfl) ?_
  refine lv_iload hx hb dL_law_663 (lv_at hl 4 rfl) ?_
  refine lv_iconst (v := 5) hx hb dL_law_665 (by decide) ?_
  refine lv_iadd hx hb dL_law_666 ?_
  refine va_sld hx hb hXs hbl hbA I.2.2.2.2.2.2.2.2.1 hn5 dL_law_667 ?_
  refine lv_aload_n hx hb dL_law_668 rfl (lv_at hl 0 rfl) ?_
  refine lv_iload hx hb dL_law_669 (lv_at hl 4 rfl) ?_
  refine lv_bipush (v := 6) hx hb dL_law_671 (by decide) ?_
  refine lv_iadd hx hb dL_law_673 ?_
  refine va_sld hx hb hXs hbl hbA I.2.2.2.2.2.2.2.2.1 hn6 dL_law_674 ?_
  have hI := I.2.2.2.2.2.2.1
  refine lm_i (As := [.int (xs (x4 + 1).toNatClampNeg), .int (xs (x4 + 2).toNatClampNeg), .long v661, .int (xs (x4 + 5).toNatClampNeg), .int (xs (x4 + 6).toNatClampNeg)]) (rest := []) I ⟨hx, hb, hml, hown, hts⟩ (c_X10_shadow l D cy mo a f g r q ((xs (x4 + 1).toNatClampNeg)) ((xs (x4 + 2).toNatClampNeg)) v661 ((xs (x4 + 5).toNatClampNeg)) ((xs (x4 + 6).toNatClampNeg)) hDM) (cwV 5 hts gL_law_X10_shadow rfl rfl rfl (by decide +kernel) ⟨Nat.le_of_ble_eq_true rfl, Nat.le_of_ble_eq_true rfl⟩) hK hAM rfl hl.1 rfl (Nat.le_of_ble_eq_true rfl) dL_law_675 ⟨by omega, by omega⟩ (fun _ _ h9 => by obtain ⟨rfl, h9⟩ := h9; exact hI) (fun r675 u H locs q675 I => ?_)
  have ef : u.1 1 = f 1 := by obtain ⟨rfl, -⟩ := q675; rfl
  have e2_ : u.2.2.1 2 = r 2 := by obtain ⟨rfl, -⟩ := q675; rfl
  have e3_ : u.2.2.1 3 = r 3 := by obtain ⟨rfl, -⟩ := q675; rfl
  have e4_ : u.2.2.1 4 = r 4 := by obtain ⟨rfl, -⟩ := q675; rfl
  have e5_ : u.2.2.1 5 = r 5 := by obtain ⟨rfl, -⟩ := q675; rfl
  have e6_ : u.2.2.1 6 = r 6 := by obtain ⟨rfl, -⟩ := q675; rfl
  have e7_ : u.2.2.1 7 = r 7 := by obtain ⟨rfl, -⟩ := q675; rfl
  have e8_ : u.2.2.1 8 = r 8 := by obtain ⟨rfl, -⟩ := q675; rfl
  obtain ⟨f1, g1, r1, q1⟩ := u
  have ef : f1 1 = f 1 := ef
  have e2_ : r1 2 = r 2 := e2_
  have e3_ : r1 3 = r 3 := e3_
  have e4_ : r1 4 = r 4 := e4_
  have e5_ : r1 5 = r 5 := e5_
  have e6_ : r1 6 = r 6 := e6_
  have e7_ : r1 7 = r 7 := e7_
  have e8_ : r1 8 = r 8 := e8_
  have I : LI D cy s xo mo ou a M G1 W1 f1 g1 r1 q1 H locs := I
  refine lv_pop hx hb dL_law_678 rfl ?_
  refine lv_goto (tgt := 2327) hx hb dL_law_679 (by decide) ?_
  have hR1 : RlJ cy xo G1 W1 f1 r1 := hR.keep I0.2.2.1 I0.2.2.2.1 I0.2.2.2.2.1 hX rfl rfl rfl rfl ef e2_ e3_ e4_ e5_ e6_ e7_ e8_
  refine W.widen (k := C + 7) (n := S + 588) (by omega) (by omega) ?_
  exact kk _ _ _ _ _ _ _ _ _ I hR1 (lv_sub hl [0, 1, 2, 3, 4] rfl)
set_option maxHeartbeats 4000000 in
set_option maxRecDepth 100000 in
theorem lcase_8 {p : Program} {l : Launch} {e : Env} {s : State} {m : MethodId} {below : List Frame} {meth : Method} {c : Code} {b L : Nat} {xs : Nat → Int32} {D : va_G} {cy : Nat → ClassId} {xo mo ou : Nat} {a : Nat → Nat} {M : Option Nat} {G : cG} {W' : va_W} {f : Nat → Int32} {g : Nat → Int64} {r : Nat → Nat → Int32} {q : Nat → Nat → Int64} {H : Heap} {locs : List Loc} {ls : Array Slot} {Q : State → Prop} {C S : Nat} (X : LX p l s m c b L xs D cy mo a) (I : LI D cy s xo mo ou a M G W' f g r q H locs) (hR : RlJ cy xo G W' f r) {x4 : Int32} (h4 : 0 ≤ x4.toInt ∧ x4.toInt + 8 ≤ (L : Int) ∧ L ≤ 4096) (hC : C + 7 ≤ 601024) (hSl : S + 53273 ≤ 7293034) (hl : lv_has ls 8 [(0, .ref b), (1, .ref xo), (2, .ref mo), (3, .ref ou), (4, .int x4)]) (kk : ∀ (G : cG) (W' : va_W) (f : Nat → Int32) (g : Nat → Int64) (r : Nat → Nat → Int32) (q : Nat → Nat → Int64) (H : Heap) (locs : List Loc) (ls : Array Slot), LI D cy s xo mo ou a M G W' f g r q H locs → RlJ cy xo G W' f r → lv_has ls 8 [(0, .ref b), (1, .ref xo), (2, .ref mo), (3, .ref ou), (4, .int x4)] → W p l e room_1 s m #[Value.ref b] below meth c H locs (C + 7) (S + 588) Q (F0 m 2327 ls [])) : W p l e room_1 s m #[Value.ref b] below meth c H locs C S Q (F0 m 682 ls []) := by
  obtain ⟨⟨hx, hb, hml, hown, hts⟩, ⟨hXs, hbl⟩, ⟨hK, hV, hZ, hXT⟩, hst, hDM, hAM⟩ := id X
  have I0 := I
  have hbA : ¬ AL s b := Nat.not_le.mpr hbl
  have hRc : room_1.cells = 601024 := rfl
  have hRs : room_1.slots = 7293034 := rfl
  have hn1 : vp_in (x4 + 1) L := l_in (c := 1) h4 rfl (by decide)
  have hn2 : vp_in (x4 + 2) L := l_in (c := 2) h4 rfl (by decide)
  have hn3 : vp_in (x4 + 3) L := l_in (c := 3) h4 rfl (by decide)
  have hn4 : vp_in (x4 + 4) L := l_in (c := 4) h4 rfl (by decide)
  have hn5 : vp_in (x4 + 5) L := l_in (c := 5) h4 rfl (by decide)
  have hn6 : vp_in (x4 + 6) L := l_in (c := 6) h4 rfl (by decide)
  have hn7 : vp_in (x4 + 7) L := l_in (c := 7) h4 rfl (by decide)
  refine lv_aload_n hx hb dL_law_682 rfl (lv_at hl 1 rfl) ?_
  refine lv_aload_n hx hb dL_law_683 rfl (lv_at hl 0 rfl) ?_
  refine lv_iload hx hb dL_law_684 (lv_at hl 4 rfl) ?_
  refine lv_iconst (v := 1) hx hb dL_law_686 (by decide) ?_
  refine lv_iadd hx hb dL_law_687 ?_
  refine va_sld hx hb hXs hbl hbA I.2.2.2.2.2.2.2.2.1 hn1 dL_law_688 ?_
  refine lv_aload_n hx hb dL_law_689 rfl (lv_at hl 0 rfl) ?_
  refine lv_iload hx hb dL_law_690 (lv_at hl 4 rfl) ?_
  refine lv_iconst (v := 2) hx hb dL_law_692 (by decide) ?_
  refine lv_iadd hx hb dL_law_693 ?_
  refine va_sld hx hb hXs hbl hbA I.2.2.2.2.2.2.2.2.1 hn2 dL_law_694 ?_
  refine lv_i2l (v := ((xs (x4 + 2).toNatClampNeg)).toInt64) hx hb dL_law_695 rfl ?_
  refine lv_bipush (v := 32) hx hb dL_law_696 (by decide) ?_
  refine lv_lshl (v := (((xs (x4 + 2).toNatClampNeg)).toInt64) <<< ((32 : Int32).toInt64 &&& 63)) hx hb dL_law_698 rfl ?_
  refine lv_aload_n hx hb dL_law_699 rfl (lv_at hl 0 rfl) ?_
  refine lv_iload hx hb dL_law_700 (lv_at hl 4 rfl) ?_
  refine lv_iconst (v := 3) hx hb dL_law_702 (by decide) ?_
  refine lv_iadd hx hb dL_law_703 ?_
  refine va_sld hx hb hXs hbl hbA I.2.2.2.2.2.2.2.2.1 hn3 dL_law_704 ?_
  refine lv_i2l (v := ((xs (x4 + 3).toNatClampNeg)).toInt64) hx hb dL_law_705 rfl ?_
  refine lv_ldc2 hx hb hown (hts (.constantLong RL 45 (4294967295)) (by decide +kernel)) dL_law_706 ?_
  refine lv_land hx hb dL_law_709 ?_
  refine lv_topl (fun v709 e709 => ?_)
  refine lv_lor hx hb dL_law_710 ?_
  refine lv_topl (fun v710 e710 => ?_)
  refine lk3_ri I (va_runV (g := F0 m 711 ls ([.long v710, .int (xs (x4 + 1).toNatClampNeg), .ref xo])) (As := [.int (xs (x4 + 1).toNatClampNeg), .long v710]) (rest := []) ⟨hx, hb, hml, hown, hts⟩ (c_X9_fits l D cy (AC s mo a) G W' xo ((xs (x4 + 1).toNatClampNeg)) v710 I.2.2.1 I.2.2.2.1 I.2.2.2.2.1) (cwV 2 hts gL_law_X9_fits rfl rfl rfl (by decide +kernel) ⟨Nat.le_of_ble_eq_true rfl, Nat.le_of_ble_eq_true rfl⟩) (l_preV I hK hV) rfl rfl hl.1 rfl (lv_room (Nat.le_of_ble_eq_true rfl)) dL_law_711 ⟨by omega, by omega⟩) (fun r711 u H locs q711 hX I => ?_)
  obtain ⟨G1, W1⟩ := u
  have I : LI D cy s xo mo ou a M G1 W1 f g r q H locs := I
  have hX : cX none (chs []) G W' G1 W1 := hX
  refine lv_pop hx hb dL_law_714 rfl ?_
  refine lv_aload_n hx hb dL_law_715 rfl (lv_at hl 2 rfl) ?_
  refine lv_aload_n hx hb dL_law_716 rfl (lv_at hl 0 rfl) ?_
  refine lv_iload hx hb dL_law_717 (lv_at hl 4 rfl) ?_
  refine lv_iconst (v := 1) hx hb dL_law_719 (by decide) ?_
  refine lv_iadd hx hb dL_law_720 ?_
  refine va_sld hx hb hXs hbl hbA I.2.2.2.2.2.2.2.2.1 hn1 dL_law_721 ?_
  refine lv_aload_n hx hb dL_law_722 rfl (lv_at hl 0 rfl) ?_
  refine lv_iload hx hb dL_law_723 (lv_at hl 4 rfl) ?_
  refine lv_iconst (v := 2) hx hb dL_law_725 (by decide) ?_
  refine lv_iadd hx hb dL_law_726 ?_
  refine va_sld hx hb hXs hbl hbA I.2.2.2.2.2.2.2.2.1 hn2 dL_law_727 ?_
  refine lv_i2l (v := ((xs (x4 + 2).toNatClampNeg)).toInt64) hx hb dL_law_728 rfl ?_
  refine lv_bipush (v := 32) hx hb dL_law_729 (by decide) ?_
  refine lv_lshl (v := (((xs (x4 + 2).toNatClampNeg)).toInt64) <<< ((32 : Int32).toInt64 &&& 63)) hx hb dL_law_731 rfl ?_
  refine lv_aload_n hx hb dL_law_732 rfl (lv_at hl 0 rfl) ?_
  refine lv_iload hx hb dL_law_733 (lv_at hl 4 rfl) ?_
  refine lv_iconst (v := 3) hx hb dL_law_735 (by decide) ?_
  refine lv_iadd hx hb dL_law_736 ?_
  refine va_sld hx hb hXs hbl hbA I.2.2.2.2.2.2.2.2.1 hn3 dL_law_737 ?_
  refine lv_i2l (v := ((xs (x4 + 3).toNatClampNeg)).toInt64) hx hb dL_law_738 rfl ?_
  refine lv_ldc2 hx hb hown (hts (.constantLong RL 45 (4294967295)) (by decide +kernel)) dL_law_739 ?_
  refine lv_land hx hb dL_law_742 ?_
  refine lv_topl (fun v742 e742 => ?_)
  refine lv_lor hx hb dL_law_743 ?_
  refine lv_topl (fun v743 e743 => ?_)
  have hI := I.2.2.2.2.2.2.1
  refine lm_i (As := [.int (xs (x4 + 1).toNatClampNeg), .long v743]) (rest := []) I ⟨hx, hb, hml, hown, hts⟩ (c_X10_fits l D cy mo a f g r q ((xs (x4 + 1).toNatClampNeg)) v743 hDM hI) (cwV 2 hts gL_law_X10_fits rfl rfl rfl (by decide +kernel) ⟨Nat.le_of_ble_eq_true rfl, Nat.le_of_ble_eq_true rfl⟩) hK hAM rfl hl.1 rfl (Nat.le_of_ble_eq_true rfl) dL_law_744 ⟨by omega, by omega⟩ (fun _ _ h9 => by obtain ⟨_, rfl, h9⟩ := h9; exact hI) (fun r744 u H locs q744 I => ?_)
  have ef : u.1 1 = f 1 := by obtain ⟨_, rfl, -⟩ := q744; rfl
  have e2_ : u.2.2.1 2 = r 2 := by obtain ⟨_, rfl, -⟩ := q744; rfl
  have e3_ : u.2.2.1 3 = r 3 := by obtain ⟨_, rfl, -⟩ := q744; rfl
  have e4_ : u.2.2.1 4 = r 4 := by obtain ⟨_, rfl, -⟩ := q744; rfl
  have e5_ : u.2.2.1 5 = r 5 := by obtain ⟨_, rfl, -⟩ := q744; rfl
  have e6_ : u.2.2.1 6 = r 6 := by obtain ⟨_, rfl, -⟩ := q744; rfl
  have e7_ : u.2.2.1 7 = r 7 := by obtain ⟨_, rfl, -⟩ := q744; rfl
  have e8_ : u.2.2.1 8 = r 8 := by obtain ⟨_, rfl, -⟩ := q744; rfl
  obtain ⟨f1, g1, r1, q1⟩ := u
  have ef : f1 1 = f 1 := ef
  have e2_ : r1 2 = r 2 := e2_
  have e3_ : r1 3 = r 3 := e3_
  have e4_ : r1 4 = r 4 := e4_
  have e5_ : r1 5 = r 5 := e5_
  have e6_ : r1 6 = r 6 := e6_
  have e7_ : r1 7 = r 7 := e7_
  have e8_ : r1 8 = r 8 := e8_
  have I : LI D cy s xo mo ou a M G1 W1 f1 g1 r1 q1 H locs := I
  refine lv_pop hx hb dL_law_747 rfl ?_
  refine lv_goto (tgt := 2327) hx hb dL_law_748 (by decide) ?_
  have hR1 : RlJ cy xo G1 W1 f1 r1 := hR.keep I0.2.2.1 I0.2.2.2.1 I0.2.2.2.2.1 hX rfl rfl rfl rfl ef e2_ e3_ e4_ e5_ e6_ e7_ e8_
  refine W.widen (k := C + 7) (n := S + 588) (by omega) (by omega) ?_
  exact kk _ _ _ _ _ _ _ _ _ I hR1 (lv_sub hl [0, 1, 2, 3, 4] rfl)
set_option maxHeartbeats 4000000 in
set_option maxRecDepth 100000 in
theorem lcase_9 {p : Program} {l : Launch} {e : Env} {s : State} {m : MethodId} {below : List Frame} {meth : Method} {c : Code} {b L : Nat} {xs : Nat → Int32} {D : va_G} {cy : Nat → ClassId} {xo mo ou : Nat} {a : Nat → Nat} {M : Option Nat} {G : cG} {W' : va_W} {f : Nat → Int32} {g : Nat → Int64} {r : Nat → Nat → Int32} {q : Nat → Nat → Int64} {H : Heap} {locs : List Loc} {ls : Array Slot} {Q : State → Prop} {C S : Nat} (X : LX p l s m c b L xs D cy mo a) (I : LI D cy s xo mo ou a M G W' f g r q H locs) (hR : RlJ cy xo G W' f r) {x4 : Int32} (h4 : 0 ≤ x4.toInt ∧ x4.toInt + 8 ≤ (L : Int) ∧ L ≤ 4096) (hC : C + 7 ≤ 601024) (hSl : S + 53273 ≤ 7293034) (hl : lv_has ls 8 [(0, .ref b), (1, .ref xo), (2, .ref mo), (3, .ref ou), (4, .int x4)]) (kk : ∀ (G : cG) (W' : va_W) (f : Nat → Int32) (g : Nat → Int64) (r : Nat → Nat → Int32) (q : Nat → Nat → Int64) (H : Heap) (locs : List Loc) (ls : Array Slot), LI D cy s xo mo ou a M G W' f g r q H locs → RlJ cy xo G W' f r → lv_has ls 8 [(0, .ref b), (1, .ref xo), (2, .ref mo), (3, .ref ou), (4, .int x4)] → W p l e room_1 s m #[Value.ref b] below meth c H locs (C + 7) (S + 588) Q (F0 m 2327 ls [])) : W p l e room_1 s m #[Value.ref b] below meth c H locs C S Q (F0 m 751 ls []) := by
  obtain ⟨⟨hx, hb, hml, hown, hts⟩, ⟨hXs, hbl⟩, ⟨hK, hV, hZ, hXT⟩, hst, hDM, hAM⟩ := id X
  have I0 := I
  have hbA : ¬ AL s b := Nat.not_le.mpr hbl
  have hRc : room_1.cells = 601024 := rfl
  have hRs : room_1.slots = 7293034 := rfl
  have hn1 : vp_in (x4 + 1) L := l_in (c := 1) h4 rfl (by decide)
  have hn2 : vp_in (x4 + 2) L := l_in (c := 2) h4 rfl (by decide)
  have hn3 : vp_in (x4 + 3) L := l_in (c := 3) h4 rfl (by decide)
  have hn4 : vp_in (x4 + 4) L := l_in (c := 4) h4 rfl (by decide)
  have hn5 : vp_in (x4 + 5) L := l_in (c := 5) h4 rfl (by decide)
  have hn6 : vp_in (x4 + 6) L := l_in (c := 6) h4 rfl (by decide)
  have hn7 : vp_in (x4 + 7) L := l_in (c := 7) h4 rfl (by decide)
  refine lv_aload_n hx hb dL_law_751 rfl (lv_at hl 1 rfl) ?_
  refine lv_aload_n hx hb dL_law_752 rfl (lv_at hl 0 rfl) ?_
  refine lv_iload hx hb dL_law_753 (lv_at hl 4 rfl) ?_
  refine lv_iconst (v := 1) hx hb dL_law_755 (by decide) ?_
  refine lv_iadd hx hb dL_law_756 ?_
  refine va_sld hx hb hXs hbl hbA I.2.2.2.2.2.2.2.2.1 hn1 dL_law_757 ?_
  refine lk3_i I (va_runV (g := F0 m 758 ls ([.int (xs (x4 + 1).toNatClampNeg), .ref xo])) (As := [.int (xs (x4 + 1).toNatClampNeg)]) (rest := []) ⟨hx, hb, hml, hown, hts⟩ (c_X9_count l D cy (AC s mo a) G W' xo ((xs (x4 + 1).toNatClampNeg)) I.2.2.1 I.2.2.2.1 I.2.2.2.2.1) (cwV 1 hts gL_law_X9_count rfl rfl rfl (by decide +kernel) ⟨Nat.le_of_ble_eq_true rfl, Nat.le_of_ble_eq_true rfl⟩) (l_preV I hK hV) rfl rfl hl.1 rfl (lv_room (Nat.le_of_ble_eq_true rfl)) dL_law_758 ⟨by omega, by omega⟩) rfl (fun r758 u H locs q758 hX I => ?_)
  obtain ⟨G1, W1⟩ := u
  have I : LI D cy s xo mo ou a M G1 W1 f g r q H locs := I
  have hX : cX none (chs [1, 5, 20, 21, 22, 23]) G W' G1 W1 := hX
  refine lv_pop hx hb dL_law_761 rfl ?_
  refine lv_aload_n hx hb dL_law_762 rfl (lv_at hl 2 rfl) ?_
  refine lv_aload_n hx hb dL_law_763 rfl (lv_at hl 0 rfl) ?_
  refine lv_iload hx hb dL_law_764 (lv_at hl 4 rfl) ?_
  refine lv_iconst (v := 1) hx hb dL_law_766 (by decide) ?_
  refine lv_iadd hx hb dL_law_767 ?_
  refine va_sld hx hb hXs hbl hbA I.2.2.2.2.2.2.2.2.1 hn1 dL_law_768 ?_
  have hI := I.2.2.2.2.2.2.1
  refine lm_i (As := [.int (xs (x4 + 1).toNatClampNeg)]) (rest := []) I ⟨hx, hb, hml, hown, hts⟩ (c_X10_count l D cy mo a f g r q ((xs (x4 + 1).toNatClampNeg)) hDM hI) (cwV 1 hts gL_law_X10_count rfl rfl rfl (by decide +kernel) ⟨Nat.le_of_ble_eq_true rfl, Nat.le_of_ble_eq_true rfl⟩) hK hAM rfl hl.1 rfl (Nat.le_of_ble_eq_true rfl) dL_law_769 ⟨by omega, by omega⟩ (fun _ _ h9 => by obtain ⟨_, _, _, _, _, _, rfl, h9⟩ := h9; exact hI) (fun r769 u H locs q769 I => ?_)
  have ef : u.1 1 = f 1 := by obtain ⟨_, _, _, _, _, _, rfl, -⟩ := q769; rfl
  have e2_ : u.2.2.1 2 = r 2 := by obtain ⟨_, _, _, _, _, _, rfl, -⟩ := q769; rfl
  have e3_ : u.2.2.1 3 = r 3 := by obtain ⟨_, _, _, _, _, _, rfl, -⟩ := q769; rfl
  have e4_ : u.2.2.1 4 = r 4 := by obtain ⟨_, _, _, _, _, _, rfl, -⟩ := q769; rfl
  have e5_ : u.2.2.1 5 = r 5 := by obtain ⟨_, _, _, _, _, _, rfl, -⟩ := q769; rfl
  have e6_ : u.2.2.1 6 = r 6 := by obtain ⟨_, _, _, _, _, _, rfl, -⟩ := q769; rfl
  have e7_ : u.2.2.1 7 = r 7 := by obtain ⟨_, _, _, _, _, _, rfl, -⟩ := q769; rfl
  have e8_ : u.2.2.1 8 = r 8 := by obtain ⟨_, _, _, _, _, _, rfl, -⟩ := q769; rfl
  obtain ⟨f1, g1, r1, q1⟩ := u
  have ef : f1 1 = f 1 := ef
  have e2_ : r1 2 = r 2 := e2_
  have e3_ : r1 3 = r 3 := e3_
  have e4_ : r1 4 = r 4 := e4_
  have e5_ : r1 5 = r 5 := e5_
  have e6_ : r1 6 = r 6 := e6_
  have e7_ : r1 7 = r 7 := e7_
  have e8_ : r1 8 = r 8 := e8_
  have I : LI D cy s xo mo ou a M G1 W1 f1 g1 r1 q1 H locs := I
  refine lv_pop hx hb dL_law_772 rfl ?_
  refine lv_goto (tgt := 2327) hx hb dL_law_773 (by decide) ?_
  have hR1 : RlJ cy xo G1 W1 f1 r1 := hR.keep I0.2.2.1 I0.2.2.2.1 I0.2.2.2.2.1 hX rfl rfl rfl rfl ef e2_ e3_ e4_ e5_ e6_ e7_ e8_
  refine W.widen (k := C + 7) (n := S + 588) (by omega) (by omega) ?_
  exact kk _ _ _ _ _ _ _ _ _ I hR1 (lv_sub hl [0, 1, 2, 3, 4] rfl)
set_option maxHeartbeats 4000000 in
set_option maxRecDepth 100000 in
theorem lcase_10 {p : Program} {l : Launch} {e : Env} {s : State} {m : MethodId} {below : List Frame} {meth : Method} {c : Code} {b L : Nat} {xs : Nat → Int32} {D : va_G} {cy : Nat → ClassId} {xo mo ou : Nat} {a : Nat → Nat} {M : Option Nat} {G : cG} {W' : va_W} {f : Nat → Int32} {g : Nat → Int64} {r : Nat → Nat → Int32} {q : Nat → Nat → Int64} {H : Heap} {locs : List Loc} {ls : Array Slot} {Q : State → Prop} {C S : Nat} (X : LX p l s m c b L xs D cy mo a) (I : LI D cy s xo mo ou a M G W' f g r q H locs) (hR : RlJ cy xo G W' f r) {x4 : Int32} (h4 : 0 ≤ x4.toInt ∧ x4.toInt + 8 ≤ (L : Int) ∧ L ≤ 4096) (hC : C + 7 ≤ 601024) (hSl : S + 53273 ≤ 7293034) (hl : lv_has ls 8 [(0, .ref b), (1, .ref xo), (2, .ref mo), (3, .ref ou), (4, .int x4)]) (kk : ∀ (G : cG) (W' : va_W) (f : Nat → Int32) (g : Nat → Int64) (r : Nat → Nat → Int32) (q : Nat → Nat → Int64) (H : Heap) (locs : List Loc) (ls : Array Slot), LI D cy s xo mo ou a M G W' f g r q H locs → RlJ cy xo G W' f r → lv_has ls 8 [(0, .ref b), (1, .ref xo), (2, .ref mo), (3, .ref ou), (4, .int x4)] → W p l e room_1 s m #[Value.ref b] below meth c H locs (C + 7) (S + 588) Q (F0 m 2327 ls [])) : W p l e room_1 s m #[Value.ref b] below meth c H locs C S Q (F0 m 776 ls []) := by
  obtain ⟨⟨hx, hb, hml, hown, hts⟩, ⟨hXs, hbl⟩, ⟨hK, hV, hZ, hXT⟩, hst, hDM, hAM⟩ := id X
  have I0 := I
  have hbA : ¬ AL s b := Nat.not_le.mpr hbl
  have hRc : room_1.cells = 601024 := rfl
  have hRs : room_1.slots = 7293034 := rfl
  have hn1 : vp_in (x4 + 1) L := l_in (c := 1) h4 rfl (by decide)
  have hn2 : vp_in (x4 + 2) L := l_in (c := 2) h4 rfl (by decide)
  have hn3 : vp_in (x4 + 3) L := l_in (c := 3) h4 rfl (by decide)
  have hn4 : vp_in (x4 + 4) L := l_in (c := 4) h4 rfl (by decide)
  have hn5 : vp_in (x4 + 5) L := l_in (c := 5) h4 rfl (by decide)
  have hn6 : vp_in (x4 + 6) L := l_in (c := 6) h4 rfl (by decide)
  have hn7 : vp_in (x4 + 7) L := l_in (c := 7) h4 rfl (by decide)
  refine lv_aload_n hx hb dL_law_776 rfl (lv_at hl 1 rfl) ?_
  refine lv_aload_n hx hb dL_law_777 rfl (lv_at hl 0 rfl) ?_
  refine lv_iload hx hb dL_law_778 (lv_at hl 4 rfl) ?_
  refine lv_iconst (v := 1) hx hb dL_law_780 (by decide) ?_
  refine lv_iadd hx hb dL_law_781 ?_
  refine va_sld hx hb hXs hbl hbA I.2.2.2.2.2.2.2.2.1 hn1 dL_law_782 ?_
  refine lv_aload_n hx hb dL_law_783 rfl (lv_at hl 0 rfl) ?_
  refine lv_iload hx hb dL_law_784 (lv_at hl 4 rfl) ?_
  refine lv_iconst (v := 2) hx hb dL_law_786 (by decide) ?_
  refine lv_iadd hx hb dL_law_787 ?_
  refine va_sld hx hb hXs hbl hbA I.2.2.2.2.2.2.2.2.1 hn2 dL_law_788 ?_
  refine lk3_l I (va_runV (g := F0 m 789 ls ([.int (xs (x4 + 2).toNatClampNeg), .int (xs (x4 + 1).toNatClampNeg), .ref xo])) (As := [.int (xs (x4 + 1).toNatClampNeg), .int (xs (x4 + 2).toNatClampNeg)]) (rest := []) ⟨hx, hb, hml, hown, hts⟩ (c_X9_find l D cy (AC s mo a) G W' xo ((xs (x4 + 1).toNatClampNeg)) ((xs (x4 + 2).toNatClampNeg)) I.2.2.1 I.2.2.2.1 I.2.2.2.2.1) (cwV 2 hts gL_law_X9_find rfl rfl rfl (by decide +kernel) ⟨Nat.le_of_ble_eq_true rfl, Nat.le_of_ble_eq_true rfl⟩) (l_preV I hK hV) rfl rfl hl.1 rfl (lv_room (Nat.le_of_ble_eq_true rfl)) dL_law_789 ⟨by omega, by omega⟩) rfl (fun r789 u H locs q789 hX I => ?_)
  obtain ⟨G1, W1⟩ := u
  have I : LI D cy s xo mo ou a M G1 W1 f g r q H locs := I
  have hX : cX none (chs [1, 5, 20, 21, 22, 23]) G W' G1 W1 := hX
  refine lv_pop2_2 hx hb dL_law_792 rfl ?_
  refine lv_aload_n hx hb dL_law_793 rfl (lv_at hl 2 rfl) ?_
  refine lv_aload_n hx hb dL_law_794 rfl (lv_at hl 0 rfl) ?_
  refine lv_iload hx hb dL_law_795 (lv_at hl 4 rfl) ?_
  refine lv_iconst (v := 1) hx hb dL_law_797 (by decide) ?_
  refine lv_iadd hx hb dL_law_798 ?_
  refine va_sld hx hb hXs hbl hbA I.2.2.2.2.2.2.2.2.1 hn1 dL_law_799 ?_
  refine lv_aload_n hx hb dL_law_800 rfl (lv_at hl 0 rfl) ?_
  refine lv_iload hx hb dL_law_801 (lv_at hl 4 rfl) ?_
  refine lv_iconst (v := 2) hx hb dL_law_803 (by decide) ?_
  refine lv_iadd hx hb dL_law_804 ?_
  refine va_sld hx hb hXs hbl hbA I.2.2.2.2.2.2.2.2.1 hn2 dL_law_805 ?_
  have hI := I.2.2.2.2.2.2.1
  refine lm_l (As := [.int (xs (x4 + 1).toNatClampNeg), .int (xs (x4 + 2).toNatClampNeg)]) (rest := []) I ⟨hx, hb, hml, hown, hts⟩ (c_X10_find l D cy mo a f g r q ((xs (x4 + 1).toNatClampNeg)) ((xs (x4 + 2).toNatClampNeg)) hDM hI) (cwV 2 hts gL_law_X10_find rfl rfl rfl (by decide +kernel) ⟨Nat.le_of_ble_eq_true rfl, Nat.le_of_ble_eq_true rfl⟩) hK hAM rfl hl.1 rfl (Nat.le_of_ble_eq_true rfl) dL_law_806 ⟨by omega, by omega⟩ (fun _ _ h9 => by obtain ⟨_, _, _, _, _, _, rfl, h9⟩ := h9; exact hI) (fun r806 u H locs q806 I => ?_)
  have ef : u.1 1 = f 1 := by obtain ⟨_, _, _, _, _, _, rfl, -⟩ := q806; rfl
  have e2_ : u.2.2.1 2 = r 2 := by obtain ⟨_, _, _, _, _, _, rfl, -⟩ := q806; rfl
  have e3_ : u.2.2.1 3 = r 3 := by obtain ⟨_, _, _, _, _, _, rfl, -⟩ := q806; rfl
  have e4_ : u.2.2.1 4 = r 4 := by obtain ⟨_, _, _, _, _, _, rfl, -⟩ := q806; rfl
  have e5_ : u.2.2.1 5 = r 5 := by obtain ⟨_, _, _, _, _, _, rfl, -⟩ := q806; rfl
  have e6_ : u.2.2.1 6 = r 6 := by obtain ⟨_, _, _, _, _, _, rfl, -⟩ := q806; rfl
  have e7_ : u.2.2.1 7 = r 7 := by obtain ⟨_, _, _, _, _, _, rfl, -⟩ := q806; rfl
  have e8_ : u.2.2.1 8 = r 8 := by obtain ⟨_, _, _, _, _, _, rfl, -⟩ := q806; rfl
  obtain ⟨f1, g1, r1, q1⟩ := u
  have ef : f1 1 = f 1 := ef
  have e2_ : r1 2 = r 2 := e2_
  have e3_ : r1 3 = r 3 := e3_
  have e4_ : r1 4 = r 4 := e4_
  have e5_ : r1 5 = r 5 := e5_
  have e6_ : r1 6 = r 6 := e6_
  have e7_ : r1 7 = r 7 := e7_
  have e8_ : r1 8 = r 8 := e8_
  have I : LI D cy s xo mo ou a M G1 W1 f1 g1 r1 q1 H locs := I
  refine lv_pop2_2 hx hb dL_law_809 rfl ?_
  refine lv_goto (tgt := 2327) hx hb dL_law_810 (by decide) ?_
  have hR1 : RlJ cy xo G1 W1 f1 r1 := hR.keep I0.2.2.1 I0.2.2.2.1 I0.2.2.2.2.1 hX rfl rfl rfl rfl ef e2_ e3_ e4_ e5_ e6_ e7_ e8_
  refine W.widen (k := C + 7) (n := S + 588) (by omega) (by omega) ?_
  exact kk _ _ _ _ _ _ _ _ _ I hR1 (lv_sub hl [0, 1, 2, 3, 4] rfl)
set_option maxHeartbeats 4000000 in
set_option maxRecDepth 100000 in
theorem lcase_11 {p : Program} {l : Launch} {e : Env} {s : State} {m : MethodId} {below : List Frame} {meth : Method} {c : Code} {b L : Nat} {xs : Nat → Int32} {D : va_G} {cy : Nat → ClassId} {xo mo ou : Nat} {a : Nat → Nat} {M : Option Nat} {G : cG} {W' : va_W} {f : Nat → Int32} {g : Nat → Int64} {r : Nat → Nat → Int32} {q : Nat → Nat → Int64} {H : Heap} {locs : List Loc} {ls : Array Slot} {Q : State → Prop} {C S : Nat} (X : LX p l s m c b L xs D cy mo a) (I : LI D cy s xo mo ou a M G W' f g r q H locs) (hR : RlJ cy xo G W' f r) {x4 : Int32} (h4 : 0 ≤ x4.toInt ∧ x4.toInt + 8 ≤ (L : Int) ∧ L ≤ 4096) (hC : C + 7 ≤ 601024) (hSl : S + 53273 ≤ 7293034) (hl : lv_has ls 8 [(0, .ref b), (1, .ref xo), (2, .ref mo), (3, .ref ou), (4, .int x4)]) (kk : ∀ (G : cG) (W' : va_W) (f : Nat → Int32) (g : Nat → Int64) (r : Nat → Nat → Int32) (q : Nat → Nat → Int64) (H : Heap) (locs : List Loc) (ls : Array Slot), LI D cy s xo mo ou a M G W' f g r q H locs → RlJ cy xo G W' f r → lv_has ls 8 [(0, .ref b), (1, .ref xo), (2, .ref mo), (3, .ref ou), (4, .int x4)] → W p l e room_1 s m #[Value.ref b] below meth c H locs (C + 7) (S + 588) Q (F0 m 2327 ls [])) : W p l e room_1 s m #[Value.ref b] below meth c H locs C S Q (F0 m 813 ls []) := by
  obtain ⟨⟨hx, hb, hml, hown, hts⟩, ⟨hXs, hbl⟩, ⟨hK, hV, hZ, hXT⟩, hst, hDM, hAM⟩ := id X
  have I0 := I
  have hbA : ¬ AL s b := Nat.not_le.mpr hbl
  have hRc : room_1.cells = 601024 := rfl
  have hRs : room_1.slots = 7293034 := rfl
  have hn1 : vp_in (x4 + 1) L := l_in (c := 1) h4 rfl (by decide)
  have hn2 : vp_in (x4 + 2) L := l_in (c := 2) h4 rfl (by decide)
  have hn3 : vp_in (x4 + 3) L := l_in (c := 3) h4 rfl (by decide)
  have hn4 : vp_in (x4 + 4) L := l_in (c := 4) h4 rfl (by decide)
  have hn5 : vp_in (x4 + 5) L := l_in (c := 5) h4 rfl (by decide)
  have hn6 : vp_in (x4 + 6) L := l_in (c := 6) h4 rfl (by decide)
  have hn7 : vp_in (x4 + 7) L := l_in (c := 7) h4 rfl (by decide)
  refine lv_aload_n hx hb dL_law_813 rfl (lv_at hl 1 rfl) ?_
  refine lv_aload_n hx hb dL_law_814 rfl (lv_at hl 0 rfl) ?_
  refine lv_iload hx hb dL_law_815 (lv_at hl 4 rfl) ?_
  refine lv_iconst (v := 1) hx hb dL_law_817 (by decide) ?_
  refine lv_iadd hx hb dL_law_818 ?_
  refine va_sld hx hb hXs hbl hbA I.2.2.2.2.2.2.2.2.1 hn1 dL_law_819 ?_
  refine lv_aload_n hx hb dL_law_820 rfl (lv_at hl 0 rfl) ?_
  refine lv_iload hx hb dL_law_821 (lv_at hl 4 rfl) ?_
  refine lv_iconst (v := 2) hx hb dL_law_823 (by decide) ?_
  refine lv_iadd hx hb dL_law_824 ?_
  refine va_sld hx hb hXs hbl hbA I.2.2.2.2.2.2.2.2.1 hn2 dL_law_825 ?_
  refine lv_i2l (v := ((xs (x4 + 2).toNatClampNeg)).toInt64) hx hb dL_law_826 rfl ?_
  refine lv_bipush (v := 32) hx hb dL_law_827 (by decide) ?_
  refine lv_lshl (v := (((xs (x4 + 2).toNatClampNeg)).toInt64) <<< ((32 : Int32).toInt64 &&& 63)) hx hb dL_law_829 rfl ?_
  refine lv_aload_n hx hb dL_law_830 rfl (lv_at hl 0 rfl) ?_
  refine lv_iload hx hb dL_law_831 (lv_at hl 4 rfl) ?_
  refine lv_iconst (v := 3) hx hb dL_law_833 (by decide) ?_
  refine lv_iadd hx hb dL_law_834 ?_
  refine va_sld hx hb hXs hbl hbA I.2.2.2.2.2.2.2.2.1 hn3 dL_law_835 ?_
  refine lv_i2l (v := ((xs (x4 + 3).toNatClampNeg)).toInt64) hx hb dL_law_836 rfl ?_
  refine lv_ldc2 hx hb hown (hts (.constantLong RL 45 (4294967295)) (by decide +kernel)) dL_law_837 ?_
  refine lv_land hx hb dL_law_840 ?_
  refine lv_topl (fun v840 e840 => ?_)
  refine lv_lor hx hb dL_law_841 ?_
  refine lv_topl (fun v841 e841 => ?_)
  refine lk3_i I (va_runV (g := F0 m 842 ls ([.long v841, .int (xs (x4 + 1).toNatClampNeg), .ref xo])) (As := [.int (xs (x4 + 1).toNatClampNeg), .long v841]) (rest := []) ⟨hx, hb, hml, hown, hts⟩ (c_X9_rank l D cy (AC s mo a) G W' xo ((xs (x4 + 1).toNatClampNeg)) v841 I.2.2.1 I.2.2.2.1 I.2.2.2.2.1) (cwV 2 hts gL_law_X9_rank rfl rfl rfl (by decide +kernel) ⟨Nat.le_of_ble_eq_true rfl, Nat.le_of_ble_eq_true rfl⟩) (l_preV I hK hV) rfl rfl hl.1 rfl (lv_room (Nat.le_of_ble_eq_true rfl)) dL_law_842 ⟨by omega, by omega⟩) rfl (fun r842 u H locs q842 hX I => ?_)
  obtain ⟨G1, W1⟩ := u
  have I : LI D cy s xo mo ou a M G1 W1 f g r q H locs := I
  have hX : cX none (chs [1, 5, 20, 21, 22, 23]) G W' G1 W1 := hX
  refine lv_pop hx hb dL_law_845 rfl ?_
  refine lv_aload_n hx hb dL_law_846 rfl (lv_at hl 2 rfl) ?_
  refine lv_aload_n hx hb dL_law_847 rfl (lv_at hl 0 rfl) ?_
  refine lv_iload hx hb dL_law_848 (lv_at hl 4 rfl) ?_
  refine lv_iconst (v := 1) hx hb dL_law_850 (by decide) ?_
  refine lv_iadd hx hb dL_law_851 ?_
  refine va_sld hx hb hXs hbl hbA I.2.2.2.2.2.2.2.2.1 hn1 dL_law_852 ?_
  refine lv_aload_n hx hb dL_law_853 rfl (lv_at hl 0 rfl) ?_
  refine lv_iload hx hb dL_law_854 (lv_at hl 4 rfl) ?_
  refine lv_iconst (v := 2) hx hb dL_law_856 (by decide) ?_
  refine lv_iadd hx hb dL_law_857 ?_
  refine va_sld hx hb hXs hbl hbA I.2.2.2.2.2.2.2.2.1 hn2 dL_law_858 ?_
  refine lv_i2l (v := ((xs (x4 + 2).toNatClampNeg)).toInt64) hx hb dL_law_859 rfl ?_
  refine lv_bipush (v := 32) hx hb dL_law_860 (by decide) ?_
  refine lv_lshl (v := (((xs (x4 + 2).toNatClampNeg)).toInt64) <<< ((32 : Int32).toInt64 &&& 63)) hx hb dL_law_862 rfl ?_
  refine lv_aload_n hx hb dL_law_863 rfl (lv_at hl 0 rfl) ?_
  refine lv_iload hx hb dL_law_864 (lv_at hl 4 rfl) ?_
  refine lv_iconst (v := 3) hx hb dL_law_866 (by decide) ?_
  refine lv_iadd hx hb dL_law_867 ?_
  refine va_sld hx hb hXs hbl hbA I.2.2.2.2.2.2.2.2.1 hn3 dL_law_868 ?_
  refine lv_i2l (v := ((xs (x4 + 3).toNatClampNeg)).toInt64) hx hb dL_law_869 rfl ?_
  refine lv_ldc2 hx hb hown (hts (.constantLong RL 45 (4294967295)) (by decide +kernel)) dL_law_870 ?_
  refine lv_land hx hb dL_law_873 ?_
  refine lv_topl (fun v873 e873 => ?_)
  refine lv_lor hx hb dL_law_874 ?_
  refine lv_topl (fun v874 e874 => ?_)
  have hI := I.2.2.2.2.2.2.1
  refine lm_i (As := [.int (xs (x4 + 1).toNatClampNeg), .long v874]) (rest := []) I ⟨hx, hb, hml, hown, hts⟩ (c_X10_rank l D cy mo a f g r q ((xs (x4 + 1).toNatClampNeg)) v874 hDM hI) (cwV 2 hts gL_law_X10_rank rfl rfl rfl (by decide +kernel) ⟨Nat.le_of_ble_eq_true rfl, Nat.le_of_ble_eq_true rfl⟩) hK hAM rfl hl.1 rfl (Nat.le_of_ble_eq_true rfl) dL_law_875 ⟨by omega, by omega⟩ (fun _ _ h9 => by obtain ⟨_, _, _, _, _, _, rfl, h9⟩ := h9; exact hI) (fun r875 u H locs q875 I => ?_)
  have ef : u.1 1 = f 1 := by obtain ⟨_, _, _, _, _, _, rfl, -⟩ := q875; rfl
  have e2_ : u.2.2.1 2 = r 2 := by obtain ⟨_, _, _, _, _, _, rfl, -⟩ := q875; rfl
  have e3_ : u.2.2.1 3 = r 3 := by obtain ⟨_, _, _, _, _, _, rfl, -⟩ := q875; rfl
  have e4_ : u.2.2.1 4 = r 4 := by obtain ⟨_, _, _, _, _, _, rfl, -⟩ := q875; rfl
  have e5_ : u.2.2.1 5 = r 5 := by obtain ⟨_, _, _, _, _, _, rfl, -⟩ := q875; rfl
  have e6_ : u.2.2.1 6 = r 6 := by obtain ⟨_, _, _, _, _, _, rfl, -⟩ := q875; rfl
  have e7_ : u.2.2.1 7 = r 7 := by obtain ⟨_, _, _, _, _, _, rfl, -⟩ := q875; rfl
  have e8_ : u.2.2.1 8 = r 8 := by obtain ⟨_, _, _, _, _, _, rfl, -⟩ := q875; rfl
  obtain ⟨f1, g1, r1, q1⟩ := u
  have ef : f1 1 = f 1 := ef
  have e2_ : r1 2 = r 2 := e2_
  have e3_ : r1 3 = r 3 := e3_
  have e4_ : r1 4 = r 4 := e4_
  have e5_ : r1 5 = r 5 := e5_
  have e6_ : r1 6 = r 6 := e6_
  have e7_ : r1 7 = r 7 := e7_
  have e8_ : r1 8 = r 8 := e8_
  have I : LI D cy s xo mo ou a M G1 W1 f1 g1 r1 q1 H locs := I
  refine lv_pop hx hb dL_law_878 rfl ?_
  refine lv_goto (tgt := 2327) hx hb dL_law_879 (by decide) ?_
  have hR1 : RlJ cy xo G1 W1 f1 r1 := hR.keep I0.2.2.1 I0.2.2.2.1 I0.2.2.2.2.1 hX rfl rfl rfl rfl ef e2_ e3_ e4_ e5_ e6_ e7_ e8_
  refine W.widen (k := C + 7) (n := S + 588) (by omega) (by omega) ?_
  exact kk _ _ _ _ _ _ _ _ _ I hR1 (lv_sub hl [0, 1, 2, 3, 4] rfl)
set_option maxHeartbeats 4000000 in
set_option maxRecDepth 100000 in
theorem lcase_12 {p : Program} {l : Launch} {e : Env} {s : State} {m : MethodId} {below : List Frame} {meth : Method} {c : Code} {b L : Nat} {xs : Nat → Int32} {D : va_G} {cy : Nat → ClassId} {xo mo ou : Nat} {a : Nat → Nat} {M : Option Nat} {G : cG} {W' : va_W} {f : Nat → Int32} {g : Nat → Int64} {r : Nat → Nat → Int32} {q : Nat → Nat → Int64} {H : Heap} {locs : List Loc} {ls : Array Slot} {Q : State → Prop} {C S : Nat} (X : LX p l s m c b L xs D cy mo a) (I : LI D cy s xo mo ou a M G W' f g r q H locs) (hR : RlJ cy xo G W' f r) {x4 : Int32} (h4 : 0 ≤ x4.toInt ∧ x4.toInt + 8 ≤ (L : Int) ∧ L ≤ 4096) (hC : C + 7 ≤ 601024) (hSl : S + 53273 ≤ 7293034) (hl : lv_has ls 8 [(0, .ref b), (1, .ref xo), (2, .ref mo), (3, .ref ou), (4, .int x4)]) (kk : ∀ (G : cG) (W' : va_W) (f : Nat → Int32) (g : Nat → Int64) (r : Nat → Nat → Int32) (q : Nat → Nat → Int64) (H : Heap) (locs : List Loc) (ls : Array Slot), LI D cy s xo mo ou a M G W' f g r q H locs → RlJ cy xo G W' f r → lv_has ls 8 [(0, .ref b), (1, .ref xo), (2, .ref mo), (3, .ref ou), (4, .int x4)] → W p l e room_1 s m #[Value.ref b] below meth c H locs (C + 7) (S + 588) Q (F0 m 2327 ls [])) : W p l e room_1 s m #[Value.ref b] below meth c H locs C S Q (F0 m 882 ls []) := by
  obtain ⟨⟨hx, hb, hml, hown, hts⟩, ⟨hXs, hbl⟩, ⟨hK, hV, hZ, hXT⟩, hst, hDM, hAM⟩ := id X
  have I0 := I
  have hbA : ¬ AL s b := Nat.not_le.mpr hbl
  have hRc : room_1.cells = 601024 := rfl
  have hRs : room_1.slots = 7293034 := rfl
  have hn1 : vp_in (x4 + 1) L := l_in (c := 1) h4 rfl (by decide)
  have hn2 : vp_in (x4 + 2) L := l_in (c := 2) h4 rfl (by decide)
  have hn3 : vp_in (x4 + 3) L := l_in (c := 3) h4 rfl (by decide)
  have hn4 : vp_in (x4 + 4) L := l_in (c := 4) h4 rfl (by decide)
  have hn5 : vp_in (x4 + 5) L := l_in (c := 5) h4 rfl (by decide)
  have hn6 : vp_in (x4 + 6) L := l_in (c := 6) h4 rfl (by decide)
  have hn7 : vp_in (x4 + 7) L := l_in (c := 7) h4 rfl (by decide)
  refine lv_aload_n hx hb dL_law_882 rfl (lv_at hl 1 rfl) ?_
  refine lv_aload_n hx hb dL_law_883 rfl (lv_at hl 0 rfl) ?_
  refine lv_iload hx hb dL_law_884 (lv_at hl 4 rfl) ?_
  refine lv_iconst (v := 1) hx hb dL_law_886 (by decide) ?_
  refine lv_iadd hx hb dL_law_887 ?_
  refine va_sld hx hb hXs hbl hbA I.2.2.2.2.2.2.2.2.1 hn1 dL_law_888 ?_
  refine lv_aload_n hx hb dL_law_889 rfl (lv_at hl 0 rfl) ?_
  refine lv_iload hx hb dL_law_890 (lv_at hl 4 rfl) ?_
  refine lv_iconst (v := 2) hx hb dL_law_892 (by decide) ?_
  refine lv_iadd hx hb dL_law_893 ?_
  refine va_sld hx hb hXs hbl hbA I.2.2.2.2.2.2.2.2.1 hn2 dL_law_894 ?_
  obtain ⟨bs, js, sh, wk, ll, jc, lc, lb, hM⟩ := I.2.2.2.2.2.2.2.1
  obtain ⟨hjc, fa, J, hfa, hJ⟩ := hR.at I.2.2.1 hM
  subst hjc
  refine lk3_i I (va_runV (g := F0 m 895 ls ([.int (xs (x4 + 2).toNatClampNeg), .int (xs (x4 + 1).toNatClampNeg), .ref xo])) (As := [.int (xs (x4 + 1).toNatClampNeg), .int (xs (x4 + 2).toNatClampNeg)]) (rest := []) ⟨hx, hb, hml, hown, hts⟩ (c_X9_sure_j l D cy (AC s mo a) G W' xo ((xs (x4 + 1).toNatClampNeg)) ((xs (x4 + 2).toNatClampNeg)) I.2.2.1 I.2.2.2.1 I.2.2.2.2.1 hM hfa hJ.sm hJ.js hJ.rgc hJ.exc) (cwV 2 hts gL_law_X9_sure rfl rfl rfl (by decide +kernel) ⟨Nat.le_of_ble_eq_true rfl, Nat.le_of_ble_eq_true rfl⟩) (l_preV I hK hV) rfl rfl hl.1 rfl (lv_room (Nat.le_of_ble_eq_true rfl)) dL_law_895 ⟨by omega, by omega⟩) rfl (fun r895 u H locs q895 hX I => ?_)
  obtain ⟨G1, W1⟩ := u
  have I : LI D cy s xo mo ou a M G1 W1 f g r q H locs := I
  have hX : cX none (chs [1, 5, 20, 21, 22, 23]) G W' G1 W1 := hX
  have qj := q895
  refine lv_aload_n hx hb dL_law_898 rfl (lv_at hl 2 rfl) ?_
  refine lv_aload_n hx hb dL_law_899 rfl (lv_at hl 0 rfl) ?_
  refine lv_iload hx hb dL_law_900 (lv_at hl 4 rfl) ?_
  refine lv_iconst (v := 1) hx hb dL_law_902 (by decide) ?_
  refine lv_iadd hx hb dL_law_903 ?_
  refine va_sld hx hb hXs hbl hbA I.2.2.2.2.2.2.2.2.1 hn1 dL_law_904 ?_
  refine lv_aload_n hx hb dL_law_905 rfl (lv_at hl 0 rfl) ?_
  refine lv_iload hx hb dL_law_906 (lv_at hl 4 rfl) ?_
  refine lv_iconst (v := 2) hx hb dL_law_908 (by decide) ?_
  refine lv_iadd hx hb dL_law_909 ?_
  refine va_sld hx hb hXs hbl hbA I.2.2.2.2.2.2.2.2.1 hn2 dL_law_910 ?_
  have hI := I.2.2.2.2.2.2.1
  refine lm_i (As := [.int (xs (x4 + 1).toNatClampNeg), .int (xs (x4 + 2).toNatClampNeg)]) (rest := [.int r895]) I ⟨hx, hb, hml, hown, hts⟩ (c_X10_sure_y l D cy mo a f g r q ((xs (x4 + 1).toNatClampNeg)) ((xs (x4 + 2).toNatClampNeg)) hDM hI hJ.r59) (cwV 2 hts gL_law_X10_sure rfl rfl rfl (by decide +kernel) ⟨Nat.le_of_ble_eq_true rfl, Nat.le_of_ble_eq_true rfl⟩) hK hAM rfl hl.1 rfl (Nat.le_of_ble_eq_true rfl) dL_law_911 ⟨by omega, by omega⟩ (fun _ _ h9 => by obtain ⟨_, _, _, _, _, _, rfl, h9⟩ := h9; exact hI) (fun r911 u H locs q911 I => ?_)
  have ef : u.1 1 = f 1 := by obtain ⟨_, _, _, _, _, _, rfl, -⟩ := q911; rfl
  have e2_ : u.2.2.1 2 = r 2 := by obtain ⟨_, _, _, _, _, _, rfl, -⟩ := q911; rfl
  have e3_ : u.2.2.1 3 = r 3 := by obtain ⟨_, _, _, _, _, _, rfl, -⟩ := q911; rfl
  have e4_ : u.2.2.1 4 = r 4 := by obtain ⟨_, _, _, _, _, _, rfl, -⟩ := q911; rfl
  have e5_ : u.2.2.1 5 = r 5 := by obtain ⟨_, _, _, _, _, _, rfl, -⟩ := q911; rfl
  have e6_ : u.2.2.1 6 = r 6 := by obtain ⟨_, _, _, _, _, _, rfl, -⟩ := q911; rfl
  have e7_ : u.2.2.1 7 = r 7 := by obtain ⟨_, _, _, _, _, _, rfl, -⟩ := q911; rfl
  have e8_ : u.2.2.1 8 = r 8 := by obtain ⟨_, _, _, _, _, _, rfl, -⟩ := q911; rfl
  obtain ⟨f1, g1, r1, q1⟩ := u
  have ef : f1 1 = f 1 := ef
  have e2_ : r1 2 = r 2 := e2_
  have e3_ : r1 3 = r 3 := e3_
  have e4_ : r1 4 = r 4 := e4_
  have e5_ : r1 5 = r 5 := e5_
  have e6_ : r1 6 = r 6 := e6_
  have e7_ : r1 7 = r 7 := e7_
  have e8_ : r1 8 = r 8 := e8_
  have I : LI D cy s xo mo ou a M G1 W1 f1 g1 r1 q1 H locs := I
  have e9 : r895 = r911 := su_eq9 hJ I0.2.2.2.2.2.2.1 rfl qj (by obtain ⟨_, _, _, _, _, _, -, h9⟩ := q911; exact h9)
  refine lv_icmp_eq (tgt := 2327) hx hb dL_law_914 (by decide) (fun c9 => ?_) (fun c9 => absurd e9 c9)
  have hR1 : RlJ cy xo G1 W1 f1 r1 := hR.keep I0.2.2.1 I0.2.2.2.1 I0.2.2.2.2.1 hX rfl rfl rfl rfl ef e2_ e3_ e4_ e5_ e6_ e7_ e8_
  refine W.widen (k := C + 7) (n := S + 588) (by omega) (by omega) ?_
  exact kk _ _ _ _ _ _ _ _ _ I hR1 (lv_sub hl [0, 1, 2, 3, 4] rfl)
set_option maxHeartbeats 4000000 in
set_option maxRecDepth 100000 in
theorem lcase_13 {p : Program} {l : Launch} {e : Env} {s : State} {m : MethodId} {below : List Frame} {meth : Method} {c : Code} {b L : Nat} {xs : Nat → Int32} {D : va_G} {cy : Nat → ClassId} {xo mo ou : Nat} {a : Nat → Nat} {M : Option Nat} {G : cG} {W' : va_W} {f : Nat → Int32} {g : Nat → Int64} {r : Nat → Nat → Int32} {q : Nat → Nat → Int64} {H : Heap} {locs : List Loc} {ls : Array Slot} {Q : State → Prop} {C S : Nat} (X : LX p l s m c b L xs D cy mo a) (I : LI D cy s xo mo ou a M G W' f g r q H locs) (hR : RlJ cy xo G W' f r) {x4 : Int32} (h4 : 0 ≤ x4.toInt ∧ x4.toInt + 8 ≤ (L : Int) ∧ L ≤ 4096) (hC : C + 7 ≤ 601024) (hSl : S + 53273 ≤ 7293034) (hl : lv_has ls 8 [(0, .ref b), (1, .ref xo), (2, .ref mo), (3, .ref ou), (4, .int x4)]) (kk : ∀ (G : cG) (W' : va_W) (f : Nat → Int32) (g : Nat → Int64) (r : Nat → Nat → Int32) (q : Nat → Nat → Int64) (H : Heap) (locs : List Loc) (ls : Array Slot), LI D cy s xo mo ou a M G W' f g r q H locs → RlJ cy xo G W' f r → lv_has ls 8 [(0, .ref b), (1, .ref xo), (2, .ref mo), (3, .ref ou), (4, .int x4)] → W p l e room_1 s m #[Value.ref b] below meth c H locs (C + 7) (S + 588) Q (F0 m 2327 ls [])) : W p l e room_1 s m #[Value.ref b] below meth c H locs C S Q (F0 m 919 ls []) := by
  obtain ⟨⟨hx, hb, hml, hown, hts⟩, ⟨hXs, hbl⟩, ⟨hK, hV, hZ, hXT⟩, hst, hDM, hAM⟩ := id X
  have I0 := I
  have hbA : ¬ AL s b := Nat.not_le.mpr hbl
  have hRc : room_1.cells = 601024 := rfl
  have hRs : room_1.slots = 7293034 := rfl
  have hn1 : vp_in (x4 + 1) L := l_in (c := 1) h4 rfl (by decide)
  have hn2 : vp_in (x4 + 2) L := l_in (c := 2) h4 rfl (by decide)
  have hn3 : vp_in (x4 + 3) L := l_in (c := 3) h4 rfl (by decide)
  have hn4 : vp_in (x4 + 4) L := l_in (c := 4) h4 rfl (by decide)
  have hn5 : vp_in (x4 + 5) L := l_in (c := 5) h4 rfl (by decide)
  have hn6 : vp_in (x4 + 6) L := l_in (c := 6) h4 rfl (by decide)
  have hn7 : vp_in (x4 + 7) L := l_in (c := 7) h4 rfl (by decide)
  refine lv_aload_n hx hb dL_law_919 rfl (lv_at hl 1 rfl) ?_
  refine lv_aload_n hx hb dL_law_920 rfl (lv_at hl 0 rfl) ?_
  refine lv_iload hx hb dL_law_921 (lv_at hl 4 rfl) ?_
  refine lv_iconst (v := 1) hx hb dL_law_923 (by decide) ?_
  refine lv_iadd hx hb dL_law_924 ?_
  refine va_sld hx hb hXs hbl hbA I.2.2.2.2.2.2.2.2.1 hn1 dL_law_925 ?_
  refine lk3_ri I (va_runV (g := F0 m 926 ls ([.int (xs (x4 + 1).toNatClampNeg), .ref xo])) (As := [.int (xs (x4 + 1).toNatClampNeg)]) (rest := []) ⟨hx, hb, hml, hown, hts⟩ (c_X9_clash l D cy (AC s mo a) G W' xo ((xs (x4 + 1).toNatClampNeg)) I.2.2.1 I.2.2.2.1 I.2.2.2.2.1) (cwV 1 hts gL_law_X9_clash rfl rfl rfl (by decide +kernel) ⟨Nat.le_of_ble_eq_true rfl, Nat.le_of_ble_eq_true rfl⟩) (l_preV I hK hV) rfl rfl hl.1 rfl (lv_room (Nat.le_of_ble_eq_true rfl)) dL_law_926 ⟨by omega, by omega⟩) (fun r926 u H locs q926 hX I => ?_)
  obtain ⟨G1, W1⟩ := u
  have I : LI D cy s xo mo ou a M G1 W1 f g r q H locs := I
  have hX : cX none (chs []) G W' G1 W1 := hX
  refine lv_pop hx hb dL_law_929 rfl ?_
  refine lv_aload_n hx hb dL_law_930 rfl (lv_at hl 2 rfl) ?_
  refine lv_aload_n hx hb dL_law_931 rfl (lv_at hl 0 rfl) ?_
  refine lv_iload hx hb dL_law_932 (lv_at hl 4 rfl) ?_
  refine lv_iconst (v := 1) hx hb dL_law_934 (by decide) ?_
  refine lv_iadd hx hb dL_law_935 ?_
  refine va_sld hx hb hXs hbl hbA I.2.2.2.2.2.2.2.2.1 hn1 dL_law_936 ?_
  have hI := I.2.2.2.2.2.2.1
  refine lm_i (As := [.int (xs (x4 + 1).toNatClampNeg)]) (rest := []) I ⟨hx, hb, hml, hown, hts⟩ (c_X10_clash l D cy mo a f g r q ((xs (x4 + 1).toNatClampNeg)) hDM hI) (cwV 1 hts gL_law_X10_clash rfl rfl rfl (by decide +kernel) ⟨Nat.le_of_ble_eq_true rfl, Nat.le_of_ble_eq_true rfl⟩) hK hAM rfl hl.1 rfl (Nat.le_of_ble_eq_true rfl) dL_law_937 ⟨by omega, by omega⟩ (fun _ _ h9 => by obtain ⟨_, rfl, h9⟩ := h9; exact hI) (fun r937 u H locs q937 I => ?_)
  have ef : u.1 1 = f 1 := by obtain ⟨_, rfl, -⟩ := q937; rfl
  have e2_ : u.2.2.1 2 = r 2 := by obtain ⟨_, rfl, -⟩ := q937; rfl
  have e3_ : u.2.2.1 3 = r 3 := by obtain ⟨_, rfl, -⟩ := q937; rfl
  have e4_ : u.2.2.1 4 = r 4 := by obtain ⟨_, rfl, -⟩ := q937; rfl
  have e5_ : u.2.2.1 5 = r 5 := by obtain ⟨_, rfl, -⟩ := q937; rfl
  have e6_ : u.2.2.1 6 = r 6 := by obtain ⟨_, rfl, -⟩ := q937; rfl
  have e7_ : u.2.2.1 7 = r 7 := by obtain ⟨_, rfl, -⟩ := q937; rfl
  have e8_ : u.2.2.1 8 = r 8 := by obtain ⟨_, rfl, -⟩ := q937; rfl
  obtain ⟨f1, g1, r1, q1⟩ := u
  have ef : f1 1 = f 1 := ef
  have e2_ : r1 2 = r 2 := e2_
  have e3_ : r1 3 = r 3 := e3_
  have e4_ : r1 4 = r 4 := e4_
  have e5_ : r1 5 = r 5 := e5_
  have e6_ : r1 6 = r 6 := e6_
  have e7_ : r1 7 = r 7 := e7_
  have e8_ : r1 8 = r 8 := e8_
  have I : LI D cy s xo mo ou a M G1 W1 f1 g1 r1 q1 H locs := I
  refine lv_pop hx hb dL_law_940 rfl ?_
  refine lv_goto (tgt := 2327) hx hb dL_law_941 (by decide) ?_
  have hR1 : RlJ cy xo G1 W1 f1 r1 := hR.keep I0.2.2.1 I0.2.2.2.1 I0.2.2.2.2.1 hX rfl rfl rfl rfl ef e2_ e3_ e4_ e5_ e6_ e7_ e8_
  refine W.widen (k := C + 7) (n := S + 588) (by omega) (by omega) ?_
  exact kk _ _ _ _ _ _ _ _ _ I hR1 (lv_sub hl [0, 1, 2, 3, 4] rfl)
set_option maxHeartbeats 4000000 in
set_option maxRecDepth 100000 in
theorem lcase_14 {p : Program} {l : Launch} {e : Env} {s : State} {m : MethodId} {below : List Frame} {meth : Method} {c : Code} {b L : Nat} {xs : Nat → Int32} {D : va_G} {cy : Nat → ClassId} {xo mo ou : Nat} {a : Nat → Nat} {M : Option Nat} {G : cG} {W' : va_W} {f : Nat → Int32} {g : Nat → Int64} {r : Nat → Nat → Int32} {q : Nat → Nat → Int64} {H : Heap} {locs : List Loc} {ls : Array Slot} {Q : State → Prop} {C S : Nat} (X : LX p l s m c b L xs D cy mo a) (I : LI D cy s xo mo ou a M G W' f g r q H locs) (hR : RlJ cy xo G W' f r) {x4 : Int32} (h4 : 0 ≤ x4.toInt ∧ x4.toInt + 8 ≤ (L : Int) ∧ L ≤ 4096) (hC : C + 7 ≤ 601024) (hSl : S + 53273 ≤ 7293034) (hl : lv_has ls 8 [(0, .ref b), (1, .ref xo), (2, .ref mo), (3, .ref ou), (4, .int x4)]) (kk : ∀ (G : cG) (W' : va_W) (f : Nat → Int32) (g : Nat → Int64) (r : Nat → Nat → Int32) (q : Nat → Nat → Int64) (H : Heap) (locs : List Loc) (ls : Array Slot), LI D cy s xo mo ou a M G W' f g r q H locs → RlJ cy xo G W' f r → lv_has ls 8 [(0, .ref b), (1, .ref xo), (2, .ref mo), (3, .ref ou), (4, .int x4)] → W p l e room_1 s m #[Value.ref b] below meth c H locs (C + 7) (S + 588) Q (F0 m 2327 ls [])) : W p l e room_1 s m #[Value.ref b] below meth c H locs C S Q (F0 m 944 ls []) := by
  obtain ⟨⟨hx, hb, hml, hown, hts⟩, ⟨hXs, hbl⟩, ⟨hK, hV, hZ, hXT⟩, hst, hDM, hAM⟩ := id X
  have I0 := I
  have hbA : ¬ AL s b := Nat.not_le.mpr hbl
  have hRc : room_1.cells = 601024 := rfl
  have hRs : room_1.slots = 7293034 := rfl
  have hn1 : vp_in (x4 + 1) L := l_in (c := 1) h4 rfl (by decide)
  have hn2 : vp_in (x4 + 2) L := l_in (c := 2) h4 rfl (by decide)
  have hn3 : vp_in (x4 + 3) L := l_in (c := 3) h4 rfl (by decide)
  have hn4 : vp_in (x4 + 4) L := l_in (c := 4) h4 rfl (by decide)
  have hn5 : vp_in (x4 + 5) L := l_in (c := 5) h4 rfl (by decide)
  have hn6 : vp_in (x4 + 6) L := l_in (c := 6) h4 rfl (by decide)
  have hn7 : vp_in (x4 + 7) L := l_in (c := 7) h4 rfl (by decide)
  refine lv_aload_n hx hb dL_law_944 rfl (lv_at hl 1 rfl) ?_
  refine lv_aload_n hx hb dL_law_945 rfl (lv_at hl 0 rfl) ?_
  refine lv_iload hx hb dL_law_946 (lv_at hl 4 rfl) ?_
  refine lv_iconst (v := 1) hx hb dL_law_948 (by decide) ?_
  refine lv_iadd hx hb dL_law_949 ?_
  refine va_sld hx hb hXs hbl hbA I.2.2.2.2.2.2.2.2.1 hn1 dL_law_950 ?_
  refine lv_aload_n hx hb dL_law_951 rfl (lv_at hl 3 rfl) ?_
  refine lk3_i I (vx_runSW (g := F0 m 952 ls ([.ref ou, .int (xs (x4 + 1).toNatClampNeg), .ref xo])) (As := [.ref xo, .int (xs (x4 + 1).toNatClampNeg), .ref ou]) (rest := []) ⟨hx, hb, hml, hown, hts⟩ (c_L_best l hst D cy (AC s mo a) G W' xo ((xs (x4 + 1).toNatClampNeg)) ou I.2.2.1 I.2.2.2.1 I.2.2.2.2.1 I.2.2.2.2.2.1) (vx_cwSW 3 hts gL_law_L_best rfl rfl rfl (by decide +kernel) ⟨Nat.le_of_ble_eq_true rfl, Nat.le_of_ble_eq_true rfl⟩) (l_preS I hK hV hZ hXT) rfl rfl hl.1 rfl (lv_room (Nat.le_of_ble_eq_true rfl)) dL_law_952 ⟨by omega, by omega⟩) rfl (fun r952 u H locs q952 hX I => ?_)
  obtain ⟨G1, W1⟩ := u
  have I : LI D cy s xo mo ou a M G1 W1 f g r q H locs := I
  have hX : cX none (chs [1, 5, 20, 21, 22, 23]) G W' G1 W1 := hX
  refine lv_istore (lv' := [(5, .int r952), (0, .ref b), (1, .ref xo), (2, .ref mo), (3, .ref ou), (4, .int x4)]) hx hb dL_law_955 hl (by decide) rfl (fun ls hl => ?_)
  refine lv_aload_n hx hb dL_law_957 rfl (lv_at hl 3 rfl) ?_
  refine lv_aload_n hx hb dL_law_958 rfl (lv_at hl 1 rfl) ?_
  refine lv_iload hx hb dL_law_959 (lv_at hl 5 rfl) ?_
  refine lv_iconst (v := 1) hx hb dL_law_961 (by decide) ?_
  refine lv_iadd hx hb dL_law_962 ?_
  refine va_sld hx hb hXs hbl hbA I.2.2.2.2.2.2.2.2.1 hn1 dL_law_963 ?_
  have hI := I.2.2.2.2.2.2.1
  refine lm_i (As := [.int (xs (x4 + 1).toNatClampNeg)]) (rest := []) I ⟨hx, hb, hml, hown, hts⟩ (c_X10_best l D cy mo a f g r q ((xs (x4 + 1).toNatClampNeg)) hDM hI) (cwV 1 hts gL_law_X10_best rfl rfl rfl (by decide +kernel) ⟨Nat.le_of_ble_eq_true rfl, Nat.le_of_ble_eq_true rfl⟩) hK hAM rfl hl.1 rfl (Nat.le_of_ble_eq_true rfl) dL_law_964 ⟨by omega, by omega⟩ (fun _ _ h9 => by obtain ⟨_, _, _, _, _, _, _, _, _, rfl, h9⟩ := h9; exact hI) (fun r964 u H locs q964 I => ?_)
  have ef : u.1 1 = f 1 := by obtain ⟨_, _, _, _, _, _, _, _, _, rfl, -⟩ := q964; rfl
  have e2_ : u.2.2.1 2 = r 2 := by obtain ⟨_, _, _, _, _, _, _, _, _, rfl, -⟩ := q964; rfl
  have e3_ : u.2.2.1 3 = r 3 := by obtain ⟨_, _, _, _, _, _, _, _, _, rfl, -⟩ := q964; rfl
  have e4_ : u.2.2.1 4 = r 4 := by obtain ⟨_, _, _, _, _, _, _, _, _, rfl, -⟩ := q964; rfl
  have e5_ : u.2.2.1 5 = r 5 := by obtain ⟨_, _, _, _, _, _, _, _, _, rfl, -⟩ := q964; rfl
  have e6_ : u.2.2.1 6 = r 6 := by obtain ⟨_, _, _, _, _, _, _, _, _, rfl, -⟩ := q964; rfl
  have e7_ : u.2.2.1 7 = r 7 := by obtain ⟨_, _, _, _, _, _, _, _, _, rfl, -⟩ := q964; rfl
  have e8_ : u.2.2.1 8 = r 8 := by obtain ⟨_, _, _, _, _, _, _, _, _, rfl, -⟩ := q964; rfl
  obtain ⟨f1, g1, r1, q1⟩ := u
  have ef : f1 1 = f 1 := ef
  have e2_ : r1 2 = r 2 := e2_
  have e3_ : r1 3 = r 3 := e3_
  have e4_ : r1 4 = r 4 := e4_
  have e5_ : r1 5 = r 5 := e5_
  have e6_ : r1 6 = r 6 := e6_
  have e7_ : r1 7 = r 7 := e7_
  have e8_ : r1 8 = r 8 := e8_
  have I : LI D cy s xo mo ou a M G1 W1 f1 g1 r1 q1 H locs := I
  refine lv_istore (lv' := [(6, .int r964), (5, .int r952), (0, .ref b), (1, .ref xo), (2, .ref mo), (3, .ref ou), (4, .int x4)]) hx hb dL_law_967 hl (by decide) rfl (fun ls hl => ?_)
  refine lv_goto (tgt := 2327) hx hb dL_law_969 (by decide) ?_
  have hR1 : RlJ cy xo G1 W1 f1 r1 := hR.keep I0.2.2.1 I0.2.2.2.1 I0.2.2.2.2.1 hX rfl rfl rfl rfl ef e2_ e3_ e4_ e5_ e6_ e7_ e8_
  refine W.widen (k := C + 7) (n := S + 588) (by omega) (by omega) ?_
  exact kk _ _ _ _ _ _ _ _ _ I hR1 (lv_sub hl [2, 3, 4, 5, 6] rfl)
set_option maxHeartbeats 4000000 in
set_option maxRecDepth 100000 in
theorem lcase_15 {p : Program} {l : Launch} {e : Env} {s : State} {m : MethodId} {below : List Frame} {meth : Method} {c : Code} {b L : Nat} {xs : Nat → Int32} {D : va_G} {cy : Nat → ClassId} {xo mo ou : Nat} {a : Nat → Nat} {M : Option Nat} {G : cG} {W' : va_W} {f : Nat → Int32} {g : Nat → Int64} {r : Nat → Nat → Int32} {q : Nat → Nat → Int64} {H : Heap} {locs : List Loc} {ls : Array Slot} {Q : State → Prop} {C S : Nat} (X : LX p l s m c b L xs D cy mo a) (I : LI D cy s xo mo ou a M G W' f g r q H locs) (hR : RlJ cy xo G W' f r) {x4 : Int32} (h4 : 0 ≤ x4.toInt ∧ x4.toInt + 8 ≤ (L : Int) ∧ L ≤ 4096) (hC : C + 7 ≤ 601024) (hSl : S + 53273 ≤ 7293034) (hl : lv_has ls 8 [(0, .ref b), (1, .ref xo), (2, .ref mo), (3, .ref ou), (4, .int x4)]) (kk : ∀ (G : cG) (W' : va_W) (f : Nat → Int32) (g : Nat → Int64) (r : Nat → Nat → Int32) (q : Nat → Nat → Int64) (H : Heap) (locs : List Loc) (ls : Array Slot), LI D cy s xo mo ou a M G W' f g r q H locs → RlJ cy xo G W' f r → lv_has ls 8 [(0, .ref b), (1, .ref xo), (2, .ref mo), (3, .ref ou), (4, .int x4)] → W p l e room_1 s m #[Value.ref b] below meth c H locs (C + 7) (S + 588) Q (F0 m 2327 ls [])) : W p l e room_1 s m #[Value.ref b] below meth c H locs C S Q (F0 m 972 ls []) := by
  obtain ⟨⟨hx, hb, hml, hown, hts⟩, ⟨hXs, hbl⟩, ⟨hK, hV, hZ, hXT⟩, hst, hDM, hAM⟩ := id X
  have I0 := I
  have hbA : ¬ AL s b := Nat.not_le.mpr hbl
  have hRc : room_1.cells = 601024 := rfl
  have hRs : room_1.slots = 7293034 := rfl
  have hn1 : vp_in (x4 + 1) L := l_in (c := 1) h4 rfl (by decide)
  have hn2 : vp_in (x4 + 2) L := l_in (c := 2) h4 rfl (by decide)
  have hn3 : vp_in (x4 + 3) L := l_in (c := 3) h4 rfl (by decide)
  have hn4 : vp_in (x4 + 4) L := l_in (c := 4) h4 rfl (by decide)
  have hn5 : vp_in (x4 + 5) L := l_in (c := 5) h4 rfl (by decide)
  have hn6 : vp_in (x4 + 6) L := l_in (c := 6) h4 rfl (by decide)
  have hn7 : vp_in (x4 + 7) L := l_in (c := 7) h4 rfl (by decide)
  refine lv_aload_n hx hb dL_law_972 rfl (lv_at hl 1 rfl) ?_
  refine lv_aload_n hx hb dL_law_973 rfl (lv_at hl 0 rfl) ?_
  refine lv_iload hx hb dL_law_974 (lv_at hl 4 rfl) ?_
  refine lv_iconst (v := 1) hx hb dL_law_976 (by decide) ?_
  refine lv_iadd hx hb dL_law_977 ?_
  refine va_sld hx hb hXs hbl hbA I.2.2.2.2.2.2.2.2.1 hn1 dL_law_978 ?_
  refine lv_aload_n hx hb dL_law_979 rfl (lv_at hl 3 rfl) ?_
  refine lk3_i I (vx_runSW (g := F0 m 980 ls ([.ref ou, .int (xs (x4 + 1).toNatClampNeg), .ref xo])) (As := [.ref xo, .int (xs (x4 + 1).toNatClampNeg), .ref ou]) (rest := []) ⟨hx, hb, hml, hown, hts⟩ (c_L_bestOne l hst D cy (AC s mo a) G W' xo ((xs (x4 + 1).toNatClampNeg)) ou I.2.2.1 I.2.2.2.1 I.2.2.2.2.1 I.2.2.2.2.2.1) (vx_cwSW 3 hts gL_law_L_bestOne rfl rfl rfl (by decide +kernel) ⟨Nat.le_of_ble_eq_true rfl, Nat.le_of_ble_eq_true rfl⟩) (l_preS I hK hV hZ hXT) rfl rfl hl.1 rfl (lv_room (Nat.le_of_ble_eq_true rfl)) dL_law_980 ⟨by omega, by omega⟩) rfl (fun r980 u H locs q980 hX I => ?_)
  obtain ⟨G1, W1⟩ := u
  have I : LI D cy s xo mo ou a M G1 W1 f g r q H locs := I
  have hX : cX none (chs [1, 5, 20, 21, 22, 23]) G W' G1 W1 := hX
  refine lv_istore (lv' := [(5, .int r980), (0, .ref b), (1, .ref xo), (2, .ref mo), (3, .ref ou), (4, .int x4)]) hx hb dL_law_983 hl (by decide) rfl (fun ls hl => ?_)
  refine lv_aload_n hx hb dL_law_985 rfl (lv_at hl 3 rfl) ?_
  refine lv_aload_n hx hb dL_law_986 rfl (lv_at hl 1 rfl) ?_
  refine lv_iload hx hb dL_law_987 (lv_at hl 5 rfl) ?_
  refine lv_iconst (v := 1) hx hb dL_law_989 (by decide) ?_
  refine lv_iadd hx hb dL_law_990 ?_
  refine va_sld hx hb hXs hbl hbA I.2.2.2.2.2.2.2.2.1 hn1 dL_law_991 ?_
  have hI := I.2.2.2.2.2.2.1
  refine lm_l (As := [.int (xs (x4 + 1).toNatClampNeg)]) (rest := []) I ⟨hx, hb, hml, hown, hts⟩ (c_X10_bestOne l D cy mo a f g r q ((xs (x4 + 1).toNatClampNeg)) hDM hI) (cwV 1 hts gL_law_X10_bestOne rfl rfl rfl (by decide +kernel) ⟨Nat.le_of_ble_eq_true rfl, Nat.le_of_ble_eq_true rfl⟩) hK hAM rfl hl.1 rfl (Nat.le_of_ble_eq_true rfl) dL_law_992 ⟨by omega, by omega⟩ (fun _ _ h9 => by obtain ⟨_, _, _, _, _, _, _, _, _, rfl, h9⟩ := h9; exact hI) (fun r992 u H locs q992 I => ?_)
  have ef : u.1 1 = f 1 := by obtain ⟨_, _, _, _, _, _, _, _, _, rfl, -⟩ := q992; rfl
  have e2_ : u.2.2.1 2 = r 2 := by obtain ⟨_, _, _, _, _, _, _, _, _, rfl, -⟩ := q992; rfl
  have e3_ : u.2.2.1 3 = r 3 := by obtain ⟨_, _, _, _, _, _, _, _, _, rfl, -⟩ := q992; rfl
  have e4_ : u.2.2.1 4 = r 4 := by obtain ⟨_, _, _, _, _, _, _, _, _, rfl, -⟩ := q992; rfl
  have e5_ : u.2.2.1 5 = r 5 := by obtain ⟨_, _, _, _, _, _, _, _, _, rfl, -⟩ := q992; rfl
  have e6_ : u.2.2.1 6 = r 6 := by obtain ⟨_, _, _, _, _, _, _, _, _, rfl, -⟩ := q992; rfl
  have e7_ : u.2.2.1 7 = r 7 := by obtain ⟨_, _, _, _, _, _, _, _, _, rfl, -⟩ := q992; rfl
  have e8_ : u.2.2.1 8 = r 8 := by obtain ⟨_, _, _, _, _, _, _, _, _, rfl, -⟩ := q992; rfl
  obtain ⟨f1, g1, r1, q1⟩ := u
  have ef : f1 1 = f 1 := ef
  have e2_ : r1 2 = r 2 := e2_
  have e3_ : r1 3 = r 3 := e3_
  have e4_ : r1 4 = r 4 := e4_
  have e5_ : r1 5 = r 5 := e5_
  have e6_ : r1 6 = r 6 := e6_
  have e7_ : r1 7 = r 7 := e7_
  have e8_ : r1 8 = r 8 := e8_
  have I : LI D cy s xo mo ou a M G1 W1 f1 g1 r1 q1 H locs := I
  refine lv_lstore (lv' := [(6, .long r992), (5, .int r980), (0, .ref b), (1, .ref xo), (2, .ref mo), (3, .ref ou), (4, .int x4)]) hx hb dL_law_995 hl (by decide) rfl (fun ls hl => ?_)
  refine lv_goto (tgt := 2327) hx hb dL_law_997 (by decide) ?_
  have hR1 : RlJ cy xo G1 W1 f1 r1 := hR.keep I0.2.2.1 I0.2.2.2.1 I0.2.2.2.2.1 hX rfl rfl rfl rfl ef e2_ e3_ e4_ e5_ e6_ e7_ e8_
  refine W.widen (k := C + 7) (n := S + 588) (by omega) (by omega) ?_
  exact kk _ _ _ _ _ _ _ _ _ I hR1 (lv_sub hl [2, 3, 4, 5, 6] rfl)
set_option maxHeartbeats 4000000 in
set_option maxRecDepth 100000 in
theorem lcase_16 {p : Program} {l : Launch} {e : Env} {s : State} {m : MethodId} {below : List Frame} {meth : Method} {c : Code} {b L : Nat} {xs : Nat → Int32} {D : va_G} {cy : Nat → ClassId} {xo mo ou : Nat} {a : Nat → Nat} {M : Option Nat} {G : cG} {W' : va_W} {f : Nat → Int32} {g : Nat → Int64} {r : Nat → Nat → Int32} {q : Nat → Nat → Int64} {H : Heap} {locs : List Loc} {ls : Array Slot} {Q : State → Prop} {C S : Nat} (X : LX p l s m c b L xs D cy mo a) (I : LI D cy s xo mo ou a M G W' f g r q H locs) (hR : RlJ cy xo G W' f r) {x4 : Int32} (h4 : 0 ≤ x4.toInt ∧ x4.toInt + 8 ≤ (L : Int) ∧ L ≤ 4096) (hC : C + 7 ≤ 601024) (hSl : S + 53273 ≤ 7293034) (hl : lv_has ls 8 [(0, .ref b), (1, .ref xo), (2, .ref mo), (3, .ref ou), (4, .int x4)]) (kk : ∀ (G : cG) (W' : va_W) (f : Nat → Int32) (g : Nat → Int64) (r : Nat → Nat → Int32) (q : Nat → Nat → Int64) (H : Heap) (locs : List Loc) (ls : Array Slot), LI D cy s xo mo ou a M G W' f g r q H locs → RlJ cy xo G W' f r → lv_has ls 8 [(0, .ref b), (1, .ref xo), (2, .ref mo), (3, .ref ou), (4, .int x4)] → W p l e room_1 s m #[Value.ref b] below meth c H locs (C + 7) (S + 588) Q (F0 m 2327 ls [])) : W p l e room_1 s m #[Value.ref b] below meth c H locs C S Q (F0 m 1000 ls []) := by
  obtain ⟨⟨hx, hb, hml, hown, hts⟩, ⟨hXs, hbl⟩, ⟨hK, hV, hZ, hXT⟩, hst, hDM, hAM⟩ := id X
  have I0 := I
  have hbA : ¬ AL s b := Nat.not_le.mpr hbl
  have hRc : room_1.cells = 601024 := rfl
  have hRs : room_1.slots = 7293034 := rfl
  have hn1 : vp_in (x4 + 1) L := l_in (c := 1) h4 rfl (by decide)
  have hn2 : vp_in (x4 + 2) L := l_in (c := 2) h4 rfl (by decide)
  have hn3 : vp_in (x4 + 3) L := l_in (c := 3) h4 rfl (by decide)
  have hn4 : vp_in (x4 + 4) L := l_in (c := 4) h4 rfl (by decide)
  have hn5 : vp_in (x4 + 5) L := l_in (c := 5) h4 rfl (by decide)
  have hn6 : vp_in (x4 + 6) L := l_in (c := 6) h4 rfl (by decide)
  have hn7 : vp_in (x4 + 7) L := l_in (c := 7) h4 rfl (by decide)
  refine lv_aload_n hx hb dL_law_1000 rfl (lv_at hl 1 rfl) ?_
  refine lv_aload_n hx hb dL_law_1001 rfl (lv_at hl 0 rfl) ?_
  refine lv_iload hx hb dL_law_1002 (lv_at hl 4 rfl) ?_
  refine lv_iconst (v := 1) hx hb dL_law_1004 (by decide) ?_
  refine lv_iadd hx hb dL_law_1005 ?_
  refine va_sld hx hb hXs hbl hbA I.2.2.2.2.2.2.2.2.1 hn1 dL_law_1006 ?_
  refine lv_aload_n hx hb dL_law_1007 rfl (lv_at hl 0 rfl) ?_
  refine lv_iload hx hb dL_law_1008 (lv_at hl 4 rfl) ?_
  refine lv_iconst (v := 2) hx hb dL_law_1010 (by decide) ?_
  refine lv_iadd hx hb dL_law_1011 ?_
  refine va_sld hx hb hXs hbl hbA I.2.2.2.2.2.2.2.2.1 hn2 dL_law_1012 ?_
  refine lv_aload_n hx hb dL_law_1013 rfl (lv_at hl 0 rfl) ?_
  refine lv_iload hx hb dL_law_1014 (lv_at hl 4 rfl) ?_
  refine lv_iconst (v := 3) hx hb dL_law_1016 (by decide) ?_
  refine lv_iadd hx hb dL_law_1017 ?_
  refine va_sld hx hb hXs hbl hbA I.2.2.2.2.2.2.2.2.1 hn3 dL_law_1018 ?_
  refine lv_i2l (v := ((xs (x4 + 3).toNatClampNeg)).toInt64) hx hb dL_law_1019 rfl ?_
  refine lv_bipush (v := 32) hx hb dL_law_1020 (by decide) ?_
  refine lv_lshl (v := (((xs (x4 + 3).toNatClampNeg)).toInt64) <<< ((32 : Int32).toInt64 &&& 63)) hx hb dL_law_1022 rfl ?_
  refine lv_aload_n hx hb dL_law_1023 rfl (lv_at hl 0 rfl) ?_
  refine lv_iload hx hb dL_law_1024 (lv_at hl 4 rfl) ?_
  refine lv_iconst (v := 4) hx hb dL_law_1026 (by decide) ?_
  refine lv_iadd hx hb dL_law_1027 ?_
  refine va_sld hx hb hXs hbl hbA I.2.2.2.2.2.2.2.2.1 hn4 dL_law_1028 ?_
  refine lv_i2l (v := ((xs (x4 + 4).toNatClampNeg)).toInt64) hx hb dL_law_1029 rfl ?_
  refine lv_ldc2 hx hb hown (hts (.constantLong RL 45 (4294967295)) (by decide +kernel)) dL_law_1030 ?_
  refine lv_land hx hb dL_law_1033 ?_
  refine lv_topl (fun v1033 e1033 => ?_)
  refine lv_lor hx hb dL_law_1034 ?_
  refine lv_topl (fun v1034 e1034 => ?_)
  refine lk3_i I (va_runV (g := F0 m 1035 ls ([.long v1034, .int (xs (x4 + 2).toNatClampNeg), .int (xs (x4 + 1).toNatClampNeg), .ref xo])) (As := [.int (xs (x4 + 1).toNatClampNeg), .int (xs (x4 + 2).toNatClampNeg), .long v1034]) (rest := []) ⟨hx, hb, hml, hown, hts⟩ (c_X9_switches l D cy (AC s mo a) G W' xo ((xs (x4 + 1).toNatClampNeg)) ((xs (x4 + 2).toNatClampNeg)) v1034 I.2.2.1 I.2.2.2.1 I.2.2.2.2.1) (cwV 3 hts gL_law_X9_switches rfl rfl rfl (by decide +kernel) ⟨Nat.le_of_ble_eq_true rfl, Nat.le_of_ble_eq_true rfl⟩) (l_preV I hK hV) rfl rfl hl.1 rfl (lv_room (Nat.le_of_ble_eq_true rfl)) dL_law_1035 ⟨by omega, by omega⟩) rfl (fun r1035 u H locs q1035 hX I => ?_)
  obtain ⟨G1, W1⟩ := u
  have I : LI D cy s xo mo ou a M G1 W1 f g r q H locs := I
  have hX : cX none (chs [1, 8]) G W' G1 W1 := hX
  refine lv_pop hx hb dL_law_1038 rfl ?_
  refine lv_aload_n hx hb dL_law_1039 rfl (lv_at hl 2 rfl) ?_
  refine lv_aload_n hx hb dL_law_1040 rfl (lv_at hl 0 rfl) ?_
  refine lv_iload hx hb dL_law_1041 (lv_at hl 4 rfl) ?_
  refine lv_iconst (v := 1) hx hb dL_law_1043 (by decide) ?_
  refine lv_iadd hx hb dL_law_1044 ?_
  refine va_sld hx hb hXs hbl hbA I.2.2.2.2.2.2.2.2.1 hn1 dL_law_1045 ?_
  refine lv_aload_n hx hb dL_law_1046 rfl (lv_at hl 0 rfl) ?_
  refine lv_iload hx hb dL_law_1047 (lv_at hl 4 rfl) ?_
  refine lv_iconst (v := 2) hx hb dL_law_1049 (by decide) ?_
  refine lv_iadd hx hb dL_law_1050 ?_
  refine va_sld hx hb hXs hbl hbA I.2.2.2.2.2.2.2.2.1 hn2 dL_law_1051 ?_
  refine lv_aload_n hx hb dL_law_1052 rfl (lv_at hl 0 rfl) ?_
  refine lv_iload hx hb dL_law_1053 (lv_at hl 4 rfl) ?_
  refine lv_iconst (v := 3) hx hb dL_law_1055 (by decide) ?_
  refine lv_iadd hx hb dL_law_1056 ?_
  refine va_sld hx hb hXs hbl hbA I.2.2.2.2.2.2.2.2.1 hn3 dL_law_1057 ?_
  refine lv_i2l (v := ((xs (x4 + 3).toNatClampNeg)).toInt64) hx hb dL_law_1058 rfl ?_
  refine lv_bipush (v := 32) hx hb dL_law_1059 (by decide) ?_
  refine lv_lshl (v := (((xs (x4 + 3).toNatClampNeg)).toInt64) <<< ((32 : Int32).toInt64 &&& 63)) hx hb dL_law_1061 rfl ?_
  refine lv_aload_n hx hb dL_law_1062 rfl (lv_at hl 0 rfl) ?_
  refine lv_iload hx hb dL_law_1063 (lv_at hl 4 rfl) ?_
  refine lv_iconst (v := 4) hx hb dL_law_1065 (by decide) ?_
  refine lv_iadd hx hb dL_law_1066 ?_
  refine va_sld hx hb hXs hbl hbA I.2.2.2.2.2.2.2.2.1 hn4 dL_law_1067 ?_
  refine lv_i2l (v := ((xs (x4 + 4).toNatClampNeg)).toInt64) hx hb dL_law_1068 rfl ?_
  refine lv_ldc2 hx hb hown (hts (.constantLong RL 45 (4294967295)) (by decide +kernel)) dL_law_1069 ?_
  refine lv_land hx hb dL_law_1072 ?_
  refine lv_topl (fun v1072 e1072 => ?_)
  refine lv_lor hx hb dL_law_1073 ?_
  refine lv_topl (fun v1073 e1073 => ?_)
  have hI := I.2.2.2.2.2.2.1
  refine lm_i (As := [.int (xs (x4 + 1).toNatClampNeg), .int (xs (x4 + 2).toNatClampNeg), .long v1073]) (rest := []) I ⟨hx, hb, hml, hown, hts⟩ (c_X10_switches l D cy mo a f g r q ((xs (x4 + 1).toNatClampNeg)) ((xs (x4 + 2).toNatClampNeg)) v1073 hDM) (cwV 3 hts gL_law_X10_switches rfl rfl rfl (by decide +kernel) ⟨Nat.le_of_ble_eq_true rfl, Nat.le_of_ble_eq_true rfl⟩) hK hAM rfl hl.1 rfl (Nat.le_of_ble_eq_true rfl) dL_law_1074 ⟨by omega, by omega⟩ (fun _ _ h9 => by obtain ⟨_, rfl, h9⟩ := h9; exact hI) (fun r1074 u H locs q1074 I => ?_)
  have ef : u.1 1 = f 1 := by obtain ⟨_, rfl, -⟩ := q1074; rfl
  have e2_ : u.2.2.1 2 = r 2 := by obtain ⟨_, rfl, -⟩ := q1074; rfl
  have e3_ : u.2.2.1 3 = r 3 := by obtain ⟨_, rfl, -⟩ := q1074; rfl
  have e4_ : u.2.2.1 4 = r 4 := by obtain ⟨_, rfl, -⟩ := q1074; rfl
  have e5_ : u.2.2.1 5 = r 5 := by obtain ⟨_, rfl, -⟩ := q1074; rfl
  have e6_ : u.2.2.1 6 = r 6 := by obtain ⟨_, rfl, -⟩ := q1074; rfl
  have e7_ : u.2.2.1 7 = r 7 := by obtain ⟨_, rfl, -⟩ := q1074; rfl
  have e8_ : u.2.2.1 8 = r 8 := by obtain ⟨_, rfl, -⟩ := q1074; rfl
  obtain ⟨f1, g1, r1, q1⟩ := u
  have ef : f1 1 = f 1 := ef
  have e2_ : r1 2 = r 2 := e2_
  have e3_ : r1 3 = r 3 := e3_
  have e4_ : r1 4 = r 4 := e4_
  have e5_ : r1 5 = r 5 := e5_
  have e6_ : r1 6 = r 6 := e6_
  have e7_ : r1 7 = r 7 := e7_
  have e8_ : r1 8 = r 8 := e8_
  have I : LI D cy s xo mo ou a M G1 W1 f1 g1 r1 q1 H locs := I
  refine lv_pop hx hb dL_law_1077 rfl ?_
  refine lv_goto (tgt := 2327) hx hb dL_law_1078 (by decide) ?_
  have hR1 : RlJ cy xo G1 W1 f1 r1 := hR.keep I0.2.2.1 I0.2.2.2.1 I0.2.2.2.2.1 hX rfl rfl rfl rfl ef e2_ e3_ e4_ e5_ e6_ e7_ e8_
  refine W.widen (k := C + 7) (n := S + 588) (by omega) (by omega) ?_
  exact kk _ _ _ _ _ _ _ _ _ I hR1 (lv_sub hl [0, 1, 2, 3, 4] rfl)
set_option maxHeartbeats 4000000 in
set_option maxRecDepth 100000 in
theorem lcase_17 {p : Program} {l : Launch} {e : Env} {s : State} {m : MethodId} {below : List Frame} {meth : Method} {c : Code} {b L : Nat} {xs : Nat → Int32} {D : va_G} {cy : Nat → ClassId} {xo mo ou : Nat} {a : Nat → Nat} {M : Option Nat} {G : cG} {W' : va_W} {f : Nat → Int32} {g : Nat → Int64} {r : Nat → Nat → Int32} {q : Nat → Nat → Int64} {H : Heap} {locs : List Loc} {ls : Array Slot} {Q : State → Prop} {C S : Nat} (X : LX p l s m c b L xs D cy mo a) (I : LI D cy s xo mo ou a M G W' f g r q H locs) (hR : RlJ cy xo G W' f r) {x4 : Int32} (h4 : 0 ≤ x4.toInt ∧ x4.toInt + 8 ≤ (L : Int) ∧ L ≤ 4096) (hC : C + 7 ≤ 601024) (hSl : S + 53273 ≤ 7293034) (hl : lv_has ls 8 [(0, .ref b), (1, .ref xo), (2, .ref mo), (3, .ref ou), (4, .int x4)]) (kk : ∀ (G : cG) (W' : va_W) (f : Nat → Int32) (g : Nat → Int64) (r : Nat → Nat → Int32) (q : Nat → Nat → Int64) (H : Heap) (locs : List Loc) (ls : Array Slot), LI D cy s xo mo ou a M G W' f g r q H locs → RlJ cy xo G W' f r → lv_has ls 8 [(0, .ref b), (1, .ref xo), (2, .ref mo), (3, .ref ou), (4, .int x4)] → W p l e room_1 s m #[Value.ref b] below meth c H locs (C + 7) (S + 588) Q (F0 m 2327 ls [])) : W p l e room_1 s m #[Value.ref b] below meth c H locs C S Q (F0 m 1081 ls []) := by
  obtain ⟨⟨hx, hb, hml, hown, hts⟩, ⟨hXs, hbl⟩, ⟨hK, hV, hZ, hXT⟩, hst, hDM, hAM⟩ := id X
  have I0 := I
  have hbA : ¬ AL s b := Nat.not_le.mpr hbl
  have hRc : room_1.cells = 601024 := rfl
  have hRs : room_1.slots = 7293034 := rfl
  have hn1 : vp_in (x4 + 1) L := l_in (c := 1) h4 rfl (by decide)
  have hn2 : vp_in (x4 + 2) L := l_in (c := 2) h4 rfl (by decide)
  have hn3 : vp_in (x4 + 3) L := l_in (c := 3) h4 rfl (by decide)
  have hn4 : vp_in (x4 + 4) L := l_in (c := 4) h4 rfl (by decide)
  have hn5 : vp_in (x4 + 5) L := l_in (c := 5) h4 rfl (by decide)
  have hn6 : vp_in (x4 + 6) L := l_in (c := 6) h4 rfl (by decide)
  have hn7 : vp_in (x4 + 7) L := l_in (c := 7) h4 rfl (by decide)
  refine lv_aload_n hx hb dL_law_1081 rfl (lv_at hl 1 rfl) ?_
  refine lv_aload_n hx hb dL_law_1082 rfl (lv_at hl 0 rfl) ?_
  refine lv_iload hx hb dL_law_1083 (lv_at hl 4 rfl) ?_
  refine lv_iconst (v := 1) hx hb dL_law_1085 (by decide) ?_
  refine lv_iadd hx hb dL_law_1086 ?_
  refine va_sld hx hb hXs hbl hbA I.2.2.2.2.2.2.2.2.1 hn1 dL_law_1087 ?_
  refine lv_aload_n hx hb dL_law_1088 rfl (lv_at hl 0 rfl) ?_
  refine lv_iload hx hb dL_law_1089 (lv_at hl 4 rfl) ?_
  refine lv_iconst (v := 2) hx hb dL_law_1091 (by decide) ?_
  refine lv_iadd hx hb dL_law_1092 ?_
  refine va_sld hx hb hXs hbl hbA I.2.2.2.2.2.2.2.2.1 hn2 dL_law_1093 ?_
  refine lv_aload_n hx hb dL_law_1094 rfl (lv_at hl 0 rfl) ?_
  refine lv_iload hx hb dL_law_1095 (lv_at hl 4 rfl) ?_
  refine lv_iconst (v := 3) hx hb dL_law_1097 (by decide) ?_
  refine lv_iadd hx hb dL_law_1098 ?_
  refine va_sld hx hb hXs hbl hbA I.2.2.2.2.2.2.2.2.1 hn3 dL_law_1099 ?_
  refine lv_i2l (v := ((xs (x4 + 3).toNatClampNeg)).toInt64) hx hb dL_law_1100 rfl ?_
  refine lv_bipush (v := 32) hx hb dL_law_1101 (by decide) ?_
  refine lv_lshl (v := (((xs (x4 + 3).toNatClampNeg)).toInt64) <<< ((32 : Int32).toInt64 &&& 63)) hx hb dL_law_1103 rfl ?_
  refine lv_aload_n hx hb dL_law_1104 rfl (lv_at hl 0 rfl) ?_
  refine lv_iload hx hb dL_law_1105 (lv_at hl 4 rfl) ?_
  refine lv_iconst (v := 4) hx hb dL_law_1107 (by decide) ?_
  refine lv_iadd hx hb dL_law_1108 ?_
  refine va_sld hx hb hXs hbl hbA I.2.2.2.2.2.2.2.2.1 hn4 dL_law_1109 ?_
  refine lv_i2l (v := ((xs (x4 + 4).toNatClampNeg)).toInt64) hx hb dL_law_1110 rfl ?_
  refine lv_ldc2 hx hb hown (hts (.constantLong RL 45 (4294967295)) (by decide +kernel)) dL_law_1111 ?_
  refine lv_land hx hb dL_law_1114 ?_
  refine lv_topl (fun v1114 e1114 => ?_)
  refine lv_lor hx hb dL_law_1115 ?_
  refine lv_topl (fun v1115 e1115 => ?_)
  refine lv_aload_n hx hb dL_law_1116 rfl (lv_at hl 0 rfl) ?_
  refine lv_iload hx hb dL_law_1117 (lv_at hl 4 rfl) ?_
  refine lv_iconst (v := 5) hx hb dL_law_1119 (by decide) ?_
  refine lv_iadd hx hb dL_law_1120 ?_
  refine va_sld hx hb hXs hbl hbA I.2.2.2.2.2.2.2.2.1 hn5 dL_law_1121 ?_
  refine lk3_l I (va_runV (g := F0 m 1122 ls ([.int (xs (x4 + 5).toNatClampNeg), .long v1115, .int (xs (x4 + 2).toNatClampNeg), .int (xs (x4 + 1).toNatClampNeg), .ref xo])) (As := [.int (xs (x4 + 1).toNatClampNeg), .int (xs (x4 + 2).toNatClampNeg), .long v1115, .int (xs (x4 + 5).toNatClampNeg)]) (rest := []) ⟨hx, hb, hml, hown, hts⟩ (c_X9_switched l D cy (AC s mo a) G W' xo ((xs (x4 + 1).toNatClampNeg)) ((xs (x4 + 2).toNatClampNeg)) v1115 ((xs (x4 + 5).toNatClampNeg)) I.2.2.1 I.2.2.2.1 I.2.2.2.2.1) (cwV 4 hts gL_law_X9_switched rfl rfl rfl (by decide +kernel) ⟨Nat.le_of_ble_eq_true rfl, Nat.le_of_ble_eq_true rfl⟩) (l_preV I hK hV) rfl rfl hl.1 rfl (lv_room (Nat.le_of_ble_eq_true rfl)) dL_law_1122 ⟨by omega, by omega⟩) rfl (fun r1122 u H locs q1122 hX I => ?_)
  obtain ⟨G1, W1⟩ := u
  have I : LI D cy s xo mo ou a M G1 W1 f g r q H locs := I
  have hX : cX none (chs [1, 8]) G W' G1 W1 := hX
  refine lv_pop2_2 hx hb dL_law_1125 rfl ?_
  refine lv_aload_n hx hb dL_law_1126 rfl (lv_at hl 2 rfl) ?_
  refine lv_aload_n hx hb dL_law_1127 rfl (lv_at hl 0 rfl) ?_
  refine lv_iload hx hb dL_law_1128 (lv_at hl 4 rfl) ?_
  refine lv_iconst (v := 1) hx hb dL_law_1130 (by decide) ?_
  refine lv_iadd hx hb dL_law_1131 ?_
  refine va_sld hx hb hXs hbl hbA I.2.2.2.2.2.2.2.2.1 hn1 dL_law_1132 ?_
  refine lv_aload_n hx hb dL_law_1133 rfl (lv_at hl 0 rfl) ?_
  refine lv_iload hx hb dL_law_1134 (lv_at hl 4 rfl) ?_
  refine lv_iconst (v := 2) hx hb dL_law_1136 (by decide) ?_
  refine lv_iadd hx hb dL_law_1137 ?_
  refine va_sld hx hb hXs hbl hbA I.2.2.2.2.2.2.2.2.1 hn2 dL_law_1138 ?_
  refine lv_aload_n hx hb dL_law_1139 rfl (lv_at hl 0 rfl) ?_
  refine lv_iload hx hb dL_law_1140 (lv_at hl 4 rfl) ?_
  refine lv_iconst (v := 3) hx hb dL_law_1142 (by decide) ?_
  refine lv_iadd hx hb dL_law_1143 ?_
  refine va_sld hx hb hXs hbl hbA I.2.2.2.2.2.2.2.2.1 hn3 dL_law_1144 ?_
  refine lv_i2l (v := ((xs (x4 + 3).toNatClampNeg)).toInt64) hx hb dL_law_1145 rfl ?_
  refine lv_bipush (v := 32) hx hb dL_law_1146 (by decide) ?_
  refine lv_lshl (v := (((xs (x4 + 3).toNatClampNeg)).toInt64) <<< ((32 : Int32).toInt64 &&& 63)) hx hb dL_law_1148 rfl ?_
  refine lv_aload_n hx hb dL_law_1149 rfl (lv_at hl 0 rfl) ?_
  refine lv_iload hx hb dL_law_1150 (lv_at hl 4 rfl) ?_
  refine lv_iconst (v := 4) hx hb dL_law_1152 (by decide) ?_
  refine lv_iadd hx hb dL_law_1153 ?_
  refine va_sld hx hb hXs hbl hbA I.2.2.2.2.2.2.2.2.1 hn4 dL_law_1154 ?_
  refine lv_i2l (v := ((xs (x4 + 4).toNatClampNeg)).toInt64) hx hb dL_law_1155 rfl ?_
  refine lv_ldc2 hx hb hown (hts (.constantLong RL 45 (4294967295)) (by decide +kernel)) dL_law_1156 ?_
  refine lv_land hx hb dL_law_1159 ?_
  refine lv_topl (fun v1159 e1159 => ?_)
  refine lv_lor hx hb dL_law_1160 ?_
  refine lv_topl (fun v1160 e1160 => ?_)
  refine lv_aload_n hx hb dL_law_1161 rfl (lv_at hl 0 rfl) ?_
  refine lv_iload hx hb dL_law_1162 (lv_at hl 4 rfl) ?_
  refine lv_iconst (v := 5) hx hb dL_law_1164 (by decide) ?_
  refine lv_iadd hx hb dL_law_1165 ?_
  refine va_sld hx hb hXs hbl hbA I.2.2.2.2.2.2.2.2.1 hn5 dL_law_1166 ?_
  have hI := I.2.2.2.2.2.2.1
  refine lm_l (As := [.int (xs (x4 + 1).toNatClampNeg), .int (xs (x4 + 2).toNatClampNeg), .long v1160, .int (xs (x4 + 5).toNatClampNeg)]) (rest := []) I ⟨hx, hb, hml, hown, hts⟩ (c_X10_switched l D cy mo a f g r q ((xs (x4 + 1).toNatClampNeg)) ((xs (x4 + 2).toNatClampNeg)) v1160 ((xs (x4 + 5).toNatClampNeg)) hDM) (cwV 4 hts gL_law_X10_switched rfl rfl rfl (by decide +kernel) ⟨Nat.le_of_ble_eq_true rfl, Nat.le_of_ble_eq_true rfl⟩) hK hAM rfl hl.1 rfl (Nat.le_of_ble_eq_true rfl) dL_law_1167 ⟨by omega, by omega⟩ (fun _ _ h9 => by obtain ⟨_, rfl, h9⟩ := h9; exact hI) (fun r1167 u H locs q1167 I => ?_)
  have ef : u.1 1 = f 1 := by obtain ⟨_, rfl, -⟩ := q1167; rfl
  have e2_ : u.2.2.1 2 = r 2 := by obtain ⟨_, rfl, -⟩ := q1167; rfl
  have e3_ : u.2.2.1 3 = r 3 := by obtain ⟨_, rfl, -⟩ := q1167; rfl
  have e4_ : u.2.2.1 4 = r 4 := by obtain ⟨_, rfl, -⟩ := q1167; rfl
  have e5_ : u.2.2.1 5 = r 5 := by obtain ⟨_, rfl, -⟩ := q1167; rfl
  have e6_ : u.2.2.1 6 = r 6 := by obtain ⟨_, rfl, -⟩ := q1167; rfl
  have e7_ : u.2.2.1 7 = r 7 := by obtain ⟨_, rfl, -⟩ := q1167; rfl
  have e8_ : u.2.2.1 8 = r 8 := by obtain ⟨_, rfl, -⟩ := q1167; rfl
  obtain ⟨f1, g1, r1, q1⟩ := u
  have ef : f1 1 = f 1 := ef
  have e2_ : r1 2 = r 2 := e2_
  have e3_ : r1 3 = r 3 := e3_
  have e4_ : r1 4 = r 4 := e4_
  have e5_ : r1 5 = r 5 := e5_
  have e6_ : r1 6 = r 6 := e6_
  have e7_ : r1 7 = r 7 := e7_
  have e8_ : r1 8 = r 8 := e8_
  have I : LI D cy s xo mo ou a M G1 W1 f1 g1 r1 q1 H locs := I
  refine lv_pop2_2 hx hb dL_law_1170 rfl ?_
  refine lv_goto (tgt := 2327) hx hb dL_law_1171 (by decide) ?_
  have hR1 : RlJ cy xo G1 W1 f1 r1 := hR.keep I0.2.2.1 I0.2.2.2.1 I0.2.2.2.2.1 hX rfl rfl rfl rfl ef e2_ e3_ e4_ e5_ e6_ e7_ e8_
  refine W.widen (k := C + 7) (n := S + 588) (by omega) (by omega) ?_
  exact kk _ _ _ _ _ _ _ _ _ I hR1 (lv_sub hl [0, 1, 2, 3, 4] rfl)
