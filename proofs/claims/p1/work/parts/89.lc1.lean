set_option maxHeartbeats 4000000 in
set_option maxRecDepth 100000 in
theorem lcase_18 {p : Program} {l : Launch} {e : Env} {s : State} {m : MethodId} {below : List Frame} {meth : Method} {c : Code} {b L : Nat} {xs : Nat → Int32} {D : va_G} {cy : Nat → ClassId} {xo mo ou : Nat} {a : Nat → Nat} {M : Option Nat} {G : cG} {W' : va_W} {f : Nat → Int32} {g : Nat → Int64} {r : Nat → Nat → Int32} {q : Nat → Nat → Int64} {H : Heap} {locs : List Loc} {ls : Array Slot} {Q : State → Prop} {C S : Nat} (X : LX p l s m c b L xs D cy mo a) (I : LI D cy s xo mo ou a M G W' f g r q H locs) (hF : FR cy xo W' f r) {x4 : Int32} (h4 : 0 ≤ x4.toInt ∧ x4.toInt + 8 ≤ (L : Int) ∧ L ≤ 4096) (hC : C + 7 ≤ 600002) (hSl : S + 53273 ≤ 7302232) (hl : lv_has ls 8 [(0, .ref b), (1, .ref xo), (2, .ref mo), (3, .ref ou), (4, .int x4)]) (kk : ∀ (G : cG) (W' : va_W) (f : Nat → Int32) (g : Nat → Int64) (r : Nat → Nat → Int32) (q : Nat → Nat → Int64) (H : Heap) (locs : List Loc) (ls : Array Slot), LI D cy s xo mo ou a M G W' f g r q H locs → lv_has ls 8 [(0, .ref b), (1, .ref xo), (2, .ref mo), (3, .ref ou), (4, .int x4)] → W p l e room_1 s m #[Value.ref b] below meth c H locs (C + 7) (S + 588) Q (F0 m 2469 ls [])) (kk2 : M = none → ∀ x9 : Nat, ∀ (G : cG) (W' : va_W) (f : Nat → Int32) (g : Nat → Int64) (r : Nat → Nat → Int32) (q : Nat → Nat → Int64) (H : Heap) (locs : List Loc) (ls : Array Slot), LI D cy s xo mo ou a (some x9) G W' f g r q H locs → lv_has ls 8 [(0, .ref b), (1, .ref xo), (2, .ref mo), (3, .ref ou), (4, .int x4)] → W p l e room_1 s m #[Value.ref b] below meth c H locs (C + 7) (S + 53273) Q (F0 m 2469 ls [])) : W p l e room_1 s m #[Value.ref b] below meth c H locs C S Q (F0 m 1231 ls []) := by
  obtain ⟨⟨hx, hb, hml, hown, hts⟩, ⟨hXs, hbl⟩, ⟨hK, hV, hZ, hXT⟩, hst, hDM, hAM⟩ := id X
  have h1 : f 1 = 0 := hF.1 1
  have h10 : (f 1).toInt = 0 := by rw [h1]; rfl
  have h23 : f 23 = 0 := hF.1 23
  have h230 : (f 23).toInt = 0 := by rw [h23]; rfl
  have h29 : ∀ i, r 29 i = 0 := hF.2.1
  have hbA : ¬ AL s b := Nat.not_le.mpr hbl
  have hRc : room_1.cells = 600002 := rfl
  have hRs : room_1.slots = 7302232 := rfl
  have hn1 : vp_in (x4 + 1) L := l_in (c := 1) h4 rfl (by decide)
  have hn2 : vp_in (x4 + 2) L := l_in (c := 2) h4 rfl (by decide)
  have hn3 : vp_in (x4 + 3) L := l_in (c := 3) h4 rfl (by decide)
  have hn4 : vp_in (x4 + 4) L := l_in (c := 4) h4 rfl (by decide)
  have hn5 : vp_in (x4 + 5) L := l_in (c := 5) h4 rfl (by decide)
  have hn6 : vp_in (x4 + 6) L := l_in (c := 6) h4 rfl (by decide)
  have hn7 : vp_in (x4 + 7) L := l_in (c := 7) h4 rfl (by decide)
  refine lv_aload_n hx hb dL_law_1231 rfl (lv_at hl 1 rfl) ?_
  refine lv_aload_n hx hb dL_law_1232 rfl (lv_at hl 0 rfl) ?_
  refine lv_iload hx hb dL_law_1233 (lv_at hl 4 rfl) ?_
  refine lv_iconst (v := 1) hx hb dL_law_1235 (by decide) ?_
  refine lv_iadd hx hb dL_law_1236 ?_
  refine va_sld hx hb hXs hbl hbA I.2.2.2.2.2.2.2.2.1 hn1 dL_law_1237 ?_
  refine lv_aload_n hx hb dL_law_1238 rfl (lv_at hl 0 rfl) ?_
  refine lv_iload hx hb dL_law_1239 (lv_at hl 4 rfl) ?_
  refine lv_iconst (v := 2) hx hb dL_law_1241 (by decide) ?_
  refine lv_iadd hx hb dL_law_1242 ?_
  refine va_sld hx hb hXs hbl hbA I.2.2.2.2.2.2.2.2.1 hn2 dL_law_1243 ?_
  refine lv_aload_n hx hb dL_law_1244 rfl (lv_at hl 0 rfl) ?_
  refine lv_iload hx hb dL_law_1245 (lv_at hl 4 rfl) ?_
  refine lv_iconst (v := 3) hx hb dL_law_1247 (by decide) ?_
  refine lv_iadd hx hb dL_law_1248 ?_
  refine va_sld hx hb hXs hbl hbA I.2.2.2.2.2.2.2.2.1 hn3 dL_law_1249 ?_
  refine lv_i2l (v := ((xs (x4 + 3).toNatClampNeg)).toInt64) hx hb dL_law_1250 rfl ?_
  refine lv_bipush (v := 32) hx hb dL_law_1251 (by decide) ?_
  refine lv_lshl (v := (((xs (x4 + 3).toNatClampNeg)).toInt64) <<< ((32 : Int32).toInt64 &&& 63)) hx hb dL_law_1253 rfl ?_
  refine lv_aload_n hx hb dL_law_1254 rfl (lv_at hl 0 rfl) ?_
  refine lv_iload hx hb dL_law_1255 (lv_at hl 4 rfl) ?_
  refine lv_iconst (v := 4) hx hb dL_law_1257 (by decide) ?_
  refine lv_iadd hx hb dL_law_1258 ?_
  refine va_sld hx hb hXs hbl hbA I.2.2.2.2.2.2.2.2.1 hn4 dL_law_1259 ?_
  refine lv_i2l (v := ((xs (x4 + 4).toNatClampNeg)).toInt64) hx hb dL_law_1260 rfl ?_
  refine lv_ldc2 hx hb hown (hts (.constantLong RL 45 (4294967295)) (by decide +kernel)) dL_law_1261 ?_
  refine lv_land hx hb dL_law_1264 ?_
  refine lv_topl (fun v1264 e1264 => ?_)
  refine lv_lor hx hb dL_law_1265 ?_
  refine lv_topl (fun v1265 e1265 => ?_)
  refine lv_aload_n hx hb dL_law_1266 rfl (lv_at hl 0 rfl) ?_
  refine lv_iload hx hb dL_law_1267 (lv_at hl 4 rfl) ?_
  refine lv_iconst (v := 5) hx hb dL_law_1269 (by decide) ?_
  refine lv_iadd hx hb dL_law_1270 ?_
  refine va_sld hx hb hXs hbl hbA I.2.2.2.2.2.2.2.2.1 hn5 dL_law_1271 ?_
  refine lv_i2l (v := ((xs (x4 + 5).toNatClampNeg)).toInt64) hx hb dL_law_1272 rfl ?_
  refine lv_bipush (v := 32) hx hb dL_law_1273 (by decide) ?_
  refine lv_lshl (v := (((xs (x4 + 5).toNatClampNeg)).toInt64) <<< ((32 : Int32).toInt64 &&& 63)) hx hb dL_law_1275 rfl ?_
  refine lv_aload_n hx hb dL_law_1276 rfl (lv_at hl 0 rfl) ?_
  refine lv_iload hx hb dL_law_1277 (lv_at hl 4 rfl) ?_
  refine lv_bipush (v := 6) hx hb dL_law_1279 (by decide) ?_
  refine lv_iadd hx hb dL_law_1281 ?_
  refine va_sld hx hb hXs hbl hbA I.2.2.2.2.2.2.2.2.1 hn6 dL_law_1282 ?_
  refine lv_i2l (v := ((xs (x4 + 6).toNatClampNeg)).toInt64) hx hb dL_law_1283 rfl ?_
  refine lv_ldc2 hx hb hown (hts (.constantLong RL 45 (4294967295)) (by decide +kernel)) dL_law_1284 ?_
  refine lv_land hx hb dL_law_1287 ?_
  refine lv_topl (fun v1287 e1287 => ?_)
  refine lv_lor hx hb dL_law_1288 ?_
  refine lv_topl (fun v1288 e1288 => ?_)
  obtain ⟨bs, js, sh, wk, ll, jc, lc, lb, hM⟩ := I.2.2.2.2.2.2.2.1
  refine l_callV (mc := 7) (ms := 53273) (As := [.int (xs (x4 + 1).toNatClampNeg), .int (xs (x4 + 2).toNatClampNeg), .long v1265, .long v1288]) (rest := []) ⟨hx, hb, hml, hown, hts⟩ (c_X9_far_x l D cy (AC s mo a) G W' xo ((xs (x4 + 1).toNatClampNeg)) ((xs (x4 + 2).toNatClampNeg)) v1265 v1288 I.2.2.1 I.2.2.2.1 I.2.2.2.2.1 hM) (cwV 4 hts gL_law_X9_far rfl rfl rfl (by decide +kernel) ⟨Nat.le_of_ble_eq_true rfl, Nat.le_of_ble_eq_true rfl⟩) (l_preV I hK hV) rfl hl.1 rfl (Nat.le_of_ble_eq_true rfl) dL_law_1289 ⟨by omega, by omega⟩ I.2.2.2.2.2.2.2.2.1 (fun _ h9 => h9.1) (fun k9 n9 r1289 u H1 locs1 q1289 hP9 hD9 hT9 hz9 hk9 hS9 => ?_)
  obtain ⟨hX9, q1289⟩ := q1289
  obtain ⟨q1289, qf1289⟩ := q1289
  rcases q1289 with ⟨rfl, rfl, hM9⟩ | ⟨rfl, rfl, hM0, x9, hM9⟩
  · skip
    have q1289 := qf1289
    have I : LI D cy s xo mo ou a M u.1 u.2 f g r q H1 locs1 := I.cla hP9 hD9 hT9 hX9.1 ⟨_, _, _, _, _, _, _, lb, hM9⟩ hz9 hk9 hS9
    obtain ⟨G, W'⟩ := u
    have I : LI D cy s xo mo ou a M G W' f g r q H1 locs1 := I
    refine lv_aload_n hx hb dL_law_1292 rfl (lv_at hl 2 rfl) ?_
    refine lv_aload_n hx hb dL_law_1293 rfl (lv_at hl 0 rfl) ?_
    refine lv_iload hx hb dL_law_1294 (lv_at hl 4 rfl) ?_
    refine lv_iconst (v := 1) hx hb dL_law_1296 (by decide) ?_
    refine lv_iadd hx hb dL_law_1297 ?_
    refine va_sld hx hb hXs hbl hbA I.2.2.2.2.2.2.2.2.1 hn1 dL_law_1298 ?_
    refine lv_aload_n hx hb dL_law_1299 rfl (lv_at hl 0 rfl) ?_
    refine lv_iload hx hb dL_law_1300 (lv_at hl 4 rfl) ?_
    refine lv_iconst (v := 2) hx hb dL_law_1302 (by decide) ?_
    refine lv_iadd hx hb dL_law_1303 ?_
    refine va_sld hx hb hXs hbl hbA I.2.2.2.2.2.2.2.2.1 hn2 dL_law_1304 ?_
    refine lv_aload_n hx hb dL_law_1305 rfl (lv_at hl 0 rfl) ?_
    refine lv_iload hx hb dL_law_1306 (lv_at hl 4 rfl) ?_
    refine lv_iconst (v := 3) hx hb dL_law_1308 (by decide) ?_
    refine lv_iadd hx hb dL_law_1309 ?_
    refine va_sld hx hb hXs hbl hbA I.2.2.2.2.2.2.2.2.1 hn3 dL_law_1310 ?_
    refine lv_i2l (v := ((xs (x4 + 3).toNatClampNeg)).toInt64) hx hb dL_law_1311 rfl ?_
    refine lv_bipush (v := 32) hx hb dL_law_1312 (by decide) ?_
    refine lv_lshl (v := (((xs (x4 + 3).toNatClampNeg)).toInt64) <<< ((32 : Int32).toInt64 &&& 63)) hx hb dL_law_1314 rfl ?_
    refine lv_aload_n hx hb dL_law_1315 rfl (lv_at hl 0 rfl) ?_
    refine lv_iload hx hb dL_law_1316 (lv_at hl 4 rfl) ?_
    refine lv_iconst (v := 4) hx hb dL_law_1318 (by decide) ?_
    refine lv_iadd hx hb dL_law_1319 ?_
    refine va_sld hx hb hXs hbl hbA I.2.2.2.2.2.2.2.2.1 hn4 dL_law_1320 ?_
    refine lv_i2l (v := ((xs (x4 + 4).toNatClampNeg)).toInt64) hx hb dL_law_1321 rfl ?_
    refine lv_ldc2 hx hb hown (hts (.constantLong RL 45 (4294967295)) (by decide +kernel)) dL_law_1322 ?_
    refine lv_land hx hb dL_law_1325 ?_
    refine lv_topl (fun v1325 e1325 => ?_)
    refine lv_lor hx hb dL_law_1326 ?_
    refine lv_topl (fun v1326 e1326 => ?_)
    refine lv_aload_n hx hb dL_law_1327 rfl (lv_at hl 0 rfl) ?_
    refine lv_iload hx hb dL_law_1328 (lv_at hl 4 rfl) ?_
    refine lv_iconst (v := 5) hx hb dL_law_1330 (by decide) ?_
    refine lv_iadd hx hb dL_law_1331 ?_
    refine va_sld hx hb hXs hbl hbA I.2.2.2.2.2.2.2.2.1 hn5 dL_law_1332 ?_
    refine lv_i2l (v := ((xs (x4 + 5).toNatClampNeg)).toInt64) hx hb dL_law_1333 rfl ?_
    refine lv_bipush (v := 32) hx hb dL_law_1334 (by decide) ?_
    refine lv_lshl (v := (((xs (x4 + 5).toNatClampNeg)).toInt64) <<< ((32 : Int32).toInt64 &&& 63)) hx hb dL_law_1336 rfl ?_
    refine lv_aload_n hx hb dL_law_1337 rfl (lv_at hl 0 rfl) ?_
    refine lv_iload hx hb dL_law_1338 (lv_at hl 4 rfl) ?_
    refine lv_bipush (v := 6) hx hb dL_law_1340 (by decide) ?_
    refine lv_iadd hx hb dL_law_1342 ?_
    refine va_sld hx hb hXs hbl hbA I.2.2.2.2.2.2.2.2.1 hn6 dL_law_1343 ?_
    refine lv_i2l (v := ((xs (x4 + 6).toNatClampNeg)).toInt64) hx hb dL_law_1344 rfl ?_
    refine lv_ldc2 hx hb hown (hts (.constantLong RL 45 (4294967295)) (by decide +kernel)) dL_law_1345 ?_
    refine lv_land hx hb dL_law_1348 ?_
    refine lv_topl (fun v1348 e1348 => ?_)
    refine lv_lor hx hb dL_law_1349 ?_
    refine lv_topl (fun v1349 e1349 => ?_)
    have hI := I.2.2.2.2.2.2.1
    refine lm_i (As := [.int (xs (x4 + 1).toNatClampNeg), .int (xs (x4 + 2).toNatClampNeg), .long v1326, .long v1349]) (rest := [.int r1289]) I ⟨hx, hb, hml, hown, hts⟩ (c_X10_far_x l D cy mo a f g r q ((xs (x4 + 1).toNatClampNeg)) ((xs (x4 + 2).toNatClampNeg)) v1326 v1349 hDM) (cwV 4 hts gL_law_X10_far rfl rfl rfl (by decide +kernel) ⟨Nat.le_of_ble_eq_true rfl, Nat.le_of_ble_eq_true rfl⟩) hK hAM rfl hl.1 rfl (Nat.le_of_ble_eq_true rfl) dL_law_1350 ⟨by omega, by omega⟩ (fun _ _ h9 => by obtain ⟨_, _, _, _, rfl, h9⟩ := h9; exact hI) (fun r1350 u H locs q1350 I => ?_)
    obtain ⟨_, _, _, _, -, q1350⟩ := q1350
    obtain ⟨f, g, r, q⟩ := u
    have I : LI D cy s xo mo ou a M G W' f g r q H locs := I
    subst e1349
    subst e1348
    subst e1326
    subst e1325
    subst e1288
    subst e1287
    subst e1265
    subst e1264
    have e9 : r1289 = r1350 := faA_eq q1289 q1350
    refine lv_icmp_eq (tgt := 2469) hx hb dL_law_1353 (by decide) (fun c9 => ?_) (fun c9 => absurd e9 c9)
    refine W.widen (k := C + 7) (n := S + 588) (by omega) (by omega) ?_
    exact kk _ _ _ _ _ _ _ _ _ I (lv_sub hl [0, 1, 2, 3, 4] rfl)
  · skip
    have q1289 := qf1289
    have I : LI D cy s xo mo ou a (some x9) u.1 u.2 f g r q H1 locs1 := I.cla hP9 hD9 hT9 hX9.1 ⟨_, _, _, _, _, _, _, lb, hM9⟩ hz9 hk9 hS9
    obtain ⟨G, W'⟩ := u
    have I : LI D cy s xo mo ou a (some x9) G W' f g r q H1 locs1 := I
    refine lv_aload_n hx hb dL_law_1292 rfl (lv_at hl 2 rfl) ?_
    refine lv_aload_n hx hb dL_law_1293 rfl (lv_at hl 0 rfl) ?_
    refine lv_iload hx hb dL_law_1294 (lv_at hl 4 rfl) ?_
    refine lv_iconst (v := 1) hx hb dL_law_1296 (by decide) ?_
    refine lv_iadd hx hb dL_law_1297 ?_
    refine va_sld hx hb hXs hbl hbA I.2.2.2.2.2.2.2.2.1 hn1 dL_law_1298 ?_
    refine lv_aload_n hx hb dL_law_1299 rfl (lv_at hl 0 rfl) ?_
    refine lv_iload hx hb dL_law_1300 (lv_at hl 4 rfl) ?_
    refine lv_iconst (v := 2) hx hb dL_law_1302 (by decide) ?_
    refine lv_iadd hx hb dL_law_1303 ?_
    refine va_sld hx hb hXs hbl hbA I.2.2.2.2.2.2.2.2.1 hn2 dL_law_1304 ?_
    refine lv_aload_n hx hb dL_law_1305 rfl (lv_at hl 0 rfl) ?_
    refine lv_iload hx hb dL_law_1306 (lv_at hl 4 rfl) ?_
    refine lv_iconst (v := 3) hx hb dL_law_1308 (by decide) ?_
    refine lv_iadd hx hb dL_law_1309 ?_
    refine va_sld hx hb hXs hbl hbA I.2.2.2.2.2.2.2.2.1 hn3 dL_law_1310 ?_
    refine lv_i2l (v := ((xs (x4 + 3).toNatClampNeg)).toInt64) hx hb dL_law_1311 rfl ?_
    refine lv_bipush (v := 32) hx hb dL_law_1312 (by decide) ?_
    refine lv_lshl (v := (((xs (x4 + 3).toNatClampNeg)).toInt64) <<< ((32 : Int32).toInt64 &&& 63)) hx hb dL_law_1314 rfl ?_
    refine lv_aload_n hx hb dL_law_1315 rfl (lv_at hl 0 rfl) ?_
    refine lv_iload hx hb dL_law_1316 (lv_at hl 4 rfl) ?_
    refine lv_iconst (v := 4) hx hb dL_law_1318 (by decide) ?_
    refine lv_iadd hx hb dL_law_1319 ?_
    refine va_sld hx hb hXs hbl hbA I.2.2.2.2.2.2.2.2.1 hn4 dL_law_1320 ?_
    refine lv_i2l (v := ((xs (x4 + 4).toNatClampNeg)).toInt64) hx hb dL_law_1321 rfl ?_
    refine lv_ldc2 hx hb hown (hts (.constantLong RL 45 (4294967295)) (by decide +kernel)) dL_law_1322 ?_
    refine lv_land hx hb dL_law_1325 ?_
    refine lv_topl (fun v1325 e1325 => ?_)
    refine lv_lor hx hb dL_law_1326 ?_
    refine lv_topl (fun v1326 e1326 => ?_)
    refine lv_aload_n hx hb dL_law_1327 rfl (lv_at hl 0 rfl) ?_
    refine lv_iload hx hb dL_law_1328 (lv_at hl 4 rfl) ?_
    refine lv_iconst (v := 5) hx hb dL_law_1330 (by decide) ?_
    refine lv_iadd hx hb dL_law_1331 ?_
    refine va_sld hx hb hXs hbl hbA I.2.2.2.2.2.2.2.2.1 hn5 dL_law_1332 ?_
    refine lv_i2l (v := ((xs (x4 + 5).toNatClampNeg)).toInt64) hx hb dL_law_1333 rfl ?_
    refine lv_bipush (v := 32) hx hb dL_law_1334 (by decide) ?_
    refine lv_lshl (v := (((xs (x4 + 5).toNatClampNeg)).toInt64) <<< ((32 : Int32).toInt64 &&& 63)) hx hb dL_law_1336 rfl ?_
    refine lv_aload_n hx hb dL_law_1337 rfl (lv_at hl 0 rfl) ?_
    refine lv_iload hx hb dL_law_1338 (lv_at hl 4 rfl) ?_
    refine lv_bipush (v := 6) hx hb dL_law_1340 (by decide) ?_
    refine lv_iadd hx hb dL_law_1342 ?_
    refine va_sld hx hb hXs hbl hbA I.2.2.2.2.2.2.2.2.1 hn6 dL_law_1343 ?_
    refine lv_i2l (v := ((xs (x4 + 6).toNatClampNeg)).toInt64) hx hb dL_law_1344 rfl ?_
    refine lv_ldc2 hx hb hown (hts (.constantLong RL 45 (4294967295)) (by decide +kernel)) dL_law_1345 ?_
    refine lv_land hx hb dL_law_1348 ?_
    refine lv_topl (fun v1348 e1348 => ?_)
    refine lv_lor hx hb dL_law_1349 ?_
    refine lv_topl (fun v1349 e1349 => ?_)
    have hI := I.2.2.2.2.2.2.1
    refine lm_i (As := [.int (xs (x4 + 1).toNatClampNeg), .int (xs (x4 + 2).toNatClampNeg), .long v1326, .long v1349]) (rest := [.int r1289]) I ⟨hx, hb, hml, hown, hts⟩ (c_X10_far_x l D cy mo a f g r q ((xs (x4 + 1).toNatClampNeg)) ((xs (x4 + 2).toNatClampNeg)) v1326 v1349 hDM) (cwV 4 hts gL_law_X10_far rfl rfl rfl (by decide +kernel) ⟨Nat.le_of_ble_eq_true rfl, Nat.le_of_ble_eq_true rfl⟩) hK hAM rfl hl.1 rfl (Nat.le_of_ble_eq_true rfl) dL_law_1350 ⟨by omega, by omega⟩ (fun _ _ h9 => by obtain ⟨_, _, _, _, rfl, h9⟩ := h9; exact hI) (fun r1350 u H locs q1350 I => ?_)
    obtain ⟨_, _, _, _, -, q1350⟩ := q1350
    obtain ⟨f, g, r, q⟩ := u
    have I : LI D cy s xo mo ou a (some x9) G W' f g r q H locs := I
    subst e1349
    subst e1348
    subst e1326
    subst e1325
    subst e1288
    subst e1287
    subst e1265
    subst e1264
    have e9 : r1289 = r1350 := faA_eq q1289 q1350
    refine lv_icmp_eq (tgt := 2469) hx hb dL_law_1353 (by decide) (fun c9 => ?_) (fun c9 => absurd e9 c9)
    refine W.widen (k := C + 7) (n := S + 53273) (by omega) (by omega) ?_
    exact kk2 hM0 _ _ _ _ _ _ _ _ _ _ I (lv_sub hl [0, 1, 2, 3, 4] rfl)
set_option maxHeartbeats 4000000 in
set_option maxRecDepth 100000 in
theorem lcase_19 {p : Program} {l : Launch} {e : Env} {s : State} {m : MethodId} {below : List Frame} {meth : Method} {c : Code} {b L : Nat} {xs : Nat → Int32} {D : va_G} {cy : Nat → ClassId} {xo mo ou : Nat} {a : Nat → Nat} {M : Option Nat} {G : cG} {W' : va_W} {f : Nat → Int32} {g : Nat → Int64} {r : Nat → Nat → Int32} {q : Nat → Nat → Int64} {H : Heap} {locs : List Loc} {ls : Array Slot} {Q : State → Prop} {C S : Nat} (X : LX p l s m c b L xs D cy mo a) (I : LI D cy s xo mo ou a M G W' f g r q H locs) (hF : FR cy xo W' f r) {x4 : Int32} (h4 : 0 ≤ x4.toInt ∧ x4.toInt + 8 ≤ (L : Int) ∧ L ≤ 4096) (hC : C + 7 ≤ 600002) (hSl : S + 53273 ≤ 7302232) (hl : lv_has ls 8 [(0, .ref b), (1, .ref xo), (2, .ref mo), (3, .ref ou), (4, .int x4)]) (kk : ∀ (G : cG) (W' : va_W) (f : Nat → Int32) (g : Nat → Int64) (r : Nat → Nat → Int32) (q : Nat → Nat → Int64) (H : Heap) (locs : List Loc) (ls : Array Slot), LI D cy s xo mo ou a M G W' f g r q H locs → lv_has ls 8 [(0, .ref b), (1, .ref xo), (2, .ref mo), (3, .ref ou), (4, .int x4)] → W p l e room_1 s m #[Value.ref b] below meth c H locs (C + 7) (S + 588) Q (F0 m 2469 ls [])) : W p l e room_1 s m #[Value.ref b] below meth c H locs C S Q (F0 m 1358 ls []) := by
  obtain ⟨⟨hx, hb, hml, hown, hts⟩, ⟨hXs, hbl⟩, ⟨hK, hV, hZ, hXT⟩, hst, hDM, hAM⟩ := id X
  have h1 : f 1 = 0 := hF.1 1
  have h10 : (f 1).toInt = 0 := by rw [h1]; rfl
  have h23 : f 23 = 0 := hF.1 23
  have h230 : (f 23).toInt = 0 := by rw [h23]; rfl
  have h29 : ∀ i, r 29 i = 0 := hF.2.1
  have hbA : ¬ AL s b := Nat.not_le.mpr hbl
  have hRc : room_1.cells = 600002 := rfl
  have hRs : room_1.slots = 7302232 := rfl
  have hn1 : vp_in (x4 + 1) L := l_in (c := 1) h4 rfl (by decide)
  have hn2 : vp_in (x4 + 2) L := l_in (c := 2) h4 rfl (by decide)
  have hn3 : vp_in (x4 + 3) L := l_in (c := 3) h4 rfl (by decide)
  have hn4 : vp_in (x4 + 4) L := l_in (c := 4) h4 rfl (by decide)
  have hn5 : vp_in (x4 + 5) L := l_in (c := 5) h4 rfl (by decide)
  have hn6 : vp_in (x4 + 6) L := l_in (c := 6) h4 rfl (by decide)
  have hn7 : vp_in (x4 + 7) L := l_in (c := 7) h4 rfl (by decide)
  refine lv_aload_n hx hb dL_law_1358 rfl (lv_at hl 1 rfl) ?_
  refine lv_aload_n hx hb dL_law_1359 rfl (lv_at hl 0 rfl) ?_
  refine lv_iload hx hb dL_law_1360 (lv_at hl 4 rfl) ?_
  refine lv_iconst (v := 1) hx hb dL_law_1362 (by decide) ?_
  refine lv_iadd hx hb dL_law_1363 ?_
  refine va_sld hx hb hXs hbl hbA I.2.2.2.2.2.2.2.2.1 hn1 dL_law_1364 ?_
  refine lv_aload_n hx hb dL_law_1365 rfl (lv_at hl 0 rfl) ?_
  refine lv_iload hx hb dL_law_1366 (lv_at hl 4 rfl) ?_
  refine lv_iconst (v := 2) hx hb dL_law_1368 (by decide) ?_
  refine lv_iadd hx hb dL_law_1369 ?_
  refine va_sld hx hb hXs hbl hbA I.2.2.2.2.2.2.2.2.1 hn2 dL_law_1370 ?_
  refine lv_aload_n hx hb dL_law_1371 rfl (lv_at hl 0 rfl) ?_
  refine lv_iload hx hb dL_law_1372 (lv_at hl 4 rfl) ?_
  refine lv_iconst (v := 3) hx hb dL_law_1374 (by decide) ?_
  refine lv_iadd hx hb dL_law_1375 ?_
  refine va_sld hx hb hXs hbl hbA I.2.2.2.2.2.2.2.2.1 hn3 dL_law_1376 ?_
  refine lv_i2l (v := ((xs (x4 + 3).toNatClampNeg)).toInt64) hx hb dL_law_1377 rfl ?_
  refine lv_bipush (v := 32) hx hb dL_law_1378 (by decide) ?_
  refine lv_lshl (v := (((xs (x4 + 3).toNatClampNeg)).toInt64) <<< ((32 : Int32).toInt64 &&& 63)) hx hb dL_law_1380 rfl ?_
  refine lv_aload_n hx hb dL_law_1381 rfl (lv_at hl 0 rfl) ?_
  refine lv_iload hx hb dL_law_1382 (lv_at hl 4 rfl) ?_
  refine lv_iconst (v := 4) hx hb dL_law_1384 (by decide) ?_
  refine lv_iadd hx hb dL_law_1385 ?_
  refine va_sld hx hb hXs hbl hbA I.2.2.2.2.2.2.2.2.1 hn4 dL_law_1386 ?_
  refine lv_i2l (v := ((xs (x4 + 4).toNatClampNeg)).toInt64) hx hb dL_law_1387 rfl ?_
  refine lv_ldc2 hx hb hown (hts (.constantLong RL 45 (4294967295)) (by decide +kernel)) dL_law_1388 ?_
  refine lv_land hx hb dL_law_1391 ?_
  refine lv_topl (fun v1391 e1391 => ?_)
  refine lv_lor hx hb dL_law_1392 ?_
  refine lv_topl (fun v1392 e1392 => ?_)
  refine lk_i I (va_runV (g := F0 m 1393 ls ([.long v1392, .int (xs (x4 + 2).toNatClampNeg), .int (xs (x4 + 1).toNatClampNeg), .ref xo])) (As := [.int (xs (x4 + 1).toNatClampNeg), .int (xs (x4 + 2).toNatClampNeg), .long v1392]) (rest := []) ⟨hx, hb, hml, hown, hts⟩ (c_X9_joined_x l D cy (AC s mo a) G W' xo ((xs (x4 + 1).toNatClampNeg)) ((xs (x4 + 2).toNatClampNeg)) v1392 I.2.2.1 I.2.2.2.1 I.2.2.2.2.1) (cwV 3 hts gL_law_X9_joined rfl rfl rfl (by decide +kernel) ⟨Nat.le_of_ble_eq_true rfl, Nat.le_of_ble_eq_true rfl⟩) (l_preV I hK hV) rfl rfl hl.1 rfl (lv_room (Nat.le_of_ble_eq_true rfl)) dL_law_1393 ⟨by omega, by omega⟩) rfl (fun r1393 u H locs q1393 I => ?_)
  obtain ⟨G, W'⟩ := u
  have I : LI D cy s xo mo ou a M G W' f g r q H locs := I
  refine lv_aload_n hx hb dL_law_1396 rfl (lv_at hl 2 rfl) ?_
  refine lv_aload_n hx hb dL_law_1397 rfl (lv_at hl 0 rfl) ?_
  refine lv_iload hx hb dL_law_1398 (lv_at hl 4 rfl) ?_
  refine lv_iconst (v := 1) hx hb dL_law_1400 (by decide) ?_
  refine lv_iadd hx hb dL_law_1401 ?_
  refine va_sld hx hb hXs hbl hbA I.2.2.2.2.2.2.2.2.1 hn1 dL_law_1402 ?_
  refine lv_aload_n hx hb dL_law_1403 rfl (lv_at hl 0 rfl) ?_
  refine lv_iload hx hb dL_law_1404 (lv_at hl 4 rfl) ?_
  refine lv_iconst (v := 2) hx hb dL_law_1406 (by decide) ?_
  refine lv_iadd hx hb dL_law_1407 ?_
  refine va_sld hx hb hXs hbl hbA I.2.2.2.2.2.2.2.2.1 hn2 dL_law_1408 ?_
  refine lv_aload_n hx hb dL_law_1409 rfl (lv_at hl 0 rfl) ?_
  refine lv_iload hx hb dL_law_1410 (lv_at hl 4 rfl) ?_
  refine lv_iconst (v := 3) hx hb dL_law_1412 (by decide) ?_
  refine lv_iadd hx hb dL_law_1413 ?_
  refine va_sld hx hb hXs hbl hbA I.2.2.2.2.2.2.2.2.1 hn3 dL_law_1414 ?_
  refine lv_i2l (v := ((xs (x4 + 3).toNatClampNeg)).toInt64) hx hb dL_law_1415 rfl ?_
  refine lv_bipush (v := 32) hx hb dL_law_1416 (by decide) ?_
  refine lv_lshl (v := (((xs (x4 + 3).toNatClampNeg)).toInt64) <<< ((32 : Int32).toInt64 &&& 63)) hx hb dL_law_1418 rfl ?_
  refine lv_aload_n hx hb dL_law_1419 rfl (lv_at hl 0 rfl) ?_
  refine lv_iload hx hb dL_law_1420 (lv_at hl 4 rfl) ?_
  refine lv_iconst (v := 4) hx hb dL_law_1422 (by decide) ?_
  refine lv_iadd hx hb dL_law_1423 ?_
  refine va_sld hx hb hXs hbl hbA I.2.2.2.2.2.2.2.2.1 hn4 dL_law_1424 ?_
  refine lv_i2l (v := ((xs (x4 + 4).toNatClampNeg)).toInt64) hx hb dL_law_1425 rfl ?_
  refine lv_ldc2 hx hb hown (hts (.constantLong RL 45 (4294967295)) (by decide +kernel)) dL_law_1426 ?_
  refine lv_land hx hb dL_law_1429 ?_
  refine lv_topl (fun v1429 e1429 => ?_)
  refine lv_lor hx hb dL_law_1430 ?_
  refine lv_topl (fun v1430 e1430 => ?_)
  have hI := I.2.2.2.2.2.2.1
  refine lm_i (As := [.int (xs (x4 + 1).toNatClampNeg), .int (xs (x4 + 2).toNatClampNeg), .long v1430]) (rest := [.int r1393]) I ⟨hx, hb, hml, hown, hts⟩ (c_X10_joined_x l D cy mo a f g r q ((xs (x4 + 1).toNatClampNeg)) ((xs (x4 + 2).toNatClampNeg)) v1430 hDM) (cwV 3 hts gL_law_X10_joined rfl rfl rfl (by decide +kernel) ⟨Nat.le_of_ble_eq_true rfl, Nat.le_of_ble_eq_true rfl⟩) hK hAM rfl hl.1 rfl (Nat.le_of_ble_eq_true rfl) dL_law_1431 ⟨by omega, by omega⟩ (fun _ _ h9 => by obtain ⟨_, rfl, h9⟩ := h9; exact hI) (fun r1431 u H locs q1431 I => ?_)
  obtain ⟨_, -, q1431⟩ := q1431
  obtain ⟨f, g, r, q⟩ := u
  have I : LI D cy s xo mo ou a M G W' f g r q H locs := I
  subst e1430
  subst e1429
  subst e1392
  subst e1391
  have e9 : r1393 = r1431 := joA_eq q1393 q1431
  refine lv_icmp_eq (tgt := 2469) hx hb dL_law_1434 (by decide) (fun c9 => ?_) (fun c9 => absurd e9 c9)
  refine W.widen (k := C + 7) (n := S + 588) (by omega) (by omega) ?_
  exact kk _ _ _ _ _ _ _ _ _ I (lv_sub hl [0, 1, 2, 3, 4] rfl)
set_option maxHeartbeats 4000000 in
set_option maxRecDepth 100000 in
theorem lcase_20 {p : Program} {l : Launch} {e : Env} {s : State} {m : MethodId} {below : List Frame} {meth : Method} {c : Code} {b L : Nat} {xs : Nat → Int32} {D : va_G} {cy : Nat → ClassId} {xo mo ou : Nat} {a : Nat → Nat} {M : Option Nat} {G : cG} {W' : va_W} {f : Nat → Int32} {g : Nat → Int64} {r : Nat → Nat → Int32} {q : Nat → Nat → Int64} {H : Heap} {locs : List Loc} {ls : Array Slot} {Q : State → Prop} {C S : Nat} (X : LX p l s m c b L xs D cy mo a) (I : LI D cy s xo mo ou a M G W' f g r q H locs) (hF : FR cy xo W' f r) {x4 : Int32} (h4 : 0 ≤ x4.toInt ∧ x4.toInt + 8 ≤ (L : Int) ∧ L ≤ 4096) (hC : C + 7 ≤ 600002) (hSl : S + 53273 ≤ 7302232) (hl : lv_has ls 8 [(0, .ref b), (1, .ref xo), (2, .ref mo), (3, .ref ou), (4, .int x4)]) (kk : ∀ (G : cG) (W' : va_W) (f : Nat → Int32) (g : Nat → Int64) (r : Nat → Nat → Int32) (q : Nat → Nat → Int64) (H : Heap) (locs : List Loc) (ls : Array Slot), LI D cy s xo mo ou a M G W' f g r q H locs → lv_has ls 8 [(0, .ref b), (1, .ref xo), (2, .ref mo), (3, .ref ou), (4, .int x4)] → W p l e room_1 s m #[Value.ref b] below meth c H locs (C + 7) (S + 588) Q (F0 m 2469 ls [])) : W p l e room_1 s m #[Value.ref b] below meth c H locs C S Q (F0 m 1439 ls []) := by
  obtain ⟨⟨hx, hb, hml, hown, hts⟩, ⟨hXs, hbl⟩, ⟨hK, hV, hZ, hXT⟩, hst, hDM, hAM⟩ := id X
  have h1 : f 1 = 0 := hF.1 1
  have h10 : (f 1).toInt = 0 := by rw [h1]; rfl
  have h23 : f 23 = 0 := hF.1 23
  have h230 : (f 23).toInt = 0 := by rw [h23]; rfl
  have h29 : ∀ i, r 29 i = 0 := hF.2.1
  have hbA : ¬ AL s b := Nat.not_le.mpr hbl
  have hRc : room_1.cells = 600002 := rfl
  have hRs : room_1.slots = 7302232 := rfl
  have hn1 : vp_in (x4 + 1) L := l_in (c := 1) h4 rfl (by decide)
  have hn2 : vp_in (x4 + 2) L := l_in (c := 2) h4 rfl (by decide)
  have hn3 : vp_in (x4 + 3) L := l_in (c := 3) h4 rfl (by decide)
  have hn4 : vp_in (x4 + 4) L := l_in (c := 4) h4 rfl (by decide)
  have hn5 : vp_in (x4 + 5) L := l_in (c := 5) h4 rfl (by decide)
  have hn6 : vp_in (x4 + 6) L := l_in (c := 6) h4 rfl (by decide)
  have hn7 : vp_in (x4 + 7) L := l_in (c := 7) h4 rfl (by decide)
  refine lv_aload_n hx hb dL_law_1439 rfl (lv_at hl 1 rfl) ?_
  refine lv_aload_n hx hb dL_law_1440 rfl (lv_at hl 0 rfl) ?_
  refine lv_iload hx hb dL_law_1441 (lv_at hl 4 rfl) ?_
  refine lv_iconst (v := 1) hx hb dL_law_1443 (by decide) ?_
  refine lv_iadd hx hb dL_law_1444 ?_
  refine va_sld hx hb hXs hbl hbA I.2.2.2.2.2.2.2.2.1 hn1 dL_law_1445 ?_
  refine lv_aload_n hx hb dL_law_1446 rfl (lv_at hl 0 rfl) ?_
  refine lv_iload hx hb dL_law_1447 (lv_at hl 4 rfl) ?_
  refine lv_iconst (v := 2) hx hb dL_law_1449 (by decide) ?_
  refine lv_iadd hx hb dL_law_1450 ?_
  refine va_sld hx hb hXs hbl hbA I.2.2.2.2.2.2.2.2.1 hn2 dL_law_1451 ?_
  refine lv_aload_n hx hb dL_law_1452 rfl (lv_at hl 0 rfl) ?_
  refine lv_iload hx hb dL_law_1453 (lv_at hl 4 rfl) ?_
  refine lv_iconst (v := 3) hx hb dL_law_1455 (by decide) ?_
  refine lv_iadd hx hb dL_law_1456 ?_
  refine va_sld hx hb hXs hbl hbA I.2.2.2.2.2.2.2.2.1 hn3 dL_law_1457 ?_
  refine lv_i2l (v := ((xs (x4 + 3).toNatClampNeg)).toInt64) hx hb dL_law_1458 rfl ?_
  refine lv_bipush (v := 32) hx hb dL_law_1459 (by decide) ?_
  refine lv_lshl (v := (((xs (x4 + 3).toNatClampNeg)).toInt64) <<< ((32 : Int32).toInt64 &&& 63)) hx hb dL_law_1461 rfl ?_
  refine lv_aload_n hx hb dL_law_1462 rfl (lv_at hl 0 rfl) ?_
  refine lv_iload hx hb dL_law_1463 (lv_at hl 4 rfl) ?_
  refine lv_iconst (v := 4) hx hb dL_law_1465 (by decide) ?_
  refine lv_iadd hx hb dL_law_1466 ?_
  refine va_sld hx hb hXs hbl hbA I.2.2.2.2.2.2.2.2.1 hn4 dL_law_1467 ?_
  refine lv_i2l (v := ((xs (x4 + 4).toNatClampNeg)).toInt64) hx hb dL_law_1468 rfl ?_
  refine lv_ldc2 hx hb hown (hts (.constantLong RL 45 (4294967295)) (by decide +kernel)) dL_law_1469 ?_
  refine lv_land hx hb dL_law_1472 ?_
  refine lv_topl (fun v1472 e1472 => ?_)
  refine lv_lor hx hb dL_law_1473 ?_
  refine lv_topl (fun v1473 e1473 => ?_)
  refine lv_aload_n hx hb dL_law_1474 rfl (lv_at hl 0 rfl) ?_
  refine lv_iload hx hb dL_law_1475 (lv_at hl 4 rfl) ?_
  refine lv_iconst (v := 5) hx hb dL_law_1477 (by decide) ?_
  refine lv_iadd hx hb dL_law_1478 ?_
  refine va_sld hx hb hXs hbl hbA I.2.2.2.2.2.2.2.2.1 hn5 dL_law_1479 ?_
  refine lv_if_eq (tgt := 1487) hx hb dL_law_1480 (by decide) (fun c1480 => ?_) (fun c1480 => ?_)
  · skip
    have d1480 := c1480
    rw [fa_eq] at d1480
    refine lv_iconst (v := 0) hx hb dL_law_1487 (by decide) ?_
    refine lk_i I (va_runV (g := F0 m 1488 ls ([.int (0 : Int32), .long v1473, .int (xs (x4 + 2).toNatClampNeg), .int (xs (x4 + 1).toNatClampNeg), .ref xo])) (As := [.int (xs (x4 + 1).toNatClampNeg), .int (xs (x4 + 2).toNatClampNeg), .long v1473, .int (0 : Int32)]) (rest := []) ⟨hx, hb, hml, hown, hts⟩ (c_X9_even_x l D cy (AC s mo a) G W' xo ((xs (x4 + 1).toNatClampNeg)) ((xs (x4 + 2).toNatClampNeg)) v1473 (0 : Int32) I.2.2.1 I.2.2.2.1 I.2.2.2.2.1) (cwV 4 hts gL_law_X9_even rfl rfl rfl (by decide +kernel) ⟨Nat.le_of_ble_eq_true rfl, Nat.le_of_ble_eq_true rfl⟩) (l_preV I hK hV) rfl rfl hl.1 rfl (lv_room (Nat.le_of_ble_eq_true rfl)) dL_law_1488 ⟨by omega, by omega⟩) rfl (fun r1488 u H locs q1488 I => ?_)
    obtain ⟨G, W'⟩ := u
    have I : LI D cy s xo mo ou a M G W' f g r q H locs := I
    refine lv_aload_n hx hb dL_law_1491 rfl (lv_at hl 2 rfl) ?_
    refine lv_aload_n hx hb dL_law_1492 rfl (lv_at hl 0 rfl) ?_
    refine lv_iload hx hb dL_law_1493 (lv_at hl 4 rfl) ?_
    refine lv_iconst (v := 1) hx hb dL_law_1495 (by decide) ?_
    refine lv_iadd hx hb dL_law_1496 ?_
    refine va_sld hx hb hXs hbl hbA I.2.2.2.2.2.2.2.2.1 hn1 dL_law_1497 ?_
    refine lv_aload_n hx hb dL_law_1498 rfl (lv_at hl 0 rfl) ?_
    refine lv_iload hx hb dL_law_1499 (lv_at hl 4 rfl) ?_
    refine lv_iconst (v := 2) hx hb dL_law_1501 (by decide) ?_
    refine lv_iadd hx hb dL_law_1502 ?_
    refine va_sld hx hb hXs hbl hbA I.2.2.2.2.2.2.2.2.1 hn2 dL_law_1503 ?_
    refine lv_aload_n hx hb dL_law_1504 rfl (lv_at hl 0 rfl) ?_
    refine lv_iload hx hb dL_law_1505 (lv_at hl 4 rfl) ?_
    refine lv_iconst (v := 3) hx hb dL_law_1507 (by decide) ?_
    refine lv_iadd hx hb dL_law_1508 ?_
    refine va_sld hx hb hXs hbl hbA I.2.2.2.2.2.2.2.2.1 hn3 dL_law_1509 ?_
    refine lv_i2l (v := ((xs (x4 + 3).toNatClampNeg)).toInt64) hx hb dL_law_1510 rfl ?_
    refine lv_bipush (v := 32) hx hb dL_law_1511 (by decide) ?_
    refine lv_lshl (v := (((xs (x4 + 3).toNatClampNeg)).toInt64) <<< ((32 : Int32).toInt64 &&& 63)) hx hb dL_law_1513 rfl ?_
    refine lv_aload_n hx hb dL_law_1514 rfl (lv_at hl 0 rfl) ?_
    refine lv_iload hx hb dL_law_1515 (lv_at hl 4 rfl) ?_
    refine lv_iconst (v := 4) hx hb dL_law_1517 (by decide) ?_
    refine lv_iadd hx hb dL_law_1518 ?_
    refine va_sld hx hb hXs hbl hbA I.2.2.2.2.2.2.2.2.1 hn4 dL_law_1519 ?_
    refine lv_i2l (v := ((xs (x4 + 4).toNatClampNeg)).toInt64) hx hb dL_law_1520 rfl ?_
    refine lv_ldc2 hx hb hown (hts (.constantLong RL 45 (4294967295)) (by decide +kernel)) dL_law_1521 ?_
    refine lv_land hx hb dL_law_1524 ?_
    refine lv_topl (fun v1524 e1524 => ?_)
    refine lv_lor hx hb dL_law_1525 ?_
    refine lv_topl (fun v1525 e1525 => ?_)
    refine lv_aload_n hx hb dL_law_1526 rfl (lv_at hl 0 rfl) ?_
    refine lv_iload hx hb dL_law_1527 (lv_at hl 4 rfl) ?_
    refine lv_iconst (v := 5) hx hb dL_law_1529 (by decide) ?_
    refine lv_iadd hx hb dL_law_1530 ?_
    refine va_sld hx hb hXs hbl hbA I.2.2.2.2.2.2.2.2.1 hn5 dL_law_1531 ?_
    refine lv_if_eq (tgt := 1539) hx hb dL_law_1532 (by decide) (fun c1532 => ?_) (fun c1532 => ?_)
    · skip
      have d1532 := c1532
      rw [fa_eq] at d1532
      refine lv_iconst (v := 0) hx hb dL_law_1539 (by decide) ?_
      have hI := I.2.2.2.2.2.2.1
      refine lm_i (As := [.int (xs (x4 + 1).toNatClampNeg), .int (xs (x4 + 2).toNatClampNeg), .long v1525, .int (0 : Int32)]) (rest := [.int r1488]) I ⟨hx, hb, hml, hown, hts⟩ (c_X10_even_x l D cy mo a f g r q ((xs (x4 + 1).toNatClampNeg)) ((xs (x4 + 2).toNatClampNeg)) v1525 (0 : Int32) hDM) (cwV 4 hts gL_law_X10_even rfl rfl rfl (by decide +kernel) ⟨Nat.le_of_ble_eq_true rfl, Nat.le_of_ble_eq_true rfl⟩) hK hAM rfl hl.1 rfl (Nat.le_of_ble_eq_true rfl) dL_law_1540 ⟨by omega, by omega⟩ (fun _ _ h9 => by obtain ⟨rfl, h9⟩ := h9; exact hI) (fun r1540 u H locs q1540 I => ?_)
      obtain ⟨-, q1540⟩ := q1540
      obtain ⟨f, g, r, q⟩ := u
      have I : LI D cy s xo mo ou a M G W' f g r q H locs := I
      subst e1525
      subst e1524
      subst e1473
      subst e1472
      have e9 : r1488 = r1540 := evA_eq q1488 q1540
      refine lv_icmp_eq (tgt := 2469) hx hb dL_law_1543 (by decide) (fun c9 => ?_) (fun c9 => absurd e9 c9)
      refine W.widen (k := C + 7) (n := S + 588) (by omega) (by omega) ?_
      exact kk _ _ _ _ _ _ _ _ _ I (lv_sub hl [0, 1, 2, 3, 4] rfl)
    · first | exact absurd c1532 c1480 | exact absurd c1480 c1532
  · skip
    have d1480 := c1480
    rw [fa_eq] at d1480
    refine lv_iconst (v := 1) hx hb dL_law_1483 (by decide) ?_
    refine lv_goto (tgt := 1488) hx hb dL_law_1484 (by decide) ?_
    refine lk_i I (va_runV (g := F0 m 1488 ls ([.int (1 : Int32), .long v1473, .int (xs (x4 + 2).toNatClampNeg), .int (xs (x4 + 1).toNatClampNeg), .ref xo])) (As := [.int (xs (x4 + 1).toNatClampNeg), .int (xs (x4 + 2).toNatClampNeg), .long v1473, .int (1 : Int32)]) (rest := []) ⟨hx, hb, hml, hown, hts⟩ (c_X9_even_x l D cy (AC s mo a) G W' xo ((xs (x4 + 1).toNatClampNeg)) ((xs (x4 + 2).toNatClampNeg)) v1473 (1 : Int32) I.2.2.1 I.2.2.2.1 I.2.2.2.2.1) (cwV 4 hts gL_law_X9_even rfl rfl rfl (by decide +kernel) ⟨Nat.le_of_ble_eq_true rfl, Nat.le_of_ble_eq_true rfl⟩) (l_preV I hK hV) rfl rfl hl.1 rfl (lv_room (Nat.le_of_ble_eq_true rfl)) dL_law_1488 ⟨by omega, by omega⟩) rfl (fun r1488 u H locs q1488 I => ?_)
    obtain ⟨G, W'⟩ := u
    have I : LI D cy s xo mo ou a M G W' f g r q H locs := I
    refine lv_aload_n hx hb dL_law_1491 rfl (lv_at hl 2 rfl) ?_
    refine lv_aload_n hx hb dL_law_1492 rfl (lv_at hl 0 rfl) ?_
    refine lv_iload hx hb dL_law_1493 (lv_at hl 4 rfl) ?_
    refine lv_iconst (v := 1) hx hb dL_law_1495 (by decide) ?_
    refine lv_iadd hx hb dL_law_1496 ?_
    refine va_sld hx hb hXs hbl hbA I.2.2.2.2.2.2.2.2.1 hn1 dL_law_1497 ?_
    refine lv_aload_n hx hb dL_law_1498 rfl (lv_at hl 0 rfl) ?_
    refine lv_iload hx hb dL_law_1499 (lv_at hl 4 rfl) ?_
    refine lv_iconst (v := 2) hx hb dL_law_1501 (by decide) ?_
    refine lv_iadd hx hb dL_law_1502 ?_
    refine va_sld hx hb hXs hbl hbA I.2.2.2.2.2.2.2.2.1 hn2 dL_law_1503 ?_
    refine lv_aload_n hx hb dL_law_1504 rfl (lv_at hl 0 rfl) ?_
    refine lv_iload hx hb dL_law_1505 (lv_at hl 4 rfl) ?_
    refine lv_iconst (v := 3) hx hb dL_law_1507 (by decide) ?_
    refine lv_iadd hx hb dL_law_1508 ?_
    refine va_sld hx hb hXs hbl hbA I.2.2.2.2.2.2.2.2.1 hn3 dL_law_1509 ?_
    refine lv_i2l (v := ((xs (x4 + 3).toNatClampNeg)).toInt64) hx hb dL_law_1510 rfl ?_
    refine lv_bipush (v := 32) hx hb dL_law_1511 (by decide) ?_
    refine lv_lshl (v := (((xs (x4 + 3).toNatClampNeg)).toInt64) <<< ((32 : Int32).toInt64 &&& 63)) hx hb dL_law_1513 rfl ?_
    refine lv_aload_n hx hb dL_law_1514 rfl (lv_at hl 0 rfl) ?_
    refine lv_iload hx hb dL_law_1515 (lv_at hl 4 rfl) ?_
    refine lv_iconst (v := 4) hx hb dL_law_1517 (by decide) ?_
    refine lv_iadd hx hb dL_law_1518 ?_
    refine va_sld hx hb hXs hbl hbA I.2.2.2.2.2.2.2.2.1 hn4 dL_law_1519 ?_
    refine lv_i2l (v := ((xs (x4 + 4).toNatClampNeg)).toInt64) hx hb dL_law_1520 rfl ?_
    refine lv_ldc2 hx hb hown (hts (.constantLong RL 45 (4294967295)) (by decide +kernel)) dL_law_1521 ?_
    refine lv_land hx hb dL_law_1524 ?_
    refine lv_topl (fun v1524 e1524 => ?_)
    refine lv_lor hx hb dL_law_1525 ?_
    refine lv_topl (fun v1525 e1525 => ?_)
    refine lv_aload_n hx hb dL_law_1526 rfl (lv_at hl 0 rfl) ?_
    refine lv_iload hx hb dL_law_1527 (lv_at hl 4 rfl) ?_
    refine lv_iconst (v := 5) hx hb dL_law_1529 (by decide) ?_
    refine lv_iadd hx hb dL_law_1530 ?_
    refine va_sld hx hb hXs hbl hbA I.2.2.2.2.2.2.2.2.1 hn5 dL_law_1531 ?_
    refine lv_if_eq (tgt := 1539) hx hb dL_law_1532 (by decide) (fun c1532 => ?_) (fun c1532 => ?_)
    · first | exact absurd c1532 c1480 | exact absurd c1480 c1532
    · skip
      have d1532 := c1532
      rw [fa_eq] at d1532
      refine lv_iconst (v := 1) hx hb dL_law_1535 (by decide) ?_
      refine lv_goto (tgt := 1540) hx hb dL_law_1536 (by decide) ?_
      have hI := I.2.2.2.2.2.2.1
      refine lm_i (As := [.int (xs (x4 + 1).toNatClampNeg), .int (xs (x4 + 2).toNatClampNeg), .long v1525, .int (1 : Int32)]) (rest := [.int r1488]) I ⟨hx, hb, hml, hown, hts⟩ (c_X10_even_x l D cy mo a f g r q ((xs (x4 + 1).toNatClampNeg)) ((xs (x4 + 2).toNatClampNeg)) v1525 (1 : Int32) hDM) (cwV 4 hts gL_law_X10_even rfl rfl rfl (by decide +kernel) ⟨Nat.le_of_ble_eq_true rfl, Nat.le_of_ble_eq_true rfl⟩) hK hAM rfl hl.1 rfl (Nat.le_of_ble_eq_true rfl) dL_law_1540 ⟨by omega, by omega⟩ (fun _ _ h9 => by obtain ⟨rfl, h9⟩ := h9; exact hI) (fun r1540 u H locs q1540 I => ?_)
      obtain ⟨-, q1540⟩ := q1540
      obtain ⟨f, g, r, q⟩ := u
      have I : LI D cy s xo mo ou a M G W' f g r q H locs := I
      subst e1525
      subst e1524
      subst e1473
      subst e1472
      have e9 : r1488 = r1540 := evA_eq q1488 q1540
      refine lv_icmp_eq (tgt := 2469) hx hb dL_law_1543 (by decide) (fun c9 => ?_) (fun c9 => absurd e9 c9)
      refine W.widen (k := C + 7) (n := S + 588) (by omega) (by omega) ?_
      exact kk _ _ _ _ _ _ _ _ _ I (lv_sub hl [0, 1, 2, 3, 4] rfl)
set_option maxHeartbeats 4000000 in
set_option maxRecDepth 100000 in
theorem lcase_21 {p : Program} {l : Launch} {e : Env} {s : State} {m : MethodId} {below : List Frame} {meth : Method} {c : Code} {b L : Nat} {xs : Nat → Int32} {D : va_G} {cy : Nat → ClassId} {xo mo ou : Nat} {a : Nat → Nat} {M : Option Nat} {G : cG} {W' : va_W} {f : Nat → Int32} {g : Nat → Int64} {r : Nat → Nat → Int32} {q : Nat → Nat → Int64} {H : Heap} {locs : List Loc} {ls : Array Slot} {Q : State → Prop} {C S : Nat} (X : LX p l s m c b L xs D cy mo a) (I : LI D cy s xo mo ou a M G W' f g r q H locs) (hF : FR cy xo W' f r) {x4 : Int32} (h4 : 0 ≤ x4.toInt ∧ x4.toInt + 8 ≤ (L : Int) ∧ L ≤ 4096) (hC : C + 7 ≤ 600002) (hSl : S + 53273 ≤ 7302232) (hl : lv_has ls 8 [(0, .ref b), (1, .ref xo), (2, .ref mo), (3, .ref ou), (4, .int x4)]) (kk : ∀ (G : cG) (W' : va_W) (f : Nat → Int32) (g : Nat → Int64) (r : Nat → Nat → Int32) (q : Nat → Nat → Int64) (H : Heap) (locs : List Loc) (ls : Array Slot), LI D cy s xo mo ou a M G W' f g r q H locs → lv_has ls 8 [(0, .ref b), (1, .ref xo), (2, .ref mo), (3, .ref ou), (4, .int x4)] → W p l e room_1 s m #[Value.ref b] below meth c H locs (C + 7) (S + 588) Q (F0 m 2469 ls [])) : W p l e room_1 s m #[Value.ref b] below meth c H locs C S Q (F0 m 1548 ls []) := by
  obtain ⟨⟨hx, hb, hml, hown, hts⟩, ⟨hXs, hbl⟩, ⟨hK, hV, hZ, hXT⟩, hst, hDM, hAM⟩ := id X
  have h1 : f 1 = 0 := hF.1 1
  have h10 : (f 1).toInt = 0 := by rw [h1]; rfl
  have h23 : f 23 = 0 := hF.1 23
  have h230 : (f 23).toInt = 0 := by rw [h23]; rfl
  have h29 : ∀ i, r 29 i = 0 := hF.2.1
  have hbA : ¬ AL s b := Nat.not_le.mpr hbl
  have hRc : room_1.cells = 600002 := rfl
  have hRs : room_1.slots = 7302232 := rfl
  have hn1 : vp_in (x4 + 1) L := l_in (c := 1) h4 rfl (by decide)
  have hn2 : vp_in (x4 + 2) L := l_in (c := 2) h4 rfl (by decide)
  have hn3 : vp_in (x4 + 3) L := l_in (c := 3) h4 rfl (by decide)
  have hn4 : vp_in (x4 + 4) L := l_in (c := 4) h4 rfl (by decide)
  have hn5 : vp_in (x4 + 5) L := l_in (c := 5) h4 rfl (by decide)
  have hn6 : vp_in (x4 + 6) L := l_in (c := 6) h4 rfl (by decide)
  have hn7 : vp_in (x4 + 7) L := l_in (c := 7) h4 rfl (by decide)
  refine lv_aload_n hx hb dL_law_1548 rfl (lv_at hl 1 rfl) ?_
  refine lv_aload_n hx hb dL_law_1549 rfl (lv_at hl 0 rfl) ?_
  refine lv_iload hx hb dL_law_1550 (lv_at hl 4 rfl) ?_
  refine lv_iconst (v := 1) hx hb dL_law_1552 (by decide) ?_
  refine lv_iadd hx hb dL_law_1553 ?_
  refine va_sld hx hb hXs hbl hbA I.2.2.2.2.2.2.2.2.1 hn1 dL_law_1554 ?_
  refine lv_aload_n hx hb dL_law_1555 rfl (lv_at hl 0 rfl) ?_
  refine lv_iload hx hb dL_law_1556 (lv_at hl 4 rfl) ?_
  refine lv_iconst (v := 2) hx hb dL_law_1558 (by decide) ?_
  refine lv_iadd hx hb dL_law_1559 ?_
  refine va_sld hx hb hXs hbl hbA I.2.2.2.2.2.2.2.2.1 hn2 dL_law_1560 ?_
  refine lv_aload_n hx hb dL_law_1561 rfl (lv_at hl 0 rfl) ?_
  refine lv_iload hx hb dL_law_1562 (lv_at hl 4 rfl) ?_
  refine lv_iconst (v := 3) hx hb dL_law_1564 (by decide) ?_
  refine lv_iadd hx hb dL_law_1565 ?_
  refine va_sld hx hb hXs hbl hbA I.2.2.2.2.2.2.2.2.1 hn3 dL_law_1566 ?_
  refine lv_i2l (v := ((xs (x4 + 3).toNatClampNeg)).toInt64) hx hb dL_law_1567 rfl ?_
  refine lv_bipush (v := 32) hx hb dL_law_1568 (by decide) ?_
  refine lv_lshl (v := (((xs (x4 + 3).toNatClampNeg)).toInt64) <<< ((32 : Int32).toInt64 &&& 63)) hx hb dL_law_1570 rfl ?_
  refine lv_aload_n hx hb dL_law_1571 rfl (lv_at hl 0 rfl) ?_
  refine lv_iload hx hb dL_law_1572 (lv_at hl 4 rfl) ?_
  refine lv_iconst (v := 4) hx hb dL_law_1574 (by decide) ?_
  refine lv_iadd hx hb dL_law_1575 ?_
  refine va_sld hx hb hXs hbl hbA I.2.2.2.2.2.2.2.2.1 hn4 dL_law_1576 ?_
  refine lv_i2l (v := ((xs (x4 + 4).toNatClampNeg)).toInt64) hx hb dL_law_1577 rfl ?_
  refine lv_ldc2 hx hb hown (hts (.constantLong RL 45 (4294967295)) (by decide +kernel)) dL_law_1578 ?_
  refine lv_land hx hb dL_law_1581 ?_
  refine lv_topl (fun v1581 e1581 => ?_)
  refine lv_lor hx hb dL_law_1582 ?_
  refine lv_topl (fun v1582 e1582 => ?_)
  refine lv_aload_n hx hb dL_law_1583 rfl (lv_at hl 0 rfl) ?_
  refine lv_iload hx hb dL_law_1584 (lv_at hl 4 rfl) ?_
  refine lv_iconst (v := 5) hx hb dL_law_1586 (by decide) ?_
  refine lv_iadd hx hb dL_law_1587 ?_
  refine va_sld hx hb hXs hbl hbA I.2.2.2.2.2.2.2.2.1 hn5 dL_law_1588 ?_
  refine lk_l I (va_runV (g := F0 m 1589 ls ([.int (xs (x4 + 5).toNatClampNeg), .long v1582, .int (xs (x4 + 2).toNatClampNeg), .int (xs (x4 + 1).toNatClampNeg), .ref xo])) (As := [.int (xs (x4 + 1).toNatClampNeg), .int (xs (x4 + 2).toNatClampNeg), .long v1582, .int (xs (x4 + 5).toNatClampNeg)]) (rest := []) ⟨hx, hb, hml, hown, hts⟩ (c_X9_turned_x l D cy (AC s mo a) G W' xo ((xs (x4 + 1).toNatClampNeg)) ((xs (x4 + 2).toNatClampNeg)) v1582 ((xs (x4 + 5).toNatClampNeg)) I.2.2.1 I.2.2.2.1 I.2.2.2.2.1) (cwV 4 hts gL_law_X9_turned rfl rfl rfl (by decide +kernel) ⟨Nat.le_of_ble_eq_true rfl, Nat.le_of_ble_eq_true rfl⟩) (l_preV I hK hV) rfl rfl hl.1 rfl (lv_room (Nat.le_of_ble_eq_true rfl)) dL_law_1589 ⟨by omega, by omega⟩) rfl (fun r1589 u H locs q1589 I => ?_)
  obtain ⟨G, W'⟩ := u
  have I : LI D cy s xo mo ou a M G W' f g r q H locs := I
  refine lv_aload_n hx hb dL_law_1592 rfl (lv_at hl 2 rfl) ?_
  refine lv_aload_n hx hb dL_law_1593 rfl (lv_at hl 0 rfl) ?_
  refine lv_iload hx hb dL_law_1594 (lv_at hl 4 rfl) ?_
  refine lv_iconst (v := 1) hx hb dL_law_1596 (by decide) ?_
  refine lv_iadd hx hb dL_law_1597 ?_
  refine va_sld hx hb hXs hbl hbA I.2.2.2.2.2.2.2.2.1 hn1 dL_law_1598 ?_
  refine lv_aload_n hx hb dL_law_1599 rfl (lv_at hl 0 rfl) ?_
  refine lv_iload hx hb dL_law_1600 (lv_at hl 4 rfl) ?_
  refine lv_iconst (v := 2) hx hb dL_law_1602 (by decide) ?_
  refine lv_iadd hx hb dL_law_1603 ?_
  refine va_sld hx hb hXs hbl hbA I.2.2.2.2.2.2.2.2.1 hn2 dL_law_1604 ?_
  refine lv_aload_n hx hb dL_law_1605 rfl (lv_at hl 0 rfl) ?_
  refine lv_iload hx hb dL_law_1606 (lv_at hl 4 rfl) ?_
  refine lv_iconst (v := 3) hx hb dL_law_1608 (by decide) ?_
  refine lv_iadd hx hb dL_law_1609 ?_
  refine va_sld hx hb hXs hbl hbA I.2.2.2.2.2.2.2.2.1 hn3 dL_law_1610 ?_
  refine lv_i2l (v := ((xs (x4 + 3).toNatClampNeg)).toInt64) hx hb dL_law_1611 rfl ?_
  refine lv_bipush (v := 32) hx hb dL_law_1612 (by decide) ?_
  refine lv_lshl (v := (((xs (x4 + 3).toNatClampNeg)).toInt64) <<< ((32 : Int32).toInt64 &&& 63)) hx hb dL_law_1614 rfl ?_
  refine lv_aload_n hx hb dL_law_1615 rfl (lv_at hl 0 rfl) ?_
  refine lv_iload hx hb dL_law_1616 (lv_at hl 4 rfl) ?_
  refine lv_iconst (v := 4) hx hb dL_law_1618 (by decide) ?_
  refine lv_iadd hx hb dL_law_1619 ?_
  refine va_sld hx hb hXs hbl hbA I.2.2.2.2.2.2.2.2.1 hn4 dL_law_1620 ?_
  refine lv_i2l (v := ((xs (x4 + 4).toNatClampNeg)).toInt64) hx hb dL_law_1621 rfl ?_
  refine lv_ldc2 hx hb hown (hts (.constantLong RL 45 (4294967295)) (by decide +kernel)) dL_law_1622 ?_
  refine lv_land hx hb dL_law_1625 ?_
  refine lv_topl (fun v1625 e1625 => ?_)
  refine lv_lor hx hb dL_law_1626 ?_
  refine lv_topl (fun v1626 e1626 => ?_)
  refine lv_aload_n hx hb dL_law_1627 rfl (lv_at hl 0 rfl) ?_
  refine lv_iload hx hb dL_law_1628 (lv_at hl 4 rfl) ?_
  refine lv_iconst (v := 5) hx hb dL_law_1630 (by decide) ?_
  refine lv_iadd hx hb dL_law_1631 ?_
  refine va_sld hx hb hXs hbl hbA I.2.2.2.2.2.2.2.2.1 hn5 dL_law_1632 ?_
  have hI := I.2.2.2.2.2.2.1
  refine lm_l (As := [.int (xs (x4 + 1).toNatClampNeg), .int (xs (x4 + 2).toNatClampNeg), .long v1626, .int (xs (x4 + 5).toNatClampNeg)]) (rest := [.long r1589]) I ⟨hx, hb, hml, hown, hts⟩ (c_X10_turned_x l D cy mo a f g r q ((xs (x4 + 1).toNatClampNeg)) ((xs (x4 + 2).toNatClampNeg)) v1626 ((xs (x4 + 5).toNatClampNeg)) hDM) (cwV 4 hts gL_law_X10_turned rfl rfl rfl (by decide +kernel) ⟨Nat.le_of_ble_eq_true rfl, Nat.le_of_ble_eq_true rfl⟩) hK hAM rfl hl.1 rfl (Nat.le_of_ble_eq_true rfl) dL_law_1633 ⟨by omega, by omega⟩ (fun _ _ h9 => by obtain ⟨rfl, h9⟩ := h9; exact hI) (fun r1633 u H locs q1633 I => ?_)
  obtain ⟨-, q1633⟩ := q1633
  obtain ⟨f, g, r, q⟩ := u
  have I : LI D cy s xo mo ou a M G W' f g r q H locs := I
  refine W.lcmp hx hb dL_law_1636 ?_
  subst e1626
  subst e1625
  subst e1582
  subst e1581
  have e9 : r1589 = r1633 := tA_eq q1589 q1633
  refine lv_if_eq (tgt := 2469) hx hb dL_law_1637 (by decide) (fun c9 => ?_) (fun c9 => absurd ((lg_cmp_eq _ _).mpr e9) c9)
  refine W.widen (k := C + 7) (n := S + 588) (by omega) (by omega) ?_
  exact kk _ _ _ _ _ _ _ _ _ I (lv_sub hl [0, 1, 2, 3, 4] rfl)
set_option maxHeartbeats 4000000 in
set_option maxRecDepth 100000 in
theorem lcase_22 {p : Program} {l : Launch} {e : Env} {s : State} {m : MethodId} {below : List Frame} {meth : Method} {c : Code} {b L : Nat} {xs : Nat → Int32} {D : va_G} {cy : Nat → ClassId} {xo mo ou : Nat} {a : Nat → Nat} {M : Option Nat} {G : cG} {W' : va_W} {f : Nat → Int32} {g : Nat → Int64} {r : Nat → Nat → Int32} {q : Nat → Nat → Int64} {H : Heap} {locs : List Loc} {ls : Array Slot} {Q : State → Prop} {C S : Nat} (X : LX p l s m c b L xs D cy mo a) (I : LI D cy s xo mo ou a M G W' f g r q H locs) (hF : FR cy xo W' f r) {x4 : Int32} (h4 : 0 ≤ x4.toInt ∧ x4.toInt + 8 ≤ (L : Int) ∧ L ≤ 4096) (hC : C + 7 ≤ 600002) (hSl : S + 53273 ≤ 7302232) (hl : lv_has ls 8 [(0, .ref b), (1, .ref xo), (2, .ref mo), (3, .ref ou), (4, .int x4)]) (kk : ∀ (G : cG) (W' : va_W) (f : Nat → Int32) (g : Nat → Int64) (r : Nat → Nat → Int32) (q : Nat → Nat → Int64) (H : Heap) (locs : List Loc) (ls : Array Slot), LI D cy s xo mo ou a M G W' f g r q H locs → lv_has ls 8 [(0, .ref b), (1, .ref xo), (2, .ref mo), (3, .ref ou), (4, .int x4)] → W p l e room_1 s m #[Value.ref b] below meth c H locs (C + 7) (S + 588) Q (F0 m 2469 ls [])) : W p l e room_1 s m #[Value.ref b] below meth c H locs C S Q (F0 m 1642 ls []) := by
  obtain ⟨⟨hx, hb, hml, hown, hts⟩, ⟨hXs, hbl⟩, ⟨hK, hV, hZ, hXT⟩, hst, hDM, hAM⟩ := id X
  have h1 : f 1 = 0 := hF.1 1
  have h10 : (f 1).toInt = 0 := by rw [h1]; rfl
  have h23 : f 23 = 0 := hF.1 23
  have h230 : (f 23).toInt = 0 := by rw [h23]; rfl
  have h29 : ∀ i, r 29 i = 0 := hF.2.1
  have hbA : ¬ AL s b := Nat.not_le.mpr hbl
  have hRc : room_1.cells = 600002 := rfl
  have hRs : room_1.slots = 7302232 := rfl
  have hn1 : vp_in (x4 + 1) L := l_in (c := 1) h4 rfl (by decide)
  have hn2 : vp_in (x4 + 2) L := l_in (c := 2) h4 rfl (by decide)
  have hn3 : vp_in (x4 + 3) L := l_in (c := 3) h4 rfl (by decide)
  have hn4 : vp_in (x4 + 4) L := l_in (c := 4) h4 rfl (by decide)
  have hn5 : vp_in (x4 + 5) L := l_in (c := 5) h4 rfl (by decide)
  have hn6 : vp_in (x4 + 6) L := l_in (c := 6) h4 rfl (by decide)
  have hn7 : vp_in (x4 + 7) L := l_in (c := 7) h4 rfl (by decide)
  refine lv_aload_n hx hb dL_law_1642 rfl (lv_at hl 1 rfl) ?_
  refine lv_aload_n hx hb dL_law_1643 rfl (lv_at hl 0 rfl) ?_
  refine lv_iload hx hb dL_law_1644 (lv_at hl 4 rfl) ?_
  refine lv_iconst (v := 1) hx hb dL_law_1646 (by decide) ?_
  refine lv_iadd hx hb dL_law_1647 ?_
  refine va_sld hx hb hXs hbl hbA I.2.2.2.2.2.2.2.2.1 hn1 dL_law_1648 ?_
  refine lv_aload_n hx hb dL_law_1649 rfl (lv_at hl 0 rfl) ?_
  refine lv_iload hx hb dL_law_1650 (lv_at hl 4 rfl) ?_
  refine lv_iconst (v := 2) hx hb dL_law_1652 (by decide) ?_
  refine lv_iadd hx hb dL_law_1653 ?_
  refine va_sld hx hb hXs hbl hbA I.2.2.2.2.2.2.2.2.1 hn2 dL_law_1654 ?_
  refine lv_aload_n hx hb dL_law_1655 rfl (lv_at hl 0 rfl) ?_
  refine lv_iload hx hb dL_law_1656 (lv_at hl 4 rfl) ?_
  refine lv_iconst (v := 3) hx hb dL_law_1658 (by decide) ?_
  refine lv_iadd hx hb dL_law_1659 ?_
  refine va_sld hx hb hXs hbl hbA I.2.2.2.2.2.2.2.2.1 hn3 dL_law_1660 ?_
  refine lv_i2l (v := ((xs (x4 + 3).toNatClampNeg)).toInt64) hx hb dL_law_1661 rfl ?_
  refine lv_bipush (v := 32) hx hb dL_law_1662 (by decide) ?_
  refine lv_lshl (v := (((xs (x4 + 3).toNatClampNeg)).toInt64) <<< ((32 : Int32).toInt64 &&& 63)) hx hb dL_law_1664 rfl ?_
  refine lv_aload_n hx hb dL_law_1665 rfl (lv_at hl 0 rfl) ?_
  refine lv_iload hx hb dL_law_1666 (lv_at hl 4 rfl) ?_
  refine lv_iconst (v := 4) hx hb dL_law_1668 (by decide) ?_
  refine lv_iadd hx hb dL_law_1669 ?_
  refine va_sld hx hb hXs hbl hbA I.2.2.2.2.2.2.2.2.1 hn4 dL_law_1670 ?_
  refine lv_i2l (v := ((xs (x4 + 4).toNatClampNeg)).toInt64) hx hb dL_law_1671 rfl ?_
  refine lv_ldc2 hx hb hown (hts (.constantLong RL 45 (4294967295)) (by decide +kernel)) dL_law_1672 ?_
  refine lv_land hx hb dL_law_1675 ?_
  refine lv_topl (fun v1675 e1675 => ?_)
  refine lv_lor hx hb dL_law_1676 ?_
  refine lv_topl (fun v1676 e1676 => ?_)
  refine lv_aload_n hx hb dL_law_1677 rfl (lv_at hl 0 rfl) ?_
  refine lv_iload hx hb dL_law_1678 (lv_at hl 4 rfl) ?_
  refine lv_iconst (v := 5) hx hb dL_law_1680 (by decide) ?_
  refine lv_iadd hx hb dL_law_1681 ?_
  refine va_sld hx hb hXs hbl hbA I.2.2.2.2.2.2.2.2.1 hn5 dL_law_1682 ?_
  refine lv_i2l (v := ((xs (x4 + 5).toNatClampNeg)).toInt64) hx hb dL_law_1683 rfl ?_
  refine lv_bipush (v := 32) hx hb dL_law_1684 (by decide) ?_
  refine lv_lshl (v := (((xs (x4 + 5).toNatClampNeg)).toInt64) <<< ((32 : Int32).toInt64 &&& 63)) hx hb dL_law_1686 rfl ?_
  refine lv_aload_n hx hb dL_law_1687 rfl (lv_at hl 0 rfl) ?_
  refine lv_iload hx hb dL_law_1688 (lv_at hl 4 rfl) ?_
  refine lv_bipush (v := 6) hx hb dL_law_1690 (by decide) ?_
  refine lv_iadd hx hb dL_law_1692 ?_
  refine va_sld hx hb hXs hbl hbA I.2.2.2.2.2.2.2.2.1 hn6 dL_law_1693 ?_
  refine lv_i2l (v := ((xs (x4 + 6).toNatClampNeg)).toInt64) hx hb dL_law_1694 rfl ?_
  refine lv_ldc2 hx hb hown (hts (.constantLong RL 45 (4294967295)) (by decide +kernel)) dL_law_1695 ?_
  refine lv_land hx hb dL_law_1698 ?_
  refine lv_topl (fun v1698 e1698 => ?_)
  refine lv_lor hx hb dL_law_1699 ?_
  refine lv_topl (fun v1699 e1699 => ?_)
  refine lv_aload_n hx hb dL_law_1700 rfl (lv_at hl 0 rfl) ?_
  refine lv_iload hx hb dL_law_1701 (lv_at hl 4 rfl) ?_
  refine lv_bipush (v := 7) hx hb dL_law_1703 (by decide) ?_
  refine lv_iadd hx hb dL_law_1705 ?_
  refine va_sld hx hb hXs hbl hbA I.2.2.2.2.2.2.2.2.1 hn7 dL_law_1706 ?_
  refine lk_i I (va_runV (g := F0 m 1707 ls ([.int (xs (x4 + 7).toNatClampNeg), .long v1699, .long v1676, .int (xs (x4 + 2).toNatClampNeg), .int (xs (x4 + 1).toNatClampNeg), .ref xo])) (As := [.int (xs (x4 + 1).toNatClampNeg), .int (xs (x4 + 2).toNatClampNeg), .long v1676, .long v1699, .int (xs (x4 + 7).toNatClampNeg)]) (rest := []) ⟨hx, hb, hml, hown, hts⟩ (c_X9_parts_x l D cy (AC s mo a) G W' xo ((xs (x4 + 1).toNatClampNeg)) ((xs (x4 + 2).toNatClampNeg)) v1676 v1699 ((xs (x4 + 7).toNatClampNeg)) I.2.2.1 I.2.2.2.1 I.2.2.2.2.1) (cwV 5 hts gL_law_X9_parts rfl rfl rfl (by decide +kernel) ⟨Nat.le_of_ble_eq_true rfl, Nat.le_of_ble_eq_true rfl⟩) (l_preV I hK hV) rfl rfl hl.1 rfl (lv_room (Nat.le_of_ble_eq_true rfl)) dL_law_1707 ⟨by omega, by omega⟩) rfl (fun r1707 u H locs q1707 I => ?_)
  obtain ⟨G, W'⟩ := u
  have I : LI D cy s xo mo ou a M G W' f g r q H locs := I
  refine lv_aload_n hx hb dL_law_1710 rfl (lv_at hl 2 rfl) ?_
  refine lv_aload_n hx hb dL_law_1711 rfl (lv_at hl 0 rfl) ?_
  refine lv_iload hx hb dL_law_1712 (lv_at hl 4 rfl) ?_
  refine lv_iconst (v := 1) hx hb dL_law_1714 (by decide) ?_
  refine lv_iadd hx hb dL_law_1715 ?_
  refine va_sld hx hb hXs hbl hbA I.2.2.2.2.2.2.2.2.1 hn1 dL_law_1716 ?_
  refine lv_aload_n hx hb dL_law_1717 rfl (lv_at hl 0 rfl) ?_
  refine lv_iload hx hb dL_law_1718 (lv_at hl 4 rfl) ?_
  refine lv_iconst (v := 2) hx hb dL_law_1720 (by decide) ?_
  refine lv_iadd hx hb dL_law_1721 ?_
  refine va_sld hx hb hXs hbl hbA I.2.2.2.2.2.2.2.2.1 hn2 dL_law_1722 ?_
  refine lv_aload_n hx hb dL_law_1723 rfl (lv_at hl 0 rfl) ?_
  refine lv_iload hx hb dL_law_1724 (lv_at hl 4 rfl) ?_
  refine lv_iconst (v := 3) hx hb dL_law_1726 (by decide) ?_
  refine lv_iadd hx hb dL_law_1727 ?_
  refine va_sld hx hb hXs hbl hbA I.2.2.2.2.2.2.2.2.1 hn3 dL_law_1728 ?_
  refine lv_i2l (v := ((xs (x4 + 3).toNatClampNeg)).toInt64) hx hb dL_law_1729 rfl ?_
  refine lv_bipush (v := 32) hx hb dL_law_1730 (by decide) ?_
  refine lv_lshl (v := (((xs (x4 + 3).toNatClampNeg)).toInt64) <<< ((32 : Int32).toInt64 &&& 63)) hx hb dL_law_1732 rfl ?_
  refine lv_aload_n hx hb dL_law_1733 rfl (lv_at hl 0 rfl) ?_
  refine lv_iload hx hb dL_law_1734 (lv_at hl 4 rfl) ?_
  refine lv_iconst (v := 4) hx hb dL_law_1736 (by decide) ?_
  refine lv_iadd hx hb dL_law_1737 ?_
  refine va_sld hx hb hXs hbl hbA I.2.2.2.2.2.2.2.2.1 hn4 dL_law_1738 ?_
  refine lv_i2l (v := ((xs (x4 + 4).toNatClampNeg)).toInt64) hx hb dL_law_1739 rfl ?_
  refine lv_ldc2 hx hb hown (hts (.constantLong RL 45 (4294967295)) (by decide +kernel)) dL_law_1740 ?_
  refine lv_land hx hb dL_law_1743 ?_
  refine lv_topl (fun v1743 e1743 => ?_)
  refine lv_lor hx hb dL_law_1744 ?_
  refine lv_topl (fun v1744 e1744 => ?_)
  refine lv_aload_n hx hb dL_law_1745 rfl (lv_at hl 0 rfl) ?_
  refine lv_iload hx hb dL_law_1746 (lv_at hl 4 rfl) ?_
  refine lv_iconst (v := 5) hx hb dL_law_1748 (by decide) ?_
  refine lv_iadd hx hb dL_law_1749 ?_
  refine va_sld hx hb hXs hbl hbA I.2.2.2.2.2.2.2.2.1 hn5 dL_law_1750 ?_
  refine lv_i2l (v := ((xs (x4 + 5).toNatClampNeg)).toInt64) hx hb dL_law_1751 rfl ?_
  refine lv_bipush (v := 32) hx hb dL_law_1752 (by decide) ?_
  refine lv_lshl (v := (((xs (x4 + 5).toNatClampNeg)).toInt64) <<< ((32 : Int32).toInt64 &&& 63)) hx hb dL_law_1754 rfl ?_
  refine lv_aload_n hx hb dL_law_1755 rfl (lv_at hl 0 rfl) ?_
  refine lv_iload hx hb dL_law_1756 (lv_at hl 4 rfl) ?_
  refine lv_bipush (v := 6) hx hb dL_law_1758 (by decide) ?_
  refine lv_iadd hx hb dL_law_1760 ?_
  refine va_sld hx hb hXs hbl hbA I.2.2.2.2.2.2.2.2.1 hn6 dL_law_1761 ?_
  refine lv_i2l (v := ((xs (x4 + 6).toNatClampNeg)).toInt64) hx hb dL_law_1762 rfl ?_
  refine lv_ldc2 hx hb hown (hts (.constantLong RL 45 (4294967295)) (by decide +kernel)) dL_law_1763 ?_
  refine lv_land hx hb dL_law_1766 ?_
  refine lv_topl (fun v1766 e1766 => ?_)
  refine lv_lor hx hb dL_law_1767 ?_
  refine lv_topl (fun v1767 e1767 => ?_)
  refine lv_aload_n hx hb dL_law_1768 rfl (lv_at hl 0 rfl) ?_
  refine lv_iload hx hb dL_law_1769 (lv_at hl 4 rfl) ?_
  refine lv_bipush (v := 7) hx hb dL_law_1771 (by decide) ?_
  refine lv_iadd hx hb dL_law_1773 ?_
  refine va_sld hx hb hXs hbl hbA I.2.2.2.2.2.2.2.2.1 hn7 dL_law_1774 ?_
  have hI := I.2.2.2.2.2.2.1
  refine lm_i (As := [.int (xs (x4 + 1).toNatClampNeg), .int (xs (x4 + 2).toNatClampNeg), .long v1744, .long v1767, .int (xs (x4 + 7).toNatClampNeg)]) (rest := [.int r1707]) I ⟨hx, hb, hml, hown, hts⟩ (c_X10_parts_x l D cy mo a f g r q ((xs (x4 + 1).toNatClampNeg)) ((xs (x4 + 2).toNatClampNeg)) v1744 v1767 ((xs (x4 + 7).toNatClampNeg)) hDM) (cwV 5 hts gL_law_X10_parts rfl rfl rfl (by decide +kernel) ⟨Nat.le_of_ble_eq_true rfl, Nat.le_of_ble_eq_true rfl⟩) hK hAM rfl hl.1 rfl (Nat.le_of_ble_eq_true rfl) dL_law_1775 ⟨by omega, by omega⟩ (fun _ _ h9 => by obtain ⟨rfl, h9⟩ := h9; exact hI) (fun r1775 u H locs q1775 I => ?_)
  obtain ⟨-, q1775⟩ := q1775
  obtain ⟨f, g, r, q⟩ := u
  have I : LI D cy s xo mo ou a M G W' f g r q H locs := I
  subst e1767
  subst e1766
  subst e1744
  subst e1743
  subst e1699
  subst e1698
  subst e1676
  subst e1675
  have e9 : r1707 = r1775 := paA_eq q1707 q1775
  refine lv_icmp_eq (tgt := 2469) hx hb dL_law_1778 (by decide) (fun c9 => ?_) (fun c9 => absurd e9 c9)
  refine W.widen (k := C + 7) (n := S + 588) (by omega) (by omega) ?_
  exact kk _ _ _ _ _ _ _ _ _ I (lv_sub hl [0, 1, 2, 3, 4] rfl)
set_option maxHeartbeats 4000000 in
set_option maxRecDepth 100000 in
theorem lcase_23 {p : Program} {l : Launch} {e : Env} {s : State} {m : MethodId} {below : List Frame} {meth : Method} {c : Code} {b L : Nat} {xs : Nat → Int32} {D : va_G} {cy : Nat → ClassId} {xo mo ou : Nat} {a : Nat → Nat} {M : Option Nat} {G : cG} {W' : va_W} {f : Nat → Int32} {g : Nat → Int64} {r : Nat → Nat → Int32} {q : Nat → Nat → Int64} {H : Heap} {locs : List Loc} {ls : Array Slot} {Q : State → Prop} {C S : Nat} (X : LX p l s m c b L xs D cy mo a) (I : LI D cy s xo mo ou a M G W' f g r q H locs) (hF : FR cy xo W' f r) {x4 : Int32} (h4 : 0 ≤ x4.toInt ∧ x4.toInt + 8 ≤ (L : Int) ∧ L ≤ 4096) (hC : C + 7 ≤ 600002) (hSl : S + 53273 ≤ 7302232) (hl : lv_has ls 8 [(0, .ref b), (1, .ref xo), (2, .ref mo), (3, .ref ou), (4, .int x4)]) (kk : ∀ (G : cG) (W' : va_W) (f : Nat → Int32) (g : Nat → Int64) (r : Nat → Nat → Int32) (q : Nat → Nat → Int64) (H : Heap) (locs : List Loc) (ls : Array Slot), LI D cy s xo mo ou a M G W' f g r q H locs → lv_has ls 8 [(0, .ref b), (1, .ref xo), (2, .ref mo), (3, .ref ou), (4, .int x4)] → W p l e room_1 s m #[Value.ref b] below meth c H locs (C + 7) (S + 588) Q (F0 m 2469 ls [])) : W p l e room_1 s m #[Value.ref b] below meth c H locs C S Q (F0 m 1783 ls []) := by
  obtain ⟨⟨hx, hb, hml, hown, hts⟩, ⟨hXs, hbl⟩, ⟨hK, hV, hZ, hXT⟩, hst, hDM, hAM⟩ := id X
  have h1 : f 1 = 0 := hF.1 1
  have h10 : (f 1).toInt = 0 := by rw [h1]; rfl
  have h23 : f 23 = 0 := hF.1 23
  have h230 : (f 23).toInt = 0 := by rw [h23]; rfl
  have h29 : ∀ i, r 29 i = 0 := hF.2.1
  have hbA : ¬ AL s b := Nat.not_le.mpr hbl
  have hRc : room_1.cells = 600002 := rfl
  have hRs : room_1.slots = 7302232 := rfl
  have hn1 : vp_in (x4 + 1) L := l_in (c := 1) h4 rfl (by decide)
  have hn2 : vp_in (x4 + 2) L := l_in (c := 2) h4 rfl (by decide)
  have hn3 : vp_in (x4 + 3) L := l_in (c := 3) h4 rfl (by decide)
  have hn4 : vp_in (x4 + 4) L := l_in (c := 4) h4 rfl (by decide)
  have hn5 : vp_in (x4 + 5) L := l_in (c := 5) h4 rfl (by decide)
  have hn6 : vp_in (x4 + 6) L := l_in (c := 6) h4 rfl (by decide)
  have hn7 : vp_in (x4 + 7) L := l_in (c := 7) h4 rfl (by decide)
  refine lv_aload_n hx hb dL_law_1783 rfl (lv_at hl 1 rfl) ?_
  refine lv_aload_n hx hb dL_law_1784 rfl (lv_at hl 0 rfl) ?_
  refine lv_iload hx hb dL_law_1785 (lv_at hl 4 rfl) ?_
  refine lv_iconst (v := 1) hx hb dL_law_1787 (by decide) ?_
  refine lv_iadd hx hb dL_law_1788 ?_
  refine va_sld hx hb hXs hbl hbA I.2.2.2.2.2.2.2.2.1 hn1 dL_law_1789 ?_
  refine lv_aload_n hx hb dL_law_1790 rfl (lv_at hl 0 rfl) ?_
  refine lv_iload hx hb dL_law_1791 (lv_at hl 4 rfl) ?_
  refine lv_iconst (v := 2) hx hb dL_law_1793 (by decide) ?_
  refine lv_iadd hx hb dL_law_1794 ?_
  refine va_sld hx hb hXs hbl hbA I.2.2.2.2.2.2.2.2.1 hn2 dL_law_1795 ?_
  refine lv_aload_n hx hb dL_law_1796 rfl (lv_at hl 0 rfl) ?_
  refine lv_iload hx hb dL_law_1797 (lv_at hl 4 rfl) ?_
  refine lv_iconst (v := 3) hx hb dL_law_1799 (by decide) ?_
  refine lv_iadd hx hb dL_law_1800 ?_
  refine va_sld hx hb hXs hbl hbA I.2.2.2.2.2.2.2.2.1 hn3 dL_law_1801 ?_
  refine lv_i2l (v := ((xs (x4 + 3).toNatClampNeg)).toInt64) hx hb dL_law_1802 rfl ?_
  refine lv_bipush (v := 32) hx hb dL_law_1803 (by decide) ?_
  refine lv_lshl (v := (((xs (x4 + 3).toNatClampNeg)).toInt64) <<< ((32 : Int32).toInt64 &&& 63)) hx hb dL_law_1805 rfl ?_
  refine lv_aload_n hx hb dL_law_1806 rfl (lv_at hl 0 rfl) ?_
  refine lv_iload hx hb dL_law_1807 (lv_at hl 4 rfl) ?_
  refine lv_iconst (v := 4) hx hb dL_law_1809 (by decide) ?_
  refine lv_iadd hx hb dL_law_1810 ?_
  refine va_sld hx hb hXs hbl hbA I.2.2.2.2.2.2.2.2.1 hn4 dL_law_1811 ?_
  refine lv_i2l (v := ((xs (x4 + 4).toNatClampNeg)).toInt64) hx hb dL_law_1812 rfl ?_
  refine lv_ldc2 hx hb hown (hts (.constantLong RL 45 (4294967295)) (by decide +kernel)) dL_law_1813 ?_
  refine lv_land hx hb dL_law_1816 ?_
  refine lv_topl (fun v1816 e1816 => ?_)
  refine lv_lor hx hb dL_law_1817 ?_
  refine lv_topl (fun v1817 e1817 => ?_)
  obtain ⟨bs, js, sh, wk, ll, jc, lc, lb, hM⟩ := I.2.2.2.2.2.2.2.1
  obtain ⟨rfl, rfl, rfl, hSh, fl, hfl⟩ := hF.at I.2.2.1 hM
  refine lk3_s I (va_runV (g := F0 m 1818 ls ([.long v1817, .int (xs (x4 + 2).toNatClampNeg), .int (xs (x4 + 1).toNatClampNeg), .ref xo])) (As := [.int (xs (x4 + 1).toNatClampNeg), .int (xs (x4 + 2).toNatClampNeg), .long v1817]) (rest := []) ⟨hx, hb, hml, hown, hts⟩ (c_X9_list_x l D cy (AC s mo a) G W' xo ((xs (x4 + 1).toNatClampNeg)) ((xs (x4 + 2).toNatClampNeg)) v1817 I.2.2.1 I.2.2.2.1 I.2.2.2.2.1 hM hfl (show lsB G none (f 23) (f 24).toNatClampNeg (f 25).toNatClampNeg from Or.inl ⟨rfl, h230⟩)) (cwV 3 hts gL_law_X9_list rfl rfl rfl (by decide +kernel) ⟨Nat.le_of_ble_eq_true rfl, Nat.le_of_ble_eq_true rfl⟩) (l_preV I hK hV) rfl rfl hl.1 rfl (lv_room (Nat.le_of_ble_eq_true rfl)) dL_law_1818 ⟨by omega, by omega⟩) (fun _ _ h9 => by obtain ⟨-, lc9, lb9, fb9, hm9, -⟩ := h9; exact ⟨_, _, _, _, _, _, lc9, lb9, hm9⟩) (fun r1818 u H locs q1818 hX I => ?_)
  obtain ⟨G, W'⟩ := u
  have I : LI D cy s xo mo ou a M G W' f g r q H locs := I
  refine lv_aload_n hx hb dL_law_1821 rfl (lv_at hl 2 rfl) ?_
  refine lv_aload_n hx hb dL_law_1822 rfl (lv_at hl 0 rfl) ?_
  refine lv_iload hx hb dL_law_1823 (lv_at hl 4 rfl) ?_
  refine lv_iconst (v := 1) hx hb dL_law_1825 (by decide) ?_
  refine lv_iadd hx hb dL_law_1826 ?_
  refine va_sld hx hb hXs hbl hbA I.2.2.2.2.2.2.2.2.1 hn1 dL_law_1827 ?_
  refine lv_aload_n hx hb dL_law_1828 rfl (lv_at hl 0 rfl) ?_
  refine lv_iload hx hb dL_law_1829 (lv_at hl 4 rfl) ?_
  refine lv_iconst (v := 2) hx hb dL_law_1831 (by decide) ?_
  refine lv_iadd hx hb dL_law_1832 ?_
  refine va_sld hx hb hXs hbl hbA I.2.2.2.2.2.2.2.2.1 hn2 dL_law_1833 ?_
  refine lv_aload_n hx hb dL_law_1834 rfl (lv_at hl 0 rfl) ?_
  refine lv_iload hx hb dL_law_1835 (lv_at hl 4 rfl) ?_
  refine lv_iconst (v := 3) hx hb dL_law_1837 (by decide) ?_
  refine lv_iadd hx hb dL_law_1838 ?_
  refine va_sld hx hb hXs hbl hbA I.2.2.2.2.2.2.2.2.1 hn3 dL_law_1839 ?_
  refine lv_i2l (v := ((xs (x4 + 3).toNatClampNeg)).toInt64) hx hb dL_law_1840 rfl ?_
  refine lv_bipush (v := 32) hx hb dL_law_1841 (by decide) ?_
  refine lv_lshl (v := (((xs (x4 + 3).toNatClampNeg)).toInt64) <<< ((32 : Int32).toInt64 &&& 63)) hx hb dL_law_1843 rfl ?_
  refine lv_aload_n hx hb dL_law_1844 rfl (lv_at hl 0 rfl) ?_
  refine lv_iload hx hb dL_law_1845 (lv_at hl 4 rfl) ?_
  refine lv_iconst (v := 4) hx hb dL_law_1847 (by decide) ?_
  refine lv_iadd hx hb dL_law_1848 ?_
  refine va_sld hx hb hXs hbl hbA I.2.2.2.2.2.2.2.2.1 hn4 dL_law_1849 ?_
  refine lv_i2l (v := ((xs (x4 + 4).toNatClampNeg)).toInt64) hx hb dL_law_1850 rfl ?_
  refine lv_ldc2 hx hb hown (hts (.constantLong RL 45 (4294967295)) (by decide +kernel)) dL_law_1851 ?_
  refine lv_land hx hb dL_law_1854 ?_
  refine lv_topl (fun v1854 e1854 => ?_)
  refine lv_lor hx hb dL_law_1855 ?_
  refine lv_topl (fun v1855 e1855 => ?_)
  have hI := I.2.2.2.2.2.2.1
  refine lm_i (As := [.int (xs (x4 + 1).toNatClampNeg), .int (xs (x4 + 2).toNatClampNeg), .long v1855]) (rest := [.int r1818]) I ⟨hx, hb, hml, hown, hts⟩ (c_X10_list_x l D cy mo a f g r q ((xs (x4 + 1).toNatClampNeg)) ((xs (x4 + 2).toNatClampNeg)) v1855 hDM hI) (cwV 3 hts gL_law_X10_list rfl rfl rfl (by decide +kernel) ⟨Nat.le_of_ble_eq_true rfl, Nat.le_of_ble_eq_true rfl⟩) hK hAM rfl hl.1 rfl (Nat.le_of_ble_eq_true rfl) dL_law_1856 ⟨by omega, by omega⟩ (fun _ _ h9 => by obtain ⟨_, _, _, _, rfl, h9⟩ := h9; exact h9.2.2) (fun r1856 u H locs q1856 I => ?_)
  obtain ⟨_, _, _, _, -, q1856, -⟩ := q1856
  obtain ⟨f, g, r, q⟩ := u
  have I : LI D cy s xo mo ou a M G W' f g r q H locs := I
  subst e1855
  subst e1854
  subst e1817
  subst e1816
  have e9 : r1818 = r1856 := lsA_eq (fun k9 h9 => absurd h9 (by rw [h23]; show ¬ (k9 : Int) < (0 : Int32).toInt; have : (0 : Int32).toInt = 0 := rfl; omega)) q1818.1 q1856
  refine lv_icmp_eq (tgt := 2469) hx hb dL_law_1859 (by decide) (fun c9 => ?_) (fun c9 => absurd e9 c9)
  refine W.widen (k := C + 7) (n := S + 588) (by omega) (by omega) ?_
  exact kk _ _ _ _ _ _ _ _ _ I (lv_sub hl [0, 1, 2, 3, 4] rfl)
set_option maxHeartbeats 4000000 in
set_option maxRecDepth 100000 in
theorem lcase_24 {p : Program} {l : Launch} {e : Env} {s : State} {m : MethodId} {below : List Frame} {meth : Method} {c : Code} {b L : Nat} {xs : Nat → Int32} {D : va_G} {cy : Nat → ClassId} {xo mo ou : Nat} {a : Nat → Nat} {M : Option Nat} {G : cG} {W' : va_W} {f : Nat → Int32} {g : Nat → Int64} {r : Nat → Nat → Int32} {q : Nat → Nat → Int64} {H : Heap} {locs : List Loc} {ls : Array Slot} {Q : State → Prop} {C S : Nat} (X : LX p l s m c b L xs D cy mo a) (I : LI D cy s xo mo ou a M G W' f g r q H locs) (hF : FR cy xo W' f r) {x4 : Int32} (h4 : 0 ≤ x4.toInt ∧ x4.toInt + 8 ≤ (L : Int) ∧ L ≤ 4096) (hC : C + 7 ≤ 600002) (hSl : S + 53273 ≤ 7302232) (hl : lv_has ls 8 [(0, .ref b), (1, .ref xo), (2, .ref mo), (3, .ref ou), (4, .int x4)]) (kk : ∀ (G : cG) (W' : va_W) (f : Nat → Int32) (g : Nat → Int64) (r : Nat → Nat → Int32) (q : Nat → Nat → Int64) (H : Heap) (locs : List Loc) (ls : Array Slot), LI D cy s xo mo ou a M G W' f g r q H locs → lv_has ls 8 [(0, .ref b), (1, .ref xo), (2, .ref mo), (3, .ref ou), (4, .int x4)] → W p l e room_1 s m #[Value.ref b] below meth c H locs (C + 7) (S + 588) Q (F0 m 2469 ls [])) : W p l e room_1 s m #[Value.ref b] below meth c H locs C S Q (F0 m 1864 ls []) := by
  obtain ⟨⟨hx, hb, hml, hown, hts⟩, ⟨hXs, hbl⟩, ⟨hK, hV, hZ, hXT⟩, hst, hDM, hAM⟩ := id X
  have h1 : f 1 = 0 := hF.1 1
  have h10 : (f 1).toInt = 0 := by rw [h1]; rfl
  have h23 : f 23 = 0 := hF.1 23
  have h230 : (f 23).toInt = 0 := by rw [h23]; rfl
  have h29 : ∀ i, r 29 i = 0 := hF.2.1
  have hbA : ¬ AL s b := Nat.not_le.mpr hbl
  have hRc : room_1.cells = 600002 := rfl
  have hRs : room_1.slots = 7302232 := rfl
  have hn1 : vp_in (x4 + 1) L := l_in (c := 1) h4 rfl (by decide)
  have hn2 : vp_in (x4 + 2) L := l_in (c := 2) h4 rfl (by decide)
  have hn3 : vp_in (x4 + 3) L := l_in (c := 3) h4 rfl (by decide)
  have hn4 : vp_in (x4 + 4) L := l_in (c := 4) h4 rfl (by decide)
  have hn5 : vp_in (x4 + 5) L := l_in (c := 5) h4 rfl (by decide)
  have hn6 : vp_in (x4 + 6) L := l_in (c := 6) h4 rfl (by decide)
  have hn7 : vp_in (x4 + 7) L := l_in (c := 7) h4 rfl (by decide)
  refine lv_aload_n hx hb dL_law_1864 rfl (lv_at hl 1 rfl) ?_
  obtain ⟨bs, js, sh, wk, ll, jc, lc, lb, hM⟩ := I.2.2.2.2.2.2.2.1
  obtain ⟨rfl, rfl, rfl, hSh, fl, hfl⟩ := hF.at I.2.2.1 hM
  refine lk3_s I (va_runV (g := F0 m 1865 ls ([.ref xo])) (As := []) (rest := []) ⟨hx, hb, hml, hown, hts⟩ (c_X9_clear_x l D cy (AC s mo a) G W' xo  I.2.2.1 I.2.2.2.1 I.2.2.2.2.1 hM) (cwV 0 hts gL_law_X9_clear rfl rfl rfl (by decide +kernel) ⟨Nat.le_of_ble_eq_true rfl, Nat.le_of_ble_eq_true rfl⟩) (l_preV I hK hV) rfl rfl hl.1 rfl (lv_room (Nat.le_of_ble_eq_true rfl)) dL_law_1865 ⟨by omega, by omega⟩) (fun _ _ h9 => ⟨_, _, _, _, _, _, _, none, h9.2⟩) (fun r1865 u H locs q1865 hX I => ?_)
  obtain ⟨G, W'⟩ := u
  have I : LI D cy s xo mo ou a M G W' f g r q H locs := I
  refine lv_aload_n hx hb dL_law_1868 rfl (lv_at hl 2 rfl) ?_
  have hI := I.2.2.2.2.2.2.1
  refine lm_i (As := []) (rest := [.int r1865]) I ⟨hx, hb, hml, hown, hts⟩ (c_X10_clear l D cy mo a f g r q  hDM hI) (cwV 0 hts gL_law_X10_clear rfl rfl rfl (by decide +kernel) ⟨Nat.le_of_ble_eq_true rfl, Nat.le_of_ble_eq_true rfl⟩) hK hAM rfl hl.1 rfl (Nat.le_of_ble_eq_true rfl) dL_law_1869 ⟨by omega, by omega⟩ (fun _ _ h9 => by obtain ⟨rfl, h9⟩ := h9; exact h9.2) (fun r1869 u H locs q1869 I => ?_)
  obtain ⟨-, q1869, -⟩ := q1869
  obtain ⟨f, g, r, q⟩ := u
  have I : LI D cy s xo mo ou a M G W' f g r q H locs := I
  have e9 : r1865 = r1869 := q1865.1.trans q1869.symm
  refine lv_icmp_eq (tgt := 2469) hx hb dL_law_1872 (by decide) (fun c9 => ?_) (fun c9 => absurd e9 c9)
  refine W.widen (k := C + 7) (n := S + 588) (by omega) (by omega) ?_
  exact kk _ _ _ _ _ _ _ _ _ I (lv_sub hl [0, 1, 2, 3, 4] rfl)
set_option maxHeartbeats 4000000 in
set_option maxRecDepth 100000 in
theorem lcase_25 {p : Program} {l : Launch} {e : Env} {s : State} {m : MethodId} {below : List Frame} {meth : Method} {c : Code} {b L : Nat} {xs : Nat → Int32} {D : va_G} {cy : Nat → ClassId} {xo mo ou : Nat} {a : Nat → Nat} {M : Option Nat} {G : cG} {W' : va_W} {f : Nat → Int32} {g : Nat → Int64} {r : Nat → Nat → Int32} {q : Nat → Nat → Int64} {H : Heap} {locs : List Loc} {ls : Array Slot} {Q : State → Prop} {C S : Nat} (X : LX p l s m c b L xs D cy mo a) (I : LI D cy s xo mo ou a M G W' f g r q H locs) (hF : FR cy xo W' f r) {x4 : Int32} (h4 : 0 ≤ x4.toInt ∧ x4.toInt + 8 ≤ (L : Int) ∧ L ≤ 4096) (hC : C + 7 ≤ 600002) (hSl : S + 53273 ≤ 7302232) (hl : lv_has ls 8 [(0, .ref b), (1, .ref xo), (2, .ref mo), (3, .ref ou), (4, .int x4)]) (kk : ∀ (G : cG) (W' : va_W) (f : Nat → Int32) (g : Nat → Int64) (r : Nat → Nat → Int32) (q : Nat → Nat → Int64) (H : Heap) (locs : List Loc) (ls : Array Slot), LI D cy s xo mo ou a M G W' f g r q H locs → lv_has ls 8 [(0, .ref b), (1, .ref xo), (2, .ref mo), (3, .ref ou), (4, .int x4)] → W p l e room_1 s m #[Value.ref b] below meth c H locs (C + 7) (S + 588) Q (F0 m 2469 ls [])) : W p l e room_1 s m #[Value.ref b] below meth c H locs C S Q (F0 m 1877 ls []) := by
  obtain ⟨⟨hx, hb, hml, hown, hts⟩, ⟨hXs, hbl⟩, ⟨hK, hV, hZ, hXT⟩, hst, hDM, hAM⟩ := id X
  have h1 : f 1 = 0 := hF.1 1
  have h10 : (f 1).toInt = 0 := by rw [h1]; rfl
  have h23 : f 23 = 0 := hF.1 23
  have h230 : (f 23).toInt = 0 := by rw [h23]; rfl
  have h29 : ∀ i, r 29 i = 0 := hF.2.1
  have hbA : ¬ AL s b := Nat.not_le.mpr hbl
  have hRc : room_1.cells = 600002 := rfl
  have hRs : room_1.slots = 7302232 := rfl
  have hn1 : vp_in (x4 + 1) L := l_in (c := 1) h4 rfl (by decide)
  have hn2 : vp_in (x4 + 2) L := l_in (c := 2) h4 rfl (by decide)
  have hn3 : vp_in (x4 + 3) L := l_in (c := 3) h4 rfl (by decide)
  have hn4 : vp_in (x4 + 4) L := l_in (c := 4) h4 rfl (by decide)
  have hn5 : vp_in (x4 + 5) L := l_in (c := 5) h4 rfl (by decide)
  have hn6 : vp_in (x4 + 6) L := l_in (c := 6) h4 rfl (by decide)
  have hn7 : vp_in (x4 + 7) L := l_in (c := 7) h4 rfl (by decide)
  refine lv_aload_n hx hb dL_law_1877 rfl (lv_at hl 1 rfl) ?_
  obtain ⟨bs, js, sh, wk, ll, jc, lc, lb, hM⟩ := I.2.2.2.2.2.2.2.1
  obtain ⟨rfl, rfl, rfl, hSh, fl, hfl⟩ := hF.at I.2.2.1 hM
  refine lk3_ri I (va_runV (g := F0 m 1878 ls ([.ref xo])) (As := []) (rest := []) ⟨hx, hb, hml, hown, hts⟩ (c_X9_ways_x l D cy (AC s mo a) G W' xo  I.2.2.1 I.2.2.2.1 I.2.2.2.2.1 hM hfl (show lsB G none (f 23) (f 24).toNatClampNeg (f 25).toNatClampNeg from Or.inl ⟨rfl, h230⟩)) (cwV 0 hts gL_law_X9_ways rfl rfl rfl (by decide +kernel) ⟨Nat.le_of_ble_eq_true rfl, Nat.le_of_ble_eq_true rfl⟩) (l_preV I hK hV) rfl rfl hl.1 rfl (lv_room (Nat.le_of_ble_eq_true rfl)) dL_law_1878 ⟨by omega, by omega⟩) (fun r1878 u H locs q1878 hX I => ?_)
  obtain ⟨G, W'⟩ := u
  have I : LI D cy s xo mo ou a M G W' f g r q H locs := I
  refine lv_aload_n hx hb dL_law_1881 rfl (lv_at hl 2 rfl) ?_
  have hI := I.2.2.2.2.2.2.1
  refine lm_i (As := []) (rest := [.int r1878]) I ⟨hx, hb, hml, hown, hts⟩ (c_X10_ways_x l D cy mo a f g r q  hDM hI) (cwV 0 hts gL_law_X10_ways rfl rfl rfl (by decide +kernel) ⟨Nat.le_of_ble_eq_true rfl, Nat.le_of_ble_eq_true rfl⟩) hK hAM rfl hl.1 rfl (Nat.le_of_ble_eq_true rfl) dL_law_1882 ⟨by omega, by omega⟩ (fun _ _ h9 => by obtain ⟨rfl, h9⟩ := h9; exact hI) (fun r1882 u H locs q1882 I => ?_)
  obtain ⟨-, q1882⟩ := q1882
  obtain ⟨f, g, r, q⟩ := u
  have I : LI D cy s xo mo ou a M G W' f g r q H locs := I
  have e9 : r1878 = r1882 := wyA_eq (wyA_c (fun s9 => telA_c (fun k9 h9 => absurd h9 (by rw [h23]; show ¬ (k9 : Int) < (0 : Int32).toInt; have : (0 : Int32).toInt = 0 := rfl; omega))) q1878) q1882
  refine lv_icmp_eq (tgt := 2469) hx hb dL_law_1885 (by decide) (fun c9 => ?_) (fun c9 => absurd e9 c9)
  refine W.widen (k := C + 7) (n := S + 588) (by omega) (by omega) ?_
  exact kk _ _ _ _ _ _ _ _ _ I (lv_sub hl [0, 1, 2, 3, 4] rfl)
set_option maxHeartbeats 4000000 in
set_option maxRecDepth 100000 in
theorem lcase_26 {p : Program} {l : Launch} {e : Env} {s : State} {m : MethodId} {below : List Frame} {meth : Method} {c : Code} {b L : Nat} {xs : Nat → Int32} {D : va_G} {cy : Nat → ClassId} {xo mo ou : Nat} {a : Nat → Nat} {M : Option Nat} {G : cG} {W' : va_W} {f : Nat → Int32} {g : Nat → Int64} {r : Nat → Nat → Int32} {q : Nat → Nat → Int64} {H : Heap} {locs : List Loc} {ls : Array Slot} {Q : State → Prop} {C S : Nat} (X : LX p l s m c b L xs D cy mo a) (I : LI D cy s xo mo ou a M G W' f g r q H locs) (hF : FR cy xo W' f r) {x4 : Int32} (h4 : 0 ≤ x4.toInt ∧ x4.toInt + 8 ≤ (L : Int) ∧ L ≤ 4096) (hC : C + 7 ≤ 600002) (hSl : S + 53273 ≤ 7302232) (hl : lv_has ls 8 [(0, .ref b), (1, .ref xo), (2, .ref mo), (3, .ref ou), (4, .int x4)]) (kk : ∀ (G : cG) (W' : va_W) (f : Nat → Int32) (g : Nat → Int64) (r : Nat → Nat → Int32) (q : Nat → Nat → Int64) (H : Heap) (locs : List Loc) (ls : Array Slot), LI D cy s xo mo ou a M G W' f g r q H locs → lv_has ls 8 [(0, .ref b), (1, .ref xo), (2, .ref mo), (3, .ref ou), (4, .int x4)] → W p l e room_1 s m #[Value.ref b] below meth c H locs (C + 7) (S + 588) Q (F0 m 2469 ls [])) : W p l e room_1 s m #[Value.ref b] below meth c H locs C S Q (F0 m 1890 ls []) := by
  obtain ⟨⟨hx, hb, hml, hown, hts⟩, ⟨hXs, hbl⟩, ⟨hK, hV, hZ, hXT⟩, hst, hDM, hAM⟩ := id X
  have h1 : f 1 = 0 := hF.1 1
  have h10 : (f 1).toInt = 0 := by rw [h1]; rfl
  have h23 : f 23 = 0 := hF.1 23
  have h230 : (f 23).toInt = 0 := by rw [h23]; rfl
  have h29 : ∀ i, r 29 i = 0 := hF.2.1
  have hbA : ¬ AL s b := Nat.not_le.mpr hbl
  have hRc : room_1.cells = 600002 := rfl
  have hRs : room_1.slots = 7302232 := rfl
  have hn1 : vp_in (x4 + 1) L := l_in (c := 1) h4 rfl (by decide)
  have hn2 : vp_in (x4 + 2) L := l_in (c := 2) h4 rfl (by decide)
  have hn3 : vp_in (x4 + 3) L := l_in (c := 3) h4 rfl (by decide)
  have hn4 : vp_in (x4 + 4) L := l_in (c := 4) h4 rfl (by decide)
  have hn5 : vp_in (x4 + 5) L := l_in (c := 5) h4 rfl (by decide)
  have hn6 : vp_in (x4 + 6) L := l_in (c := 6) h4 rfl (by decide)
  have hn7 : vp_in (x4 + 7) L := l_in (c := 7) h4 rfl (by decide)
  refine lv_aload_n hx hb dL_law_1890 rfl (lv_at hl 1 rfl) ?_
  refine lv_aload_n hx hb dL_law_1891 rfl (lv_at hl 0 rfl) ?_
  refine lv_iload hx hb dL_law_1892 (lv_at hl 4 rfl) ?_
  refine lv_iconst (v := 1) hx hb dL_law_1894 (by decide) ?_
  refine lv_iadd hx hb dL_law_1895 ?_
  refine va_sld hx hb hXs hbl hbA I.2.2.2.2.2.2.2.2.1 hn1 dL_law_1896 ?_
  refine lv_aload_n hx hb dL_law_1897 rfl (lv_at hl 0 rfl) ?_
  refine lv_iload hx hb dL_law_1898 (lv_at hl 4 rfl) ?_
  refine lv_iconst (v := 2) hx hb dL_law_1900 (by decide) ?_
  refine lv_iadd hx hb dL_law_1901 ?_
  refine va_sld hx hb hXs hbl hbA I.2.2.2.2.2.2.2.2.1 hn2 dL_law_1902 ?_
  refine lv_aload_n hx hb dL_law_1903 rfl (lv_at hl 0 rfl) ?_
  refine lv_iload hx hb dL_law_1904 (lv_at hl 4 rfl) ?_
  refine lv_iconst (v := 3) hx hb dL_law_1906 (by decide) ?_
  refine lv_iadd hx hb dL_law_1907 ?_
  refine va_sld hx hb hXs hbl hbA I.2.2.2.2.2.2.2.2.1 hn3 dL_law_1908 ?_
  refine lv_aload_n hx hb dL_law_1909 rfl (lv_at hl 3 rfl) ?_
  refine lk_i I (vx_runSW (g := F0 m 1910 ls ([.ref ou, .int (xs (x4 + 3).toNatClampNeg), .int (xs (x4 + 2).toNatClampNeg), .int (xs (x4 + 1).toNatClampNeg), .ref xo])) (As := [.ref xo, .int (xs (x4 + 1).toNatClampNeg), .int (xs (x4 + 2).toNatClampNeg), .int (xs (x4 + 3).toNatClampNeg), .ref ou]) (rest := []) ⟨hx, hb, hml, hown, hts⟩ (c_L_ghost_x l hst D cy (AC s mo a) G W' xo ((xs (x4 + 1).toNatClampNeg)) ((xs (x4 + 2).toNatClampNeg)) ((xs (x4 + 3).toNatClampNeg)) ou I.2.2.1 I.2.2.2.1 I.2.2.2.2.1 I.2.2.2.2.2.1) (vx_cwSW 5 hts gL_law_L_ghost rfl rfl rfl (by decide +kernel) ⟨Nat.le_of_ble_eq_true rfl, Nat.le_of_ble_eq_true rfl⟩) (l_preS I hK hV hZ hXT) rfl rfl hl.1 rfl (lv_room (Nat.le_of_ble_eq_true rfl)) dL_law_1910 ⟨by omega, by omega⟩) rfl (fun r1910 u H locs q1910 I => ?_)
  obtain ⟨G, W'⟩ := u
  have I : LI D cy s xo mo ou a M G W' f g r q H locs := I
  have qL : (r1910 = 0 ∧ gOk (xs (x4 + 1).toNatClampNeg) (xs (x4 + 2).toNatClampNeg) (xs (x4 + 3).toNatClampNeg) ∧ ∃ w : Nat → Int64, cIn W' ou (.inl (cy 1, 1, .inr (.inl w))) ∧ (w 0).toInt = gV (xs (x4 + 1).toNatClampNeg) (xs (x4 + 2).toNatClampNeg) (xs (x4 + 3).toNatClampNeg)) ∨ (r1910 = 1 ∧ ¬ gOk (xs (x4 + 1).toNatClampNeg) (xs (x4 + 2).toNatClampNeg) (xs (x4 + 3).toNatClampNeg)) := q1910
  refine lv_istore (lv' := [(5, .int r1910), (0, .ref b), (1, .ref xo), (2, .ref mo), (3, .ref ou), (4, .int x4)]) hx hb dL_law_1913 hl (by decide) rfl (fun ls hl => ?_)
  refine lv_aload_n hx hb dL_law_1915 rfl (lv_at hl 3 rfl) ?_
  refine lv_aload_n hx hb dL_law_1916 rfl (lv_at hl 1 rfl) ?_
  refine lv_iload hx hb dL_law_1917 (lv_at hl 5 rfl) ?_
  refine lv_iconst (v := 1) hx hb dL_law_1919 (by decide) ?_
  refine lv_iadd hx hb dL_law_1920 ?_
  refine va_sld hx hb hXs hbl hbA I.2.2.2.2.2.2.2.2.1 hn1 dL_law_1921 ?_
  refine lv_aload_n hx hb dL_law_1922 rfl (lv_at hl 1 rfl) ?_
  refine lv_iload hx hb dL_law_1923 (lv_at hl 5 rfl) ?_
  refine lv_iconst (v := 2) hx hb dL_law_1925 (by decide) ?_
  refine lv_iadd hx hb dL_law_1926 ?_
  refine va_sld hx hb hXs hbl hbA I.2.2.2.2.2.2.2.2.1 hn2 dL_law_1927 ?_
  refine lv_aload_n hx hb dL_law_1928 rfl (lv_at hl 1 rfl) ?_
  refine lv_iload hx hb dL_law_1929 (lv_at hl 5 rfl) ?_
  refine lv_iconst (v := 3) hx hb dL_law_1931 (by decide) ?_
  refine lv_iadd hx hb dL_law_1932 ?_
  refine va_sld hx hb hXs hbl hbA I.2.2.2.2.2.2.2.2.1 hn3 dL_law_1933 ?_
  have hI := I.2.2.2.2.2.2.1
  refine lm_i (As := [.int (xs (x4 + 1).toNatClampNeg), .int (xs (x4 + 2).toNatClampNeg), .int (xs (x4 + 3).toNatClampNeg)]) (rest := []) I ⟨hx, hb, hml, hown, hts⟩ (c_X10_ghost_x l D cy mo a f g r q ((xs (x4 + 1).toNatClampNeg)) ((xs (x4 + 2).toNatClampNeg)) ((xs (x4 + 3).toNatClampNeg)) hDM) (cwV 3 hts gL_law_X10_ghost rfl rfl rfl (by decide +kernel) ⟨Nat.le_of_ble_eq_true rfl, Nat.le_of_ble_eq_true rfl⟩) hK hAM rfl hl.1 rfl (Nat.le_of_ble_eq_true rfl) dL_law_1934 ⟨by omega, by omega⟩ (fun _ _ h9 => by obtain ⟨_, _, _, rfl, h9⟩ := h9; exact hI) (fun r1934 u H locs q1934 I => ?_)
  have qR : (gOk (xs (x4 + 1).toNatClampNeg) (xs (x4 + 2).toNatClampNeg) (xs (x4 + 3).toNatClampNeg) ∧ u.1 0 = 0 ∧ r1934.toInt = gV (xs (x4 + 1).toNatClampNeg) (xs (x4 + 2).toNatClampNeg) (xs (x4 + 3).toNatClampNeg)) ∨ (¬ gOk (xs (x4 + 1).toNatClampNeg) (xs (x4 + 2).toNatClampNeg) (xs (x4 + 3).toNatClampNeg) ∧ u.1 0 = 1) := by obtain ⟨th, gh, mv, rfl, h9⟩ := q1934; exact h9
  obtain ⟨f, g, r, q⟩ := u
  have qR : (gOk (xs (x4 + 1).toNatClampNeg) (xs (x4 + 2).toNatClampNeg) (xs (x4 + 3).toNatClampNeg) ∧ f 0 = 0 ∧ r1934.toInt = gV (xs (x4 + 1).toNatClampNeg) (xs (x4 + 2).toNatClampNeg) (xs (x4 + 3).toNatClampNeg)) ∨ (¬ gOk (xs (x4 + 1).toNatClampNeg) (xs (x4 + 2).toNatClampNeg) (xs (x4 + 3).toNatClampNeg) ∧ f 0 = 1) := qR
  have I : LI D cy s xo mo ou a M G W' f g r q H locs := I
  refine lv_istore (lv' := [(6, .int r1934), (5, .int r1910), (0, .ref b), (1, .ref xo), (2, .ref mo), (3, .ref ou), (4, .int x4)]) hx hb dL_law_1937 hl (by decide) rfl (fun ls hl => ?_)
  refine lv_aload_n hx hb dL_law_1939 rfl (lv_at hl 4 rfl) ?_
  have hI := I.2.2.2.2.2.2.1
  refine lm_i (As := []) (rest := []) I ⟨hx, hb, hml, hown, hts⟩ (c_X10_thrown_x l D cy mo a f g r q  hDM) (cwV 0 hts gL_law_X10_thrown rfl rfl rfl (by decide +kernel) ⟨Nat.le_of_ble_eq_true rfl, Nat.le_of_ble_eq_true rfl⟩) hK hAM rfl hl.1 rfl (Nat.le_of_ble_eq_true rfl) dL_law_1940 ⟨by omega, by omega⟩ (fun _ _ h9 => by obtain ⟨rfl, h9⟩ := h9; exact hI) (fun r1940 u H locs q1940 I => ?_)
  have qT : r1940 = f 0 := by obtain ⟨rfl, h9⟩ := q1940; exact h9
  obtain ⟨f, g, r, q⟩ := u
  have I : LI D cy s xo mo ou a M G W' f g r q H locs := I
  have e9 : r1940 = r1910 := by rcases qL with ⟨h1, h2, -⟩ | ⟨h1, h2⟩ <;> rcases qR with ⟨h3, h4, -⟩ | ⟨h3, h4⟩ <;> first | exact (qT.trans h4).trans h1.symm | exact absurd h2 h3 | exact absurd h3 h2
  refine lv_iload hx hb dL_law_1943 (lv_at hl 1 rfl) ?_
  refine lv_icmp_eq (tgt := 1950) hx hb dL_law_1945 (by decide) (fun c9 => ?_) (fun c9 => absurd e9 c9)
  refine lv_iload hx hb dL_law_1950 (lv_at hl 1 rfl) ?_
  refine lv_if_ne (tgt := 1967) hx hb dL_law_1952 (by decide) (fun c1952 => ?_) (fun c1952 => ?_)
  · skip
    refine lv_goto (tgt := 2469) hx hb dL_law_1967 (by decide) ?_
    refine W.widen (k := C + 7) (n := S + 588) (by omega) (by omega) ?_
    exact kk _ _ _ _ _ _ _ _ _ I (lv_sub hl [2, 3, 4, 5, 6] rfl)
  · skip
    refine lv_aload_n hx hb dL_law_1955 rfl (lv_at hl 5 rfl) ?_
    refine lv_iconst (v := 0) hx hb dL_law_1956 (by decide) ?_
    obtain ⟨w9, hw9, hv9⟩ : ∃ w : Nat → Int64, cIn W' ou (.inl (cy 1, 1, .inr (.inl w))) ∧ (w 0).toInt = r1934.toInt := by
      rcases qL with ⟨h1, h2, w, h5, h6⟩ | ⟨h1, h2⟩
      · rcases qR with ⟨h3, h4, h7⟩ | ⟨h3, h4⟩
        · exact ⟨w, h5, h6.trans h7.symm⟩
        · exact absurd h2 h3
      · exact absurd (h1.symm.trans c1952) (by decide)
    have e8 : w9 (0 : Int32).toNatClampNeg = r1934.toInt64 := Int64.toInt_inj.mp (by rw [k64]; exact hv9)
    obtain ⟨q8, hq8⟩ := hw9
    refine va_lald hx hb hK I.1 q8 1 hq8 rfl (i := 0) (vp_in_iff.mpr ⟨by decide, by decide⟩) dL_law_1957 ?_
    refine lv_iload hx hb dL_law_1958 (lv_at hl 0 rfl) ?_
    refine lv_i2l (v := r1934.toInt64) hx hb dL_law_1960 rfl ?_
    refine W.lcmp hx hb dL_law_1961 ?_
    refine lv_if_eq (tgt := 1967) hx hb dL_law_1962 (by decide) (fun c9 => ?_) (fun c9 => absurd ((lg_cmp_eq _ _).mpr e8) c9)
    refine lv_goto (tgt := 2469) hx hb dL_law_1967 (by decide) ?_
    refine W.widen (k := C + 7) (n := S + 588) (by omega) (by omega) ?_
    exact kk _ _ _ _ _ _ _ _ _ I (lv_sub hl [2, 3, 4, 5, 6] rfl)
set_option maxHeartbeats 4000000 in
set_option maxRecDepth 100000 in
theorem lcase_27 {p : Program} {l : Launch} {e : Env} {s : State} {m : MethodId} {below : List Frame} {meth : Method} {c : Code} {b L : Nat} {xs : Nat → Int32} {D : va_G} {cy : Nat → ClassId} {xo mo ou : Nat} {a : Nat → Nat} {M : Option Nat} {G : cG} {W' : va_W} {f : Nat → Int32} {g : Nat → Int64} {r : Nat → Nat → Int32} {q : Nat → Nat → Int64} {H : Heap} {locs : List Loc} {ls : Array Slot} {Q : State → Prop} {C S : Nat} (X : LX p l s m c b L xs D cy mo a) (I : LI D cy s xo mo ou a M G W' f g r q H locs) (hF : FR cy xo W' f r) {x4 : Int32} (h4 : 0 ≤ x4.toInt ∧ x4.toInt + 8 ≤ (L : Int) ∧ L ≤ 4096) (hC : C + 7 ≤ 600002) (hSl : S + 53273 ≤ 7302232) (hl : lv_has ls 8 [(0, .ref b), (1, .ref xo), (2, .ref mo), (3, .ref ou), (4, .int x4)]) (kk : ∀ (G : cG) (W' : va_W) (f : Nat → Int32) (g : Nat → Int64) (r : Nat → Nat → Int32) (q : Nat → Nat → Int64) (H : Heap) (locs : List Loc) (ls : Array Slot), LI D cy s xo mo ou a M G W' f g r q H locs → lv_has ls 8 [(0, .ref b), (1, .ref xo), (2, .ref mo), (3, .ref ou), (4, .int x4)] → W p l e room_1 s m #[Value.ref b] below meth c H locs (C + 7) (S + 588) Q (F0 m 2469 ls [])) : W p l e room_1 s m #[Value.ref b] below meth c H locs C S Q (F0 m 1970 ls []) := by
  obtain ⟨⟨hx, hb, hml, hown, hts⟩, ⟨hXs, hbl⟩, ⟨hK, hV, hZ, hXT⟩, hst, hDM, hAM⟩ := id X
  have h1 : f 1 = 0 := hF.1 1
  have h10 : (f 1).toInt = 0 := by rw [h1]; rfl
  have h23 : f 23 = 0 := hF.1 23
  have h230 : (f 23).toInt = 0 := by rw [h23]; rfl
  have h29 : ∀ i, r 29 i = 0 := hF.2.1
  have hbA : ¬ AL s b := Nat.not_le.mpr hbl
  have hRc : room_1.cells = 600002 := rfl
  have hRs : room_1.slots = 7302232 := rfl
  have hn1 : vp_in (x4 + 1) L := l_in (c := 1) h4 rfl (by decide)
  have hn2 : vp_in (x4 + 2) L := l_in (c := 2) h4 rfl (by decide)
  have hn3 : vp_in (x4 + 3) L := l_in (c := 3) h4 rfl (by decide)
  have hn4 : vp_in (x4 + 4) L := l_in (c := 4) h4 rfl (by decide)
  have hn5 : vp_in (x4 + 5) L := l_in (c := 5) h4 rfl (by decide)
  have hn6 : vp_in (x4 + 6) L := l_in (c := 6) h4 rfl (by decide)
  have hn7 : vp_in (x4 + 7) L := l_in (c := 7) h4 rfl (by decide)
  refine lv_aload_n hx hb dL_law_1970 rfl (lv_at hl 1 rfl) ?_
  refine lv_aload_n hx hb dL_law_1971 rfl (lv_at hl 0 rfl) ?_
  refine lv_iload hx hb dL_law_1972 (lv_at hl 4 rfl) ?_
  refine lv_iconst (v := 1) hx hb dL_law_1974 (by decide) ?_
  refine lv_iadd hx hb dL_law_1975 ?_
  refine va_sld hx hb hXs hbl hbA I.2.2.2.2.2.2.2.2.1 hn1 dL_law_1976 ?_
  refine lv_aload_n hx hb dL_law_1977 rfl (lv_at hl 0 rfl) ?_
  refine lv_iload hx hb dL_law_1978 (lv_at hl 4 rfl) ?_
  refine lv_iconst (v := 2) hx hb dL_law_1980 (by decide) ?_
  refine lv_iadd hx hb dL_law_1981 ?_
  refine va_sld hx hb hXs hbl hbA I.2.2.2.2.2.2.2.2.1 hn2 dL_law_1982 ?_
  refine lv_aload_n hx hb dL_law_1983 rfl (lv_at hl 0 rfl) ?_
  refine lv_iload hx hb dL_law_1984 (lv_at hl 4 rfl) ?_
  refine lv_iconst (v := 3) hx hb dL_law_1986 (by decide) ?_
  refine lv_iadd hx hb dL_law_1987 ?_
  refine va_sld hx hb hXs hbl hbA I.2.2.2.2.2.2.2.2.1 hn3 dL_law_1988 ?_
  refine lk_i I (va_runV (g := F0 m 1989 ls ([.int (xs (x4 + 3).toNatClampNeg), .int (xs (x4 + 2).toNatClampNeg), .int (xs (x4 + 1).toNatClampNeg), .ref xo])) (As := [.int (xs (x4 + 1).toNatClampNeg), .int (xs (x4 + 2).toNatClampNeg), .int (xs (x4 + 3).toNatClampNeg)]) (rest := []) ⟨hx, hb, hml, hown, hts⟩ (c_X9_haunts_x l D cy (AC s mo a) G W' xo ((xs (x4 + 1).toNatClampNeg)) ((xs (x4 + 2).toNatClampNeg)) ((xs (x4 + 3).toNatClampNeg)) I.2.2.1 I.2.2.2.1 I.2.2.2.2.1) (cwV 3 hts gL_law_X9_haunts rfl rfl rfl (by decide +kernel) ⟨Nat.le_of_ble_eq_true rfl, Nat.le_of_ble_eq_true rfl⟩) (l_preE I hK hV hZ) rfl rfl hl.1 rfl (lv_room (Nat.le_of_ble_eq_true rfl)) dL_law_1989 ⟨by omega, by omega⟩) rfl (fun r1989 u H locs q1989 I => ?_)
  obtain ⟨G, W'⟩ := u
  have I : LI D cy s xo mo ou a M G W' f g r q H locs := I
  refine lv_aload_n hx hb dL_law_1992 rfl (lv_at hl 2 rfl) ?_
  refine lv_aload_n hx hb dL_law_1993 rfl (lv_at hl 0 rfl) ?_
  refine lv_iload hx hb dL_law_1994 (lv_at hl 4 rfl) ?_
  refine lv_iconst (v := 1) hx hb dL_law_1996 (by decide) ?_
  refine lv_iadd hx hb dL_law_1997 ?_
  refine va_sld hx hb hXs hbl hbA I.2.2.2.2.2.2.2.2.1 hn1 dL_law_1998 ?_
  refine lv_aload_n hx hb dL_law_1999 rfl (lv_at hl 0 rfl) ?_
  refine lv_iload hx hb dL_law_2000 (lv_at hl 4 rfl) ?_
  refine lv_iconst (v := 2) hx hb dL_law_2002 (by decide) ?_
  refine lv_iadd hx hb dL_law_2003 ?_
  refine va_sld hx hb hXs hbl hbA I.2.2.2.2.2.2.2.2.1 hn2 dL_law_2004 ?_
  refine lv_aload_n hx hb dL_law_2005 rfl (lv_at hl 0 rfl) ?_
  refine lv_iload hx hb dL_law_2006 (lv_at hl 4 rfl) ?_
  refine lv_iconst (v := 3) hx hb dL_law_2008 (by decide) ?_
  refine lv_iadd hx hb dL_law_2009 ?_
  refine va_sld hx hb hXs hbl hbA I.2.2.2.2.2.2.2.2.1 hn3 dL_law_2010 ?_
  have hI := I.2.2.2.2.2.2.1
  refine lm_i (As := [.int (xs (x4 + 1).toNatClampNeg), .int (xs (x4 + 2).toNatClampNeg), .int (xs (x4 + 3).toNatClampNeg)]) (rest := [.int r1989]) I ⟨hx, hb, hml, hown, hts⟩ (c_X10_haunts_x l D cy mo a f g r q ((xs (x4 + 1).toNatClampNeg)) ((xs (x4 + 2).toNatClampNeg)) ((xs (x4 + 3).toNatClampNeg)) hDM) (cwV 3 hts gL_law_X10_haunts rfl rfl rfl (by decide +kernel) ⟨Nat.le_of_ble_eq_true rfl, Nat.le_of_ble_eq_true rfl⟩) hK hAM rfl hl.1 rfl (Nat.le_of_ble_eq_true rfl) dL_law_2011 ⟨by omega, by omega⟩ (fun _ _ h9 => by obtain ⟨rfl, h9⟩ := h9; exact hI) (fun r2011 u H locs q2011 I => ?_)
  obtain ⟨-, q2011⟩ := q2011
  obtain ⟨f, g, r, q⟩ := u
  have I : LI D cy s xo mo ou a M G W' f g r q H locs := I
  have e9 : r1989 = r2011 := Int32.toInt_inj.mp (q1989.trans q2011.symm)
  refine lv_icmp_eq (tgt := 2469) hx hb dL_law_2014 (by decide) (fun c9 => ?_) (fun c9 => absurd e9 c9)
  refine W.widen (k := C + 7) (n := S + 588) (by omega) (by omega) ?_
  exact kk _ _ _ _ _ _ _ _ _ I (lv_sub hl [0, 1, 2, 3, 4] rfl)
set_option maxHeartbeats 4000000 in
set_option maxRecDepth 100000 in
theorem lcase_28 {p : Program} {l : Launch} {e : Env} {s : State} {m : MethodId} {below : List Frame} {meth : Method} {c : Code} {b L : Nat} {xs : Nat → Int32} {D : va_G} {cy : Nat → ClassId} {xo mo ou : Nat} {a : Nat → Nat} {M : Option Nat} {G : cG} {W' : va_W} {f : Nat → Int32} {g : Nat → Int64} {r : Nat → Nat → Int32} {q : Nat → Nat → Int64} {H : Heap} {locs : List Loc} {ls : Array Slot} {Q : State → Prop} {C S : Nat} (X : LX p l s m c b L xs D cy mo a) (I : LI D cy s xo mo ou a M G W' f g r q H locs) (hF : FR cy xo W' f r) {x4 : Int32} (h4 : 0 ≤ x4.toInt ∧ x4.toInt + 8 ≤ (L : Int) ∧ L ≤ 4096) (hC : C + 7 ≤ 600002) (hSl : S + 53273 ≤ 7302232) (hl : lv_has ls 8 [(0, .ref b), (1, .ref xo), (2, .ref mo), (3, .ref ou), (4, .int x4)]) (kk : ∀ (G : cG) (W' : va_W) (f : Nat → Int32) (g : Nat → Int64) (r : Nat → Nat → Int32) (q : Nat → Nat → Int64) (H : Heap) (locs : List Loc) (ls : Array Slot), LI D cy s xo mo ou a M G W' f g r q H locs → lv_has ls 8 [(0, .ref b), (1, .ref xo), (2, .ref mo), (3, .ref ou), (4, .int x4)] → W p l e room_1 s m #[Value.ref b] below meth c H locs (C + 7) (S + 588) Q (F0 m 2469 ls [])) : W p l e room_1 s m #[Value.ref b] below meth c H locs C S Q (F0 m 2019 ls []) := by
  obtain ⟨⟨hx, hb, hml, hown, hts⟩, ⟨hXs, hbl⟩, ⟨hK, hV, hZ, hXT⟩, hst, hDM, hAM⟩ := id X
  have h1 : f 1 = 0 := hF.1 1
  have h10 : (f 1).toInt = 0 := by rw [h1]; rfl
  have h23 : f 23 = 0 := hF.1 23
  have h230 : (f 23).toInt = 0 := by rw [h23]; rfl
  have h29 : ∀ i, r 29 i = 0 := hF.2.1
  have hbA : ¬ AL s b := Nat.not_le.mpr hbl
  have hRc : room_1.cells = 600002 := rfl
  have hRs : room_1.slots = 7302232 := rfl
  have hn1 : vp_in (x4 + 1) L := l_in (c := 1) h4 rfl (by decide)
  have hn2 : vp_in (x4 + 2) L := l_in (c := 2) h4 rfl (by decide)
  have hn3 : vp_in (x4 + 3) L := l_in (c := 3) h4 rfl (by decide)
  have hn4 : vp_in (x4 + 4) L := l_in (c := 4) h4 rfl (by decide)
  have hn5 : vp_in (x4 + 5) L := l_in (c := 5) h4 rfl (by decide)
  have hn6 : vp_in (x4 + 6) L := l_in (c := 6) h4 rfl (by decide)
  have hn7 : vp_in (x4 + 7) L := l_in (c := 7) h4 rfl (by decide)
  refine lv_aload_n hx hb dL_law_2019 rfl (lv_at hl 1 rfl) ?_
  refine lv_aload_n hx hb dL_law_2020 rfl (lv_at hl 0 rfl) ?_
  refine lv_iload hx hb dL_law_2021 (lv_at hl 4 rfl) ?_
  refine lv_iconst (v := 1) hx hb dL_law_2023 (by decide) ?_
  refine lv_iadd hx hb dL_law_2024 ?_
  refine va_sld hx hb hXs hbl hbA I.2.2.2.2.2.2.2.2.1 hn1 dL_law_2025 ?_
  refine lv_aload_n hx hb dL_law_2026 rfl (lv_at hl 0 rfl) ?_
  refine lv_iload hx hb dL_law_2027 (lv_at hl 4 rfl) ?_
  refine lv_iconst (v := 2) hx hb dL_law_2029 (by decide) ?_
  refine lv_iadd hx hb dL_law_2030 ?_
  refine va_sld hx hb hXs hbl hbA I.2.2.2.2.2.2.2.2.1 hn2 dL_law_2031 ?_
  refine lv_aload_n hx hb dL_law_2032 rfl (lv_at hl 0 rfl) ?_
  refine lv_iload hx hb dL_law_2033 (lv_at hl 4 rfl) ?_
  refine lv_iconst (v := 3) hx hb dL_law_2035 (by decide) ?_
  refine lv_iadd hx hb dL_law_2036 ?_
  refine va_sld hx hb hXs hbl hbA I.2.2.2.2.2.2.2.2.1 hn3 dL_law_2037 ?_
  refine lk_i I (va_runV (g := F0 m 2038 ls ([.int (xs (x4 + 3).toNatClampNeg), .int (xs (x4 + 2).toNatClampNeg), .int (xs (x4 + 1).toNatClampNeg), .ref xo])) (As := [.int (xs (x4 + 1).toNatClampNeg), .int (xs (x4 + 2).toNatClampNeg), .int (xs (x4 + 3).toNatClampNeg)]) (rest := []) ⟨hx, hb, hml, hown, hts⟩ (c_X9_ghosts_x l D cy (AC s mo a) G W' xo ((xs (x4 + 1).toNatClampNeg)) ((xs (x4 + 2).toNatClampNeg)) ((xs (x4 + 3).toNatClampNeg)) I.2.2.1 I.2.2.2.1 I.2.2.2.2.1) (cwV 3 hts gL_law_X9_ghosts rfl rfl rfl (by decide +kernel) ⟨Nat.le_of_ble_eq_true rfl, Nat.le_of_ble_eq_true rfl⟩) (l_preE I hK hV hZ) rfl rfl hl.1 rfl (lv_room (Nat.le_of_ble_eq_true rfl)) dL_law_2038 ⟨by omega, by omega⟩) rfl (fun r2038 u H locs q2038 I => ?_)
  obtain ⟨G, W'⟩ := u
  have I : LI D cy s xo mo ou a M G W' f g r q H locs := I
  refine lv_aload_n hx hb dL_law_2041 rfl (lv_at hl 2 rfl) ?_
  refine lv_aload_n hx hb dL_law_2042 rfl (lv_at hl 0 rfl) ?_
  refine lv_iload hx hb dL_law_2043 (lv_at hl 4 rfl) ?_
  refine lv_iconst (v := 1) hx hb dL_law_2045 (by decide) ?_
  refine lv_iadd hx hb dL_law_2046 ?_
  refine va_sld hx hb hXs hbl hbA I.2.2.2.2.2.2.2.2.1 hn1 dL_law_2047 ?_
  refine lv_aload_n hx hb dL_law_2048 rfl (lv_at hl 0 rfl) ?_
  refine lv_iload hx hb dL_law_2049 (lv_at hl 4 rfl) ?_
  refine lv_iconst (v := 2) hx hb dL_law_2051 (by decide) ?_
  refine lv_iadd hx hb dL_law_2052 ?_
  refine va_sld hx hb hXs hbl hbA I.2.2.2.2.2.2.2.2.1 hn2 dL_law_2053 ?_
  refine lv_aload_n hx hb dL_law_2054 rfl (lv_at hl 0 rfl) ?_
  refine lv_iload hx hb dL_law_2055 (lv_at hl 4 rfl) ?_
  refine lv_iconst (v := 3) hx hb dL_law_2057 (by decide) ?_
  refine lv_iadd hx hb dL_law_2058 ?_
  refine va_sld hx hb hXs hbl hbA I.2.2.2.2.2.2.2.2.1 hn3 dL_law_2059 ?_
  have hI := I.2.2.2.2.2.2.1
  refine lm_i (As := [.int (xs (x4 + 1).toNatClampNeg), .int (xs (x4 + 2).toNatClampNeg), .int (xs (x4 + 3).toNatClampNeg)]) (rest := [.int r2038]) I ⟨hx, hb, hml, hown, hts⟩ (c_X10_ghosts_x l D cy mo a f g r q ((xs (x4 + 1).toNatClampNeg)) ((xs (x4 + 2).toNatClampNeg)) ((xs (x4 + 3).toNatClampNeg)) hDM) (cwV 3 hts gL_law_X10_ghosts rfl rfl rfl (by decide +kernel) ⟨Nat.le_of_ble_eq_true rfl, Nat.le_of_ble_eq_true rfl⟩) hK hAM rfl hl.1 rfl (Nat.le_of_ble_eq_true rfl) dL_law_2060 ⟨by omega, by omega⟩ (fun _ _ h9 => by obtain ⟨rfl, h9⟩ := h9; exact hI) (fun r2060 u H locs q2060 I => ?_)
  obtain ⟨-, q2060⟩ := q2060
  obtain ⟨f, g, r, q⟩ := u
  have I : LI D cy s xo mo ou a M G W' f g r q H locs := I
  have e9 : r2038 = r2060 := Int32.toInt_inj.mp (q2038.trans q2060.symm)
  refine lv_icmp_eq (tgt := 2469) hx hb dL_law_2063 (by decide) (fun c9 => ?_) (fun c9 => absurd e9 c9)
  refine W.widen (k := C + 7) (n := S + 588) (by omega) (by omega) ?_
  exact kk _ _ _ _ _ _ _ _ _ I (lv_sub hl [0, 1, 2, 3, 4] rfl)
set_option maxHeartbeats 4000000 in
set_option maxRecDepth 100000 in
theorem lcase_29 {p : Program} {l : Launch} {e : Env} {s : State} {m : MethodId} {below : List Frame} {meth : Method} {c : Code} {b L : Nat} {xs : Nat → Int32} {D : va_G} {cy : Nat → ClassId} {xo mo ou : Nat} {a : Nat → Nat} {M : Option Nat} {G : cG} {W' : va_W} {f : Nat → Int32} {g : Nat → Int64} {r : Nat → Nat → Int32} {q : Nat → Nat → Int64} {H : Heap} {locs : List Loc} {ls : Array Slot} {Q : State → Prop} {C S : Nat} (X : LX p l s m c b L xs D cy mo a) (I : LI D cy s xo mo ou a M G W' f g r q H locs) (hF : FR cy xo W' f r) {x4 : Int32} (h4 : 0 ≤ x4.toInt ∧ x4.toInt + 8 ≤ (L : Int) ∧ L ≤ 4096) (hC : C + 7 ≤ 600002) (hSl : S + 53273 ≤ 7302232) (hl : lv_has ls 8 [(0, .ref b), (1, .ref xo), (2, .ref mo), (3, .ref ou), (4, .int x4)]) (kk : ∀ (G : cG) (W' : va_W) (f : Nat → Int32) (g : Nat → Int64) (r : Nat → Nat → Int32) (q : Nat → Nat → Int64) (H : Heap) (locs : List Loc) (ls : Array Slot), LI D cy s xo mo ou a M G W' f g r q H locs → lv_has ls 8 [(0, .ref b), (1, .ref xo), (2, .ref mo), (3, .ref ou), (4, .int x4)] → W p l e room_1 s m #[Value.ref b] below meth c H locs (C + 7) (S + 588) Q (F0 m 2469 ls [])) : W p l e room_1 s m #[Value.ref b] below meth c H locs C S Q (F0 m 2068 ls []) := by
  obtain ⟨⟨hx, hb, hml, hown, hts⟩, ⟨hXs, hbl⟩, ⟨hK, hV, hZ, hXT⟩, hst, hDM, hAM⟩ := id X
  have h1 : f 1 = 0 := hF.1 1
  have h10 : (f 1).toInt = 0 := by rw [h1]; rfl
  have h23 : f 23 = 0 := hF.1 23
  have h230 : (f 23).toInt = 0 := by rw [h23]; rfl
  have h29 : ∀ i, r 29 i = 0 := hF.2.1
  have hbA : ¬ AL s b := Nat.not_le.mpr hbl
  have hRc : room_1.cells = 600002 := rfl
  have hRs : room_1.slots = 7302232 := rfl
  have hn1 : vp_in (x4 + 1) L := l_in (c := 1) h4 rfl (by decide)
  have hn2 : vp_in (x4 + 2) L := l_in (c := 2) h4 rfl (by decide)
  have hn3 : vp_in (x4 + 3) L := l_in (c := 3) h4 rfl (by decide)
  have hn4 : vp_in (x4 + 4) L := l_in (c := 4) h4 rfl (by decide)
  have hn5 : vp_in (x4 + 5) L := l_in (c := 5) h4 rfl (by decide)
  have hn6 : vp_in (x4 + 6) L := l_in (c := 6) h4 rfl (by decide)
  have hn7 : vp_in (x4 + 7) L := l_in (c := 7) h4 rfl (by decide)
  refine lv_aload_n hx hb dL_law_2068 rfl (lv_at hl 1 rfl) ?_
  refine lv_aload_n hx hb dL_law_2069 rfl (lv_at hl 0 rfl) ?_
  refine lv_iload hx hb dL_law_2070 (lv_at hl 4 rfl) ?_
  refine lv_iconst (v := 1) hx hb dL_law_2072 (by decide) ?_
  refine lv_iadd hx hb dL_law_2073 ?_
  refine va_sld hx hb hXs hbl hbA I.2.2.2.2.2.2.2.2.1 hn1 dL_law_2074 ?_
  refine lv_aload_n hx hb dL_law_2075 rfl (lv_at hl 0 rfl) ?_
  refine lv_iload hx hb dL_law_2076 (lv_at hl 4 rfl) ?_
  refine lv_iconst (v := 2) hx hb dL_law_2078 (by decide) ?_
  refine lv_iadd hx hb dL_law_2079 ?_
  refine va_sld hx hb hXs hbl hbA I.2.2.2.2.2.2.2.2.1 hn2 dL_law_2080 ?_
  refine lv_aload_n hx hb dL_law_2081 rfl (lv_at hl 0 rfl) ?_
  refine lv_iload hx hb dL_law_2082 (lv_at hl 4 rfl) ?_
  refine lv_iconst (v := 3) hx hb dL_law_2084 (by decide) ?_
  refine lv_iadd hx hb dL_law_2085 ?_
  refine va_sld hx hb hXs hbl hbA I.2.2.2.2.2.2.2.2.1 hn3 dL_law_2086 ?_
  refine lv_aload_n hx hb dL_law_2087 rfl (lv_at hl 0 rfl) ?_
  refine lv_iload hx hb dL_law_2088 (lv_at hl 4 rfl) ?_
  refine lv_iconst (v := 4) hx hb dL_law_2090 (by decide) ?_
  refine lv_iadd hx hb dL_law_2091 ?_
  refine va_sld hx hb hXs hbl hbA I.2.2.2.2.2.2.2.2.1 hn4 dL_law_2092 ?_
  refine lv_i2l (v := ((xs (x4 + 4).toNatClampNeg)).toInt64) hx hb dL_law_2093 rfl ?_
  refine lv_bipush (v := 32) hx hb dL_law_2094 (by decide) ?_
  refine lv_lshl (v := (((xs (x4 + 4).toNatClampNeg)).toInt64) <<< ((32 : Int32).toInt64 &&& 63)) hx hb dL_law_2096 rfl ?_
  refine lv_aload_n hx hb dL_law_2097 rfl (lv_at hl 0 rfl) ?_
  refine lv_iload hx hb dL_law_2098 (lv_at hl 4 rfl) ?_
  refine lv_iconst (v := 5) hx hb dL_law_2100 (by decide) ?_
  refine lv_iadd hx hb dL_law_2101 ?_
  refine va_sld hx hb hXs hbl hbA I.2.2.2.2.2.2.2.2.1 hn5 dL_law_2102 ?_
  refine lv_i2l (v := ((xs (x4 + 5).toNatClampNeg)).toInt64) hx hb dL_law_2103 rfl ?_
  refine lv_ldc2 hx hb hown (hts (.constantLong RL 45 (4294967295)) (by decide +kernel)) dL_law_2104 ?_
  refine lv_land hx hb dL_law_2107 ?_
  refine lv_topl (fun v2107 e2107 => ?_)
  refine lv_lor hx hb dL_law_2108 ?_
  refine lv_topl (fun v2108 e2108 => ?_)
  obtain ⟨bs, js, sh, wk, ll, jc, lc, lb, hM⟩ := I.2.2.2.2.2.2.2.1
  obtain ⟨rfl, rfl, rfl, hSh, fl, hfl⟩ := hF.at I.2.2.1 hM
  refine lk3_i I (va_runV (g := F0 m 2109 ls ([.long v2108, .int (xs (x4 + 3).toNatClampNeg), .int (xs (x4 + 2).toNatClampNeg), .int (xs (x4 + 1).toNatClampNeg), .ref xo])) (As := [.int (xs (x4 + 1).toNatClampNeg), .int (xs (x4 + 2).toNatClampNeg), .int (xs (x4 + 3).toNatClampNeg), .long v2108]) (rest := []) ⟨hx, hb, hml, hown, hts⟩ (c_X9_keep_0 l D cy (AC s mo a) G W' xo ((xs (x4 + 1).toNatClampNeg)) ((xs (x4 + 2).toNatClampNeg)) ((xs (x4 + 3).toNatClampNeg)) v2108 I.2.2.1 I.2.2.2.1 I.2.2.2.2.1 hM h10) (cwV 4 hts gL_law_X9_keep rfl rfl rfl (by decide +kernel) ⟨Nat.le_of_ble_eq_true rfl, Nat.le_of_ble_eq_true rfl⟩) (l_preV I hK hV) rfl rfl hl.1 rfl (lv_room (Nat.le_of_ble_eq_true rfl)) dL_law_2109 ⟨by omega, by omega⟩) rfl (fun r2109 u H locs q2109 hX I => ?_)
  obtain ⟨G, W'⟩ := u
  have I : LI D cy s xo mo ou a M G W' f g r q H locs := I
  refine lv_aload_n hx hb dL_law_2112 rfl (lv_at hl 2 rfl) ?_
  refine lv_aload_n hx hb dL_law_2113 rfl (lv_at hl 0 rfl) ?_
  refine lv_iload hx hb dL_law_2114 (lv_at hl 4 rfl) ?_
  refine lv_iconst (v := 1) hx hb dL_law_2116 (by decide) ?_
  refine lv_iadd hx hb dL_law_2117 ?_
  refine va_sld hx hb hXs hbl hbA I.2.2.2.2.2.2.2.2.1 hn1 dL_law_2118 ?_
  refine lv_aload_n hx hb dL_law_2119 rfl (lv_at hl 0 rfl) ?_
  refine lv_iload hx hb dL_law_2120 (lv_at hl 4 rfl) ?_
  refine lv_iconst (v := 2) hx hb dL_law_2122 (by decide) ?_
  refine lv_iadd hx hb dL_law_2123 ?_
  refine va_sld hx hb hXs hbl hbA I.2.2.2.2.2.2.2.2.1 hn2 dL_law_2124 ?_
  refine lv_aload_n hx hb dL_law_2125 rfl (lv_at hl 0 rfl) ?_
  refine lv_iload hx hb dL_law_2126 (lv_at hl 4 rfl) ?_
  refine lv_iconst (v := 3) hx hb dL_law_2128 (by decide) ?_
  refine lv_iadd hx hb dL_law_2129 ?_
  refine va_sld hx hb hXs hbl hbA I.2.2.2.2.2.2.2.2.1 hn3 dL_law_2130 ?_
  refine lv_aload_n hx hb dL_law_2131 rfl (lv_at hl 0 rfl) ?_
  refine lv_iload hx hb dL_law_2132 (lv_at hl 4 rfl) ?_
  refine lv_iconst (v := 4) hx hb dL_law_2134 (by decide) ?_
  refine lv_iadd hx hb dL_law_2135 ?_
  refine va_sld hx hb hXs hbl hbA I.2.2.2.2.2.2.2.2.1 hn4 dL_law_2136 ?_
  refine lv_i2l (v := ((xs (x4 + 4).toNatClampNeg)).toInt64) hx hb dL_law_2137 rfl ?_
  refine lv_bipush (v := 32) hx hb dL_law_2138 (by decide) ?_
  refine lv_lshl (v := (((xs (x4 + 4).toNatClampNeg)).toInt64) <<< ((32 : Int32).toInt64 &&& 63)) hx hb dL_law_2140 rfl ?_
  refine lv_aload_n hx hb dL_law_2141 rfl (lv_at hl 0 rfl) ?_
  refine lv_iload hx hb dL_law_2142 (lv_at hl 4 rfl) ?_
  refine lv_iconst (v := 5) hx hb dL_law_2144 (by decide) ?_
  refine lv_iadd hx hb dL_law_2145 ?_
  refine va_sld hx hb hXs hbl hbA I.2.2.2.2.2.2.2.2.1 hn5 dL_law_2146 ?_
  refine lv_i2l (v := ((xs (x4 + 5).toNatClampNeg)).toInt64) hx hb dL_law_2147 rfl ?_
  refine lv_ldc2 hx hb hown (hts (.constantLong RL 45 (4294967295)) (by decide +kernel)) dL_law_2148 ?_
  refine lv_land hx hb dL_law_2151 ?_
  refine lv_topl (fun v2151 e2151 => ?_)
  refine lv_lor hx hb dL_law_2152 ?_
  refine lv_topl (fun v2152 e2152 => ?_)
  have hI := I.2.2.2.2.2.2.1
  refine lm_i (As := [.int (xs (x4 + 1).toNatClampNeg), .int (xs (x4 + 2).toNatClampNeg), .int (xs (x4 + 3).toNatClampNeg), .long v2152]) (rest := [.int r2109]) I ⟨hx, hb, hml, hown, hts⟩ (c_X10_keep_0 l D cy mo a f g r q ((xs (x4 + 1).toNatClampNeg)) ((xs (x4 + 2).toNatClampNeg)) ((xs (x4 + 3).toNatClampNeg)) v2152 hDM hI h10) (cwV 4 hts gL_law_X10_keep rfl rfl rfl (by decide +kernel) ⟨Nat.le_of_ble_eq_true rfl, Nat.le_of_ble_eq_true rfl⟩) hK hAM rfl hl.1 rfl (Nat.le_of_ble_eq_true rfl) dL_law_2153 ⟨by omega, by omega⟩ (fun _ _ h9 => by obtain ⟨_, _, _, _, _, rfl, h9⟩ := h9; exact h9.2) (fun r2153 u H locs q2153 I => ?_)
  obtain ⟨_, _, _, _, _, -, q2153, -⟩ := q2153
  obtain ⟨f, g, r, q⟩ := u
  have I : LI D cy s xo mo ou a M G W' f g r q H locs := I
  subst e2152
  subst e2151
  subst e2108
  subst e2107
  have e9 : r2109 = r2153 := q2109.trans q2153.symm
  refine lv_icmp_eq (tgt := 2469) hx hb dL_law_2156 (by decide) (fun c9 => ?_) (fun c9 => absurd e9 c9)
  refine W.widen (k := C + 7) (n := S + 588) (by omega) (by omega) ?_
  exact kk _ _ _ _ _ _ _ _ _ I (lv_sub hl [0, 1, 2, 3, 4] rfl)
set_option maxHeartbeats 4000000 in
set_option maxRecDepth 100000 in
theorem lcase_30 {p : Program} {l : Launch} {e : Env} {s : State} {m : MethodId} {below : List Frame} {meth : Method} {c : Code} {b L : Nat} {xs : Nat → Int32} {D : va_G} {cy : Nat → ClassId} {xo mo ou : Nat} {a : Nat → Nat} {M : Option Nat} {G : cG} {W' : va_W} {f : Nat → Int32} {g : Nat → Int64} {r : Nat → Nat → Int32} {q : Nat → Nat → Int64} {H : Heap} {locs : List Loc} {ls : Array Slot} {Q : State → Prop} {C S : Nat} (X : LX p l s m c b L xs D cy mo a) (I : LI D cy s xo mo ou a M G W' f g r q H locs) (hF : FR cy xo W' f r) {x4 : Int32} (h4 : 0 ≤ x4.toInt ∧ x4.toInt + 8 ≤ (L : Int) ∧ L ≤ 4096) (hC : C + 7 ≤ 600002) (hSl : S + 53273 ≤ 7302232) (hl : lv_has ls 8 [(0, .ref b), (1, .ref xo), (2, .ref mo), (3, .ref ou), (4, .int x4)]) (kk : ∀ (G : cG) (W' : va_W) (f : Nat → Int32) (g : Nat → Int64) (r : Nat → Nat → Int32) (q : Nat → Nat → Int64) (H : Heap) (locs : List Loc) (ls : Array Slot), LI D cy s xo mo ou a M G W' f g r q H locs → lv_has ls 8 [(0, .ref b), (1, .ref xo), (2, .ref mo), (3, .ref ou), (4, .int x4)] → W p l e room_1 s m #[Value.ref b] below meth c H locs (C + 7) (S + 588) Q (F0 m 2469 ls [])) : W p l e room_1 s m #[Value.ref b] below meth c H locs C S Q (F0 m 2161 ls []) := by
  obtain ⟨⟨hx, hb, hml, hown, hts⟩, ⟨hXs, hbl⟩, ⟨hK, hV, hZ, hXT⟩, hst, hDM, hAM⟩ := id X
  have h1 : f 1 = 0 := hF.1 1
  have h10 : (f 1).toInt = 0 := by rw [h1]; rfl
  have h23 : f 23 = 0 := hF.1 23
  have h230 : (f 23).toInt = 0 := by rw [h23]; rfl
  have h29 : ∀ i, r 29 i = 0 := hF.2.1
  have hbA : ¬ AL s b := Nat.not_le.mpr hbl
  have hRc : room_1.cells = 600002 := rfl
  have hRs : room_1.slots = 7302232 := rfl
  have hn1 : vp_in (x4 + 1) L := l_in (c := 1) h4 rfl (by decide)
  have hn2 : vp_in (x4 + 2) L := l_in (c := 2) h4 rfl (by decide)
  have hn3 : vp_in (x4 + 3) L := l_in (c := 3) h4 rfl (by decide)
  have hn4 : vp_in (x4 + 4) L := l_in (c := 4) h4 rfl (by decide)
  have hn5 : vp_in (x4 + 5) L := l_in (c := 5) h4 rfl (by decide)
  have hn6 : vp_in (x4 + 6) L := l_in (c := 6) h4 rfl (by decide)
  have hn7 : vp_in (x4 + 7) L := l_in (c := 7) h4 rfl (by decide)
  refine lv_aload_n hx hb dL_law_2161 rfl (lv_at hl 1 rfl) ?_
  refine lv_aload_n hx hb dL_law_2162 rfl (lv_at hl 0 rfl) ?_
  refine lv_iload hx hb dL_law_2163 (lv_at hl 4 rfl) ?_
  refine lv_iconst (v := 1) hx hb dL_law_2165 (by decide) ?_
  refine lv_iadd hx hb dL_law_2166 ?_
  refine va_sld hx hb hXs hbl hbA I.2.2.2.2.2.2.2.2.1 hn1 dL_law_2167 ?_
  refine lv_aload_n hx hb dL_law_2168 rfl (lv_at hl 0 rfl) ?_
  refine lv_iload hx hb dL_law_2169 (lv_at hl 4 rfl) ?_
  refine lv_iconst (v := 2) hx hb dL_law_2171 (by decide) ?_
  refine lv_iadd hx hb dL_law_2172 ?_
  refine va_sld hx hb hXs hbl hbA I.2.2.2.2.2.2.2.2.1 hn2 dL_law_2173 ?_
  refine lv_aload_n hx hb dL_law_2174 rfl (lv_at hl 0 rfl) ?_
  refine lv_iload hx hb dL_law_2175 (lv_at hl 4 rfl) ?_
  refine lv_iconst (v := 3) hx hb dL_law_2177 (by decide) ?_
  refine lv_iadd hx hb dL_law_2178 ?_
  refine va_sld hx hb hXs hbl hbA I.2.2.2.2.2.2.2.2.1 hn3 dL_law_2179 ?_
  refine lk_i I (va_runV (g := F0 m 2180 ls ([.int (xs (x4 + 3).toNatClampNeg), .int (xs (x4 + 2).toNatClampNeg), .int (xs (x4 + 1).toNatClampNeg), .ref xo])) (As := [.int (xs (x4 + 1).toNatClampNeg), .int (xs (x4 + 2).toNatClampNeg), .int (xs (x4 + 3).toNatClampNeg)]) (rest := []) ⟨hx, hb, hml, hown, hts⟩ (c_X9_make_x l D cy (AC s mo a) G W' xo ((xs (x4 + 1).toNatClampNeg)) ((xs (x4 + 2).toNatClampNeg)) ((xs (x4 + 3).toNatClampNeg)) I.2.2.1 I.2.2.2.1 I.2.2.2.2.1) (cwV 3 hts gL_law_X9_make rfl rfl rfl (by decide +kernel) ⟨Nat.le_of_ble_eq_true rfl, Nat.le_of_ble_eq_true rfl⟩) (l_preV I hK hV) rfl rfl hl.1 rfl (lv_room (Nat.le_of_ble_eq_true rfl)) dL_law_2180 ⟨by omega, by omega⟩) rfl (fun r2180 u H locs q2180 I => ?_)
  obtain ⟨G, W'⟩ := u
  have I : LI D cy s xo mo ou a M G W' f g r q H locs := I
  refine lv_aload_n hx hb dL_law_2183 rfl (lv_at hl 2 rfl) ?_
  refine lv_aload_n hx hb dL_law_2184 rfl (lv_at hl 0 rfl) ?_
  refine lv_iload hx hb dL_law_2185 (lv_at hl 4 rfl) ?_
  refine lv_iconst (v := 1) hx hb dL_law_2187 (by decide) ?_
  refine lv_iadd hx hb dL_law_2188 ?_
  refine va_sld hx hb hXs hbl hbA I.2.2.2.2.2.2.2.2.1 hn1 dL_law_2189 ?_
  refine lv_aload_n hx hb dL_law_2190 rfl (lv_at hl 0 rfl) ?_
  refine lv_iload hx hb dL_law_2191 (lv_at hl 4 rfl) ?_
  refine lv_iconst (v := 2) hx hb dL_law_2193 (by decide) ?_
  refine lv_iadd hx hb dL_law_2194 ?_
  refine va_sld hx hb hXs hbl hbA I.2.2.2.2.2.2.2.2.1 hn2 dL_law_2195 ?_
  refine lv_aload_n hx hb dL_law_2196 rfl (lv_at hl 0 rfl) ?_
  refine lv_iload hx hb dL_law_2197 (lv_at hl 4 rfl) ?_
  refine lv_iconst (v := 3) hx hb dL_law_2199 (by decide) ?_
  refine lv_iadd hx hb dL_law_2200 ?_
  refine va_sld hx hb hXs hbl hbA I.2.2.2.2.2.2.2.2.1 hn3 dL_law_2201 ?_
  have hI := I.2.2.2.2.2.2.1
  refine lm_i (As := [.int (xs (x4 + 1).toNatClampNeg), .int (xs (x4 + 2).toNatClampNeg), .int (xs (x4 + 3).toNatClampNeg)]) (rest := [.int r2180]) I ⟨hx, hb, hml, hown, hts⟩ (c_X10_make l D cy mo a f g r q ((xs (x4 + 1).toNatClampNeg)) ((xs (x4 + 2).toNatClampNeg)) ((xs (x4 + 3).toNatClampNeg)) hDM hI) (cwV 3 hts gL_law_X10_make rfl rfl rfl (by decide +kernel) ⟨Nat.le_of_ble_eq_true rfl, Nat.le_of_ble_eq_true rfl⟩) hK hAM rfl hl.1 rfl (Nat.le_of_ble_eq_true rfl) dL_law_2202 ⟨by omega, by omega⟩ (fun _ _ h9 => by obtain ⟨_, _, _, rfl, h9⟩ := h9; exact h9.2) (fun r2202 u H locs q2202 I => ?_)
  obtain ⟨_, _, _, -, q2202, -⟩ := q2202
  obtain ⟨f, g, r, q⟩ := u
  have I : LI D cy s xo mo ou a M G W' f g r q H locs := I
  have e9 : r2180 = r2202 := q2180.trans q2202.symm
  refine lv_icmp_eq (tgt := 2469) hx hb dL_law_2205 (by decide) (fun c9 => ?_) (fun c9 => absurd e9 c9)
  refine W.widen (k := C + 7) (n := S + 588) (by omega) (by omega) ?_
  exact kk _ _ _ _ _ _ _ _ _ I (lv_sub hl [0, 1, 2, 3, 4] rfl)
set_option maxHeartbeats 4000000 in
set_option maxRecDepth 100000 in
theorem lcase_31 {p : Program} {l : Launch} {e : Env} {s : State} {m : MethodId} {below : List Frame} {meth : Method} {c : Code} {b L : Nat} {xs : Nat → Int32} {D : va_G} {cy : Nat → ClassId} {xo mo ou : Nat} {a : Nat → Nat} {M : Option Nat} {G : cG} {W' : va_W} {f : Nat → Int32} {g : Nat → Int64} {r : Nat → Nat → Int32} {q : Nat → Nat → Int64} {H : Heap} {locs : List Loc} {ls : Array Slot} {Q : State → Prop} {C S : Nat} (X : LX p l s m c b L xs D cy mo a) (I : LI D cy s xo mo ou a M G W' f g r q H locs) (hF : FR cy xo W' f r) {x4 : Int32} (h4 : 0 ≤ x4.toInt ∧ x4.toInt + 8 ≤ (L : Int) ∧ L ≤ 4096) (hC : C + 7 ≤ 600002) (hSl : S + 53273 ≤ 7302232) (hl : lv_has ls 8 [(0, .ref b), (1, .ref xo), (2, .ref mo), (3, .ref ou), (4, .int x4)]) (kk : ∀ (G : cG) (W' : va_W) (f : Nat → Int32) (g : Nat → Int64) (r : Nat → Nat → Int32) (q : Nat → Nat → Int64) (H : Heap) (locs : List Loc) (ls : Array Slot), LI D cy s xo mo ou a M G W' f g r q H locs → lv_has ls 8 [(0, .ref b), (1, .ref xo), (2, .ref mo), (3, .ref ou), (4, .int x4)] → W p l e room_1 s m #[Value.ref b] below meth c H locs (C + 7) (S + 588) Q (F0 m 2469 ls [])) : W p l e room_1 s m #[Value.ref b] below meth c H locs C S Q (F0 m 2210 ls []) := by
  obtain ⟨⟨hx, hb, hml, hown, hts⟩, ⟨hXs, hbl⟩, ⟨hK, hV, hZ, hXT⟩, hst, hDM, hAM⟩ := id X
  have h1 : f 1 = 0 := hF.1 1
  have h10 : (f 1).toInt = 0 := by rw [h1]; rfl
  have h23 : f 23 = 0 := hF.1 23
  have h230 : (f 23).toInt = 0 := by rw [h23]; rfl
  have h29 : ∀ i, r 29 i = 0 := hF.2.1
  have hbA : ¬ AL s b := Nat.not_le.mpr hbl
  have hRc : room_1.cells = 600002 := rfl
  have hRs : room_1.slots = 7302232 := rfl
  have hn1 : vp_in (x4 + 1) L := l_in (c := 1) h4 rfl (by decide)
  have hn2 : vp_in (x4 + 2) L := l_in (c := 2) h4 rfl (by decide)
  have hn3 : vp_in (x4 + 3) L := l_in (c := 3) h4 rfl (by decide)
  have hn4 : vp_in (x4 + 4) L := l_in (c := 4) h4 rfl (by decide)
  have hn5 : vp_in (x4 + 5) L := l_in (c := 5) h4 rfl (by decide)
  have hn6 : vp_in (x4 + 6) L := l_in (c := 6) h4 rfl (by decide)
  have hn7 : vp_in (x4 + 7) L := l_in (c := 7) h4 rfl (by decide)
  refine lv_aload_n hx hb dL_law_2210 rfl (lv_at hl 1 rfl) ?_
  refine lv_aload_n hx hb dL_law_2211 rfl (lv_at hl 0 rfl) ?_
  refine lv_iload hx hb dL_law_2212 (lv_at hl 4 rfl) ?_
  refine lv_iconst (v := 1) hx hb dL_law_2214 (by decide) ?_
  refine lv_iadd hx hb dL_law_2215 ?_
  refine va_sld hx hb hXs hbl hbA I.2.2.2.2.2.2.2.2.1 hn1 dL_law_2216 ?_
  refine lv_aload_n hx hb dL_law_2217 rfl (lv_at hl 0 rfl) ?_
  refine lv_iload hx hb dL_law_2218 (lv_at hl 4 rfl) ?_
  refine lv_iconst (v := 2) hx hb dL_law_2220 (by decide) ?_
  refine lv_iadd hx hb dL_law_2221 ?_
  refine va_sld hx hb hXs hbl hbA I.2.2.2.2.2.2.2.2.1 hn2 dL_law_2222 ?_
  refine lv_aload_n hx hb dL_law_2223 rfl (lv_at hl 3 rfl) ?_
  obtain ⟨bs, js, sh, wk, ll, jc, lc, lb, hM⟩ := I.2.2.2.2.2.2.2.1
  obtain ⟨rfl, rfl, rfl, hSh, fl, hfl⟩ := hF.at I.2.2.1 hM
  refine lk3_ri I (vx_runSW (g := F0 m 2224 ls ([.ref ou, .int (xs (x4 + 2).toNatClampNeg), .int (xs (x4 + 1).toNatClampNeg), .ref xo])) (As := [.ref xo, .int (xs (x4 + 1).toNatClampNeg), .int (xs (x4 + 2).toNatClampNeg), .ref ou]) (rest := []) ⟨hx, hb, hml, hown, hts⟩ (c_L_element_0 l hst D cy (AC s mo a) G W' xo ((xs (x4 + 1).toNatClampNeg)) ((xs (x4 + 2).toNatClampNeg)) ou I.2.2.1 I.2.2.2.1 I.2.2.2.2.1 hM I.2.2.2.2.2.1 hSh (fun _ => rfl)) (vx_cwSW 4 hts gL_law_L_element rfl rfl rfl (by decide +kernel) ⟨Nat.le_of_ble_eq_true rfl, Nat.le_of_ble_eq_true rfl⟩) (l_preS I hK hV hZ hXT) rfl rfl hl.1 rfl (lv_room (Nat.le_of_ble_eq_true rfl)) dL_law_2224 ⟨by omega, by omega⟩) (fun r2224 u H locs q2224 hX I => ?_)
  obtain ⟨G, W'⟩ := u
  have I : LI D cy s xo mo ou a M G W' f g r q H locs := I
  have qL := q2224
  refine lv_istore (lv' := [(5, .int r2224), (0, .ref b), (1, .ref xo), (2, .ref mo), (3, .ref ou), (4, .int x4)]) hx hb dL_law_2227 hl (by decide) rfl (fun ls hl => ?_)
  refine lv_aload_n hx hb dL_law_2229 rfl (lv_at hl 3 rfl) ?_
  refine lv_aload_n hx hb dL_law_2230 rfl (lv_at hl 1 rfl) ?_
  refine lv_iload hx hb dL_law_2231 (lv_at hl 5 rfl) ?_
  refine lv_iconst (v := 1) hx hb dL_law_2233 (by decide) ?_
  refine lv_iadd hx hb dL_law_2234 ?_
  refine va_sld hx hb hXs hbl hbA I.2.2.2.2.2.2.2.2.1 hn1 dL_law_2235 ?_
  refine lv_aload_n hx hb dL_law_2236 rfl (lv_at hl 1 rfl) ?_
  refine lv_iload hx hb dL_law_2237 (lv_at hl 5 rfl) ?_
  refine lv_iconst (v := 2) hx hb dL_law_2239 (by decide) ?_
  refine lv_iadd hx hb dL_law_2240 ?_
  refine va_sld hx hb hXs hbl hbA I.2.2.2.2.2.2.2.2.1 hn2 dL_law_2241 ?_
  have hI := I.2.2.2.2.2.2.1
  refine lm_l (As := [.int (xs (x4 + 1).toNatClampNeg), .int (xs (x4 + 2).toNatClampNeg)]) (rest := []) I ⟨hx, hb, hml, hown, hts⟩ (c_X10_element_0 l D cy mo a f g r q ((xs (x4 + 1).toNatClampNeg)) ((xs (x4 + 2).toNatClampNeg)) hDM hI h29) (cwV 2 hts gL_law_X10_element rfl rfl rfl (by decide +kernel) ⟨Nat.le_of_ble_eq_true rfl, Nat.le_of_ble_eq_true rfl⟩) hK hAM rfl hl.1 rfl (Nat.le_of_ble_eq_true rfl) dL_law_2242 ⟨by omega, by omega⟩ (fun _ _ h9 => by obtain ⟨_, rfl, h9⟩ := h9; exact hI) (fun r2242 u H locs q2242 I => ?_)
  have qR : exO ((xs (x4 + 1).toNatClampNeg)) (u.1 0) := by obtain ⟨th9, rfl, h9⟩ := q2242; exact h9
  obtain ⟨f, g, r, q⟩ := u
  have qR : exO ((xs (x4 + 1).toNatClampNeg)) (f 0) := qR
  have I : LI D cy s xo mo ou a M G W' f g r q H locs := I
  refine lv_lstore (lv' := [(6, .long r2242), (5, .int r2224), (0, .ref b), (1, .ref xo), (2, .ref mo), (3, .ref ou), (4, .int x4)]) hx hb dL_law_2245 hl (by decide) rfl (fun ls hl => ?_)
  refine lv_aload_n hx hb dL_law_2247 rfl (lv_at hl 4 rfl) ?_
  have hI := I.2.2.2.2.2.2.1
  refine lm_i (As := []) (rest := []) I ⟨hx, hb, hml, hown, hts⟩ (c_X10_thrown_x l D cy mo a f g r q  hDM) (cwV 0 hts gL_law_X10_thrown rfl rfl rfl (by decide +kernel) ⟨Nat.le_of_ble_eq_true rfl, Nat.le_of_ble_eq_true rfl⟩) hK hAM rfl hl.1 rfl (Nat.le_of_ble_eq_true rfl) dL_law_2248 ⟨by omega, by omega⟩ (fun _ _ h9 => by obtain ⟨rfl, h9⟩ := h9; exact hI) (fun r2248 u H locs q2248 I => ?_)
  have qT : r2248 = f 0 := by obtain ⟨rfl, h9⟩ := q2248; exact h9
  obtain ⟨f, g, r, q⟩ := u
  have I : LI D cy s xo mo ou a M G W' f g r q H locs := I
  have e9 : r2248 = r2224 := qT.trans (exO_eq qL qR)
  refine lv_iload hx hb dL_law_2251 (lv_at hl 1 rfl) ?_
  refine lv_icmp_eq (tgt := 2258) hx hb dL_law_2253 (by decide) (fun c9 => ?_) (fun c9 => absurd e9 c9)
  refine lv_iload hx hb dL_law_2258 (lv_at hl 1 rfl) ?_
  refine lv_if_ne (tgt := 2274) hx hb dL_law_2260 (by decide) (fun c2260 => ?_) (fun c2260 => absurd c2260 (exO_nz qL))
  refine lv_goto (tgt := 2469) hx hb dL_law_2274 (by decide) ?_
  refine W.widen (k := C + 7) (n := S + 588) (by omega) (by omega) ?_
  exact kk _ _ _ _ _ _ _ _ _ I (lv_sub hl [2, 3, 4, 5, 6] rfl)
set_option maxHeartbeats 4000000 in
set_option maxRecDepth 100000 in
theorem lcase_32 {p : Program} {l : Launch} {e : Env} {s : State} {m : MethodId} {below : List Frame} {meth : Method} {c : Code} {b L : Nat} {xs : Nat → Int32} {D : va_G} {cy : Nat → ClassId} {xo mo ou : Nat} {a : Nat → Nat} {M : Option Nat} {G : cG} {W' : va_W} {f : Nat → Int32} {g : Nat → Int64} {r : Nat → Nat → Int32} {q : Nat → Nat → Int64} {H : Heap} {locs : List Loc} {ls : Array Slot} {Q : State → Prop} {C S : Nat} (X : LX p l s m c b L xs D cy mo a) (I : LI D cy s xo mo ou a M G W' f g r q H locs) (hF : FR cy xo W' f r) {x4 : Int32} (h4 : 0 ≤ x4.toInt ∧ x4.toInt + 8 ≤ (L : Int) ∧ L ≤ 4096) (hC : C + 7 ≤ 600002) (hSl : S + 53273 ≤ 7302232) (hl : lv_has ls 8 [(0, .ref b), (1, .ref xo), (2, .ref mo), (3, .ref ou), (4, .int x4)]) (kk : ∀ (G : cG) (W' : va_W) (f : Nat → Int32) (g : Nat → Int64) (r : Nat → Nat → Int32) (q : Nat → Nat → Int64) (H : Heap) (locs : List Loc) (ls : Array Slot), LI D cy s xo mo ou a M G W' f g r q H locs → lv_has ls 8 [(0, .ref b), (1, .ref xo), (2, .ref mo), (3, .ref ou), (4, .int x4)] → W p l e room_1 s m #[Value.ref b] below meth c H locs (C + 7) (S + 588) Q (F0 m 2469 ls [])) : W p l e room_1 s m #[Value.ref b] below meth c H locs C S Q (F0 m 2277 ls []) := by
  obtain ⟨⟨hx, hb, hml, hown, hts⟩, ⟨hXs, hbl⟩, ⟨hK, hV, hZ, hXT⟩, hst, hDM, hAM⟩ := id X
  have h1 : f 1 = 0 := hF.1 1
  have h10 : (f 1).toInt = 0 := by rw [h1]; rfl
  have h23 : f 23 = 0 := hF.1 23
  have h230 : (f 23).toInt = 0 := by rw [h23]; rfl
  have h29 : ∀ i, r 29 i = 0 := hF.2.1
  have hbA : ¬ AL s b := Nat.not_le.mpr hbl
  have hRc : room_1.cells = 600002 := rfl
  have hRs : room_1.slots = 7302232 := rfl
  have hn1 : vp_in (x4 + 1) L := l_in (c := 1) h4 rfl (by decide)
  have hn2 : vp_in (x4 + 2) L := l_in (c := 2) h4 rfl (by decide)
  have hn3 : vp_in (x4 + 3) L := l_in (c := 3) h4 rfl (by decide)
  have hn4 : vp_in (x4 + 4) L := l_in (c := 4) h4 rfl (by decide)
  have hn5 : vp_in (x4 + 5) L := l_in (c := 5) h4 rfl (by decide)
  have hn6 : vp_in (x4 + 6) L := l_in (c := 6) h4 rfl (by decide)
  have hn7 : vp_in (x4 + 7) L := l_in (c := 7) h4 rfl (by decide)
  refine lv_aload_n hx hb dL_law_2277 rfl (lv_at hl 1 rfl) ?_
  refine lv_aload_n hx hb dL_law_2278 rfl (lv_at hl 0 rfl) ?_
  refine lv_iload hx hb dL_law_2279 (lv_at hl 4 rfl) ?_
  refine lv_iconst (v := 1) hx hb dL_law_2281 (by decide) ?_
  refine lv_iadd hx hb dL_law_2282 ?_
  refine va_sld hx hb hXs hbl hbA I.2.2.2.2.2.2.2.2.1 hn1 dL_law_2283 ?_
  refine lv_aload_n hx hb dL_law_2284 rfl (lv_at hl 0 rfl) ?_
  refine lv_iload hx hb dL_law_2285 (lv_at hl 4 rfl) ?_
  refine lv_iconst (v := 2) hx hb dL_law_2287 (by decide) ?_
  refine lv_iadd hx hb dL_law_2288 ?_
  refine va_sld hx hb hXs hbl hbA I.2.2.2.2.2.2.2.2.1 hn2 dL_law_2289 ?_
  refine lv_aload_n hx hb dL_law_2290 rfl (lv_at hl 0 rfl) ?_
  refine lv_iload hx hb dL_law_2291 (lv_at hl 4 rfl) ?_
  refine lv_iconst (v := 3) hx hb dL_law_2293 (by decide) ?_
  refine lv_iadd hx hb dL_law_2294 ?_
  refine va_sld hx hb hXs hbl hbA I.2.2.2.2.2.2.2.2.1 hn3 dL_law_2295 ?_
  refine lv_aload_n hx hb dL_law_2296 rfl (lv_at hl 0 rfl) ?_
  refine lv_iload hx hb dL_law_2297 (lv_at hl 4 rfl) ?_
  refine lv_iconst (v := 4) hx hb dL_law_2299 (by decide) ?_
  refine lv_iadd hx hb dL_law_2300 ?_
  refine va_sld hx hb hXs hbl hbA I.2.2.2.2.2.2.2.2.1 hn4 dL_law_2301 ?_
  refine lv_aload_n hx hb dL_law_2302 rfl (lv_at hl 0 rfl) ?_
  refine lv_iload hx hb dL_law_2303 (lv_at hl 4 rfl) ?_
  refine lv_iconst (v := 5) hx hb dL_law_2305 (by decide) ?_
  refine lv_iadd hx hb dL_law_2306 ?_
  refine va_sld hx hb hXs hbl hbA I.2.2.2.2.2.2.2.2.1 hn5 dL_law_2307 ?_
  obtain ⟨bs, js, sh, wk, ll, jc, lc, lb, hM⟩ := I.2.2.2.2.2.2.2.1
  obtain ⟨rfl, rfl, rfl, hSh, fl, hfl⟩ := hF.at I.2.2.1 hM
  refine lk3_ri I (va_runV (g := F0 m 2308 ls ([.int (xs (x4 + 5).toNatClampNeg), .int (xs (x4 + 4).toNatClampNeg), .int (xs (x4 + 3).toNatClampNeg), .int (xs (x4 + 2).toNatClampNeg), .int (xs (x4 + 1).toNatClampNeg), .ref xo])) (As := [.int (xs (x4 + 1).toNatClampNeg), .int (xs (x4 + 2).toNatClampNeg), .int (xs (x4 + 3).toNatClampNeg), .int (xs (x4 + 4).toNatClampNeg), .int (xs (x4 + 5).toNatClampNeg)]) (rest := []) ⟨hx, hb, hml, hown, hts⟩ (c_X9_copy_0 l D cy (AC s mo a) G W' xo ((xs (x4 + 1).toNatClampNeg)) ((xs (x4 + 2).toNatClampNeg)) ((xs (x4 + 3).toNatClampNeg)) ((xs (x4 + 4).toNatClampNeg)) ((xs (x4 + 5).toNatClampNeg)) I.2.2.1 I.2.2.2.1 I.2.2.2.2.1 hM hSh (fun _ => rfl)) (cwV 5 hts gL_law_X9_copy rfl rfl rfl (by decide +kernel) ⟨Nat.le_of_ble_eq_true rfl, Nat.le_of_ble_eq_true rfl⟩) (l_preV I hK hV) rfl rfl hl.1 rfl (lv_room (Nat.le_of_ble_eq_true rfl)) dL_law_2308 ⟨by omega, by omega⟩) (fun r2308 u H locs q2308 hX I => ?_)
  obtain ⟨G, W'⟩ := u
  have I : LI D cy s xo mo ou a M G W' f g r q H locs := I
  refine lv_aload_n hx hb dL_law_2311 rfl (lv_at hl 2 rfl) ?_
  refine lv_aload_n hx hb dL_law_2312 rfl (lv_at hl 0 rfl) ?_
  refine lv_iload hx hb dL_law_2313 (lv_at hl 4 rfl) ?_
  refine lv_iconst (v := 1) hx hb dL_law_2315 (by decide) ?_
  refine lv_iadd hx hb dL_law_2316 ?_
  refine va_sld hx hb hXs hbl hbA I.2.2.2.2.2.2.2.2.1 hn1 dL_law_2317 ?_
  refine lv_aload_n hx hb dL_law_2318 rfl (lv_at hl 0 rfl) ?_
  refine lv_iload hx hb dL_law_2319 (lv_at hl 4 rfl) ?_
  refine lv_iconst (v := 2) hx hb dL_law_2321 (by decide) ?_
  refine lv_iadd hx hb dL_law_2322 ?_
  refine va_sld hx hb hXs hbl hbA I.2.2.2.2.2.2.2.2.1 hn2 dL_law_2323 ?_
  refine lv_aload_n hx hb dL_law_2324 rfl (lv_at hl 0 rfl) ?_
  refine lv_iload hx hb dL_law_2325 (lv_at hl 4 rfl) ?_
  refine lv_iconst (v := 3) hx hb dL_law_2327 (by decide) ?_
  refine lv_iadd hx hb dL_law_2328 ?_
  refine va_sld hx hb hXs hbl hbA I.2.2.2.2.2.2.2.2.1 hn3 dL_law_2329 ?_
  refine lv_aload_n hx hb dL_law_2330 rfl (lv_at hl 0 rfl) ?_
  refine lv_iload hx hb dL_law_2331 (lv_at hl 4 rfl) ?_
  refine lv_iconst (v := 4) hx hb dL_law_2333 (by decide) ?_
  refine lv_iadd hx hb dL_law_2334 ?_
  refine va_sld hx hb hXs hbl hbA I.2.2.2.2.2.2.2.2.1 hn4 dL_law_2335 ?_
  refine lv_aload_n hx hb dL_law_2336 rfl (lv_at hl 0 rfl) ?_
  refine lv_iload hx hb dL_law_2337 (lv_at hl 4 rfl) ?_
  refine lv_iconst (v := 5) hx hb dL_law_2339 (by decide) ?_
  refine lv_iadd hx hb dL_law_2340 ?_
  refine va_sld hx hb hXs hbl hbA I.2.2.2.2.2.2.2.2.1 hn5 dL_law_2341 ?_
  have hI := I.2.2.2.2.2.2.1
  refine lm_i (As := [.int (xs (x4 + 1).toNatClampNeg), .int (xs (x4 + 2).toNatClampNeg), .int (xs (x4 + 3).toNatClampNeg), .int (xs (x4 + 4).toNatClampNeg), .int (xs (x4 + 5).toNatClampNeg)]) (rest := [.int r2308]) I ⟨hx, hb, hml, hown, hts⟩ (c_X10_copy_0 l D cy mo a f g r q ((xs (x4 + 1).toNatClampNeg)) ((xs (x4 + 2).toNatClampNeg)) ((xs (x4 + 3).toNatClampNeg)) ((xs (x4 + 4).toNatClampNeg)) ((xs (x4 + 5).toNatClampNeg)) hDM hI h29) (cwV 5 hts gL_law_X10_copy rfl rfl rfl (by decide +kernel) ⟨Nat.le_of_ble_eq_true rfl, Nat.le_of_ble_eq_true rfl⟩) hK hAM rfl hl.1 rfl (Nat.le_of_ble_eq_true rfl) dL_law_2342 ⟨by omega, by omega⟩ (fun _ _ h9 => by obtain ⟨rfl, h9⟩ := h9; exact hI) (fun r2342 u H locs q2342 I => ?_)
  obtain ⟨-, q2342⟩ := q2342
  obtain ⟨f, g, r, q⟩ := u
  have I : LI D cy s xo mo ou a M G W' f g r q H locs := I
  have e9 : r2308 = r2342 := q2308.trans q2342.symm
  refine lv_icmp_eq (tgt := 2469) hx hb dL_law_2345 (by decide) (fun c9 => ?_) (fun c9 => absurd e9 c9)
  refine W.widen (k := C + 7) (n := S + 588) (by omega) (by omega) ?_
  exact kk _ _ _ _ _ _ _ _ _ I (lv_sub hl [0, 1, 2, 3, 4] rfl)
set_option maxHeartbeats 4000000 in
set_option maxRecDepth 100000 in
theorem lcase_33 {p : Program} {l : Launch} {e : Env} {s : State} {m : MethodId} {below : List Frame} {meth : Method} {c : Code} {b L : Nat} {xs : Nat → Int32} {D : va_G} {cy : Nat → ClassId} {xo mo ou : Nat} {a : Nat → Nat} {M : Option Nat} {G : cG} {W' : va_W} {f : Nat → Int32} {g : Nat → Int64} {r : Nat → Nat → Int32} {q : Nat → Nat → Int64} {H : Heap} {locs : List Loc} {ls : Array Slot} {Q : State → Prop} {C S : Nat} (X : LX p l s m c b L xs D cy mo a) (I : LI D cy s xo mo ou a M G W' f g r q H locs) (hF : FR cy xo W' f r) {x4 : Int32} (h4 : 0 ≤ x4.toInt ∧ x4.toInt + 8 ≤ (L : Int) ∧ L ≤ 4096) (hC : C + 7 ≤ 600002) (hSl : S + 53273 ≤ 7302232) (hl : lv_has ls 8 [(0, .ref b), (1, .ref xo), (2, .ref mo), (3, .ref ou), (4, .int x4)]) (kk : ∀ (G : cG) (W' : va_W) (f : Nat → Int32) (g : Nat → Int64) (r : Nat → Nat → Int32) (q : Nat → Nat → Int64) (H : Heap) (locs : List Loc) (ls : Array Slot), LI D cy s xo mo ou a M G W' f g r q H locs → lv_has ls 8 [(0, .ref b), (1, .ref xo), (2, .ref mo), (3, .ref ou), (4, .int x4)] → W p l e room_1 s m #[Value.ref b] below meth c H locs (C + 7) (S + 588) Q (F0 m 2469 ls [])) : W p l e room_1 s m #[Value.ref b] below meth c H locs C S Q (F0 m 2350 ls []) := by
  obtain ⟨⟨hx, hb, hml, hown, hts⟩, ⟨hXs, hbl⟩, ⟨hK, hV, hZ, hXT⟩, hst, hDM, hAM⟩ := id X
  have h1 : f 1 = 0 := hF.1 1
  have h10 : (f 1).toInt = 0 := by rw [h1]; rfl
  have h23 : f 23 = 0 := hF.1 23
  have h230 : (f 23).toInt = 0 := by rw [h23]; rfl
  have h29 : ∀ i, r 29 i = 0 := hF.2.1
  have hbA : ¬ AL s b := Nat.not_le.mpr hbl
  have hRc : room_1.cells = 600002 := rfl
  have hRs : room_1.slots = 7302232 := rfl
  have hn1 : vp_in (x4 + 1) L := l_in (c := 1) h4 rfl (by decide)
  have hn2 : vp_in (x4 + 2) L := l_in (c := 2) h4 rfl (by decide)
  have hn3 : vp_in (x4 + 3) L := l_in (c := 3) h4 rfl (by decide)
  have hn4 : vp_in (x4 + 4) L := l_in (c := 4) h4 rfl (by decide)
  have hn5 : vp_in (x4 + 5) L := l_in (c := 5) h4 rfl (by decide)
  have hn6 : vp_in (x4 + 6) L := l_in (c := 6) h4 rfl (by decide)
  have hn7 : vp_in (x4 + 7) L := l_in (c := 7) h4 rfl (by decide)
  refine lv_aload_n hx hb dL_law_2350 rfl (lv_at hl 1 rfl) ?_
  refine lv_aload_n hx hb dL_law_2351 rfl (lv_at hl 0 rfl) ?_
  refine lv_iload hx hb dL_law_2352 (lv_at hl 4 rfl) ?_
  refine lv_iconst (v := 1) hx hb dL_law_2354 (by decide) ?_
  refine lv_iadd hx hb dL_law_2355 ?_
  refine va_sld hx hb hXs hbl hbA I.2.2.2.2.2.2.2.2.1 hn1 dL_law_2356 ?_
  refine lv_aload_n hx hb dL_law_2357 rfl (lv_at hl 0 rfl) ?_
  refine lv_iload hx hb dL_law_2358 (lv_at hl 4 rfl) ?_
  refine lv_iconst (v := 2) hx hb dL_law_2360 (by decide) ?_
  refine lv_iadd hx hb dL_law_2361 ?_
  refine va_sld hx hb hXs hbl hbA I.2.2.2.2.2.2.2.2.1 hn2 dL_law_2362 ?_
  obtain ⟨bs, js, sh, wk, ll, jc, lc, lb, hM⟩ := I.2.2.2.2.2.2.2.1
  obtain ⟨rfl, rfl, rfl, hSh, fl, hfl⟩ := hF.at I.2.2.1 hM
  refine lk3_rl I (va_runV (g := F0 m 2363 ls ([.int (xs (x4 + 2).toNatClampNeg), .int (xs (x4 + 1).toNatClampNeg), .ref xo])) (As := [.int (xs (x4 + 1).toNatClampNeg), .int (xs (x4 + 2).toNatClampNeg)]) (rest := []) ⟨hx, hb, hml, hown, hts⟩ (c_X9_layer_0 l D cy (AC s mo a) G W' xo ((xs (x4 + 1).toNatClampNeg)) ((xs (x4 + 2).toNatClampNeg)) I.2.2.1 I.2.2.2.1 I.2.2.2.2.1 hM hSh (fun _ => rfl)) (cwV 2 hts gL_law_X9_layer rfl rfl rfl (by decide +kernel) ⟨Nat.le_of_ble_eq_true rfl, Nat.le_of_ble_eq_true rfl⟩) (l_preV I hK hV) rfl rfl hl.1 rfl (lv_room (Nat.le_of_ble_eq_true rfl)) dL_law_2363 ⟨by omega, by omega⟩) (fun r2363 u H locs q2363 hX I => ?_)
  obtain ⟨G, W'⟩ := u
  have I : LI D cy s xo mo ou a M G W' f g r q H locs := I
  refine lv_aload_n hx hb dL_law_2366 rfl (lv_at hl 2 rfl) ?_
  refine lv_aload_n hx hb dL_law_2367 rfl (lv_at hl 0 rfl) ?_
  refine lv_iload hx hb dL_law_2368 (lv_at hl 4 rfl) ?_
  refine lv_iconst (v := 1) hx hb dL_law_2370 (by decide) ?_
  refine lv_iadd hx hb dL_law_2371 ?_
  refine va_sld hx hb hXs hbl hbA I.2.2.2.2.2.2.2.2.1 hn1 dL_law_2372 ?_
  refine lv_aload_n hx hb dL_law_2373 rfl (lv_at hl 0 rfl) ?_
  refine lv_iload hx hb dL_law_2374 (lv_at hl 4 rfl) ?_
  refine lv_iconst (v := 2) hx hb dL_law_2376 (by decide) ?_
  refine lv_iadd hx hb dL_law_2377 ?_
  refine va_sld hx hb hXs hbl hbA I.2.2.2.2.2.2.2.2.1 hn2 dL_law_2378 ?_
  have hI := I.2.2.2.2.2.2.1
  refine lm_l (As := [.int (xs (x4 + 1).toNatClampNeg), .int (xs (x4 + 2).toNatClampNeg)]) (rest := [.long r2363]) I ⟨hx, hb, hml, hown, hts⟩ (c_X10_layer_0 l D cy mo a f g r q ((xs (x4 + 1).toNatClampNeg)) ((xs (x4 + 2).toNatClampNeg)) hDM hI h29) (cwV 2 hts gL_law_X10_layer rfl rfl rfl (by decide +kernel) ⟨Nat.le_of_ble_eq_true rfl, Nat.le_of_ble_eq_true rfl⟩) hK hAM rfl hl.1 rfl (Nat.le_of_ble_eq_true rfl) dL_law_2379 ⟨by omega, by omega⟩ (fun _ _ h9 => by obtain ⟨rfl, h9⟩ := h9; exact hI) (fun r2379 u H locs q2379 I => ?_)
  obtain ⟨-, q2379⟩ := q2379
  obtain ⟨f, g, r, q⟩ := u
  have I : LI D cy s xo mo ou a M G W' f g r q H locs := I
  refine W.lcmp hx hb dL_law_2382 ?_
  have e9 : r2363 = r2379 := q2363.trans q2379.symm
  refine lv_if_eq (tgt := 2469) hx hb dL_law_2383 (by decide) (fun c9 => ?_) (fun c9 => absurd ((lg_cmp_eq _ _).mpr e9) c9)
  refine W.widen (k := C + 7) (n := S + 588) (by omega) (by omega) ?_
  exact kk _ _ _ _ _ _ _ _ _ I (lv_sub hl [0, 1, 2, 3, 4] rfl)
set_option maxHeartbeats 4000000 in
set_option maxRecDepth 100000 in
theorem lcase_34 {p : Program} {l : Launch} {e : Env} {s : State} {m : MethodId} {below : List Frame} {meth : Method} {c : Code} {b L : Nat} {xs : Nat → Int32} {D : va_G} {cy : Nat → ClassId} {xo mo ou : Nat} {a : Nat → Nat} {M : Option Nat} {G : cG} {W' : va_W} {f : Nat → Int32} {g : Nat → Int64} {r : Nat → Nat → Int32} {q : Nat → Nat → Int64} {H : Heap} {locs : List Loc} {ls : Array Slot} {Q : State → Prop} {C S : Nat} (X : LX p l s m c b L xs D cy mo a) (I : LI D cy s xo mo ou a M G W' f g r q H locs) (hF : FR cy xo W' f r) {x4 : Int32} (h4 : 0 ≤ x4.toInt ∧ x4.toInt + 8 ≤ (L : Int) ∧ L ≤ 4096) (hC : C + 7 ≤ 600002) (hSl : S + 53273 ≤ 7302232) (hl : lv_has ls 8 [(0, .ref b), (1, .ref xo), (2, .ref mo), (3, .ref ou), (4, .int x4)]) (kk : ∀ (G : cG) (W' : va_W) (f : Nat → Int32) (g : Nat → Int64) (r : Nat → Nat → Int32) (q : Nat → Nat → Int64) (H : Heap) (locs : List Loc) (ls : Array Slot), LI D cy s xo mo ou a M G W' f g r q H locs → lv_has ls 8 [(0, .ref b), (1, .ref xo), (2, .ref mo), (3, .ref ou), (4, .int x4)] → W p l e room_1 s m #[Value.ref b] below meth c H locs (C + 7) (S + 588) Q (F0 m 2469 ls [])) : W p l e room_1 s m #[Value.ref b] below meth c H locs C S Q (F0 m 2388 ls []) := by
  obtain ⟨⟨hx, hb, hml, hown, hts⟩, ⟨hXs, hbl⟩, ⟨hK, hV, hZ, hXT⟩, hst, hDM, hAM⟩ := id X
  have h1 : f 1 = 0 := hF.1 1
  have h10 : (f 1).toInt = 0 := by rw [h1]; rfl
  have h23 : f 23 = 0 := hF.1 23
  have h230 : (f 23).toInt = 0 := by rw [h23]; rfl
  have h29 : ∀ i, r 29 i = 0 := hF.2.1
  have hbA : ¬ AL s b := Nat.not_le.mpr hbl
  have hRc : room_1.cells = 600002 := rfl
  have hRs : room_1.slots = 7302232 := rfl
  have hn1 : vp_in (x4 + 1) L := l_in (c := 1) h4 rfl (by decide)
  have hn2 : vp_in (x4 + 2) L := l_in (c := 2) h4 rfl (by decide)
  have hn3 : vp_in (x4 + 3) L := l_in (c := 3) h4 rfl (by decide)
  have hn4 : vp_in (x4 + 4) L := l_in (c := 4) h4 rfl (by decide)
  have hn5 : vp_in (x4 + 5) L := l_in (c := 5) h4 rfl (by decide)
  have hn6 : vp_in (x4 + 6) L := l_in (c := 6) h4 rfl (by decide)
  have hn7 : vp_in (x4 + 7) L := l_in (c := 7) h4 rfl (by decide)
  refine lv_aload_n hx hb dL_law_2388 rfl (lv_at hl 1 rfl) ?_
  refine lv_aload_n hx hb dL_law_2389 rfl (lv_at hl 0 rfl) ?_
  refine lv_iload hx hb dL_law_2390 (lv_at hl 4 rfl) ?_
  refine lv_iconst (v := 1) hx hb dL_law_2392 (by decide) ?_
  refine lv_iadd hx hb dL_law_2393 ?_
  refine va_sld hx hb hXs hbl hbA I.2.2.2.2.2.2.2.2.1 hn1 dL_law_2394 ?_
  refine lv_aload_n hx hb dL_law_2395 rfl (lv_at hl 3 rfl) ?_
  obtain ⟨bs, js, sh, wk, ll, jc, lc, lb, hM⟩ := I.2.2.2.2.2.2.2.1
  obtain ⟨rfl, rfl, rfl, hSh, fl, hfl⟩ := hF.at I.2.2.1 hM
  refine lk3_ri I (vx_runSW (g := F0 m 2396 ls ([.ref ou, .int (xs (x4 + 1).toNatClampNeg), .ref xo])) (As := [.ref xo, .int (xs (x4 + 1).toNatClampNeg), .ref ou]) (rest := []) ⟨hx, hb, hml, hown, hts⟩ (c_L_weight_0 l hst D cy (AC s mo a) G W' xo ((xs (x4 + 1).toNatClampNeg)) ou I.2.2.1 I.2.2.2.1 I.2.2.2.2.1 hM I.2.2.2.2.2.1 hSh (fun _ => rfl)) (vx_cwSW 3 hts gL_law_L_weight rfl rfl rfl (by decide +kernel) ⟨Nat.le_of_ble_eq_true rfl, Nat.le_of_ble_eq_true rfl⟩) (l_preS I hK hV hZ hXT) rfl rfl hl.1 rfl (lv_room (Nat.le_of_ble_eq_true rfl)) dL_law_2396 ⟨by omega, by omega⟩) (fun r2396 u H locs q2396 hX I => ?_)
  obtain ⟨G, W'⟩ := u
  have I : LI D cy s xo mo ou a M G W' f g r q H locs := I
  have qL := q2396
  refine lv_istore (lv' := [(5, .int r2396), (0, .ref b), (1, .ref xo), (2, .ref mo), (3, .ref ou), (4, .int x4)]) hx hb dL_law_2399 hl (by decide) rfl (fun ls hl => ?_)
  refine lv_aload_n hx hb dL_law_2401 rfl (lv_at hl 3 rfl) ?_
  refine lv_aload_n hx hb dL_law_2402 rfl (lv_at hl 1 rfl) ?_
  refine lv_iload hx hb dL_law_2403 (lv_at hl 5 rfl) ?_
  refine lv_iconst (v := 1) hx hb dL_law_2405 (by decide) ?_
  refine lv_iadd hx hb dL_law_2406 ?_
  refine va_sld hx hb hXs hbl hbA I.2.2.2.2.2.2.2.2.1 hn1 dL_law_2407 ?_
  have hI := I.2.2.2.2.2.2.1
  refine lm_i (As := [.int (xs (x4 + 1).toNatClampNeg)]) (rest := []) I ⟨hx, hb, hml, hown, hts⟩ (c_X10_weight_0 l D cy mo a f g r q ((xs (x4 + 1).toNatClampNeg)) hDM hI h29) (cwV 1 hts gL_law_X10_weight rfl rfl rfl (by decide +kernel) ⟨Nat.le_of_ble_eq_true rfl, Nat.le_of_ble_eq_true rfl⟩) hK hAM rfl hl.1 rfl (Nat.le_of_ble_eq_true rfl) dL_law_2408 ⟨by omega, by omega⟩ (fun _ _ h9 => by obtain ⟨_, rfl, h9⟩ := h9; exact hI) (fun r2408 u H locs q2408 I => ?_)
  have qR : exO ((xs (x4 + 1).toNatClampNeg)) (u.1 0) := by obtain ⟨th9, rfl, h9⟩ := q2408; exact h9
  obtain ⟨f, g, r, q⟩ := u
  have qR : exO ((xs (x4 + 1).toNatClampNeg)) (f 0) := qR
  have I : LI D cy s xo mo ou a M G W' f g r q H locs := I
  refine lv_istore (lv' := [(6, .int r2408), (5, .int r2396), (0, .ref b), (1, .ref xo), (2, .ref mo), (3, .ref ou), (4, .int x4)]) hx hb dL_law_2411 hl (by decide) rfl (fun ls hl => ?_)
  refine lv_aload_n hx hb dL_law_2413 rfl (lv_at hl 4 rfl) ?_
  have hI := I.2.2.2.2.2.2.1
  refine lm_i (As := []) (rest := []) I ⟨hx, hb, hml, hown, hts⟩ (c_X10_thrown_x l D cy mo a f g r q  hDM) (cwV 0 hts gL_law_X10_thrown rfl rfl rfl (by decide +kernel) ⟨Nat.le_of_ble_eq_true rfl, Nat.le_of_ble_eq_true rfl⟩) hK hAM rfl hl.1 rfl (Nat.le_of_ble_eq_true rfl) dL_law_2414 ⟨by omega, by omega⟩ (fun _ _ h9 => by obtain ⟨rfl, h9⟩ := h9; exact hI) (fun r2414 u H locs q2414 I => ?_)
  have qT : r2414 = f 0 := by obtain ⟨rfl, h9⟩ := q2414; exact h9
  obtain ⟨f, g, r, q⟩ := u
  have I : LI D cy s xo mo ou a M G W' f g r q H locs := I
  have e9 : r2414 = r2396 := qT.trans (exO_eq qL qR)
  refine lv_iload hx hb dL_law_2417 (lv_at hl 1 rfl) ?_
  refine lv_icmp_eq (tgt := 2424) hx hb dL_law_2419 (by decide) (fun c9 => ?_) (fun c9 => absurd e9 c9)
  refine lv_iload hx hb dL_law_2424 (lv_at hl 1 rfl) ?_
  refine lv_if_ne (tgt := 2441) hx hb dL_law_2426 (by decide) (fun c2426 => ?_) (fun c2426 => absurd c2426 (exO_nz qL))
  refine lv_goto (tgt := 2469) hx hb dL_law_2441 (by decide) ?_
  refine W.widen (k := C + 7) (n := S + 588) (by omega) (by omega) ?_
  exact kk _ _ _ _ _ _ _ _ _ I (lv_sub hl [2, 3, 4, 5, 6] rfl)
set_option maxHeartbeats 4000000 in
set_option maxRecDepth 100000 in
theorem lcase_35 {p : Program} {l : Launch} {e : Env} {s : State} {m : MethodId} {below : List Frame} {meth : Method} {c : Code} {b L : Nat} {xs : Nat → Int32} {D : va_G} {cy : Nat → ClassId} {xo mo ou : Nat} {a : Nat → Nat} {M : Option Nat} {G : cG} {W' : va_W} {f : Nat → Int32} {g : Nat → Int64} {r : Nat → Nat → Int32} {q : Nat → Nat → Int64} {H : Heap} {locs : List Loc} {ls : Array Slot} {Q : State → Prop} {C S : Nat} (X : LX p l s m c b L xs D cy mo a) (I : LI D cy s xo mo ou a M G W' f g r q H locs) (hF : FR cy xo W' f r) {x4 : Int32} (h4 : 0 ≤ x4.toInt ∧ x4.toInt + 8 ≤ (L : Int) ∧ L ≤ 4096) (hC : C + 7 ≤ 600002) (hSl : S + 53273 ≤ 7302232) (hl : lv_has ls 8 [(0, .ref b), (1, .ref xo), (2, .ref mo), (3, .ref ou), (4, .int x4)]) (kk : ∀ (G : cG) (W' : va_W) (f : Nat → Int32) (g : Nat → Int64) (r : Nat → Nat → Int32) (q : Nat → Nat → Int64) (H : Heap) (locs : List Loc) (ls : Array Slot), LI D cy s xo mo ou a M G W' f g r q H locs → lv_has ls 8 [(0, .ref b), (1, .ref xo), (2, .ref mo), (3, .ref ou), (4, .int x4)] → W p l e room_1 s m #[Value.ref b] below meth c H locs (C + 7) (S + 588) Q (F0 m 2469 ls [])) : W p l e room_1 s m #[Value.ref b] below meth c H locs C S Q (F0 m 2444 ls []) := by
  obtain ⟨⟨hx, hb, hml, hown, hts⟩, ⟨hXs, hbl⟩, ⟨hK, hV, hZ, hXT⟩, hst, hDM, hAM⟩ := id X
  have h1 : f 1 = 0 := hF.1 1
  have h10 : (f 1).toInt = 0 := by rw [h1]; rfl
  have h23 : f 23 = 0 := hF.1 23
  have h230 : (f 23).toInt = 0 := by rw [h23]; rfl
  have h29 : ∀ i, r 29 i = 0 := hF.2.1
  have hbA : ¬ AL s b := Nat.not_le.mpr hbl
  have hRc : room_1.cells = 600002 := rfl
  have hRs : room_1.slots = 7302232 := rfl
  have hn1 : vp_in (x4 + 1) L := l_in (c := 1) h4 rfl (by decide)
  have hn2 : vp_in (x4 + 2) L := l_in (c := 2) h4 rfl (by decide)
  have hn3 : vp_in (x4 + 3) L := l_in (c := 3) h4 rfl (by decide)
  have hn4 : vp_in (x4 + 4) L := l_in (c := 4) h4 rfl (by decide)
  have hn5 : vp_in (x4 + 5) L := l_in (c := 5) h4 rfl (by decide)
  have hn6 : vp_in (x4 + 6) L := l_in (c := 6) h4 rfl (by decide)
  have hn7 : vp_in (x4 + 7) L := l_in (c := 7) h4 rfl (by decide)
  refine lv_aload_n hx hb dL_law_2444 rfl (lv_at hl 1 rfl) ?_
  refine lv_aload_n hx hb dL_law_2445 rfl (lv_at hl 0 rfl) ?_
  refine lv_iload hx hb dL_law_2446 (lv_at hl 4 rfl) ?_
  refine lv_iconst (v := 1) hx hb dL_law_2448 (by decide) ?_
  refine lv_iadd hx hb dL_law_2449 ?_
  refine va_sld hx hb hXs hbl hbA I.2.2.2.2.2.2.2.2.1 hn1 dL_law_2450 ?_
  obtain ⟨bs, js, sh, wk, ll, jc, lc, lb, hM⟩ := I.2.2.2.2.2.2.2.1
  obtain ⟨rfl, rfl, rfl, hSh, fl, hfl⟩ := hF.at I.2.2.1 hM
  refine lk3_ri I (va_runV (g := F0 m 2451 ls ([.int (xs (x4 + 1).toNatClampNeg), .ref xo])) (As := [.int (xs (x4 + 1).toNatClampNeg)]) (rest := []) ⟨hx, hb, hml, hown, hts⟩ (c_X9_toss_0 l D cy (AC s mo a) G W' xo ((xs (x4 + 1).toNatClampNeg)) I.2.2.1 I.2.2.2.1 I.2.2.2.2.1 hM hSh (fun _ => rfl)) (cwV 1 hts gL_law_X9_toss rfl rfl rfl (by decide +kernel) ⟨Nat.le_of_ble_eq_true rfl, Nat.le_of_ble_eq_true rfl⟩) (l_preV I hK hV) rfl rfl hl.1 rfl (lv_room (Nat.le_of_ble_eq_true rfl)) dL_law_2451 ⟨by omega, by omega⟩) (fun r2451 u H locs q2451 hX I => ?_)
  obtain ⟨G, W'⟩ := u
  have I : LI D cy s xo mo ou a M G W' f g r q H locs := I
  refine lv_aload_n hx hb dL_law_2454 rfl (lv_at hl 2 rfl) ?_
  refine lv_aload_n hx hb dL_law_2455 rfl (lv_at hl 0 rfl) ?_
  refine lv_iload hx hb dL_law_2456 (lv_at hl 4 rfl) ?_
  refine lv_iconst (v := 1) hx hb dL_law_2458 (by decide) ?_
  refine lv_iadd hx hb dL_law_2459 ?_
  refine va_sld hx hb hXs hbl hbA I.2.2.2.2.2.2.2.2.1 hn1 dL_law_2460 ?_
  have hI := I.2.2.2.2.2.2.1
  refine lm_i (As := [.int (xs (x4 + 1).toNatClampNeg)]) (rest := [.int r2451]) I ⟨hx, hb, hml, hown, hts⟩ (c_X10_toss_0 l D cy mo a f g r q ((xs (x4 + 1).toNatClampNeg)) hDM hI h29) (cwV 1 hts gL_law_X10_toss rfl rfl rfl (by decide +kernel) ⟨Nat.le_of_ble_eq_true rfl, Nat.le_of_ble_eq_true rfl⟩) hK hAM rfl hl.1 rfl (Nat.le_of_ble_eq_true rfl) dL_law_2461 ⟨by omega, by omega⟩ (fun _ _ h9 => by obtain ⟨rfl, h9⟩ := h9; exact hI) (fun r2461 u H locs q2461 I => ?_)
  obtain ⟨-, q2461⟩ := q2461
  obtain ⟨f, g, r, q⟩ := u
  have I : LI D cy s xo mo ou a M G W' f g r q H locs := I
  have e9 : r2451 = r2461 := q2451.trans q2461.symm
  refine lv_icmp_eq (tgt := 2469) hx hb dL_law_2464 (by decide) (fun c9 => ?_) (fun c9 => absurd e9 c9)
  refine W.widen (k := C + 7) (n := S + 588) (by omega) (by omega) ?_
  exact kk _ _ _ _ _ _ _ _ _ I (lv_sub hl [0, 1, 2, 3, 4] rfl)
