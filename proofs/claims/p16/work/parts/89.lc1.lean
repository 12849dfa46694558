set_option maxHeartbeats 4000000 in
set_option maxRecDepth 100000 in
theorem lcase_18 {p : Program} {l : Launch} {e : Env} {s : State} {m : MethodId} {below : List Frame} {meth : Method} {c : Code} {b L : Nat} {xs : Nat → Int32} {D : va_G} {cy : Nat → ClassId} {xo mo ou : Nat} {a : Nat → Nat} {M : Option Nat} {G : cG} {W' : va_W} {f : Nat → Int32} {g : Nat → Int64} {r : Nat → Nat → Int32} {q : Nat → Nat → Int64} {H : Heap} {locs : List Loc} {ls : Array Slot} {Q : State → Prop} {C S : Nat} (X : LX p l s m c b L xs D cy mo a) (I : LI D cy s xo mo ou a M G W' f g r q H locs) (hR : RlJ cy xo G W' f r) {x4 : Int32} (h4 : 0 ≤ x4.toInt ∧ x4.toInt + 8 ≤ (L : Int) ∧ L ≤ 4096) (hC : C + 7 ≤ 601024) (hSl : S + 53273 ≤ 7293034) (hl : lv_has ls 8 [(0, .ref b), (1, .ref xo), (2, .ref mo), (3, .ref ou), (4, .int x4)]) (kk : ∀ (G : cG) (W' : va_W) (f : Nat → Int32) (g : Nat → Int64) (r : Nat → Nat → Int32) (q : Nat → Nat → Int64) (H : Heap) (locs : List Loc) (ls : Array Slot), LI D cy s xo mo ou a M G W' f g r q H locs → RlJ cy xo G W' f r → lv_has ls 8 [(0, .ref b), (1, .ref xo), (2, .ref mo), (3, .ref ou), (4, .int x4)] → W p l e room_1 s m #[Value.ref b] below meth c H locs (C + 7) (S + 588) Q (F0 m 2355 ls [])) (kk2 : M = none → ∀ x9 : Nat, ∀ (G : cG) (W' : va_W) (f : Nat → Int32) (g : Nat → Int64) (r : Nat → Nat → Int32) (q : Nat → Nat → Int64) (H : Heap) (locs : List Loc) (ls : Array Slot), LI D cy s xo mo ou a (some x9) G W' f g r q H locs → RlJ cy xo G W' f r → lv_has ls 8 [(0, .ref b), (1, .ref xo), (2, .ref mo), (3, .ref ou), (4, .int x4)] → W p l e room_1 s m #[Value.ref b] below meth c H locs (C + 7) (S + 53273) Q (F0 m 2355 ls [])) : W p l e room_1 s m #[Value.ref b] below meth c H locs C S Q (F0 m 1202 ls []) := by
  obtain ⟨⟨hx, hb, hml, hown, hts⟩, ⟨hXs, hbl⟩, ⟨hK, hV, hZ, hXT⟩, hst, hDM, hAM⟩ := id X
  have I0 := I
  have hbA : ¬ AL s b := Nat.not_le.mpr hbl
  have hRc : room_1.cells = 601024 := rfl
  have hRs : room_1.slots = 7293034 := rfl
  have hn1 : vp_in (x4 + 1) L := l_in (c := 1) h4 rfl (by decide)
  have hn2 : vp_in (x4 + 2) L := l_in (c := 2) h4 rfl (by decide)
  have hn3 : vp_in (x4 + 3) L := l_in (c := 3) h4 rfl (by decide)
  have hn4 : vp_in (x4 + 4) L := l_in (c := 4) h4 rfl (by decide)
  have hn5 : vp_in (x4 + 5) L := l_in (c := 5) h4 rfl (by decide)
  have hn6 : vp_in (x4 + 6) L := l_in (c := 6) h4 rfl (by decide)
  have hn7 : vp_in (x4 + 7) L := l_in (c := 7) h4 rfl (by decide)
  refine lv_aload_n hx hb dL_law_1202 rfl (lv_at hl 1 rfl) ?_
  refine lv_aload_n hx hb dL_law_1203 rfl (lv_at hl 0 rfl) ?_
  refine lv_iload hx hb dL_law_1204 (lv_at hl 4 rfl) ?_
  refine lv_iconst (v := 1) hx hb dL_law_1206 (by decide) ?_
  refine lv_iadd hx hb dL_law_1207 ?_
  refine va_sld hx hb hXs hbl hbA I.2.2.2.2.2.2.2.2.1 hn1 dL_law_1208 ?_
  refine lv_aload_n hx hb dL_law_1209 rfl (lv_at hl 0 rfl) ?_
  refine lv_iload hx hb dL_law_1210 (lv_at hl 4 rfl) ?_
  refine lv_iconst (v := 2) hx hb dL_law_1212 (by decide) ?_
  refine lv_iadd hx hb dL_law_1213 ?_
  refine va_sld hx hb hXs hbl hbA I.2.2.2.2.2.2.2.2.1 hn2 dL_law_1214 ?_
  refine lv_aload_n hx hb dL_law_1215 rfl (lv_at hl 0 rfl) ?_
  refine lv_iload hx hb dL_law_1216 (lv_at hl 4 rfl) ?_
  refine lv_iconst (v := 3) hx hb dL_law_1218 (by decide) ?_
  refine lv_iadd hx hb dL_law_1219 ?_
  refine va_sld hx hb hXs hbl hbA I.2.2.2.2.2.2.2.2.1 hn3 dL_law_1220 ?_
  refine lv_i2l (v := ((xs (x4 + 3).toNatClampNeg)).toInt64) hx hb dL_law_1221 rfl ?_
  refine lv_bipush (v := 32) hx hb dL_law_1222 (by decide) ?_
  refine lv_lshl (v := (((xs (x4 + 3).toNatClampNeg)).toInt64) <<< ((32 : Int32).toInt64 &&& 63)) hx hb dL_law_1224 rfl ?_
  refine lv_aload_n hx hb dL_law_1225 rfl (lv_at hl 0 rfl) ?_
  refine lv_iload hx hb dL_law_1226 (lv_at hl 4 rfl) ?_
  refine lv_iconst (v := 4) hx hb dL_law_1228 (by decide) ?_
  refine lv_iadd hx hb dL_law_1229 ?_
  refine va_sld hx hb hXs hbl hbA I.2.2.2.2.2.2.2.2.1 hn4 dL_law_1230 ?_
  refine lv_i2l (v := ((xs (x4 + 4).toNatClampNeg)).toInt64) hx hb dL_law_1231 rfl ?_
  refine lv_ldc2 hx hb hown (hts (.constantLong RL 45 (4294967295)) (by decide +kernel)) dL_law_1232 ?_
  refine lv_land hx hb dL_law_1235 ?_
  refine lv_topl (fun v1235 e1235 => ?_)
  refine lv_lor hx hb dL_law_1236 ?_
  refine lv_topl (fun v1236 e1236 => ?_)
  refine lv_aload_n hx hb dL_law_1237 rfl (lv_at hl 0 rfl) ?_
  refine lv_iload hx hb dL_law_1238 (lv_at hl 4 rfl) ?_
  refine lv_iconst (v := 5) hx hb dL_law_1240 (by decide) ?_
  refine lv_iadd hx hb dL_law_1241 ?_
  refine va_sld hx hb hXs hbl hbA I.2.2.2.2.2.2.2.2.1 hn5 dL_law_1242 ?_
  refine lv_i2l (v := ((xs (x4 + 5).toNatClampNeg)).toInt64) hx hb dL_law_1243 rfl ?_
  refine lv_bipush (v := 32) hx hb dL_law_1244 (by decide) ?_
  refine lv_lshl (v := (((xs (x4 + 5).toNatClampNeg)).toInt64) <<< ((32 : Int32).toInt64 &&& 63)) hx hb dL_law_1246 rfl ?_
  refine lv_aload_n hx hb dL_law_1247 rfl (lv_at hl 0 rfl) ?_
  refine lv_iload hx hb dL_law_1248 (lv_at hl 4 rfl) ?_
  refine lv_bipush (v := 6) hx hb dL_law_1250 (by decide) ?_
  refine lv_iadd hx hb dL_law_1252 ?_
  refine va_sld hx hb hXs hbl hbA I.2.2.2.2.2.2.2.2.1 hn6 dL_law_1253 ?_
  refine lv_i2l (v := ((xs (x4 + 6).toNatClampNeg)).toInt64) hx hb dL_law_1254 rfl ?_
  refine lv_ldc2 hx hb hown (hts (.constantLong RL 45 (4294967295)) (by decide +kernel)) dL_law_1255 ?_
  refine lv_land hx hb dL_law_1258 ?_
  refine lv_topl (fun v1258 e1258 => ?_)
  refine lv_lor hx hb dL_law_1259 ?_
  refine lv_topl (fun v1259 e1259 => ?_)
  obtain ⟨bs, js, sh, wk, ll, jc, lc, lb, hM⟩ := I.2.2.2.2.2.2.2.1
  obtain ⟨hjc, fa, J, hfa, hJ⟩ := hR.at I.2.2.1 hM
  subst hjc
  refine l_callV (mc := 7) (ms := 53273) (As := [.int (xs (x4 + 1).toNatClampNeg), .int (xs (x4 + 2).toNatClampNeg), .long v1236, .long v1259]) (rest := []) ⟨hx, hb, hml, hown, hts⟩ (c_X9_far l D cy (AC s mo a) G W' xo ((xs (x4 + 1).toNatClampNeg)) ((xs (x4 + 2).toNatClampNeg)) v1236 v1259 I.2.2.1 I.2.2.2.1 I.2.2.2.2.1 hM) (cwV 4 hts gL_law_X9_far rfl rfl rfl (by decide +kernel) ⟨Nat.le_of_ble_eq_true rfl, Nat.le_of_ble_eq_true rfl⟩) (l_preV I hK hV) rfl hl.1 rfl (Nat.le_of_ble_eq_true rfl) dL_law_1260 ⟨by omega, by omega⟩ I.2.2.2.2.2.2.2.2.1 (fun _ h9 => h9.1) (fun k9 n9 r1260 u H1 locs1 q1260 hP9 hD9 hT9 hz9 hk9 hS9 => ?_)
  obtain ⟨hX9, q1260⟩ := q1260
  rcases q1260 with ⟨rfl, rfl, hM9⟩ | ⟨rfl, rfl, hM0, x9, hM9⟩
  · skip
    have I : LI D cy s xo mo ou a M u.1 u.2 f g r q H1 locs1 := I.cla hP9 hD9 hT9 hX9.1 ⟨_, _, _, _, _, _, _, lb, hM9⟩ hz9 hk9 hS9
    obtain ⟨G1, W1⟩ := u
    have I : LI D cy s xo mo ou a M G1 W1 f g r q H1 locs1 := I
    refine lv_pop hx hb dL_law_1263 rfl ?_
    refine lv_aload_n hx hb dL_law_1264 rfl (lv_at hl 2 rfl) ?_
    refine lv_aload_n hx hb dL_law_1265 rfl (lv_at hl 0 rfl) ?_
    refine lv_iload hx hb dL_law_1266 (lv_at hl 4 rfl) ?_
    refine lv_iconst (v := 1) hx hb dL_law_1268 (by decide) ?_
    refine lv_iadd hx hb dL_law_1269 ?_
    refine va_sld hx hb hXs hbl hbA I.2.2.2.2.2.2.2.2.1 hn1 dL_law_1270 ?_
    refine lv_aload_n hx hb dL_law_1271 rfl (lv_at hl 0 rfl) ?_
    refine lv_iload hx hb dL_law_1272 (lv_at hl 4 rfl) ?_
    refine lv_iconst (v := 2) hx hb dL_law_1274 (by decide) ?_
    refine lv_iadd hx hb dL_law_1275 ?_
    refine va_sld hx hb hXs hbl hbA I.2.2.2.2.2.2.2.2.1 hn2 dL_law_1276 ?_
    refine lv_aload_n hx hb dL_law_1277 rfl (lv_at hl 0 rfl) ?_
    refine lv_iload hx hb dL_law_1278 (lv_at hl 4 rfl) ?_
    refine lv_iconst (v := 3) hx hb dL_law_1280 (by decide) ?_
    refine lv_iadd hx hb dL_law_1281 ?_
    refine va_sld hx hb hXs hbl hbA I.2.2.2.2.2.2.2.2.1 hn3 dL_law_1282 ?_
    refine lv_i2l (v := ((xs (x4 + 3).toNatClampNeg)).toInt64) hx hb dL_law_1283 rfl ?_
    refine lv_bipush (v := 32) hx hb dL_law_1284 (by decide) ?_
    refine lv_lshl (v := (((xs (x4 + 3).toNatClampNeg)).toInt64) <<< ((32 : Int32).toInt64 &&& 63)) hx hb dL_law_1286 rfl ?_
    refine lv_aload_n hx hb dL_law_1287 rfl (lv_at hl 0 rfl) ?_
    refine lv_iload hx hb dL_law_1288 (lv_at hl 4 rfl) ?_
    refine lv_iconst (v := 4) hx hb dL_law_1290 (by decide) ?_
    refine lv_iadd hx hb dL_law_1291 ?_
    refine va_sld hx hb hXs hbl hbA I.2.2.2.2.2.2.2.2.1 hn4 dL_law_1292 ?_
    refine lv_i2l (v := ((xs (x4 + 4).toNatClampNeg)).toInt64) hx hb dL_law_1293 rfl ?_
    refine lv_ldc2 hx hb hown (hts (.constantLong RL 45 (4294967295)) (by decide +kernel)) dL_law_1294 ?_
    refine lv_land hx hb dL_law_1297 ?_
    refine lv_topl (fun v1297 e1297 => ?_)
    refine lv_lor hx hb dL_law_1298 ?_
    refine lv_topl (fun v1298 e1298 => ?_)
    refine lv_aload_n hx hb dL_law_1299 rfl (lv_at hl 0 rfl) ?_
    refine lv_iload hx hb dL_law_1300 (lv_at hl 4 rfl) ?_
    refine lv_iconst (v := 5) hx hb dL_law_1302 (by decide) ?_
    refine lv_iadd hx hb dL_law_1303 ?_
    refine va_sld hx hb hXs hbl hbA I.2.2.2.2.2.2.2.2.1 hn5 dL_law_1304 ?_
    refine lv_i2l (v := ((xs (x4 + 5).toNatClampNeg)).toInt64) hx hb dL_law_1305 rfl ?_
    refine lv_bipush (v := 32) hx hb dL_law_1306 (by decide) ?_
    refine lv_lshl (v := (((xs (x4 + 5).toNatClampNeg)).toInt64) <<< ((32 : Int32).toInt64 &&& 63)) hx hb dL_law_1308 rfl ?_
    refine lv_aload_n hx hb dL_law_1309 rfl (lv_at hl 0 rfl) ?_
    refine lv_iload hx hb dL_law_1310 (lv_at hl 4 rfl) ?_
    refine lv_bipush (v := 6) hx hb dL_law_1312 (by decide) ?_
    refine lv_iadd hx hb dL_law_1314 ?_
    refine va_sld hx hb hXs hbl hbA I.2.2.2.2.2.2.2.2.1 hn6 dL_law_1315 ?_
    refine lv_i2l (v := ((xs (x4 + 6).toNatClampNeg)).toInt64) hx hb dL_law_1316 rfl ?_
    refine lv_ldc2 hx hb hown (hts (.constantLong RL 45 (4294967295)) (by decide +kernel)) dL_law_1317 ?_
    refine lv_land hx hb dL_law_1320 ?_
    refine lv_topl (fun v1320 e1320 => ?_)
    refine lv_lor hx hb dL_law_1321 ?_
    refine lv_topl (fun v1321 e1321 => ?_)
    have hI := I.2.2.2.2.2.2.1
    refine lm_i (As := [.int (xs (x4 + 1).toNatClampNeg), .int (xs (x4 + 2).toNatClampNeg), .long v1298, .long v1321]) (rest := []) I ⟨hx, hb, hml, hown, hts⟩ (c_X10_far l D cy mo a f g r q ((xs (x4 + 1).toNatClampNeg)) ((xs (x4 + 2).toNatClampNeg)) v1298 v1321 hDM) (cwV 4 hts gL_law_X10_far rfl rfl rfl (by decide +kernel) ⟨Nat.le_of_ble_eq_true rfl, Nat.le_of_ble_eq_true rfl⟩) hK hAM rfl hl.1 rfl (Nat.le_of_ble_eq_true rfl) dL_law_1322 ⟨by omega, by omega⟩ (fun _ _ h9 => by obtain ⟨_, _, _, _, rfl, h9⟩ := h9; exact hI) (fun r1322 u H locs q1322 I => ?_)
    have ef : u.1 1 = f 1 := by obtain ⟨_, _, _, _, rfl, -⟩ := q1322; rfl
    have e2_ : u.2.2.1 2 = r 2 := by obtain ⟨_, _, _, _, rfl, -⟩ := q1322; rfl
    have e3_ : u.2.2.1 3 = r 3 := by obtain ⟨_, _, _, _, rfl, -⟩ := q1322; rfl
    have e4_ : u.2.2.1 4 = r 4 := by obtain ⟨_, _, _, _, rfl, -⟩ := q1322; rfl
    have e5_ : u.2.2.1 5 = r 5 := by obtain ⟨_, _, _, _, rfl, -⟩ := q1322; rfl
    have e6_ : u.2.2.1 6 = r 6 := by obtain ⟨_, _, _, _, rfl, -⟩ := q1322; rfl
    have e7_ : u.2.2.1 7 = r 7 := by obtain ⟨_, _, _, _, rfl, -⟩ := q1322; rfl
    have e8_ : u.2.2.1 8 = r 8 := by obtain ⟨_, _, _, _, rfl, -⟩ := q1322; rfl
    obtain ⟨f1, g1, r1, q1⟩ := u
    have ef : f1 1 = f 1 := ef
    have e2_ : r1 2 = r 2 := e2_
    have e3_ : r1 3 = r 3 := e3_
    have e4_ : r1 4 = r 4 := e4_
    have e5_ : r1 5 = r 5 := e5_
    have e6_ : r1 6 = r 6 := e6_
    have e7_ : r1 7 = r 7 := e7_
    have e8_ : r1 8 = r 8 := e8_
    have I : LI D cy s xo mo ou a M G1 W1 f1 g1 r1 q1 H locs := I
    refine lv_pop hx hb dL_law_1325 rfl ?_
    refine lv_goto (tgt := 2355) hx hb dL_law_1326 (by decide) ?_
    have hR1 : RlJ cy xo G1 W1 f1 r1 := hR.shp I0.2.2.1 I0.2.2.2.1 I0.2.2.2.2.1 hX9 rfl rfl rfl hM (mo1 := M) hM9 ef e2_ e3_ e4_ e5_ e6_ e7_ e8_
    refine W.widen (k := C + 7) (n := S + 588) (by omega) (by omega) ?_
    exact kk _ _ _ _ _ _ _ _ _ I hR1 (lv_sub hl [0, 1, 2, 3, 4] rfl)
  · skip
    have I : LI D cy s xo mo ou a (some x9) u.1 u.2 f g r q H1 locs1 := I.cla hP9 hD9 hT9 hX9.1 ⟨_, _, _, _, _, _, _, lb, hM9⟩ hz9 hk9 hS9
    obtain ⟨G1, W1⟩ := u
    have I : LI D cy s xo mo ou a (some x9) G1 W1 f g r q H1 locs1 := I
    refine lv_pop hx hb dL_law_1263 rfl ?_
    refine lv_aload_n hx hb dL_law_1264 rfl (lv_at hl 2 rfl) ?_
    refine lv_aload_n hx hb dL_law_1265 rfl (lv_at hl 0 rfl) ?_
    refine lv_iload hx hb dL_law_1266 (lv_at hl 4 rfl) ?_
    refine lv_iconst (v := 1) hx hb dL_law_1268 (by decide) ?_
    refine lv_iadd hx hb dL_law_1269 ?_
    refine va_sld hx hb hXs hbl hbA I.2.2.2.2.2.2.2.2.1 hn1 dL_law_1270 ?_
    refine lv_aload_n hx hb dL_law_1271 rfl (lv_at hl 0 rfl) ?_
    refine lv_iload hx hb dL_law_1272 (lv_at hl 4 rfl) ?_
    refine lv_iconst (v := 2) hx hb dL_law_1274 (by decide) ?_
    refine lv_iadd hx hb dL_law_1275 ?_
    refine va_sld hx hb hXs hbl hbA I.2.2.2.2.2.2.2.2.1 hn2 dL_law_1276 ?_
    refine lv_aload_n hx hb dL_law_1277 rfl (lv_at hl 0 rfl) ?_
    refine lv_iload hx hb dL_law_1278 (lv_at hl 4 rfl) ?_
    refine lv_iconst (v := 3) hx hb dL_law_1280 (by decide) ?_
    refine lv_iadd hx hb dL_law_1281 ?_
    refine va_sld hx hb hXs hbl hbA I.2.2.2.2.2.2.2.2.1 hn3 dL_law_1282 ?_
    refine lv_i2l (v := ((xs (x4 + 3).toNatClampNeg)).toInt64) hx hb dL_law_1283 rfl ?_
    refine lv_bipush (v := 32) hx hb dL_law_1284 (by decide) ?_
    refine lv_lshl (v := (((xs (x4 + 3).toNatClampNeg)).toInt64) <<< ((32 : Int32).toInt64 &&& 63)) hx hb dL_law_1286 rfl ?_
    refine lv_aload_n hx hb dL_law_1287 rfl (lv_at hl 0 rfl) ?_
    refine lv_iload hx hb dL_law_1288 (lv_at hl 4 rfl) ?_
    refine lv_iconst (v := 4) hx hb dL_law_1290 (by decide) ?_
    refine lv_iadd hx hb dL_law_1291 ?_
    refine va_sld hx hb hXs hbl hbA I.2.2.2.2.2.2.2.2.1 hn4 dL_law_1292 ?_
    refine lv_i2l (v := ((xs (x4 + 4).toNatClampNeg)).toInt64) hx hb dL_law_1293 rfl ?_
    refine lv_ldc2 hx hb hown (hts (.constantLong RL 45 (4294967295)) (by decide +kernel)) dL_law_1294 ?_
    refine lv_land hx hb dL_law_1297 ?_
    refine lv_topl (fun v1297 e1297 => ?_)
    refine lv_lor hx hb dL_law_1298 ?_
    refine lv_topl (fun v1298 e1298 => ?_)
    refine lv_aload_n hx hb dL_law_1299 rfl (lv_at hl 0 rfl) ?_
    refine lv_iload hx hb dL_law_1300 (lv_at hl 4 rfl) ?_
    refine lv_iconst (v := 5) hx hb dL_law_1302 (by decide) ?_
    refine lv_iadd hx hb dL_law_1303 ?_
    refine va_sld hx hb hXs hbl hbA I.2.2.2.2.2.2.2.2.1 hn5 dL_law_1304 ?_
    refine lv_i2l (v := ((xs (x4 + 5).toNatClampNeg)).toInt64) hx hb dL_law_1305 rfl ?_
    refine lv_bipush (v := 32) hx hb dL_law_1306 (by decide) ?_
    refine lv_lshl (v := (((xs (x4 + 5).toNatClampNeg)).toInt64) <<< ((32 : Int32).toInt64 &&& 63)) hx hb dL_law_1308 rfl ?_
    refine lv_aload_n hx hb dL_law_1309 rfl (lv_at hl 0 rfl) ?_
    refine lv_iload hx hb dL_law_1310 (lv_at hl 4 rfl) ?_
    refine lv_bipush (v := 6) hx hb dL_law_1312 (by decide) ?_
    refine lv_iadd hx hb dL_law_1314 ?_
    refine va_sld hx hb hXs hbl hbA I.2.2.2.2.2.2.2.2.1 hn6 dL_law_1315 ?_
    refine lv_i2l (v := ((xs (x4 + 6).toNatClampNeg)).toInt64) hx hb dL_law_1316 rfl ?_
    refine lv_ldc2 hx hb hown (hts (.constantLong RL 45 (4294967295)) (by decide +kernel)) dL_law_1317 ?_
    refine lv_land hx hb dL_law_1320 ?_
    refine lv_topl (fun v1320 e1320 => ?_)
    refine lv_lor hx hb dL_law_1321 ?_
    refine lv_topl (fun v1321 e1321 => ?_)
    have hI := I.2.2.2.2.2.2.1
    refine lm_i (As := [.int (xs (x4 + 1).toNatClampNeg), .int (xs (x4 + 2).toNatClampNeg), .long v1298, .long v1321]) (rest := []) I ⟨hx, hb, hml, hown, hts⟩ (c_X10_far l D cy mo a f g r q ((xs (x4 + 1).toNatClampNeg)) ((xs (x4 + 2).toNatClampNeg)) v1298 v1321 hDM) (cwV 4 hts gL_law_X10_far rfl rfl rfl (by decide +kernel) ⟨Nat.le_of_ble_eq_true rfl, Nat.le_of_ble_eq_true rfl⟩) hK hAM rfl hl.1 rfl (Nat.le_of_ble_eq_true rfl) dL_law_1322 ⟨by omega, by omega⟩ (fun _ _ h9 => by obtain ⟨_, _, _, _, rfl, h9⟩ := h9; exact hI) (fun r1322 u H locs q1322 I => ?_)
    have ef : u.1 1 = f 1 := by obtain ⟨_, _, _, _, rfl, -⟩ := q1322; rfl
    have e2_ : u.2.2.1 2 = r 2 := by obtain ⟨_, _, _, _, rfl, -⟩ := q1322; rfl
    have e3_ : u.2.2.1 3 = r 3 := by obtain ⟨_, _, _, _, rfl, -⟩ := q1322; rfl
    have e4_ : u.2.2.1 4 = r 4 := by obtain ⟨_, _, _, _, rfl, -⟩ := q1322; rfl
    have e5_ : u.2.2.1 5 = r 5 := by obtain ⟨_, _, _, _, rfl, -⟩ := q1322; rfl
    have e6_ : u.2.2.1 6 = r 6 := by obtain ⟨_, _, _, _, rfl, -⟩ := q1322; rfl
    have e7_ : u.2.2.1 7 = r 7 := by obtain ⟨_, _, _, _, rfl, -⟩ := q1322; rfl
    have e8_ : u.2.2.1 8 = r 8 := by obtain ⟨_, _, _, _, rfl, -⟩ := q1322; rfl
    obtain ⟨f1, g1, r1, q1⟩ := u
    have ef : f1 1 = f 1 := ef
    have e2_ : r1 2 = r 2 := e2_
    have e3_ : r1 3 = r 3 := e3_
    have e4_ : r1 4 = r 4 := e4_
    have e5_ : r1 5 = r 5 := e5_
    have e6_ : r1 6 = r 6 := e6_
    have e7_ : r1 7 = r 7 := e7_
    have e8_ : r1 8 = r 8 := e8_
    have I : LI D cy s xo mo ou a (some x9) G1 W1 f1 g1 r1 q1 H locs := I
    refine lv_pop hx hb dL_law_1325 rfl ?_
    refine lv_goto (tgt := 2355) hx hb dL_law_1326 (by decide) ?_
    have hR1 : RlJ cy xo G1 W1 f1 r1 := hR.shp I0.2.2.1 I0.2.2.2.1 I0.2.2.2.2.1 hX9 rfl rfl rfl hM (mo1 := some x9) hM9 ef e2_ e3_ e4_ e5_ e6_ e7_ e8_
    refine W.widen (k := C + 7) (n := S + 53273) (by omega) (by omega) ?_
    exact kk2 hM0 _ _ _ _ _ _ _ _ _ _ I hR1 (lv_sub hl [0, 1, 2, 3, 4] rfl)
set_option maxHeartbeats 4000000 in
set_option maxRecDepth 100000 in
theorem lcase_19 {p : Program} {l : Launch} {e : Env} {s : State} {m : MethodId} {below : List Frame} {meth : Method} {c : Code} {b L : Nat} {xs : Nat → Int32} {D : va_G} {cy : Nat → ClassId} {xo mo ou : Nat} {a : Nat → Nat} {M : Option Nat} {G : cG} {W' : va_W} {f : Nat → Int32} {g : Nat → Int64} {r : Nat → Nat → Int32} {q : Nat → Nat → Int64} {H : Heap} {locs : List Loc} {ls : Array Slot} {Q : State → Prop} {C S : Nat} (X : LX p l s m c b L xs D cy mo a) (I : LI D cy s xo mo ou a M G W' f g r q H locs) (hR : RlJ cy xo G W' f r) {x4 : Int32} (h4 : 0 ≤ x4.toInt ∧ x4.toInt + 8 ≤ (L : Int) ∧ L ≤ 4096) (hC : C + 7 ≤ 601024) (hSl : S + 53273 ≤ 7293034) (hl : lv_has ls 8 [(0, .ref b), (1, .ref xo), (2, .ref mo), (3, .ref ou), (4, .int x4)]) (kk : ∀ (G : cG) (W' : va_W) (f : Nat → Int32) (g : Nat → Int64) (r : Nat → Nat → Int32) (q : Nat → Nat → Int64) (H : Heap) (locs : List Loc) (ls : Array Slot), LI D cy s xo mo ou a M G W' f g r q H locs → RlJ cy xo G W' f r → lv_has ls 8 [(0, .ref b), (1, .ref xo), (2, .ref mo), (3, .ref ou), (4, .int x4)] → W p l e room_1 s m #[Value.ref b] below meth c H locs (C + 7) (S + 588) Q (F0 m 2355 ls [])) : W p l e room_1 s m #[Value.ref b] below meth c H locs C S Q (F0 m 1329 ls []) := by
  obtain ⟨⟨hx, hb, hml, hown, hts⟩, ⟨hXs, hbl⟩, ⟨hK, hV, hZ, hXT⟩, hst, hDM, hAM⟩ := id X
  have I0 := I
  have hbA : ¬ AL s b := Nat.not_le.mpr hbl
  have hRc : room_1.cells = 601024 := rfl
  have hRs : room_1.slots = 7293034 := rfl
  have hn1 : vp_in (x4 + 1) L := l_in (c := 1) h4 rfl (by decide)
  have hn2 : vp_in (x4 + 2) L := l_in (c := 2) h4 rfl (by decide)
  have hn3 : vp_in (x4 + 3) L := l_in (c := 3) h4 rfl (by decide)
  have hn4 : vp_in (x4 + 4) L := l_in (c := 4) h4 rfl (by decide)
  have hn5 : vp_in (x4 + 5) L := l_in (c := 5) h4 rfl (by decide)
  have hn6 : vp_in (x4 + 6) L := l_in (c := 6) h4 rfl (by decide)
  have hn7 : vp_in (x4 + 7) L := l_in (c := 7) h4 rfl (by decide)
  refine lv_aload_n hx hb dL_law_1329 rfl (lv_at hl 1 rfl) ?_
  refine lv_aload_n hx hb dL_law_1330 rfl (lv_at hl 0 rfl) ?_
  refine lv_iload hx hb dL_law_1331 (lv_at hl 4 rfl) ?_
  refine lv_iconst (v := 1) hx hb dL_law_1333 (by decide) ?_
  refine lv_iadd hx hb dL_law_1334 ?_
  refine va_sld hx hb hXs hbl hbA I.2.2.2.2.2.2.2.2.1 hn1 dL_law_1335 ?_
  refine lv_aload_n hx hb dL_law_1336 rfl (lv_at hl 0 rfl) ?_
  refine lv_iload hx hb dL_law_1337 (lv_at hl 4 rfl) ?_
  refine lv_iconst (v := 2) hx hb dL_law_1339 (by decide) ?_
  refine lv_iadd hx hb dL_law_1340 ?_
  refine va_sld hx hb hXs hbl hbA I.2.2.2.2.2.2.2.2.1 hn2 dL_law_1341 ?_
  refine lv_aload_n hx hb dL_law_1342 rfl (lv_at hl 0 rfl) ?_
  refine lv_iload hx hb dL_law_1343 (lv_at hl 4 rfl) ?_
  refine lv_iconst (v := 3) hx hb dL_law_1345 (by decide) ?_
  refine lv_iadd hx hb dL_law_1346 ?_
  refine va_sld hx hb hXs hbl hbA I.2.2.2.2.2.2.2.2.1 hn3 dL_law_1347 ?_
  refine lv_i2l (v := ((xs (x4 + 3).toNatClampNeg)).toInt64) hx hb dL_law_1348 rfl ?_
  refine lv_bipush (v := 32) hx hb dL_law_1349 (by decide) ?_
  refine lv_lshl (v := (((xs (x4 + 3).toNatClampNeg)).toInt64) <<< ((32 : Int32).toInt64 &&& 63)) hx hb dL_law_1351 rfl ?_
  refine lv_aload_n hx hb dL_law_1352 rfl (lv_at hl 0 rfl) ?_
  refine lv_iload hx hb dL_law_1353 (lv_at hl 4 rfl) ?_
  refine lv_iconst (v := 4) hx hb dL_law_1355 (by decide) ?_
  refine lv_iadd hx hb dL_law_1356 ?_
  refine va_sld hx hb hXs hbl hbA I.2.2.2.2.2.2.2.2.1 hn4 dL_law_1357 ?_
  refine lv_i2l (v := ((xs (x4 + 4).toNatClampNeg)).toInt64) hx hb dL_law_1358 rfl ?_
  refine lv_ldc2 hx hb hown (hts (.constantLong RL 45 (4294967295)) (by decide +kernel)) dL_law_1359 ?_
  refine lv_land hx hb dL_law_1362 ?_
  refine lv_topl (fun v1362 e1362 => ?_)
  refine lv_lor hx hb dL_law_1363 ?_
  refine lv_topl (fun v1363 e1363 => ?_)
  refine lk3_i I (va_runV (g := F0 m 1364 ls ([.long v1363, .int (xs (x4 + 2).toNatClampNeg), .int (xs (x4 + 1).toNatClampNeg), .ref xo])) (As := [.int (xs (x4 + 1).toNatClampNeg), .int (xs (x4 + 2).toNatClampNeg), .long v1363]) (rest := []) ⟨hx, hb, hml, hown, hts⟩ (c_X9_joined l D cy (AC s mo a) G W' xo ((xs (x4 + 1).toNatClampNeg)) ((xs (x4 + 2).toNatClampNeg)) v1363 I.2.2.1 I.2.2.2.1 I.2.2.2.2.1) (cwV 3 hts gL_law_X9_joined rfl rfl rfl (by decide +kernel) ⟨Nat.le_of_ble_eq_true rfl, Nat.le_of_ble_eq_true rfl⟩) (l_preV I hK hV) rfl rfl hl.1 rfl (lv_room (Nat.le_of_ble_eq_true rfl)) dL_law_1364 ⟨by omega, by omega⟩) rfl (fun r1364 u H locs q1364 hX I => ?_)
  obtain ⟨G1, W1⟩ := u
  have I : LI D cy s xo mo ou a M G1 W1 f g r q H locs := I
  have hX : cX none (chs [1, 8]) G W' G1 W1 := hX
  refine lv_pop hx hb dL_law_1367 rfl ?_
  refine lv_aload_n hx hb dL_law_1368 rfl (lv_at hl 2 rfl) ?_
  refine lv_aload_n hx hb dL_law_1369 rfl (lv_at hl 0 rfl) ?_
  refine lv_iload hx hb dL_law_1370 (lv_at hl 4 rfl) ?_
  refine lv_iconst (v := 1) hx hb dL_law_1372 (by decide) ?_
  refine lv_iadd hx hb dL_law_1373 ?_
  refine va_sld hx hb hXs hbl hbA I.2.2.2.2.2.2.2.2.1 hn1 dL_law_1374 ?_
  refine lv_aload_n hx hb dL_law_1375 rfl (lv_at hl 0 rfl) ?_
  refine lv_iload hx hb dL_law_1376 (lv_at hl 4 rfl) ?_
  refine lv_iconst (v := 2) hx hb dL_law_1378 (by decide) ?_
  refine lv_iadd hx hb dL_law_1379 ?_
  refine va_sld hx hb hXs hbl hbA I.2.2.2.2.2.2.2.2.1 hn2 dL_law_1380 ?_
  refine lv_aload_n hx hb dL_law_1381 rfl (lv_at hl 0 rfl) ?_
  refine lv_iload hx hb dL_law_1382 (lv_at hl 4 rfl) ?_
  refine lv_iconst (v := 3) hx hb dL_law_1384 (by decide) ?_
  refine lv_iadd hx hb dL_law_1385 ?_
  refine va_sld hx hb hXs hbl hbA I.2.2.2.2.2.2.2.2.1 hn3 dL_law_1386 ?_
  refine lv_i2l (v := ((xs (x4 + 3).toNatClampNeg)).toInt64) hx hb dL_law_1387 rfl ?_
  refine lv_bipush (v := 32) hx hb dL_law_1388 (by decide) ?_
  refine lv_lshl (v := (((xs (x4 + 3).toNatClampNeg)).toInt64) <<< ((32 : Int32).toInt64 &&& 63)) hx hb dL_law_1390 rfl ?_
  refine lv_aload_n hx hb dL_law_1391 rfl (lv_at hl 0 rfl) ?_
  refine lv_iload hx hb dL_law_1392 (lv_at hl 4 rfl) ?_
  refine lv_iconst (v := 4) hx hb dL_law_1394 (by decide) ?_
  refine lv_iadd hx hb dL_law_1395 ?_
  refine va_sld hx hb hXs hbl hbA I.2.2.2.2.2.2.2.2.1 hn4 dL_law_1396 ?_
  refine lv_i2l (v := ((xs (x4 + 4).toNatClampNeg)).toInt64) hx hb dL_law_1397 rfl ?_
  refine lv_ldc2 hx hb hown (hts (.constantLong RL 45 (4294967295)) (by decide +kernel)) dL_law_1398 ?_
  refine lv_land hx hb dL_law_1401 ?_
  refine lv_topl (fun v1401 e1401 => ?_)
  refine lv_lor hx hb dL_law_1402 ?_
  refine lv_topl (fun v1402 e1402 => ?_)
  have hI := I.2.2.2.2.2.2.1
  refine lm_i (As := [.int (xs (x4 + 1).toNatClampNeg), .int (xs (x4 + 2).toNatClampNeg), .long v1402]) (rest := []) I ⟨hx, hb, hml, hown, hts⟩ (c_X10_joined l D cy mo a f g r q ((xs (x4 + 1).toNatClampNeg)) ((xs (x4 + 2).toNatClampNeg)) v1402 hDM) (cwV 3 hts gL_law_X10_joined rfl rfl rfl (by decide +kernel) ⟨Nat.le_of_ble_eq_true rfl, Nat.le_of_ble_eq_true rfl⟩) hK hAM rfl hl.1 rfl (Nat.le_of_ble_eq_true rfl) dL_law_1403 ⟨by omega, by omega⟩ (fun _ _ h9 => by obtain ⟨_, rfl, h9⟩ := h9; exact hI) (fun r1403 u H locs q1403 I => ?_)
  have ef : u.1 1 = f 1 := by obtain ⟨_, rfl, -⟩ := q1403; rfl
  have e2_ : u.2.2.1 2 = r 2 := by obtain ⟨_, rfl, -⟩ := q1403; rfl
  have e3_ : u.2.2.1 3 = r 3 := by obtain ⟨_, rfl, -⟩ := q1403; rfl
  have e4_ : u.2.2.1 4 = r 4 := by obtain ⟨_, rfl, -⟩ := q1403; rfl
  have e5_ : u.2.2.1 5 = r 5 := by obtain ⟨_, rfl, -⟩ := q1403; rfl
  have e6_ : u.2.2.1 6 = r 6 := by obtain ⟨_, rfl, -⟩ := q1403; rfl
  have e7_ : u.2.2.1 7 = r 7 := by obtain ⟨_, rfl, -⟩ := q1403; rfl
  have e8_ : u.2.2.1 8 = r 8 := by obtain ⟨_, rfl, -⟩ := q1403; rfl
  obtain ⟨f1, g1, r1, q1⟩ := u
  have ef : f1 1 = f 1 := ef
  have e2_ : r1 2 = r 2 := e2_
  have e3_ : r1 3 = r 3 := e3_
  have e4_ : r1 4 = r 4 := e4_
  have e5_ : r1 5 = r 5 := e5_
  have e6_ : r1 6 = r 6 := e6_
  have e7_ : r1 7 = r 7 := e7_
  have e8_ : r1 8 = r 8 := e8_
  have I : LI D cy s xo mo ou a M G1 W1 f1 g1 r1 q1 H locs := I
  refine lv_pop hx hb dL_law_1406 rfl ?_
  refine lv_goto (tgt := 2355) hx hb dL_law_1407 (by decide) ?_
  have hR1 : RlJ cy xo G1 W1 f1 r1 := hR.keep I0.2.2.1 I0.2.2.2.1 I0.2.2.2.2.1 hX rfl rfl rfl rfl ef e2_ e3_ e4_ e5_ e6_ e7_ e8_
  refine W.widen (k := C + 7) (n := S + 588) (by omega) (by omega) ?_
  exact kk _ _ _ _ _ _ _ _ _ I hR1 (lv_sub hl [0, 1, 2, 3, 4] rfl)
set_option maxHeartbeats 4000000 in
set_option maxRecDepth 100000 in
theorem lcase_20 {p : Program} {l : Launch} {e : Env} {s : State} {m : MethodId} {below : List Frame} {meth : Method} {c : Code} {b L : Nat} {xs : Nat → Int32} {D : va_G} {cy : Nat → ClassId} {xo mo ou : Nat} {a : Nat → Nat} {M : Option Nat} {G : cG} {W' : va_W} {f : Nat → Int32} {g : Nat → Int64} {r : Nat → Nat → Int32} {q : Nat → Nat → Int64} {H : Heap} {locs : List Loc} {ls : Array Slot} {Q : State → Prop} {C S : Nat} (X : LX p l s m c b L xs D cy mo a) (I : LI D cy s xo mo ou a M G W' f g r q H locs) (hR : RlJ cy xo G W' f r) {x4 : Int32} (h4 : 0 ≤ x4.toInt ∧ x4.toInt + 8 ≤ (L : Int) ∧ L ≤ 4096) (hC : C + 7 ≤ 601024) (hSl : S + 53273 ≤ 7293034) (hl : lv_has ls 8 [(0, .ref b), (1, .ref xo), (2, .ref mo), (3, .ref ou), (4, .int x4)]) (kk : ∀ (G : cG) (W' : va_W) (f : Nat → Int32) (g : Nat → Int64) (r : Nat → Nat → Int32) (q : Nat → Nat → Int64) (H : Heap) (locs : List Loc) (ls : Array Slot), LI D cy s xo mo ou a M G W' f g r q H locs → RlJ cy xo G W' f r → lv_has ls 8 [(0, .ref b), (1, .ref xo), (2, .ref mo), (3, .ref ou), (4, .int x4)] → W p l e room_1 s m #[Value.ref b] below meth c H locs (C + 7) (S + 588) Q (F0 m 2355 ls [])) : W p l e room_1 s m #[Value.ref b] below meth c H locs C S Q (F0 m 1410 ls []) := by
  obtain ⟨⟨hx, hb, hml, hown, hts⟩, ⟨hXs, hbl⟩, ⟨hK, hV, hZ, hXT⟩, hst, hDM, hAM⟩ := id X
  have I0 := I
  have hbA : ¬ AL s b := Nat.not_le.mpr hbl
  have hRc : room_1.cells = 601024 := rfl
  have hRs : room_1.slots = 7293034 := rfl
  have hn1 : vp_in (x4 + 1) L := l_in (c := 1) h4 rfl (by decide)
  have hn2 : vp_in (x4 + 2) L := l_in (c := 2) h4 rfl (by decide)
  have hn3 : vp_in (x4 + 3) L := l_in (c := 3) h4 rfl (by decide)
  have hn4 : vp_in (x4 + 4) L := l_in (c := 4) h4 rfl (by decide)
  have hn5 : vp_in (x4 + 5) L := l_in (c := 5) h4 rfl (by decide)
  have hn6 : vp_in (x4 + 6) L := l_in (c := 6) h4 rfl (by decide)
  have hn7 : vp_in (x4 + 7) L := l_in (c := 7) h4 rfl (by decide)
  refine lv_aload_n hx hb dL_law_1410 rfl (lv_at hl 1 rfl) ?_
  refine lv_aload_n hx hb dL_law_1411 rfl (lv_at hl 0 rfl) ?_
  refine lv_iload hx hb dL_law_1412 (lv_at hl 4 rfl) ?_
  refine lv_iconst (v := 1) hx hb dL_law_1414 (by decide) ?_
  refine lv_iadd hx hb dL_law_1415 ?_
  refine va_sld hx hb hXs hbl hbA I.2.2.2.2.2.2.2.2.1 hn1 dL_law_1416 ?_
  refine lv_aload_n hx hb dL_law_1417 rfl (lv_at hl 0 rfl) ?_
  refine lv_iload hx hb dL_law_1418 (lv_at hl 4 rfl) ?_
  refine lv_iconst (v := 2) hx hb dL_law_1420 (by decide) ?_
  refine lv_iadd hx hb dL_law_1421 ?_
  refine va_sld hx hb hXs hbl hbA I.2.2.2.2.2.2.2.2.1 hn2 dL_law_1422 ?_
  refine lv_aload_n hx hb dL_law_1423 rfl (lv_at hl 0 rfl) ?_
  refine lv_iload hx hb dL_law_1424 (lv_at hl 4 rfl) ?_
  refine lv_iconst (v := 3) hx hb dL_law_1426 (by decide) ?_
  refine lv_iadd hx hb dL_law_1427 ?_
  refine va_sld hx hb hXs hbl hbA I.2.2.2.2.2.2.2.2.1 hn3 dL_law_1428 ?_
  refine lv_i2l (v := ((xs (x4 + 3).toNatClampNeg)).toInt64) hx hb dL_law_1429 rfl ?_
  refine lv_bipush (v := 32) hx hb dL_law_1430 (by decide) ?_
  refine lv_lshl (v := (((xs (x4 + 3).toNatClampNeg)).toInt64) <<< ((32 : Int32).toInt64 &&& 63)) hx hb dL_law_1432 rfl ?_
  refine lv_aload_n hx hb dL_law_1433 rfl (lv_at hl 0 rfl) ?_
  refine lv_iload hx hb dL_law_1434 (lv_at hl 4 rfl) ?_
  refine lv_iconst (v := 4) hx hb dL_law_1436 (by decide) ?_
  refine lv_iadd hx hb dL_law_1437 ?_
  refine va_sld hx hb hXs hbl hbA I.2.2.2.2.2.2.2.2.1 hn4 dL_law_1438 ?_
  refine lv_i2l (v := ((xs (x4 + 4).toNatClampNeg)).toInt64) hx hb dL_law_1439 rfl ?_
  refine lv_ldc2 hx hb hown (hts (.constantLong RL 45 (4294967295)) (by decide +kernel)) dL_law_1440 ?_
  refine lv_land hx hb dL_law_1443 ?_
  refine lv_topl (fun v1443 e1443 => ?_)
  refine lv_lor hx hb dL_law_1444 ?_
  refine lv_topl (fun v1444 e1444 => ?_)
  refine lv_aload_n hx hb dL_law_1445 rfl (lv_at hl 0 rfl) ?_
  refine lv_iload hx hb dL_law_1446 (lv_at hl 4 rfl) ?_
  refine lv_iconst (v := 5) hx hb dL_law_1448 (by decide) ?_
  refine lv_iadd hx hb dL_law_1449 ?_
  refine va_sld hx hb hXs hbl hbA I.2.2.2.2.2.2.2.2.1 hn5 dL_law_1450 ?_
  refine lv_if_eq (tgt := 1458) hx hb dL_law_1451 (by decide) (fun c1451 => ?_) (fun c1451 => ?_)
  · skip
    have d1451 := c1451
    rw [fa_eq] at d1451
    refine lv_iconst (v := 0) hx hb dL_law_1458 (by decide) ?_
    refine lk3_i I (va_runV (g := F0 m 1459 ls ([.int (0 : Int32), .long v1444, .int (xs (x4 + 2).toNatClampNeg), .int (xs (x4 + 1).toNatClampNeg), .ref xo])) (As := [.int (xs (x4 + 1).toNatClampNeg), .int (xs (x4 + 2).toNatClampNeg), .long v1444, .int (0 : Int32)]) (rest := []) ⟨hx, hb, hml, hown, hts⟩ (c_X9_even l D cy (AC s mo a) G W' xo ((xs (x4 + 1).toNatClampNeg)) ((xs (x4 + 2).toNatClampNeg)) v1444 (0 : Int32) I.2.2.1 I.2.2.2.1 I.2.2.2.2.1) (cwV 4 hts gL_law_X9_even rfl rfl rfl (by decide +kernel) ⟨Nat.le_of_ble_eq_true rfl, Nat.le_of_ble_eq_true rfl⟩) (l_preV I hK hV) rfl rfl hl.1 rfl (lv_room (Nat.le_of_ble_eq_true rfl)) dL_law_1459 ⟨by omega, by omega⟩) rfl (fun r1459 u H locs q1459 hX I => ?_)
    obtain ⟨G1, W1⟩ := u
    have I : LI D cy s xo mo ou a M G1 W1 f g r q H locs := I
    have hX : cX none (chs [1, 8]) G W' G1 W1 := hX
    refine lv_pop hx hb dL_law_1462 rfl ?_
    refine lv_aload_n hx hb dL_law_1463 rfl (lv_at hl 2 rfl) ?_
    refine lv_aload_n hx hb dL_law_1464 rfl (lv_at hl 0 rfl) ?_
    refine lv_iload hx hb dL_law_1465 (lv_at hl 4 rfl) ?_
    refine lv_iconst (v := 1) hx hb dL_law_1467 (by decide) ?_
    refine lv_iadd hx hb dL_law_1468 ?_
    refine va_sld hx hb hXs hbl hbA I.2.2.2.2.2.2.2.2.1 hn1 dL_law_1469 ?_
    refine lv_aload_n hx hb dL_law_1470 rfl (lv_at hl 0 rfl) ?_
    refine lv_iload hx hb dL_law_1471 (lv_at hl 4 rfl) ?_
    refine lv_iconst (v := 2) hx hb dL_law_1473 (by decide) ?_
    refine lv_iadd hx hb dL_law_1474 ?_
    refine va_sld hx hb hXs hbl hbA I.2.2.2.2.2.2.2.2.1 hn2 dL_law_1475 ?_
    refine lv_aload_n hx hb dL_law_1476 rfl (lv_at hl 0 rfl) ?_
    refine lv_iload hx hb dL_law_1477 (lv_at hl 4 rfl) ?_
    refine lv_iconst (v := 3) hx hb dL_law_1479 (by decide) ?_
    refine lv_iadd hx hb dL_law_1480 ?_
    refine va_sld hx hb hXs hbl hbA I.2.2.2.2.2.2.2.2.1 hn3 dL_law_1481 ?_
    refine lv_i2l (v := ((xs (x4 + 3).toNatClampNeg)).toInt64) hx hb dL_law_1482 rfl ?_
    refine lv_bipush (v := 32) hx hb dL_law_1483 (by decide) ?_
    refine lv_lshl (v := (((xs (x4 + 3).toNatClampNeg)).toInt64) <<< ((32 : Int32).toInt64 &&& 63)) hx hb dL_law_1485 rfl ?_
    refine lv_aload_n hx hb dL_law_1486 rfl (lv_at hl 0 rfl) ?_
    refine lv_iload hx hb dL_law_1487 (lv_at hl 4 rfl) ?_
    refine lv_iconst (v := 4) hx hb dL_law_1489 (by decide) ?_
    refine lv_iadd hx hb dL_law_1490 ?_
    refine va_sld hx hb hXs hbl hbA I.2.2.2.2.2.2.2.2.1 hn4 dL_law_1491 ?_
    refine lv_i2l (v := ((xs (x4 + 4).toNatClampNeg)).toInt64) hx hb dL_law_1492 rfl ?_
    refine lv_ldc2 hx hb hown (hts (.constantLong RL 45 (4294967295)) (by decide +kernel)) dL_law_1493 ?_
    refine lv_land hx hb dL_law_1496 ?_
    refine lv_topl (fun v1496 e1496 => ?_)
    refine lv_lor hx hb dL_law_1497 ?_
    refine lv_topl (fun v1497 e1497 => ?_)
    refine lv_aload_n hx hb dL_law_1498 rfl (lv_at hl 0 rfl) ?_
    refine lv_iload hx hb dL_law_1499 (lv_at hl 4 rfl) ?_
    refine lv_iconst (v := 5) hx hb dL_law_1501 (by decide) ?_
    refine lv_iadd hx hb dL_law_1502 ?_
    refine va_sld hx hb hXs hbl hbA I.2.2.2.2.2.2.2.2.1 hn5 dL_law_1503 ?_
    refine lv_if_eq (tgt := 1511) hx hb dL_law_1504 (by decide) (fun c1504 => ?_) (fun c1504 => ?_)
    · skip
      have d1504 := c1504
      rw [fa_eq] at d1504
      refine lv_iconst (v := 0) hx hb dL_law_1511 (by decide) ?_
      have hI := I.2.2.2.2.2.2.1
      refine lm_i (As := [.int (xs (x4 + 1).toNatClampNeg), .int (xs (x4 + 2).toNatClampNeg), .long v1497, .int (0 : Int32)]) (rest := []) I ⟨hx, hb, hml, hown, hts⟩ (c_X10_even l D cy mo a f g r q ((xs (x4 + 1).toNatClampNeg)) ((xs (x4 + 2).toNatClampNeg)) v1497 (0 : Int32) hDM) (cwV 4 hts gL_law_X10_even rfl rfl rfl (by decide +kernel) ⟨Nat.le_of_ble_eq_true rfl, Nat.le_of_ble_eq_true rfl⟩) hK hAM rfl hl.1 rfl (Nat.le_of_ble_eq_true rfl) dL_law_1512 ⟨by omega, by omega⟩ (fun _ _ h9 => by obtain ⟨rfl, h9⟩ := h9; exact hI) (fun r1512 u H locs q1512 I => ?_)
      have ef : u.1 1 = f 1 := by obtain ⟨rfl, -⟩ := q1512; rfl
      have e2_ : u.2.2.1 2 = r 2 := by obtain ⟨rfl, -⟩ := q1512; rfl
      have e3_ : u.2.2.1 3 = r 3 := by obtain ⟨rfl, -⟩ := q1512; rfl
      have e4_ : u.2.2.1 4 = r 4 := by obtain ⟨rfl, -⟩ := q1512; rfl
      have e5_ : u.2.2.1 5 = r 5 := by obtain ⟨rfl, -⟩ := q1512; rfl
      have e6_ : u.2.2.1 6 = r 6 := by obtain ⟨rfl, -⟩ := q1512; rfl
      have e7_ : u.2.2.1 7 = r 7 := by obtain ⟨rfl, -⟩ := q1512; rfl
      have e8_ : u.2.2.1 8 = r 8 := by obtain ⟨rfl, -⟩ := q1512; rfl
      obtain ⟨f1, g1, r1, q1⟩ := u
      have ef : f1 1 = f 1 := ef
      have e2_ : r1 2 = r 2 := e2_
      have e3_ : r1 3 = r 3 := e3_
      have e4_ : r1 4 = r 4 := e4_
      have e5_ : r1 5 = r 5 := e5_
      have e6_ : r1 6 = r 6 := e6_
      have e7_ : r1 7 = r 7 := e7_
      have e8_ : r1 8 = r 8 := e8_
      have I : LI D cy s xo mo ou a M G1 W1 f1 g1 r1 q1 H locs := I
      refine lv_pop hx hb dL_law_1515 rfl ?_
      refine lv_goto (tgt := 2355) hx hb dL_law_1516 (by decide) ?_
      have hR1 : RlJ cy xo G1 W1 f1 r1 := hR.keep I0.2.2.1 I0.2.2.2.1 I0.2.2.2.2.1 hX rfl rfl rfl rfl ef e2_ e3_ e4_ e5_ e6_ e7_ e8_
      refine W.widen (k := C + 7) (n := S + 588) (by omega) (by omega) ?_
      exact kk _ _ _ _ _ _ _ _ _ I hR1 (lv_sub hl [0, 1, 2, 3, 4] rfl)
    · first | exact absurd c1504 c1451 | exact absurd c1451 c1504
  · skip
    have d1451 := c1451
    rw [fa_eq] at d1451
    refine lv_iconst (v := 1) hx hb dL_law_1454 (by decide) ?_
    refine lv_goto (tgt := 1459) hx hb dL_law_1455 (by decide) ?_
    refine lk3_i I (va_runV (g := F0 m 1459 ls ([.int (1 : Int32), .long v1444, .int (xs (x4 + 2).toNatClampNeg), .int (xs (x4 + 1).toNatClampNeg), .ref xo])) (As := [.int (xs (x4 + 1).toNatClampNeg), .int (xs (x4 + 2).toNatClampNeg), .long v1444, .int (1 : Int32)]) (rest := []) ⟨hx, hb, hml, hown, hts⟩ (c_X9_even l D cy (AC s mo a) G W' xo ((xs (x4 + 1).toNatClampNeg)) ((xs (x4 + 2).toNatClampNeg)) v1444 (1 : Int32) I.2.2.1 I.2.2.2.1 I.2.2.2.2.1) (cwV 4 hts gL_law_X9_even rfl rfl rfl (by decide +kernel) ⟨Nat.le_of_ble_eq_true rfl, Nat.le_of_ble_eq_true rfl⟩) (l_preV I hK hV) rfl rfl hl.1 rfl (lv_room (Nat.le_of_ble_eq_true rfl)) dL_law_1459 ⟨by omega, by omega⟩) rfl (fun r1459 u H locs q1459 hX I => ?_)
    obtain ⟨G1, W1⟩ := u
    have I : LI D cy s xo mo ou a M G1 W1 f g r q H locs := I
    have hX : cX none (chs [1, 8]) G W' G1 W1 := hX
    refine lv_pop hx hb dL_law_1462 rfl ?_
    refine lv_aload_n hx hb dL_law_1463 rfl (lv_at hl 2 rfl) ?_
    refine lv_aload_n hx hb dL_law_1464 rfl (lv_at hl 0 rfl) ?_
    refine lv_iload hx hb dL_law_1465 (lv_at hl 4 rfl) ?_
    refine lv_iconst (v := 1) hx hb dL_law_1467 (by decide) ?_
    refine lv_iadd hx hb dL_law_1468 ?_
    refine va_sld hx hb hXs hbl hbA I.2.2.2.2.2.2.2.2.1 hn1 dL_law_1469 ?_
    refine lv_aload_n hx hb dL_law_1470 rfl (lv_at hl 0 rfl) ?_
    refine lv_iload hx hb dL_law_1471 (lv_at hl 4 rfl) ?_
    refine lv_iconst (v := 2) hx hb dL_law_1473 (by decide) ?_
    refine lv_iadd hx hb dL_law_1474 ?_
    refine va_sld hx hb hXs hbl hbA I.2.2.2.2.2.2.2.2.1 hn2 dL_law_1475 ?_
    refine lv_aload_n hx hb dL_law_1476 rfl (lv_at hl 0 rfl) ?_
    refine lv_iload hx hb dL_law_1477 (lv_at hl 4 rfl) ?_
    refine lv_iconst (v := 3) hx hb dL_law_1479 (by decide) ?_
    refine lv_iadd hx hb dL_law_1480 ?_
    refine va_sld hx hb hXs hbl hbA I.2.2.2.2.2.2.2.2.1 hn3 dL_law_1481 ?_
    refine lv_i2l (v := ((xs (x4 + 3).toNatClampNeg)).toInt64) hx hb dL_law_1482 rfl ?_
    refine lv_bipush (v := 32) hx hb dL_law_1483 (by decide) ?_
    refine lv_lshl (v := (((xs (x4 + 3).toNatClampNeg)).toInt64) <<< ((32 : Int32).toInt64 &&& 63)) hx hb dL_law_1485 rfl ?_
    refine lv_aload_n hx hb dL_law_1486 rfl (lv_at hl 0 rfl) ?_
    refine lv_iload hx hb dL_law_1487 (lv_at hl 4 rfl) ?_
    refine lv_iconst (v := 4) hx hb dL_law_1489 (by decide) ?_
    refine lv_iadd hx hb dL_law_1490 ?_
    refine va_sld hx hb hXs hbl hbA I.2.2.2.2.2.2.2.2.1 hn4 dL_law_1491 ?_
    refine lv_i2l (v := ((xs (x4 + 4).toNatClampNeg)).toInt64) hx hb dL_law_1492 rfl ?_
    refine lv_ldc2 hx hb hown (hts (.constantLong RL 45 (4294967295)) (by decide +kernel)) dL_law_1493 ?_
    refine lv_land hx hb dL_law_1496 ?_
    refine lv_topl (fun v1496 e1496 => ?_)
    refine lv_lor hx hb dL_law_1497 ?_
    refine lv_topl (fun v1497 e1497 => ?_)
    refine lv_aload_n hx hb dL_law_1498 rfl (lv_at hl 0 rfl) ?_
    refine lv_iload hx hb dL_law_1499 (lv_at hl 4 rfl) ?_
    refine lv_iconst (v := 5) hx hb dL_law_1501 (by decide) ?_
    refine lv_iadd hx hb dL_law_1502 ?_
    refine va_sld hx hb hXs hbl hbA I.2.2.2.2.2.2.2.2.1 hn5 dL_law_1503 ?_
    refine lv_if_eq (tgt := 1511) hx hb dL_law_1504 (by decide) (fun c1504 => ?_) (fun c1504 => ?_)
    · first | exact absurd c1504 c1451 | exact absurd c1451 c1504
    · skip
      have d1504 := c1504
      rw [fa_eq] at d1504
      refine lv_iconst (v := 1) hx hb dL_law_1507 (by decide) ?_
      refine lv_goto (tgt := 1512) hx hb dL_law_1508 (by decide) ?_
      have hI := I.2.2.2.2.2.2.1
      refine lm_i (As := [.int (xs (x4 + 1).toNatClampNeg), .int (xs (x4 + 2).toNatClampNeg), .long v1497, .int (1 : Int32)]) (rest := []) I ⟨hx, hb, hml, hown, hts⟩ (c_X10_even l D cy mo a f g r q ((xs (x4 + 1).toNatClampNeg)) ((xs (x4 + 2).toNatClampNeg)) v1497 (1 : Int32) hDM) (cwV 4 hts gL_law_X10_even rfl rfl rfl (by decide +kernel) ⟨Nat.le_of_ble_eq_true rfl, Nat.le_of_ble_eq_true rfl⟩) hK hAM rfl hl.1 rfl (Nat.le_of_ble_eq_true rfl) dL_law_1512 ⟨by omega, by omega⟩ (fun _ _ h9 => by obtain ⟨rfl, h9⟩ := h9; exact hI) (fun r1512 u H locs q1512 I => ?_)
      have ef : u.1 1 = f 1 := by obtain ⟨rfl, -⟩ := q1512; rfl
      have e2_ : u.2.2.1 2 = r 2 := by obtain ⟨rfl, -⟩ := q1512; rfl
      have e3_ : u.2.2.1 3 = r 3 := by obtain ⟨rfl, -⟩ := q1512; rfl
      have e4_ : u.2.2.1 4 = r 4 := by obtain ⟨rfl, -⟩ := q1512; rfl
      have e5_ : u.2.2.1 5 = r 5 := by obtain ⟨rfl, -⟩ := q1512; rfl
      have e6_ : u.2.2.1 6 = r 6 := by obtain ⟨rfl, -⟩ := q1512; rfl
      have e7_ : u.2.2.1 7 = r 7 := by obtain ⟨rfl, -⟩ := q1512; rfl
      have e8_ : u.2.2.1 8 = r 8 := by obtain ⟨rfl, -⟩ := q1512; rfl
      obtain ⟨f1, g1, r1, q1⟩ := u
      have ef : f1 1 = f 1 := ef
      have e2_ : r1 2 = r 2 := e2_
      have e3_ : r1 3 = r 3 := e3_
      have e4_ : r1 4 = r 4 := e4_
      have e5_ : r1 5 = r 5 := e5_
      have e6_ : r1 6 = r 6 := e6_
      have e7_ : r1 7 = r 7 := e7_
      have e8_ : r1 8 = r 8 := e8_
      have I : LI D cy s xo mo ou a M G1 W1 f1 g1 r1 q1 H locs := I
      refine lv_pop hx hb dL_law_1515 rfl ?_
      refine lv_goto (tgt := 2355) hx hb dL_law_1516 (by decide) ?_
      have hR1 : RlJ cy xo G1 W1 f1 r1 := hR.keep I0.2.2.1 I0.2.2.2.1 I0.2.2.2.2.1 hX rfl rfl rfl rfl ef e2_ e3_ e4_ e5_ e6_ e7_ e8_
      refine W.widen (k := C + 7) (n := S + 588) (by omega) (by omega) ?_
      exact kk _ _ _ _ _ _ _ _ _ I hR1 (lv_sub hl [0, 1, 2, 3, 4] rfl)
set_option maxHeartbeats 4000000 in
set_option maxRecDepth 100000 in
theorem lcase_21 {p : Program} {l : Launch} {e : Env} {s : State} {m : MethodId} {below : List Frame} {meth : Method} {c : Code} {b L : Nat} {xs : Nat → Int32} {D : va_G} {cy : Nat → ClassId} {xo mo ou : Nat} {a : Nat → Nat} {M : Option Nat} {G : cG} {W' : va_W} {f : Nat → Int32} {g : Nat → Int64} {r : Nat → Nat → Int32} {q : Nat → Nat → Int64} {H : Heap} {locs : List Loc} {ls : Array Slot} {Q : State → Prop} {C S : Nat} (X : LX p l s m c b L xs D cy mo a) (I : LI D cy s xo mo ou a M G W' f g r q H locs) (hR : RlJ cy xo G W' f r) {x4 : Int32} (h4 : 0 ≤ x4.toInt ∧ x4.toInt + 8 ≤ (L : Int) ∧ L ≤ 4096) (hC : C + 7 ≤ 601024) (hSl : S + 53273 ≤ 7293034) (hl : lv_has ls 8 [(0, .ref b), (1, .ref xo), (2, .ref mo), (3, .ref ou), (4, .int x4)]) (kk : ∀ (G : cG) (W' : va_W) (f : Nat → Int32) (g : Nat → Int64) (r : Nat → Nat → Int32) (q : Nat → Nat → Int64) (H : Heap) (locs : List Loc) (ls : Array Slot), LI D cy s xo mo ou a M G W' f g r q H locs → RlJ cy xo G W' f r → lv_has ls 8 [(0, .ref b), (1, .ref xo), (2, .ref mo), (3, .ref ou), (4, .int x4)] → W p l e room_1 s m #[Value.ref b] below meth c H locs (C + 7) (S + 588) Q (F0 m 2355 ls [])) : W p l e room_1 s m #[Value.ref b] below meth c H locs C S Q (F0 m 1519 ls []) := by
  obtain ⟨⟨hx, hb, hml, hown, hts⟩, ⟨hXs, hbl⟩, ⟨hK, hV, hZ, hXT⟩, hst, hDM, hAM⟩ := id X
  have I0 := I
  have hbA : ¬ AL s b := Nat.not_le.mpr hbl
  have hRc : room_1.cells = 601024 := rfl
  have hRs : room_1.slots = 7293034 := rfl
  have hn1 : vp_in (x4 + 1) L := l_in (c := 1) h4 rfl (by decide)
  have hn2 : vp_in (x4 + 2) L := l_in (c := 2) h4 rfl (by decide)
  have hn3 : vp_in (x4 + 3) L := l_in (c := 3) h4 rfl (by decide)
  have hn4 : vp_in (x4 + 4) L := l_in (c := 4) h4 rfl (by decide)
  have hn5 : vp_in (x4 + 5) L := l_in (c := 5) h4 rfl (by decide)
  have hn6 : vp_in (x4 + 6) L := l_in (c := 6) h4 rfl (by decide)
  have hn7 : vp_in (x4 + 7) L := l_in (c := 7) h4 rfl (by decide)
  refine lv_aload_n hx hb dL_law_1519 rfl (lv_at hl 1 rfl) ?_
  refine lv_aload_n hx hb dL_law_1520 rfl (lv_at hl 0 rfl) ?_
  refine lv_iload hx hb dL_law_1521 (lv_at hl 4 rfl) ?_
  refine lv_iconst (v := 1) hx hb dL_law_1523 (by decide) ?_
  refine lv_iadd hx hb dL_law_1524 ?_
  refine va_sld hx hb hXs hbl hbA I.2.2.2.2.2.2.2.2.1 hn1 dL_law_1525 ?_
  refine lv_aload_n hx hb dL_law_1526 rfl (lv_at hl 0 rfl) ?_
  refine lv_iload hx hb dL_law_1527 (lv_at hl 4 rfl) ?_
  refine lv_iconst (v := 2) hx hb dL_law_1529 (by decide) ?_
  refine lv_iadd hx hb dL_law_1530 ?_
  refine va_sld hx hb hXs hbl hbA I.2.2.2.2.2.2.2.2.1 hn2 dL_law_1531 ?_
  refine lv_aload_n hx hb dL_law_1532 rfl (lv_at hl 0 rfl) ?_
  refine lv_iload hx hb dL_law_1533 (lv_at hl 4 rfl) ?_
  refine lv_iconst (v := 3) hx hb dL_law_1535 (by decide) ?_
  refine lv_iadd hx hb dL_law_1536 ?_
  refine va_sld hx hb hXs hbl hbA I.2.2.2.2.2.2.2.2.1 hn3 dL_law_1537 ?_
  refine lv_i2l (v := ((xs (x4 + 3).toNatClampNeg)).toInt64) hx hb dL_law_1538 rfl ?_
  refine lv_bipush (v := 32) hx hb dL_law_1539 (by decide) ?_
  refine lv_lshl (v := (((xs (x4 + 3).toNatClampNeg)).toInt64) <<< ((32 : Int32).toInt64 &&& 63)) hx hb dL_law_1541 rfl ?_
  refine lv_aload_n hx hb dL_law_1542 rfl (lv_at hl 0 rfl) ?_
  refine lv_iload hx hb dL_law_1543 (lv_at hl 4 rfl) ?_
  refine lv_iconst (v := 4) hx hb dL_law_1545 (by decide) ?_
  refine lv_iadd hx hb dL_law_1546 ?_
  refine va_sld hx hb hXs hbl hbA I.2.2.2.2.2.2.2.2.1 hn4 dL_law_1547 ?_
  refine lv_i2l (v := ((xs (x4 + 4).toNatClampNeg)).toInt64) hx hb dL_law_1548 rfl ?_
  refine lv_ldc2 hx hb hown (hts (.constantLong RL 45 (4294967295)) (by decide +kernel)) dL_law_1549 ?_
  refine lv_land hx hb dL_law_1552 ?_
  refine lv_topl (fun v1552 e1552 => ?_)
  refine lv_lor hx hb dL_law_1553 ?_
  refine lv_topl (fun v1553 e1553 => ?_)
  refine lv_aload_n hx hb dL_law_1554 rfl (lv_at hl 0 rfl) ?_
  refine lv_iload hx hb dL_law_1555 (lv_at hl 4 rfl) ?_
  refine lv_iconst (v := 5) hx hb dL_law_1557 (by decide) ?_
  refine lv_iadd hx hb dL_law_1558 ?_
  refine va_sld hx hb hXs hbl hbA I.2.2.2.2.2.2.2.2.1 hn5 dL_law_1559 ?_
  refine lk3_l I (va_runV (g := F0 m 1560 ls ([.int (xs (x4 + 5).toNatClampNeg), .long v1553, .int (xs (x4 + 2).toNatClampNeg), .int (xs (x4 + 1).toNatClampNeg), .ref xo])) (As := [.int (xs (x4 + 1).toNatClampNeg), .int (xs (x4 + 2).toNatClampNeg), .long v1553, .int (xs (x4 + 5).toNatClampNeg)]) (rest := []) ⟨hx, hb, hml, hown, hts⟩ (c_X9_turned l D cy (AC s mo a) G W' xo ((xs (x4 + 1).toNatClampNeg)) ((xs (x4 + 2).toNatClampNeg)) v1553 ((xs (x4 + 5).toNatClampNeg)) I.2.2.1 I.2.2.2.1 I.2.2.2.2.1) (cwV 4 hts gL_law_X9_turned rfl rfl rfl (by decide +kernel) ⟨Nat.le_of_ble_eq_true rfl, Nat.le_of_ble_eq_true rfl⟩) (l_preV I hK hV) rfl rfl hl.1 rfl (lv_room (Nat.le_of_ble_eq_true rfl)) dL_law_1560 ⟨by omega, by omega⟩) rfl (fun r1560 u H locs q1560 hX I => ?_)
  obtain ⟨G1, W1⟩ := u
  have I : LI D cy s xo mo ou a M G1 W1 f g r q H locs := I
  have hX : cX none (chs [1, 8]) G W' G1 W1 := hX
  refine lv_pop2_2 hx hb dL_law_1563 rfl ?_
  refine lv_aload_n hx hb dL_law_1564 rfl (lv_at hl 2 rfl) ?_
  refine lv_aload_n hx hb dL_law_1565 rfl (lv_at hl 0 rfl) ?_
  refine lv_iload hx hb dL_law_1566 (lv_at hl 4 rfl) ?_
  refine lv_iconst (v := 1) hx hb dL_law_1568 (by decide) ?_
  refine lv_iadd hx hb dL_law_1569 ?_
  refine va_sld hx hb hXs hbl hbA I.2.2.2.2.2.2.2.2.1 hn1 dL_law_1570 ?_
  refine lv_aload_n hx hb dL_law_1571 rfl (lv_at hl 0 rfl) ?_
  refine lv_iload hx hb dL_law_1572 (lv_at hl 4 rfl) ?_
  refine lv_iconst (v := 2) hx hb dL_law_1574 (by decide) ?_
  refine lv_iadd hx hb dL_law_1575 ?_
  refine va_sld hx hb hXs hbl hbA I.2.2.2.2.2.2.2.2.1 hn2 dL_law_1576 ?_
  refine lv_aload_n hx hb dL_law_1577 rfl (lv_at hl 0 rfl) ?_
  refine lv_iload hx hb dL_law_1578 (lv_at hl 4 rfl) ?_
  refine lv_iconst (v := 3) hx hb dL_law_1580 (by decide) ?_
  refine lv_iadd hx hb dL_law_1581 ?_
  refine va_sld hx hb hXs hbl hbA I.2.2.2.2.2.2.2.2.1 hn3 dL_law_1582 ?_
  refine lv_i2l (v := ((xs (x4 + 3).toNatClampNeg)).toInt64) hx hb dL_law_1583 rfl ?_
  refine lv_bipush (v := 32) hx hb dL_law_1584 (by decide) ?_
  refine lv_lshl (v := (((xs (x4 + 3).toNatClampNeg)).toInt64) <<< ((32 : Int32).toInt64 &&& 63)) hx hb dL_law_1586 rfl ?_
  refine lv_aload_n hx hb dL_law_1587 rfl (lv_at hl 0 rfl) ?_
  refine lv_iload hx hb dL_law_1588 (lv_at hl 4 rfl) ?_
  refine lv_iconst (v := 4) hx hb dL_law_1590 (by decide) ?_
  refine lv_iadd hx hb dL_law_1591 ?_
  refine va_sld hx hb hXs hbl hbA I.2.2.2.2.2.2.2.2.1 hn4 dL_law_1592 ?_
  refine lv_i2l (v := ((xs (x4 + 4).toNatClampNeg)).toInt64) hx hb dL_law_1593 rfl ?_
  refine lv_ldc2 hx hb hown (hts (.constantLong RL 45 (4294967295)) (by decide +kernel)) dL_law_1594 ?_
  refine lv_land hx hb dL_law_1597 ?_
  refine lv_topl (fun v1597 e1597 => ?_)
  refine lv_lor hx hb dL_law_1598 ?_
  refine lv_topl (fun v1598 e1598 => ?_)
  refine lv_aload_n hx hb dL_law_1599 rfl (lv_at hl 0 rfl) ?_
  refine lv_iload hx hb dL_law_1600 (lv_at hl 4 rfl) ?_
  refine lv_iconst (v := 5) hx hb dL_law_1602 (by decide) ?_
  refine lv_iadd hx hb dL_law_1603 ?_
  refine va_sld hx hb hXs hbl hbA I.2.2.2.2.2.2.2.2.1 hn5 dL_law_1604 ?_
  have hI := I.2.2.2.2.2.2.1
  refine lm_l (As := [.int (xs (x4 + 1).toNatClampNeg), .int (xs (x4 + 2).toNatClampNeg), .long v1598, .int (xs (x4 + 5).toNatClampNeg)]) (rest := []) I ⟨hx, hb, hml, hown, hts⟩ (c_X10_turned l D cy mo a f g r q ((xs (x4 + 1).toNatClampNeg)) ((xs (x4 + 2).toNatClampNeg)) v1598 ((xs (x4 + 5).toNatClampNeg)) hDM) (cwV 4 hts gL_law_X10_turned rfl rfl rfl (by decide +kernel) ⟨Nat.le_of_ble_eq_true rfl, Nat.le_of_ble_eq_true rfl⟩) hK hAM rfl hl.1 rfl (Nat.le_of_ble_eq_true rfl) dL_law_1605 ⟨by omega, by omega⟩ (fun _ _ h9 => by obtain ⟨rfl, h9⟩ := h9; exact hI) (fun r1605 u H locs q1605 I => ?_)
  have ef : u.1 1 = f 1 := by obtain ⟨rfl, -⟩ := q1605; rfl
  have e2_ : u.2.2.1 2 = r 2 := by obtain ⟨rfl, -⟩ := q1605; rfl
  have e3_ : u.2.2.1 3 = r 3 := by obtain ⟨rfl, -⟩ := q1605; rfl
  have e4_ : u.2.2.1 4 = r 4 := by obtain ⟨rfl, -⟩ := q1605; rfl
  have e5_ : u.2.2.1 5 = r 5 := by obtain ⟨rfl, -⟩ := q1605; rfl
  have e6_ : u.2.2.1 6 = r 6 := by obtain ⟨rfl, -⟩ := q1605; rfl
  have e7_ : u.2.2.1 7 = r 7 := by obtain ⟨rfl, -⟩ := q1605; rfl
  have e8_ : u.2.2.1 8 = r 8 := by obtain ⟨rfl, -⟩ := q1605; rfl
  obtain ⟨f1, g1, r1, q1⟩ := u
  have ef : f1 1 = f 1 := ef
  have e2_ : r1 2 = r 2 := e2_
  have e3_ : r1 3 = r 3 := e3_
  have e4_ : r1 4 = r 4 := e4_
  have e5_ : r1 5 = r 5 := e5_
  have e6_ : r1 6 = r 6 := e6_
  have e7_ : r1 7 = r 7 := e7_
  have e8_ : r1 8 = r 8 := e8_
  have I : LI D cy s xo mo ou a M G1 W1 f1 g1 r1 q1 H locs := I
  refine lv_pop2_2 hx hb dL_law_1608 rfl ?_
  refine lv_goto (tgt := 2355) hx hb dL_law_1609 (by decide) ?_
  have hR1 : RlJ cy xo G1 W1 f1 r1 := hR.keep I0.2.2.1 I0.2.2.2.1 I0.2.2.2.2.1 hX rfl rfl rfl rfl ef e2_ e3_ e4_ e5_ e6_ e7_ e8_
  refine W.widen (k := C + 7) (n := S + 588) (by omega) (by omega) ?_
  exact kk _ _ _ _ _ _ _ _ _ I hR1 (lv_sub hl [0, 1, 2, 3, 4] rfl)
set_option maxHeartbeats 4000000 in
set_option maxRecDepth 100000 in
theorem lcase_22 {p : Program} {l : Launch} {e : Env} {s : State} {m : MethodId} {below : List Frame} {meth : Method} {c : Code} {b L : Nat} {xs : Nat → Int32} {D : va_G} {cy : Nat → ClassId} {xo mo ou : Nat} {a : Nat → Nat} {M : Option Nat} {G : cG} {W' : va_W} {f : Nat → Int32} {g : Nat → Int64} {r : Nat → Nat → Int32} {q : Nat → Nat → Int64} {H : Heap} {locs : List Loc} {ls : Array Slot} {Q : State → Prop} {C S : Nat} (X : LX p l s m c b L xs D cy mo a) (I : LI D cy s xo mo ou a M G W' f g r q H locs) (hR : RlJ cy xo G W' f r) {x4 : Int32} (h4 : 0 ≤ x4.toInt ∧ x4.toInt + 8 ≤ (L : Int) ∧ L ≤ 4096) (hC : C + 7 ≤ 601024) (hSl : S + 53273 ≤ 7293034) (hl : lv_has ls 8 [(0, .ref b), (1, .ref xo), (2, .ref mo), (3, .ref ou), (4, .int x4)]) (kk : ∀ (G : cG) (W' : va_W) (f : Nat → Int32) (g : Nat → Int64) (r : Nat → Nat → Int32) (q : Nat → Nat → Int64) (H : Heap) (locs : List Loc) (ls : Array Slot), LI D cy s xo mo ou a M G W' f g r q H locs → RlJ cy xo G W' f r → lv_has ls 8 [(0, .ref b), (1, .ref xo), (2, .ref mo), (3, .ref ou), (4, .int x4)] → W p l e room_1 s m #[Value.ref b] below meth c H locs (C + 7) (S + 588) Q (F0 m 2355 ls [])) : W p l e room_1 s m #[Value.ref b] below meth c H locs C S Q (F0 m 1612 ls []) := by
  obtain ⟨⟨hx, hb, hml, hown, hts⟩, ⟨hXs, hbl⟩, ⟨hK, hV, hZ, hXT⟩, hst, hDM, hAM⟩ := id X
  have I0 := I
  have hbA : ¬ AL s b := Nat.not_le.mpr hbl
  have hRc : room_1.cells = 601024 := rfl
  have hRs : room_1.slots = 7293034 := rfl
  have hn1 : vp_in (x4 + 1) L := l_in (c := 1) h4 rfl (by decide)
  have hn2 : vp_in (x4 + 2) L := l_in (c := 2) h4 rfl (by decide)
  have hn3 : vp_in (x4 + 3) L := l_in (c := 3) h4 rfl (by decide)
  have hn4 : vp_in (x4 + 4) L := l_in (c := 4) h4 rfl (by decide)
  have hn5 : vp_in (x4 + 5) L := l_in (c := 5) h4 rfl (by decide)
  have hn6 : vp_in (x4 + 6) L := l_in (c := 6) h4 rfl (by decide)
  have hn7 : vp_in (x4 + 7) L := l_in (c := 7) h4 rfl (by decide)
  refine lv_aload_n hx hb dL_law_1612 rfl (lv_at hl 1 rfl) ?_
  refine lv_aload_n hx hb dL_law_1613 rfl (lv_at hl 0 rfl) ?_
  refine lv_iload hx hb dL_law_1614 (lv_at hl 4 rfl) ?_
  refine lv_iconst (v := 1) hx hb dL_law_1616 (by decide) ?_
  refine lv_iadd hx hb dL_law_1617 ?_
  refine va_sld hx hb hXs hbl hbA I.2.2.2.2.2.2.2.2.1 hn1 dL_law_1618 ?_
  refine lv_aload_n hx hb dL_law_1619 rfl (lv_at hl 0 rfl) ?_
  refine lv_iload hx hb dL_law_1620 (lv_at hl 4 rfl) ?_
  refine lv_iconst (v := 2) hx hb dL_law_1622 (by decide) ?_
  refine lv_iadd hx hb dL_law_1623 ?_
  refine va_sld hx hb hXs hbl hbA I.2.2.2.2.2.2.2.2.1 hn2 dL_law_1624 ?_
  refine lv_aload_n hx hb dL_law_1625 rfl (lv_at hl 0 rfl) ?_
  refine lv_iload hx hb dL_law_1626 (lv_at hl 4 rfl) ?_
  refine lv_iconst (v := 3) hx hb dL_law_1628 (by decide) ?_
  refine lv_iadd hx hb dL_law_1629 ?_
  refine va_sld hx hb hXs hbl hbA I.2.2.2.2.2.2.2.2.1 hn3 dL_law_1630 ?_
  refine lv_i2l (v := ((xs (x4 + 3).toNatClampNeg)).toInt64) hx hb dL_law_1631 rfl ?_
  refine lv_bipush (v := 32) hx hb dL_law_1632 (by decide) ?_
  refine lv_lshl (v := (((xs (x4 + 3).toNatClampNeg)).toInt64) <<< ((32 : Int32).toInt64 &&& 63)) hx hb dL_law_1634 rfl ?_
  refine lv_aload_n hx hb dL_law_1635 rfl (lv_at hl 0 rfl) ?_
  refine lv_iload hx hb dL_law_1636 (lv_at hl 4 rfl) ?_
  refine lv_iconst (v := 4) hx hb dL_law_1638 (by decide) ?_
  refine lv_iadd hx hb dL_law_1639 ?_
  refine va_sld hx hb hXs hbl hbA I.2.2.2.2.2.2.2.2.1 hn4 dL_law_1640 ?_
  refine lv_i2l (v := ((xs (x4 + 4).toNatClampNeg)).toInt64) hx hb dL_law_1641 rfl ?_
  refine lv_ldc2 hx hb hown (hts (.constantLong RL 45 (4294967295)) (by decide +kernel)) dL_law_1642 ?_
  refine lv_land hx hb dL_law_1645 ?_
  refine lv_topl (fun v1645 e1645 => ?_)
  refine lv_lor hx hb dL_law_1646 ?_
  refine lv_topl (fun v1646 e1646 => ?_)
  refine lv_aload_n hx hb dL_law_1647 rfl (lv_at hl 0 rfl) ?_
  refine lv_iload hx hb dL_law_1648 (lv_at hl 4 rfl) ?_
  refine lv_iconst (v := 5) hx hb dL_law_1650 (by decide) ?_
  refine lv_iadd hx hb dL_law_1651 ?_
  refine va_sld hx hb hXs hbl hbA I.2.2.2.2.2.2.2.2.1 hn5 dL_law_1652 ?_
  refine lv_i2l (v := ((xs (x4 + 5).toNatClampNeg)).toInt64) hx hb dL_law_1653 rfl ?_
  refine lv_bipush (v := 32) hx hb dL_law_1654 (by decide) ?_
  refine lv_lshl (v := (((xs (x4 + 5).toNatClampNeg)).toInt64) <<< ((32 : Int32).toInt64 &&& 63)) hx hb dL_law_1656 rfl ?_
  refine lv_aload_n hx hb dL_law_1657 rfl (lv_at hl 0 rfl) ?_
  refine lv_iload hx hb dL_law_1658 (lv_at hl 4 rfl) ?_
  refine lv_bipush (v := 6) hx hb dL_law_1660 (by decide) ?_
  refine lv_iadd hx hb dL_law_1662 ?_
  refine va_sld hx hb hXs hbl hbA I.2.2.2.2.2.2.2.2.1 hn6 dL_law_1663 ?_
  refine lv_i2l (v := ((xs (x4 + 6).toNatClampNeg)).toInt64) hx hb dL_law_1664 rfl ?_
  refine lv_ldc2 hx hb hown (hts (.constantLong RL 45 (4294967295)) (by decide +kernel)) dL_law_1665 ?_
  refine lv_land hx hb dL_law_1668 ?_
  refine lv_topl (fun v1668 e1668 => ?_)
  refine lv_lor hx hb dL_law_1669 ?_
  refine lv_topl (fun v1669 e1669 => ?_)
  refine lv_aload_n hx hb dL_law_1670 rfl (lv_at hl 0 rfl) ?_
  refine lv_iload hx hb dL_law_1671 (lv_at hl 4 rfl) ?_
  refine lv_bipush (v := 7) hx hb dL_law_1673 (by decide) ?_
  refine lv_iadd hx hb dL_law_1675 ?_
  refine va_sld hx hb hXs hbl hbA I.2.2.2.2.2.2.2.2.1 hn7 dL_law_1676 ?_
  refine lk3_i I (va_runV (g := F0 m 1677 ls ([.int (xs (x4 + 7).toNatClampNeg), .long v1669, .long v1646, .int (xs (x4 + 2).toNatClampNeg), .int (xs (x4 + 1).toNatClampNeg), .ref xo])) (As := [.int (xs (x4 + 1).toNatClampNeg), .int (xs (x4 + 2).toNatClampNeg), .long v1646, .long v1669, .int (xs (x4 + 7).toNatClampNeg)]) (rest := []) ⟨hx, hb, hml, hown, hts⟩ (c_X9_parts l D cy (AC s mo a) G W' xo ((xs (x4 + 1).toNatClampNeg)) ((xs (x4 + 2).toNatClampNeg)) v1646 v1669 ((xs (x4 + 7).toNatClampNeg)) I.2.2.1 I.2.2.2.1 I.2.2.2.2.1) (cwV 5 hts gL_law_X9_parts rfl rfl rfl (by decide +kernel) ⟨Nat.le_of_ble_eq_true rfl, Nat.le_of_ble_eq_true rfl⟩) (l_preV I hK hV) rfl rfl hl.1 rfl (lv_room (Nat.le_of_ble_eq_true rfl)) dL_law_1677 ⟨by omega, by omega⟩) rfl (fun r1677 u H locs q1677 hX I => ?_)
  obtain ⟨G1, W1⟩ := u
  have I : LI D cy s xo mo ou a M G1 W1 f g r q H locs := I
  have hX : cX none (chs [1, 8]) G W' G1 W1 := hX
  refine lv_pop hx hb dL_law_1680 rfl ?_
  refine lv_aload_n hx hb dL_law_1681 rfl (lv_at hl 2 rfl) ?_
  refine lv_aload_n hx hb dL_law_1682 rfl (lv_at hl 0 rfl) ?_
  refine lv_iload hx hb dL_law_1683 (lv_at hl 4 rfl) ?_
  refine lv_iconst (v := 1) hx hb dL_law_1685 (by decide) ?_
  refine lv_iadd hx hb dL_law_1686 ?_
  refine va_sld hx hb hXs hbl hbA I.2.2.2.2.2.2.2.2.1 hn1 dL_law_1687 ?_
  refine lv_aload_n hx hb dL_law_1688 rfl (lv_at hl 0 rfl) ?_
  refine lv_iload hx hb dL_law_1689 (lv_at hl 4 rfl) ?_
  refine lv_iconst (v := 2) hx hb dL_law_1691 (by decide) ?_
  refine lv_iadd hx hb dL_law_1692 ?_
  refine va_sld hx hb hXs hbl hbA I.2.2.2.2.2.2.2.2.1 hn2 dL_law_1693 ?_
  refine lv_aload_n hx hb dL_law_1694 rfl (lv_at hl 0 rfl) ?_
  refine lv_iload hx hb dL_law_1695 (lv_at hl 4 rfl) ?_
  refine lv_iconst (v := 3) hx hb dL_law_1697 (by decide) ?_
  refine lv_iadd hx hb dL_law_1698 ?_
  refine va_sld hx hb hXs hbl hbA I.2.2.2.2.2.2.2.2.1 hn3 dL_law_1699 ?_
  refine lv_i2l (v := ((xs (x4 + 3).toNatClampNeg)).toInt64) hx hb dL_law_1700 rfl ?_
  refine lv_bipush (v := 32) hx hb dL_law_1701 (by decide) ?_
  refine lv_lshl (v := (((xs (x4 + 3).toNatClampNeg)).toInt64) <<< ((32 : Int32).toInt64 &&& 63)) hx hb dL_law_1703 rfl ?_
  refine lv_aload_n hx hb dL_law_1704 rfl (lv_at hl 0 rfl) ?_
  refine lv_iload hx hb dL_law_1705 (lv_at hl 4 rfl) ?_
  refine lv_iconst (v := 4) hx hb dL_law_1707 (by decide) ?_
  refine lv_iadd hx hb dL_law_1708 ?_
  refine va_sld hx hb hXs hbl hbA I.2.2.2.2.2.2.2.2.1 hn4 dL_law_1709 ?_
  refine lv_i2l (v := ((xs (x4 + 4).toNatClampNeg)).toInt64) hx hb dL_law_1710 rfl ?_
  refine lv_ldc2 hx hb hown (hts (.constantLong RL 45 (4294967295)) (by decide +kernel)) dL_law_1711 ?_
  refine lv_land hx hb dL_law_1714 ?_
  refine lv_topl (fun v1714 e1714 => ?_)
  refine lv_lor hx hb dL_law_1715 ?_
  refine lv_topl (fun v1715 e1715 => ?_)
  refine lv_aload_n hx hb dL_law_1716 rfl (lv_at hl 0 rfl) ?_
  refine lv_iload hx hb dL_law_1717 (lv_at hl 4 rfl) ?_
  refine lv_iconst (v := 5) hx hb dL_law_1719 (by decide) ?_
  refine lv_iadd hx hb dL_law_1720 ?_
  refine va_sld hx hb hXs hbl hbA I.2.2.2.2.2.2.2.2.1 hn5 dL_law_1721 ?_
  refine lv_i2l (v := ((xs (x4 + 5).toNatClampNeg)).toInt64) hx hb dL_law_1722 rfl ?_
  refine lv_bipush (v := 32) hx hb dL_law_1723 (by decide) ?_
  refine lv_lshl (v := (((xs (x4 + 5).toNatClampNeg)).toInt64) <<< ((32 : Int32).toInt64 &&& 63)) hx hb dL_law_1725 rfl ?_
  refine lv_aload_n hx hb dL_law_1726 rfl (lv_at hl 0 rfl) ?_
  refine lv_iload hx hb dL_law_1727 (lv_at hl 4 rfl) ?_
  refine lv_bipush (v := 6) hx hb dL_law_1729 (by decide) ?_
  refine lv_iadd hx hb dL_law_1731 ?_
  refine va_sld hx hb hXs hbl hbA I.2.2.2.2.2.2.2.2.1 hn6 dL_law_1732 ?_
  refine lv_i2l (v := ((xs (x4 + 6).toNatClampNeg)).toInt64) hx hb dL_law_1733 rfl ?_
  refine lv_ldc2 hx hb hown (hts (.constantLong RL 45 (4294967295)) (by decide +kernel)) dL_law_1734 ?_
  refine lv_land hx hb dL_law_1737 ?_
  refine lv_topl (fun v1737 e1737 => ?_)
  refine lv_lor hx hb dL_law_1738 ?_
  refine lv_topl (fun v1738 e1738 => ?_)
  refine lv_aload_n hx hb dL_law_1739 rfl (lv_at hl 0 rfl) ?_
  refine lv_iload hx hb dL_law_1740 (lv_at hl 4 rfl) ?_
  refine lv_bipush (v := 7) hx hb dL_law_1742 (by decide) ?_
  refine lv_iadd hx hb dL_law_1744 ?_
  refine va_sld hx hb hXs hbl hbA I.2.2.2.2.2.2.2.2.1 hn7 dL_law_1745 ?_
  have hI := I.2.2.2.2.2.2.1
  refine lm_i (As := [.int (xs (x4 + 1).toNatClampNeg), .int (xs (x4 + 2).toNatClampNeg), .long v1715, .long v1738, .int (xs (x4 + 7).toNatClampNeg)]) (rest := []) I ⟨hx, hb, hml, hown, hts⟩ (c_X10_parts l D cy mo a f g r q ((xs (x4 + 1).toNatClampNeg)) ((xs (x4 + 2).toNatClampNeg)) v1715 v1738 ((xs (x4 + 7).toNatClampNeg)) hDM) (cwV 5 hts gL_law_X10_parts rfl rfl rfl (by decide +kernel) ⟨Nat.le_of_ble_eq_true rfl, Nat.le_of_ble_eq_true rfl⟩) hK hAM rfl hl.1 rfl (Nat.le_of_ble_eq_true rfl) dL_law_1746 ⟨by omega, by omega⟩ (fun _ _ h9 => by obtain ⟨rfl, h9⟩ := h9; exact hI) (fun r1746 u H locs q1746 I => ?_)
  have ef : u.1 1 = f 1 := by obtain ⟨rfl, -⟩ := q1746; rfl
  have e2_ : u.2.2.1 2 = r 2 := by obtain ⟨rfl, -⟩ := q1746; rfl
  have e3_ : u.2.2.1 3 = r 3 := by obtain ⟨rfl, -⟩ := q1746; rfl
  have e4_ : u.2.2.1 4 = r 4 := by obtain ⟨rfl, -⟩ := q1746; rfl
  have e5_ : u.2.2.1 5 = r 5 := by obtain ⟨rfl, -⟩ := q1746; rfl
  have e6_ : u.2.2.1 6 = r 6 := by obtain ⟨rfl, -⟩ := q1746; rfl
  have e7_ : u.2.2.1 7 = r 7 := by obtain ⟨rfl, -⟩ := q1746; rfl
  have e8_ : u.2.2.1 8 = r 8 := by obtain ⟨rfl, -⟩ := q1746; rfl
  obtain ⟨f1, g1, r1, q1⟩ := u
  have ef : f1 1 = f 1 := ef
  have e2_ : r1 2 = r 2 := e2_
  have e3_ : r1 3 = r 3 := e3_
  have e4_ : r1 4 = r 4 := e4_
  have e5_ : r1 5 = r 5 := e5_
  have e6_ : r1 6 = r 6 := e6_
  have e7_ : r1 7 = r 7 := e7_
  have e8_ : r1 8 = r 8 := e8_
  have I : LI D cy s xo mo ou a M G1 W1 f1 g1 r1 q1 H locs := I
  refine lv_pop hx hb dL_law_1749 rfl ?_
  refine lv_goto (tgt := 2355) hx hb dL_law_1750 (by decide) ?_
  have hR1 : RlJ cy xo G1 W1 f1 r1 := hR.keep I0.2.2.1 I0.2.2.2.1 I0.2.2.2.2.1 hX rfl rfl rfl rfl ef e2_ e3_ e4_ e5_ e6_ e7_ e8_
  refine W.widen (k := C + 7) (n := S + 588) (by omega) (by omega) ?_
  exact kk _ _ _ _ _ _ _ _ _ I hR1 (lv_sub hl [0, 1, 2, 3, 4] rfl)
set_option maxHeartbeats 4000000 in
set_option maxRecDepth 100000 in
theorem lcase_23 {p : Program} {l : Launch} {e : Env} {s : State} {m : MethodId} {below : List Frame} {meth : Method} {c : Code} {b L : Nat} {xs : Nat → Int32} {D : va_G} {cy : Nat → ClassId} {xo mo ou : Nat} {a : Nat → Nat} {M : Option Nat} {G : cG} {W' : va_W} {f : Nat → Int32} {g : Nat → Int64} {r : Nat → Nat → Int32} {q : Nat → Nat → Int64} {H : Heap} {locs : List Loc} {ls : Array Slot} {Q : State → Prop} {C S : Nat} (X : LX p l s m c b L xs D cy mo a) (I : LI D cy s xo mo ou a M G W' f g r q H locs) (hR : RlJ cy xo G W' f r) {x4 : Int32} (h4 : 0 ≤ x4.toInt ∧ x4.toInt + 8 ≤ (L : Int) ∧ L ≤ 4096) (hC : C + 7 ≤ 601024) (hSl : S + 53273 ≤ 7293034) (hl : lv_has ls 8 [(0, .ref b), (1, .ref xo), (2, .ref mo), (3, .ref ou), (4, .int x4)]) (kk : ∀ (G : cG) (W' : va_W) (f : Nat → Int32) (g : Nat → Int64) (r : Nat → Nat → Int32) (q : Nat → Nat → Int64) (H : Heap) (locs : List Loc) (ls : Array Slot), LI D cy s xo mo ou a M G W' f g r q H locs → RlJ cy xo G W' f r → lv_has ls 8 [(0, .ref b), (1, .ref xo), (2, .ref mo), (3, .ref ou), (4, .int x4)] → W p l e room_1 s m #[Value.ref b] below meth c H locs (C + 7) (S + 588) Q (F0 m 2355 ls [])) : W p l e room_1 s m #[Value.ref b] below meth c H locs C S Q (F0 m 1753 ls []) := by
  obtain ⟨⟨hx, hb, hml, hown, hts⟩, ⟨hXs, hbl⟩, ⟨hK, hV, hZ, hXT⟩, hst, hDM, hAM⟩ := id X
  have I0 := I
  have hbA : ¬ AL s b := Nat.not_le.mpr hbl
  have hRc : room_1.cells = 601024 := rfl
  have hRs : room_1.slots = 7293034 := rfl
  have hn1 : vp_in (x4 + 1) L := l_in (c := 1) h4 rfl (by decide)
  have hn2 : vp_in (x4 + 2) L := l_in (c := 2) h4 rfl (by decide)
  have hn3 : vp_in (x4 + 3) L := l_in (c := 3) h4 rfl (by decide)
  have hn4 : vp_in (x4 + 4) L := l_in (c := 4) h4 rfl (by decide)
  have hn5 : vp_in (x4 + 5) L := l_in (c := 5) h4 rfl (by decide)
  have hn6 : vp_in (x4 + 6) L := l_in (c := 6) h4 rfl (by decide)
  have hn7 : vp_in (x4 + 7) L := l_in (c := 7) h4 rfl (by decide)
  refine lv_aload_n hx hb dL_law_1753 rfl (lv_at hl 1 rfl) ?_
  refine lv_aload_n hx hb dL_law_1754 rfl (lv_at hl 0 rfl) ?_
  refine lv_iload hx hb dL_law_1755 (lv_at hl 4 rfl) ?_
  refine lv_iconst (v := 1) hx hb dL_law_1757 (by decide) ?_
  refine lv_iadd hx hb dL_law_1758 ?_
  refine va_sld hx hb hXs hbl hbA I.2.2.2.2.2.2.2.2.1 hn1 dL_law_1759 ?_
  refine lv_aload_n hx hb dL_law_1760 rfl (lv_at hl 0 rfl) ?_
  refine lv_iload hx hb dL_law_1761 (lv_at hl 4 rfl) ?_
  refine lv_iconst (v := 2) hx hb dL_law_1763 (by decide) ?_
  refine lv_iadd hx hb dL_law_1764 ?_
  refine va_sld hx hb hXs hbl hbA I.2.2.2.2.2.2.2.2.1 hn2 dL_law_1765 ?_
  refine lv_aload_n hx hb dL_law_1766 rfl (lv_at hl 0 rfl) ?_
  refine lv_iload hx hb dL_law_1767 (lv_at hl 4 rfl) ?_
  refine lv_iconst (v := 3) hx hb dL_law_1769 (by decide) ?_
  refine lv_iadd hx hb dL_law_1770 ?_
  refine va_sld hx hb hXs hbl hbA I.2.2.2.2.2.2.2.2.1 hn3 dL_law_1771 ?_
  refine lv_i2l (v := ((xs (x4 + 3).toNatClampNeg)).toInt64) hx hb dL_law_1772 rfl ?_
  refine lv_bipush (v := 32) hx hb dL_law_1773 (by decide) ?_
  refine lv_lshl (v := (((xs (x4 + 3).toNatClampNeg)).toInt64) <<< ((32 : Int32).toInt64 &&& 63)) hx hb dL_law_1775 rfl ?_
  refine lv_aload_n hx hb dL_law_1776 rfl (lv_at hl 0 rfl) ?_
  refine lv_iload hx hb dL_law_1777 (lv_at hl 4 rfl) ?_
  refine lv_iconst (v := 4) hx hb dL_law_1779 (by decide) ?_
  refine lv_iadd hx hb dL_law_1780 ?_
  refine va_sld hx hb hXs hbl hbA I.2.2.2.2.2.2.2.2.1 hn4 dL_law_1781 ?_
  refine lv_i2l (v := ((xs (x4 + 4).toNatClampNeg)).toInt64) hx hb dL_law_1782 rfl ?_
  refine lv_ldc2 hx hb hown (hts (.constantLong RL 45 (4294967295)) (by decide +kernel)) dL_law_1783 ?_
  refine lv_land hx hb dL_law_1786 ?_
  refine lv_topl (fun v1786 e1786 => ?_)
  refine lv_lor hx hb dL_law_1787 ?_
  refine lv_topl (fun v1787 e1787 => ?_)
  obtain ⟨bs, js, sh, wk, ll, jc, lc, lb, hM⟩ := I.2.2.2.2.2.2.2.1
  obtain ⟨hjc, fa, J, hfa, hJ⟩ := hR.at I.2.2.1 hM
  subst hjc
  refine lk3_s I (va_runV (g := F0 m 1788 ls ([.long v1787, .int (xs (x4 + 2).toNatClampNeg), .int (xs (x4 + 1).toNatClampNeg), .ref xo])) (As := [.int (xs (x4 + 1).toNatClampNeg), .int (xs (x4 + 2).toNatClampNeg), .long v1787]) (rest := []) ⟨hx, hb, hml, hown, hts⟩ (c_X9_list_k l D cy (AC s mo a) G W' xo ((xs (x4 + 1).toNatClampNeg)) ((xs (x4 + 2).toNatClampNeg)) v1787 I.2.2.1 I.2.2.2.1 I.2.2.2.2.1 hM) (cwV 3 hts gL_law_X9_list rfl rfl rfl (by decide +kernel) ⟨Nat.le_of_ble_eq_true rfl, Nat.le_of_ble_eq_true rfl⟩) (l_preV I hK hV) rfl rfl hl.1 rfl (lv_room (Nat.le_of_ble_eq_true rfl)) dL_law_1788 ⟨by omega, by omega⟩) (fun _ _ h9 => by obtain ⟨lc9, lb9, hm9⟩ := h9; exact ⟨_, _, _, _, _, _, lc9, lb9, hm9⟩) (fun r1788 u H locs q1788 hX I => ?_)
  obtain ⟨G1, W1⟩ := u
  have I : LI D cy s xo mo ou a M G1 W1 f g r q H locs := I
  have hX : cX none (chs [1, 7, 8, 17]) G W' G1 W1 := hX
  have qj := q1788
  refine lv_pop hx hb dL_law_1791 rfl ?_
  refine lv_aload_n hx hb dL_law_1792 rfl (lv_at hl 2 rfl) ?_
  refine lv_aload_n hx hb dL_law_1793 rfl (lv_at hl 0 rfl) ?_
  refine lv_iload hx hb dL_law_1794 (lv_at hl 4 rfl) ?_
  refine lv_iconst (v := 1) hx hb dL_law_1796 (by decide) ?_
  refine lv_iadd hx hb dL_law_1797 ?_
  refine va_sld hx hb hXs hbl hbA I.2.2.2.2.2.2.2.2.1 hn1 dL_law_1798 ?_
  refine lv_aload_n hx hb dL_law_1799 rfl (lv_at hl 0 rfl) ?_
  refine lv_iload hx hb dL_law_1800 (lv_at hl 4 rfl) ?_
  refine lv_iconst (v := 2) hx hb dL_law_1802 (by decide) ?_
  refine lv_iadd hx hb dL_law_1803 ?_
  refine va_sld hx hb hXs hbl hbA I.2.2.2.2.2.2.2.2.1 hn2 dL_law_1804 ?_
  refine lv_aload_n hx hb dL_law_1805 rfl (lv_at hl 0 rfl) ?_
  refine lv_iload hx hb dL_law_1806 (lv_at hl 4 rfl) ?_
  refine lv_iconst (v := 3) hx hb dL_law_1808 (by decide) ?_
  refine lv_iadd hx hb dL_law_1809 ?_
  refine va_sld hx hb hXs hbl hbA I.2.2.2.2.2.2.2.2.1 hn3 dL_law_1810 ?_
  refine lv_i2l (v := ((xs (x4 + 3).toNatClampNeg)).toInt64) hx hb dL_law_1811 rfl ?_
  refine lv_bipush (v := 32) hx hb dL_law_1812 (by decide) ?_
  refine lv_lshl (v := (((xs (x4 + 3).toNatClampNeg)).toInt64) <<< ((32 : Int32).toInt64 &&& 63)) hx hb dL_law_1814 rfl ?_
  refine lv_aload_n hx hb dL_law_1815 rfl (lv_at hl 0 rfl) ?_
  refine lv_iload hx hb dL_law_1816 (lv_at hl 4 rfl) ?_
  refine lv_iconst (v := 4) hx hb dL_law_1818 (by decide) ?_
  refine lv_iadd hx hb dL_law_1819 ?_
  refine va_sld hx hb hXs hbl hbA I.2.2.2.2.2.2.2.2.1 hn4 dL_law_1820 ?_
  refine lv_i2l (v := ((xs (x4 + 4).toNatClampNeg)).toInt64) hx hb dL_law_1821 rfl ?_
  refine lv_ldc2 hx hb hown (hts (.constantLong RL 45 (4294967295)) (by decide +kernel)) dL_law_1822 ?_
  refine lv_land hx hb dL_law_1825 ?_
  refine lv_topl (fun v1825 e1825 => ?_)
  refine lv_lor hx hb dL_law_1826 ?_
  refine lv_topl (fun v1826 e1826 => ?_)
  have hI := I.2.2.2.2.2.2.1
  refine lm_i (As := [.int (xs (x4 + 1).toNatClampNeg), .int (xs (x4 + 2).toNatClampNeg), .long v1826]) (rest := []) I ⟨hx, hb, hml, hown, hts⟩ (c_X10_list l D cy mo a f g r q ((xs (x4 + 1).toNatClampNeg)) ((xs (x4 + 2).toNatClampNeg)) v1826 hDM hI) (cwV 3 hts gL_law_X10_list rfl rfl rfl (by decide +kernel) ⟨Nat.le_of_ble_eq_true rfl, Nat.le_of_ble_eq_true rfl⟩) hK hAM rfl hl.1 rfl (Nat.le_of_ble_eq_true rfl) dL_law_1827 ⟨by omega, by omega⟩ (fun _ _ h9 => by obtain ⟨_, _, _, _, rfl, h9⟩ := h9; exact h9) (fun r1827 u H locs q1827 I => ?_)
  have ef : u.1 1 = f 1 := by obtain ⟨_, _, _, _, rfl, -⟩ := q1827; rfl
  have e2_ : u.2.2.1 2 = r 2 := by obtain ⟨_, _, _, _, rfl, -⟩ := q1827; rfl
  have e3_ : u.2.2.1 3 = r 3 := by obtain ⟨_, _, _, _, rfl, -⟩ := q1827; rfl
  have e4_ : u.2.2.1 4 = r 4 := by obtain ⟨_, _, _, _, rfl, -⟩ := q1827; rfl
  have e5_ : u.2.2.1 5 = r 5 := by obtain ⟨_, _, _, _, rfl, -⟩ := q1827; rfl
  have e6_ : u.2.2.1 6 = r 6 := by obtain ⟨_, _, _, _, rfl, -⟩ := q1827; rfl
  have e7_ : u.2.2.1 7 = r 7 := by obtain ⟨_, _, _, _, rfl, -⟩ := q1827; rfl
  have e8_ : u.2.2.1 8 = r 8 := by obtain ⟨_, _, _, _, rfl, -⟩ := q1827; rfl
  obtain ⟨f1, g1, r1, q1⟩ := u
  have ef : f1 1 = f 1 := ef
  have e2_ : r1 2 = r 2 := e2_
  have e3_ : r1 3 = r 3 := e3_
  have e4_ : r1 4 = r 4 := e4_
  have e5_ : r1 5 = r 5 := e5_
  have e6_ : r1 6 = r 6 := e6_
  have e7_ : r1 7 = r 7 := e7_
  have e8_ : r1 8 = r 8 := e8_
  have I : LI D cy s xo mo ou a M G1 W1 f1 g1 r1 q1 H locs := I
  refine lv_pop hx hb dL_law_1830 rfl ?_
  refine lv_goto (tgt := 2355) hx hb dL_law_1831 (by decide) ?_
  have hR1 : RlJ cy xo G1 W1 f1 r1 := by obtain ⟨lc9, lb9, hm9⟩ := qj; exact hR.shp I0.2.2.1 I0.2.2.2.1 I0.2.2.2.2.1 hX rfl rfl rfl hM hm9 ef e2_ e3_ e4_ e5_ e6_ e7_ e8_
  refine W.widen (k := C + 7) (n := S + 588) (by omega) (by omega) ?_
  exact kk _ _ _ _ _ _ _ _ _ I hR1 (lv_sub hl [0, 1, 2, 3, 4] rfl)
set_option maxHeartbeats 4000000 in
set_option maxRecDepth 100000 in
theorem lcase_24 {p : Program} {l : Launch} {e : Env} {s : State} {m : MethodId} {below : List Frame} {meth : Method} {c : Code} {b L : Nat} {xs : Nat → Int32} {D : va_G} {cy : Nat → ClassId} {xo mo ou : Nat} {a : Nat → Nat} {M : Option Nat} {G : cG} {W' : va_W} {f : Nat → Int32} {g : Nat → Int64} {r : Nat → Nat → Int32} {q : Nat → Nat → Int64} {H : Heap} {locs : List Loc} {ls : Array Slot} {Q : State → Prop} {C S : Nat} (X : LX p l s m c b L xs D cy mo a) (I : LI D cy s xo mo ou a M G W' f g r q H locs) (hR : RlJ cy xo G W' f r) {x4 : Int32} (h4 : 0 ≤ x4.toInt ∧ x4.toInt + 8 ≤ (L : Int) ∧ L ≤ 4096) (hC : C + 7 ≤ 601024) (hSl : S + 53273 ≤ 7293034) (hl : lv_has ls 8 [(0, .ref b), (1, .ref xo), (2, .ref mo), (3, .ref ou), (4, .int x4)]) (kk : ∀ (G : cG) (W' : va_W) (f : Nat → Int32) (g : Nat → Int64) (r : Nat → Nat → Int32) (q : Nat → Nat → Int64) (H : Heap) (locs : List Loc) (ls : Array Slot), LI D cy s xo mo ou a M G W' f g r q H locs → RlJ cy xo G W' f r → lv_has ls 8 [(0, .ref b), (1, .ref xo), (2, .ref mo), (3, .ref ou), (4, .int x4)] → W p l e room_1 s m #[Value.ref b] below meth c H locs (C + 7) (S + 588) Q (F0 m 2355 ls [])) : W p l e room_1 s m #[Value.ref b] below meth c H locs C S Q (F0 m 1834 ls []) := by
  obtain ⟨⟨hx, hb, hml, hown, hts⟩, ⟨hXs, hbl⟩, ⟨hK, hV, hZ, hXT⟩, hst, hDM, hAM⟩ := id X
  have I0 := I
  have hbA : ¬ AL s b := Nat.not_le.mpr hbl
  have hRc : room_1.cells = 601024 := rfl
  have hRs : room_1.slots = 7293034 := rfl
  have hn1 : vp_in (x4 + 1) L := l_in (c := 1) h4 rfl (by decide)
  have hn2 : vp_in (x4 + 2) L := l_in (c := 2) h4 rfl (by decide)
  have hn3 : vp_in (x4 + 3) L := l_in (c := 3) h4 rfl (by decide)
  have hn4 : vp_in (x4 + 4) L := l_in (c := 4) h4 rfl (by decide)
  have hn5 : vp_in (x4 + 5) L := l_in (c := 5) h4 rfl (by decide)
  have hn6 : vp_in (x4 + 6) L := l_in (c := 6) h4 rfl (by decide)
  have hn7 : vp_in (x4 + 7) L := l_in (c := 7) h4 rfl (by decide)
  refine lv_aload_n hx hb dL_law_1834 rfl (lv_at hl 1 rfl) ?_
  obtain ⟨bs, js, sh, wk, ll, jc, lc, lb, hM⟩ := I.2.2.2.2.2.2.2.1
  obtain ⟨hjc, fa, J, hfa, hJ⟩ := hR.at I.2.2.1 hM
  subst hjc
  refine lk3_s I (va_runV (g := F0 m 1835 ls ([.ref xo])) (As := []) (rest := []) ⟨hx, hb, hml, hown, hts⟩ (c_X9_clear_k l D cy (AC s mo a) G W' xo  I.2.2.1 I.2.2.2.1 I.2.2.2.2.1 hM) (cwV 0 hts gL_law_X9_clear rfl rfl rfl (by decide +kernel) ⟨Nat.le_of_ble_eq_true rfl, Nat.le_of_ble_eq_true rfl⟩) (l_preV I hK hV) rfl rfl hl.1 rfl (lv_room (Nat.le_of_ble_eq_true rfl)) dL_law_1835 ⟨by omega, by omega⟩) (fun _ _ h9 => by obtain ⟨lc9, lb9, hm9⟩ := h9; exact ⟨_, _, _, _, _, _, lc9, lb9, hm9⟩) (fun r1835 u H locs q1835 hX I => ?_)
  obtain ⟨G1, W1⟩ := u
  have I : LI D cy s xo mo ou a M G1 W1 f g r q H locs := I
  have hX : cX none (chs [7]) G W' G1 W1 := hX
  have qj := q1835
  refine lv_pop hx hb dL_law_1838 rfl ?_
  refine lv_aload_n hx hb dL_law_1839 rfl (lv_at hl 2 rfl) ?_
  have hI := I.2.2.2.2.2.2.1
  refine lm_i (As := []) (rest := []) I ⟨hx, hb, hml, hown, hts⟩ (c_X10_clear l D cy mo a f g r q  hDM hI) (cwV 0 hts gL_law_X10_clear rfl rfl rfl (by decide +kernel) ⟨Nat.le_of_ble_eq_true rfl, Nat.le_of_ble_eq_true rfl⟩) hK hAM rfl hl.1 rfl (Nat.le_of_ble_eq_true rfl) dL_law_1840 ⟨by omega, by omega⟩ (fun _ _ h9 => by obtain ⟨rfl, h9⟩ := h9; exact h9.2) (fun r1840 u H locs q1840 I => ?_)
  have ef : u.1 1 = f 1 := by obtain ⟨rfl, -⟩ := q1840; rfl
  have e2_ : u.2.2.1 2 = r 2 := by obtain ⟨rfl, -⟩ := q1840; rfl
  have e3_ : u.2.2.1 3 = r 3 := by obtain ⟨rfl, -⟩ := q1840; rfl
  have e4_ : u.2.2.1 4 = r 4 := by obtain ⟨rfl, -⟩ := q1840; rfl
  have e5_ : u.2.2.1 5 = r 5 := by obtain ⟨rfl, -⟩ := q1840; rfl
  have e6_ : u.2.2.1 6 = r 6 := by obtain ⟨rfl, -⟩ := q1840; rfl
  have e7_ : u.2.2.1 7 = r 7 := by obtain ⟨rfl, -⟩ := q1840; rfl
  have e8_ : u.2.2.1 8 = r 8 := by obtain ⟨rfl, -⟩ := q1840; rfl
  obtain ⟨f1, g1, r1, q1⟩ := u
  have ef : f1 1 = f 1 := ef
  have e2_ : r1 2 = r 2 := e2_
  have e3_ : r1 3 = r 3 := e3_
  have e4_ : r1 4 = r 4 := e4_
  have e5_ : r1 5 = r 5 := e5_
  have e6_ : r1 6 = r 6 := e6_
  have e7_ : r1 7 = r 7 := e7_
  have e8_ : r1 8 = r 8 := e8_
  have I : LI D cy s xo mo ou a M G1 W1 f1 g1 r1 q1 H locs := I
  refine lv_pop hx hb dL_law_1843 rfl ?_
  refine lv_goto (tgt := 2355) hx hb dL_law_1844 (by decide) ?_
  have hR1 : RlJ cy xo G1 W1 f1 r1 := by obtain ⟨lc9, lb9, hm9⟩ := qj; exact hR.shp I0.2.2.1 I0.2.2.2.1 I0.2.2.2.2.1 hX rfl rfl rfl hM hm9 ef e2_ e3_ e4_ e5_ e6_ e7_ e8_
  refine W.widen (k := C + 7) (n := S + 588) (by omega) (by omega) ?_
  exact kk _ _ _ _ _ _ _ _ _ I hR1 (lv_sub hl [0, 1, 2, 3, 4] rfl)
set_option maxHeartbeats 4000000 in
set_option maxRecDepth 100000 in
theorem lcase_25 {p : Program} {l : Launch} {e : Env} {s : State} {m : MethodId} {below : List Frame} {meth : Method} {c : Code} {b L : Nat} {xs : Nat → Int32} {D : va_G} {cy : Nat → ClassId} {xo mo ou : Nat} {a : Nat → Nat} {M : Option Nat} {G : cG} {W' : va_W} {f : Nat → Int32} {g : Nat → Int64} {r : Nat → Nat → Int32} {q : Nat → Nat → Int64} {H : Heap} {locs : List Loc} {ls : Array Slot} {Q : State → Prop} {C S : Nat} (X : LX p l s m c b L xs D cy mo a) (I : LI D cy s xo mo ou a M G W' f g r q H locs) (hR : RlJ cy xo G W' f r) {x4 : Int32} (h4 : 0 ≤ x4.toInt ∧ x4.toInt + 8 ≤ (L : Int) ∧ L ≤ 4096) (hC : C + 7 ≤ 601024) (hSl : S + 53273 ≤ 7293034) (hl : lv_has ls 8 [(0, .ref b), (1, .ref xo), (2, .ref mo), (3, .ref ou), (4, .int x4)]) (kk : ∀ (G : cG) (W' : va_W) (f : Nat → Int32) (g : Nat → Int64) (r : Nat → Nat → Int32) (q : Nat → Nat → Int64) (H : Heap) (locs : List Loc) (ls : Array Slot), LI D cy s xo mo ou a M G W' f g r q H locs → RlJ cy xo G W' f r → lv_has ls 8 [(0, .ref b), (1, .ref xo), (2, .ref mo), (3, .ref ou), (4, .int x4)] → W p l e room_1 s m #[Value.ref b] below meth c H locs (C + 7) (S + 588) Q (F0 m 2355 ls [])) : W p l e room_1 s m #[Value.ref b] below meth c H locs C S Q (F0 m 1847 ls []) := by
  obtain ⟨⟨hx, hb, hml, hown, hts⟩, ⟨hXs, hbl⟩, ⟨hK, hV, hZ, hXT⟩, hst, hDM, hAM⟩ := id X
  have I0 := I
  have hbA : ¬ AL s b := Nat.not_le.mpr hbl
  have hRc : room_1.cells = 601024 := rfl
  have hRs : room_1.slots = 7293034 := rfl
  have hn1 : vp_in (x4 + 1) L := l_in (c := 1) h4 rfl (by decide)
  have hn2 : vp_in (x4 + 2) L := l_in (c := 2) h4 rfl (by decide)
  have hn3 : vp_in (x4 + 3) L := l_in (c := 3) h4 rfl (by decide)
  have hn4 : vp_in (x4 + 4) L := l_in (c := 4) h4 rfl (by decide)
  have hn5 : vp_in (x4 + 5) L := l_in (c := 5) h4 rfl (by decide)
  have hn6 : vp_in (x4 + 6) L := l_in (c := 6) h4 rfl (by decide)
  have hn7 : vp_in (x4 + 7) L := l_in (c := 7) h4 rfl (by decide)
  refine lv_aload_n hx hb dL_law_1847 rfl (lv_at hl 1 rfl) ?_
  refine lk3_ri I (va_runV (g := F0 m 1848 ls ([.ref xo])) (As := []) (rest := []) ⟨hx, hb, hml, hown, hts⟩ (c_X9_ways l D cy (AC s mo a) G W' xo  I.2.2.1 I.2.2.2.1 I.2.2.2.2.1) (cwV 0 hts gL_law_X9_ways rfl rfl rfl (by decide +kernel) ⟨Nat.le_of_ble_eq_true rfl, Nat.le_of_ble_eq_true rfl⟩) (l_preV I hK hV) rfl rfl hl.1 rfl (lv_room (Nat.le_of_ble_eq_true rfl)) dL_law_1848 ⟨by omega, by omega⟩) (fun r1848 u H locs q1848 hX I => ?_)
  obtain ⟨G1, W1⟩ := u
  have I : LI D cy s xo mo ou a M G1 W1 f g r q H locs := I
  have hX : cX none (chs []) G W' G1 W1 := hX
  refine lv_pop hx hb dL_law_1851 rfl ?_
  refine lv_aload_n hx hb dL_law_1852 rfl (lv_at hl 2 rfl) ?_
  have hI := I.2.2.2.2.2.2.1
  refine lm_i (As := []) (rest := []) I ⟨hx, hb, hml, hown, hts⟩ (c_X10_ways l D cy mo a f g r q  hDM hI) (cwV 0 hts gL_law_X10_ways rfl rfl rfl (by decide +kernel) ⟨Nat.le_of_ble_eq_true rfl, Nat.le_of_ble_eq_true rfl⟩) hK hAM rfl hl.1 rfl (Nat.le_of_ble_eq_true rfl) dL_law_1853 ⟨by omega, by omega⟩ (fun _ _ h9 => by obtain ⟨rfl, h9⟩ := h9; exact hI) (fun r1853 u H locs q1853 I => ?_)
  have ef : u.1 1 = f 1 := by obtain ⟨rfl, -⟩ := q1853; rfl
  have e2_ : u.2.2.1 2 = r 2 := by obtain ⟨rfl, -⟩ := q1853; rfl
  have e3_ : u.2.2.1 3 = r 3 := by obtain ⟨rfl, -⟩ := q1853; rfl
  have e4_ : u.2.2.1 4 = r 4 := by obtain ⟨rfl, -⟩ := q1853; rfl
  have e5_ : u.2.2.1 5 = r 5 := by obtain ⟨rfl, -⟩ := q1853; rfl
  have e6_ : u.2.2.1 6 = r 6 := by obtain ⟨rfl, -⟩ := q1853; rfl
  have e7_ : u.2.2.1 7 = r 7 := by obtain ⟨rfl, -⟩ := q1853; rfl
  have e8_ : u.2.2.1 8 = r 8 := by obtain ⟨rfl, -⟩ := q1853; rfl
  obtain ⟨f1, g1, r1, q1⟩ := u
  have ef : f1 1 = f 1 := ef
  have e2_ : r1 2 = r 2 := e2_
  have e3_ : r1 3 = r 3 := e3_
  have e4_ : r1 4 = r 4 := e4_
  have e5_ : r1 5 = r 5 := e5_
  have e6_ : r1 6 = r 6 := e6_
  have e7_ : r1 7 = r 7 := e7_
  have e8_ : r1 8 = r 8 := e8_
  have I : LI D cy s xo mo ou a M G1 W1 f1 g1 r1 q1 H locs := I
  refine lv_pop hx hb dL_law_1856 rfl ?_
  refine lv_goto (tgt := 2355) hx hb dL_law_1857 (by decide) ?_
  have hR1 : RlJ cy xo G1 W1 f1 r1 := hR.keep I0.2.2.1 I0.2.2.2.1 I0.2.2.2.2.1 hX rfl rfl rfl rfl ef e2_ e3_ e4_ e5_ e6_ e7_ e8_
  refine W.widen (k := C + 7) (n := S + 588) (by omega) (by omega) ?_
  exact kk _ _ _ _ _ _ _ _ _ I hR1 (lv_sub hl [0, 1, 2, 3, 4] rfl)
set_option maxHeartbeats 4000000 in
set_option maxRecDepth 100000 in
theorem lcase_26 {p : Program} {l : Launch} {e : Env} {s : State} {m : MethodId} {below : List Frame} {meth : Method} {c : Code} {b L : Nat} {xs : Nat → Int32} {D : va_G} {cy : Nat → ClassId} {xo mo ou : Nat} {a : Nat → Nat} {M : Option Nat} {G : cG} {W' : va_W} {f : Nat → Int32} {g : Nat → Int64} {r : Nat → Nat → Int32} {q : Nat → Nat → Int64} {H : Heap} {locs : List Loc} {ls : Array Slot} {Q : State → Prop} {C S : Nat} (X : LX p l s m c b L xs D cy mo a) (I : LI D cy s xo mo ou a M G W' f g r q H locs) (hR : RlJ cy xo G W' f r) {x4 : Int32} (h4 : 0 ≤ x4.toInt ∧ x4.toInt + 8 ≤ (L : Int) ∧ L ≤ 4096) (hC : C + 7 ≤ 601024) (hSl : S + 53273 ≤ 7293034) (hl : lv_has ls 8 [(0, .ref b), (1, .ref xo), (2, .ref mo), (3, .ref ou), (4, .int x4)]) (kk : ∀ (G : cG) (W' : va_W) (f : Nat → Int32) (g : Nat → Int64) (r : Nat → Nat → Int32) (q : Nat → Nat → Int64) (H : Heap) (locs : List Loc) (ls : Array Slot), LI D cy s xo mo ou a M G W' f g r q H locs → RlJ cy xo G W' f r → lv_has ls 8 [(0, .ref b), (1, .ref xo), (2, .ref mo), (3, .ref ou), (4, .int x4)] → W p l e room_1 s m #[Value.ref b] below meth c H locs (C + 7) (S + 588) Q (F0 m 2355 ls [])) : W p l e room_1 s m #[Value.ref b] below meth c H locs C S Q (F0 m 1860 ls []) := by
  obtain ⟨⟨hx, hb, hml, hown, hts⟩, ⟨hXs, hbl⟩, ⟨hK, hV, hZ, hXT⟩, hst, hDM, hAM⟩ := id X
  have I0 := I
  have hbA : ¬ AL s b := Nat.not_le.mpr hbl
  have hRc : room_1.cells = 601024 := rfl
  have hRs : room_1.slots = 7293034 := rfl
  have hn1 : vp_in (x4 + 1) L := l_in (c := 1) h4 rfl (by decide)
  have hn2 : vp_in (x4 + 2) L := l_in (c := 2) h4 rfl (by decide)
  have hn3 : vp_in (x4 + 3) L := l_in (c := 3) h4 rfl (by decide)
  have hn4 : vp_in (x4 + 4) L := l_in (c := 4) h4 rfl (by decide)
  have hn5 : vp_in (x4 + 5) L := l_in (c := 5) h4 rfl (by decide)
  have hn6 : vp_in (x4 + 6) L := l_in (c := 6) h4 rfl (by decide)
  have hn7 : vp_in (x4 + 7) L := l_in (c := 7) h4 rfl (by decide)
  refine lv_aload_n hx hb dL_law_1860 rfl (lv_at hl 1 rfl) ?_
  refine lv_aload_n hx hb dL_law_1861 rfl (lv_at hl 0 rfl) ?_
  refine lv_iload hx hb dL_law_1862 (lv_at hl 4 rfl) ?_
  refine lv_iconst (v := 1) hx hb dL_law_1864 (by decide) ?_
  refine lv_iadd hx hb dL_law_1865 ?_
  refine va_sld hx hb hXs hbl hbA I.2.2.2.2.2.2.2.2.1 hn1 dL_law_1866 ?_
  refine lv_aload_n hx hb dL_law_1867 rfl (lv_at hl 0 rfl) ?_
  refine lv_iload hx hb dL_law_1868 (lv_at hl 4 rfl) ?_
  refine lv_iconst (v := 2) hx hb dL_law_1870 (by decide) ?_
  refine lv_iadd hx hb dL_law_1871 ?_
  refine va_sld hx hb hXs hbl hbA I.2.2.2.2.2.2.2.2.1 hn2 dL_law_1872 ?_
  refine lv_aload_n hx hb dL_law_1873 rfl (lv_at hl 0 rfl) ?_
  refine lv_iload hx hb dL_law_1874 (lv_at hl 4 rfl) ?_
  refine lv_iconst (v := 3) hx hb dL_law_1876 (by decide) ?_
  refine lv_iadd hx hb dL_law_1877 ?_
  refine va_sld hx hb hXs hbl hbA I.2.2.2.2.2.2.2.2.1 hn3 dL_law_1878 ?_
  refine lv_aload_n hx hb dL_law_1879 rfl (lv_at hl 3 rfl) ?_
  refine lk3_i I (vx_runSW (g := F0 m 1880 ls ([.ref ou, .int (xs (x4 + 3).toNatClampNeg), .int (xs (x4 + 2).toNatClampNeg), .int (xs (x4 + 1).toNatClampNeg), .ref xo])) (As := [.ref xo, .int (xs (x4 + 1).toNatClampNeg), .int (xs (x4 + 2).toNatClampNeg), .int (xs (x4 + 3).toNatClampNeg), .ref ou]) (rest := []) ⟨hx, hb, hml, hown, hts⟩ (c_L_ghost l hst D cy (AC s mo a) G W' xo ((xs (x4 + 1).toNatClampNeg)) ((xs (x4 + 2).toNatClampNeg)) ((xs (x4 + 3).toNatClampNeg)) ou I.2.2.1 I.2.2.2.1 I.2.2.2.2.1 I.2.2.2.2.2.1) (vx_cwSW 5 hts gL_law_L_ghost rfl rfl rfl (by decide +kernel) ⟨Nat.le_of_ble_eq_true rfl, Nat.le_of_ble_eq_true rfl⟩) (l_preS I hK hV hZ hXT) rfl rfl hl.1 rfl (lv_room (Nat.le_of_ble_eq_true rfl)) dL_law_1880 ⟨by omega, by omega⟩) rfl (fun r1880 u H locs q1880 hX I => ?_)
  obtain ⟨G1, W1⟩ := u
  have I : LI D cy s xo mo ou a M G1 W1 f g r q H locs := I
  have hX : cX none (chs [1]) G W' G1 W1 := hX
  refine lv_istore (lv' := [(5, .int r1880), (0, .ref b), (1, .ref xo), (2, .ref mo), (3, .ref ou), (4, .int x4)]) hx hb dL_law_1883 hl (by decide) rfl (fun ls hl => ?_)
  refine lv_aload_n hx hb dL_law_1885 rfl (lv_at hl 3 rfl) ?_
  refine lv_aload_n hx hb dL_law_1886 rfl (lv_at hl 1 rfl) ?_
  refine lv_iload hx hb dL_law_1887 (lv_at hl 5 rfl) ?_
  refine lv_iconst (v := 1) hx hb dL_law_1889 (by decide) ?_
  refine lv_iadd hx hb dL_law_1890 ?_
  refine va_sld hx hb hXs hbl hbA I.2.2.2.2.2.2.2.2.1 hn1 dL_law_1891 ?_
  refine lv_aload_n hx hb dL_law_1892 rfl (lv_at hl 1 rfl) ?_
  refine lv_iload hx hb dL_law_1893 (lv_at hl 5 rfl) ?_
  refine lv_iconst (v := 2) hx hb dL_law_1895 (by decide) ?_
  refine lv_iadd hx hb dL_law_1896 ?_
  refine va_sld hx hb hXs hbl hbA I.2.2.2.2.2.2.2.2.1 hn2 dL_law_1897 ?_
  refine lv_aload_n hx hb dL_law_1898 rfl (lv_at hl 1 rfl) ?_
  refine lv_iload hx hb dL_law_1899 (lv_at hl 5 rfl) ?_
  refine lv_iconst (v := 3) hx hb dL_law_1901 (by decide) ?_
  refine lv_iadd hx hb dL_law_1902 ?_
  refine va_sld hx hb hXs hbl hbA I.2.2.2.2.2.2.2.2.1 hn3 dL_law_1903 ?_
  have hI := I.2.2.2.2.2.2.1
  refine lm_i (As := [.int (xs (x4 + 1).toNatClampNeg), .int (xs (x4 + 2).toNatClampNeg), .int (xs (x4 + 3).toNatClampNeg)]) (rest := []) I ⟨hx, hb, hml, hown, hts⟩ (c_X10_ghost l D cy mo a f g r q ((xs (x4 + 1).toNatClampNeg)) ((xs (x4 + 2).toNatClampNeg)) ((xs (x4 + 3).toNatClampNeg)) hDM) (cwV 3 hts gL_law_X10_ghost rfl rfl rfl (by decide +kernel) ⟨Nat.le_of_ble_eq_true rfl, Nat.le_of_ble_eq_true rfl⟩) hK hAM rfl hl.1 rfl (Nat.le_of_ble_eq_true rfl) dL_law_1904 ⟨by omega, by omega⟩ (fun _ _ h9 => by obtain ⟨_, _, _, rfl, h9⟩ := h9; exact hI) (fun r1904 u H locs q1904 I => ?_)
  have ef : u.1 1 = f 1 := by obtain ⟨_, _, _, rfl, -⟩ := q1904; rfl
  have e2_ : u.2.2.1 2 = r 2 := by obtain ⟨_, _, _, rfl, -⟩ := q1904; rfl
  have e3_ : u.2.2.1 3 = r 3 := by obtain ⟨_, _, _, rfl, -⟩ := q1904; rfl
  have e4_ : u.2.2.1 4 = r 4 := by obtain ⟨_, _, _, rfl, -⟩ := q1904; rfl
  have e5_ : u.2.2.1 5 = r 5 := by obtain ⟨_, _, _, rfl, -⟩ := q1904; rfl
  have e6_ : u.2.2.1 6 = r 6 := by obtain ⟨_, _, _, rfl, -⟩ := q1904; rfl
  have e7_ : u.2.2.1 7 = r 7 := by obtain ⟨_, _, _, rfl, -⟩ := q1904; rfl
  have e8_ : u.2.2.1 8 = r 8 := by obtain ⟨_, _, _, rfl, -⟩ := q1904; rfl
  obtain ⟨f1, g1, r1, q1⟩ := u
  have ef : f1 1 = f 1 := ef
  have e2_ : r1 2 = r 2 := e2_
  have e3_ : r1 3 = r 3 := e3_
  have e4_ : r1 4 = r 4 := e4_
  have e5_ : r1 5 = r 5 := e5_
  have e6_ : r1 6 = r 6 := e6_
  have e7_ : r1 7 = r 7 := e7_
  have e8_ : r1 8 = r 8 := e8_
  have I : LI D cy s xo mo ou a M G1 W1 f1 g1 r1 q1 H locs := I
  refine lv_istore (lv' := [(6, .int r1904), (5, .int r1880), (0, .ref b), (1, .ref xo), (2, .ref mo), (3, .ref ou), (4, .int x4)]) hx hb dL_law_1907 hl (by decide) rfl (fun ls hl => ?_)
  refine lv_goto (tgt := 2355) hx hb dL_law_1909 (by decide) ?_
  have hR1 : RlJ cy xo G1 W1 f1 r1 := hR.keep I0.2.2.1 I0.2.2.2.1 I0.2.2.2.2.1 hX rfl rfl rfl rfl ef e2_ e3_ e4_ e5_ e6_ e7_ e8_
  refine W.widen (k := C + 7) (n := S + 588) (by omega) (by omega) ?_
  exact kk _ _ _ _ _ _ _ _ _ I hR1 (lv_sub hl [2, 3, 4, 5, 6] rfl)
set_option maxHeartbeats 4000000 in
set_option maxRecDepth 100000 in
theorem lcase_27 {p : Program} {l : Launch} {e : Env} {s : State} {m : MethodId} {below : List Frame} {meth : Method} {c : Code} {b L : Nat} {xs : Nat → Int32} {D : va_G} {cy : Nat → ClassId} {xo mo ou : Nat} {a : Nat → Nat} {M : Option Nat} {G : cG} {W' : va_W} {f : Nat → Int32} {g : Nat → Int64} {r : Nat → Nat → Int32} {q : Nat → Nat → Int64} {H : Heap} {locs : List Loc} {ls : Array Slot} {Q : State → Prop} {C S : Nat} (X : LX p l s m c b L xs D cy mo a) (I : LI D cy s xo mo ou a M G W' f g r q H locs) (hR : RlJ cy xo G W' f r) {x4 : Int32} (h4 : 0 ≤ x4.toInt ∧ x4.toInt + 8 ≤ (L : Int) ∧ L ≤ 4096) (hC : C + 7 ≤ 601024) (hSl : S + 53273 ≤ 7293034) (hl : lv_has ls 8 [(0, .ref b), (1, .ref xo), (2, .ref mo), (3, .ref ou), (4, .int x4)]) (kk : ∀ (G : cG) (W' : va_W) (f : Nat → Int32) (g : Nat → Int64) (r : Nat → Nat → Int32) (q : Nat → Nat → Int64) (H : Heap) (locs : List Loc) (ls : Array Slot), LI D cy s xo mo ou a M G W' f g r q H locs → RlJ cy xo G W' f r → lv_has ls 8 [(0, .ref b), (1, .ref xo), (2, .ref mo), (3, .ref ou), (4, .int x4)] → W p l e room_1 s m #[Value.ref b] below meth c H locs (C + 7) (S + 588) Q (F0 m 2355 ls [])) : W p l e room_1 s m #[Value.ref b] below meth c H locs C S Q (F0 m 1912 ls []) := by
  obtain ⟨⟨hx, hb, hml, hown, hts⟩, ⟨hXs, hbl⟩, ⟨hK, hV, hZ, hXT⟩, hst, hDM, hAM⟩ := id X
  have I0 := I
  have hbA : ¬ AL s b := Nat.not_le.mpr hbl
  have hRc : room_1.cells = 601024 := rfl
  have hRs : room_1.slots = 7293034 := rfl
  have hn1 : vp_in (x4 + 1) L := l_in (c := 1) h4 rfl (by decide)
  have hn2 : vp_in (x4 + 2) L := l_in (c := 2) h4 rfl (by decide)
  have hn3 : vp_in (x4 + 3) L := l_in (c := 3) h4 rfl (by decide)
  have hn4 : vp_in (x4 + 4) L := l_in (c := 4) h4 rfl (by decide)
  have hn5 : vp_in (x4 + 5) L := l_in (c := 5) h4 rfl (by decide)
  have hn6 : vp_in (x4 + 6) L := l_in (c := 6) h4 rfl (by decide)
  have hn7 : vp_in (x4 + 7) L := l_in (c := 7) h4 rfl (by decide)
  refine lv_aload_n hx hb dL_law_1912 rfl (lv_at hl 1 rfl) ?_
  refine lv_aload_n hx hb dL_law_1913 rfl (lv_at hl 0 rfl) ?_
  refine lv_iload hx hb dL_law_1914 (lv_at hl 4 rfl) ?_
  refine lv_iconst (v := 1) hx hb dL_law_1916 (by decide) ?_
  refine lv_iadd hx hb dL_law_1917 ?_
  refine va_sld hx hb hXs hbl hbA I.2.2.2.2.2.2.2.2.1 hn1 dL_law_1918 ?_
  refine lv_aload_n hx hb dL_law_1919 rfl (lv_at hl 0 rfl) ?_
  refine lv_iload hx hb dL_law_1920 (lv_at hl 4 rfl) ?_
  refine lv_iconst (v := 2) hx hb dL_law_1922 (by decide) ?_
  refine lv_iadd hx hb dL_law_1923 ?_
  refine va_sld hx hb hXs hbl hbA I.2.2.2.2.2.2.2.2.1 hn2 dL_law_1924 ?_
  refine lv_aload_n hx hb dL_law_1925 rfl (lv_at hl 0 rfl) ?_
  refine lv_iload hx hb dL_law_1926 (lv_at hl 4 rfl) ?_
  refine lv_iconst (v := 3) hx hb dL_law_1928 (by decide) ?_
  refine lv_iadd hx hb dL_law_1929 ?_
  refine va_sld hx hb hXs hbl hbA I.2.2.2.2.2.2.2.2.1 hn3 dL_law_1930 ?_
  refine lk3_i I (va_runV (g := F0 m 1931 ls ([.int (xs (x4 + 3).toNatClampNeg), .int (xs (x4 + 2).toNatClampNeg), .int (xs (x4 + 1).toNatClampNeg), .ref xo])) (As := [.int (xs (x4 + 1).toNatClampNeg), .int (xs (x4 + 2).toNatClampNeg), .int (xs (x4 + 3).toNatClampNeg)]) (rest := []) ⟨hx, hb, hml, hown, hts⟩ (c_X9_haunts l D cy (AC s mo a) G W' xo ((xs (x4 + 1).toNatClampNeg)) ((xs (x4 + 2).toNatClampNeg)) ((xs (x4 + 3).toNatClampNeg)) I.2.2.1 I.2.2.2.1 I.2.2.2.2.1) (cwV 3 hts gL_law_X9_haunts rfl rfl rfl (by decide +kernel) ⟨Nat.le_of_ble_eq_true rfl, Nat.le_of_ble_eq_true rfl⟩) (l_preE I hK hV hZ) rfl rfl hl.1 rfl (lv_room (Nat.le_of_ble_eq_true rfl)) dL_law_1931 ⟨by omega, by omega⟩) rfl (fun r1931 u H locs q1931 hX I => ?_)
  obtain ⟨G1, W1⟩ := u
  have I : LI D cy s xo mo ou a M G1 W1 f g r q H locs := I
  have hX : cX none (chs [1, 8]) G W' G1 W1 := hX
  refine lv_pop hx hb dL_law_1934 rfl ?_
  refine lv_aload_n hx hb dL_law_1935 rfl (lv_at hl 2 rfl) ?_
  refine lv_aload_n hx hb dL_law_1936 rfl (lv_at hl 0 rfl) ?_
  refine lv_iload hx hb dL_law_1937 (lv_at hl 4 rfl) ?_
  refine lv_iconst (v := 1) hx hb dL_law_1939 (by decide) ?_
  refine lv_iadd hx hb dL_law_1940 ?_
  refine va_sld hx hb hXs hbl hbA I.2.2.2.2.2.2.2.2.1 hn1 dL_law_1941 ?_
  refine lv_aload_n hx hb dL_law_1942 rfl (lv_at hl 0 rfl) ?_
  refine lv_iload hx hb dL_law_1943 (lv_at hl 4 rfl) ?_
  refine lv_iconst (v := 2) hx hb dL_law_1945 (by decide) ?_
  refine lv_iadd hx hb dL_law_1946 ?_
  refine va_sld hx hb hXs hbl hbA I.2.2.2.2.2.2.2.2.1 hn2 dL_law_1947 ?_
  refine lv_aload_n hx hb dL_law_1948 rfl (lv_at hl 0 rfl) ?_
  refine lv_iload hx hb dL_law_1949 (lv_at hl 4 rfl) ?_
  refine lv_iconst (v := 3) hx hb dL_law_1951 (by decide) ?_
  refine lv_iadd hx hb dL_law_1952 ?_
  refine va_sld hx hb hXs hbl hbA I.2.2.2.2.2.2.2.2.1 hn3 dL_law_1953 ?_
  have hI := I.2.2.2.2.2.2.1
  refine lm_i (As := [.int (xs (x4 + 1).toNatClampNeg), .int (xs (x4 + 2).toNatClampNeg), .int (xs (x4 + 3).toNatClampNeg)]) (rest := []) I ⟨hx, hb, hml, hown, hts⟩ (c_X10_haunts l D cy mo a f g r q ((xs (x4 + 1).toNatClampNeg)) ((xs (x4 + 2).toNatClampNeg)) ((xs (x4 + 3).toNatClampNeg)) hDM) (cwV 3 hts gL_law_X10_haunts rfl rfl rfl (by decide +kernel) ⟨Nat.le_of_ble_eq_true rfl, Nat.le_of_ble_eq_true rfl⟩) hK hAM rfl hl.1 rfl (Nat.le_of_ble_eq_true rfl) dL_law_1954 ⟨by omega, by omega⟩ (fun _ _ h9 => by obtain ⟨rfl, h9⟩ := h9; exact hI) (fun r1954 u H locs q1954 I => ?_)
  have ef : u.1 1 = f 1 := by obtain ⟨rfl, -⟩ := q1954; rfl
  have e2_ : u.2.2.1 2 = r 2 := by obtain ⟨rfl, -⟩ := q1954; rfl
  have e3_ : u.2.2.1 3 = r 3 := by obtain ⟨rfl, -⟩ := q1954; rfl
  have e4_ : u.2.2.1 4 = r 4 := by obtain ⟨rfl, -⟩ := q1954; rfl
  have e5_ : u.2.2.1 5 = r 5 := by obtain ⟨rfl, -⟩ := q1954; rfl
  have e6_ : u.2.2.1 6 = r 6 := by obtain ⟨rfl, -⟩ := q1954; rfl
  have e7_ : u.2.2.1 7 = r 7 := by obtain ⟨rfl, -⟩ := q1954; rfl
  have e8_ : u.2.2.1 8 = r 8 := by obtain ⟨rfl, -⟩ := q1954; rfl
  obtain ⟨f1, g1, r1, q1⟩ := u
  have ef : f1 1 = f 1 := ef
  have e2_ : r1 2 = r 2 := e2_
  have e3_ : r1 3 = r 3 := e3_
  have e4_ : r1 4 = r 4 := e4_
  have e5_ : r1 5 = r 5 := e5_
  have e6_ : r1 6 = r 6 := e6_
  have e7_ : r1 7 = r 7 := e7_
  have e8_ : r1 8 = r 8 := e8_
  have I : LI D cy s xo mo ou a M G1 W1 f1 g1 r1 q1 H locs := I
  refine lv_pop hx hb dL_law_1957 rfl ?_
  refine lv_goto (tgt := 2355) hx hb dL_law_1958 (by decide) ?_
  have hR1 : RlJ cy xo G1 W1 f1 r1 := hR.keep I0.2.2.1 I0.2.2.2.1 I0.2.2.2.2.1 hX rfl rfl rfl rfl ef e2_ e3_ e4_ e5_ e6_ e7_ e8_
  refine W.widen (k := C + 7) (n := S + 588) (by omega) (by omega) ?_
  exact kk _ _ _ _ _ _ _ _ _ I hR1 (lv_sub hl [0, 1, 2, 3, 4] rfl)
set_option maxHeartbeats 4000000 in
set_option maxRecDepth 100000 in
theorem lcase_28 {p : Program} {l : Launch} {e : Env} {s : State} {m : MethodId} {below : List Frame} {meth : Method} {c : Code} {b L : Nat} {xs : Nat → Int32} {D : va_G} {cy : Nat → ClassId} {xo mo ou : Nat} {a : Nat → Nat} {M : Option Nat} {G : cG} {W' : va_W} {f : Nat → Int32} {g : Nat → Int64} {r : Nat → Nat → Int32} {q : Nat → Nat → Int64} {H : Heap} {locs : List Loc} {ls : Array Slot} {Q : State → Prop} {C S : Nat} (X : LX p l s m c b L xs D cy mo a) (I : LI D cy s xo mo ou a M G W' f g r q H locs) (hR : RlJ cy xo G W' f r) {x4 : Int32} (h4 : 0 ≤ x4.toInt ∧ x4.toInt + 8 ≤ (L : Int) ∧ L ≤ 4096) (hC : C + 7 ≤ 601024) (hSl : S + 53273 ≤ 7293034) (hl : lv_has ls 8 [(0, .ref b), (1, .ref xo), (2, .ref mo), (3, .ref ou), (4, .int x4)]) (kk : ∀ (G : cG) (W' : va_W) (f : Nat → Int32) (g : Nat → Int64) (r : Nat → Nat → Int32) (q : Nat → Nat → Int64) (H : Heap) (locs : List Loc) (ls : Array Slot), LI D cy s xo mo ou a M G W' f g r q H locs → RlJ cy xo G W' f r → lv_has ls 8 [(0, .ref b), (1, .ref xo), (2, .ref mo), (3, .ref ou), (4, .int x4)] → W p l e room_1 s m #[Value.ref b] below meth c H locs (C + 7) (S + 588) Q (F0 m 2355 ls [])) : W p l e room_1 s m #[Value.ref b] below meth c H locs C S Q (F0 m 1961 ls []) := by
  obtain ⟨⟨hx, hb, hml, hown, hts⟩, ⟨hXs, hbl⟩, ⟨hK, hV, hZ, hXT⟩, hst, hDM, hAM⟩ := id X
  have I0 := I
  have hbA : ¬ AL s b := Nat.not_le.mpr hbl
  have hRc : room_1.cells = 601024 := rfl
  have hRs : room_1.slots = 7293034 := rfl
  have hn1 : vp_in (x4 + 1) L := l_in (c := 1) h4 rfl (by decide)
  have hn2 : vp_in (x4 + 2) L := l_in (c := 2) h4 rfl (by decide)
  have hn3 : vp_in (x4 + 3) L := l_in (c := 3) h4 rfl (by decide)
  have hn4 : vp_in (x4 + 4) L := l_in (c := 4) h4 rfl (by decide)
  have hn5 : vp_in (x4 + 5) L := l_in (c := 5) h4 rfl (by decide)
  have hn6 : vp_in (x4 + 6) L := l_in (c := 6) h4 rfl (by decide)
  have hn7 : vp_in (x4 + 7) L := l_in (c := 7) h4 rfl (by decide)
  refine lv_aload_n hx hb dL_law_1961 rfl (lv_at hl 1 rfl) ?_
  refine lv_aload_n hx hb dL_law_1962 rfl (lv_at hl 0 rfl) ?_
  refine lv_iload hx hb dL_law_1963 (lv_at hl 4 rfl) ?_
  refine lv_iconst (v := 1) hx hb dL_law_1965 (by decide) ?_
  refine lv_iadd hx hb dL_law_1966 ?_
  refine va_sld hx hb hXs hbl hbA I.2.2.2.2.2.2.2.2.1 hn1 dL_law_1967 ?_
  refine lv_aload_n hx hb dL_law_1968 rfl (lv_at hl 0 rfl) ?_
  refine lv_iload hx hb dL_law_1969 (lv_at hl 4 rfl) ?_
  refine lv_iconst (v := 2) hx hb dL_law_1971 (by decide) ?_
  refine lv_iadd hx hb dL_law_1972 ?_
  refine va_sld hx hb hXs hbl hbA I.2.2.2.2.2.2.2.2.1 hn2 dL_law_1973 ?_
  refine lv_aload_n hx hb dL_law_1974 rfl (lv_at hl 0 rfl) ?_
  refine lv_iload hx hb dL_law_1975 (lv_at hl 4 rfl) ?_
  refine lv_iconst (v := 3) hx hb dL_law_1977 (by decide) ?_
  refine lv_iadd hx hb dL_law_1978 ?_
  refine va_sld hx hb hXs hbl hbA I.2.2.2.2.2.2.2.2.1 hn3 dL_law_1979 ?_
  refine lk3_i I (va_runV (g := F0 m 1980 ls ([.int (xs (x4 + 3).toNatClampNeg), .int (xs (x4 + 2).toNatClampNeg), .int (xs (x4 + 1).toNatClampNeg), .ref xo])) (As := [.int (xs (x4 + 1).toNatClampNeg), .int (xs (x4 + 2).toNatClampNeg), .int (xs (x4 + 3).toNatClampNeg)]) (rest := []) ⟨hx, hb, hml, hown, hts⟩ (c_X9_ghosts l D cy (AC s mo a) G W' xo ((xs (x4 + 1).toNatClampNeg)) ((xs (x4 + 2).toNatClampNeg)) ((xs (x4 + 3).toNatClampNeg)) I.2.2.1 I.2.2.2.1 I.2.2.2.2.1) (cwV 3 hts gL_law_X9_ghosts rfl rfl rfl (by decide +kernel) ⟨Nat.le_of_ble_eq_true rfl, Nat.le_of_ble_eq_true rfl⟩) (l_preE I hK hV hZ) rfl rfl hl.1 rfl (lv_room (Nat.le_of_ble_eq_true rfl)) dL_law_1980 ⟨by omega, by omega⟩) rfl (fun r1980 u H locs q1980 hX I => ?_)
  obtain ⟨G1, W1⟩ := u
  have I : LI D cy s xo mo ou a M G1 W1 f g r q H locs := I
  have hX : cX none (chs [1, 8]) G W' G1 W1 := hX
  refine lv_pop hx hb dL_law_1983 rfl ?_
  refine lv_aload_n hx hb dL_law_1984 rfl (lv_at hl 2 rfl) ?_
  refine lv_aload_n hx hb dL_law_1985 rfl (lv_at hl 0 rfl) ?_
  refine lv_iload hx hb dL_law_1986 (lv_at hl 4 rfl) ?_
  refine lv_iconst (v := 1) hx hb dL_law_1988 (by decide) ?_
  refine lv_iadd hx hb dL_law_1989 ?_
  refine va_sld hx hb hXs hbl hbA I.2.2.2.2.2.2.2.2.1 hn1 dL_law_1990 ?_
  refine lv_aload_n hx hb dL_law_1991 rfl (lv_at hl 0 rfl) ?_
  refine lv_iload hx hb dL_law_1992 (lv_at hl 4 rfl) ?_
  refine lv_iconst (v := 2) hx hb dL_law_1994 (by decide) ?_
  refine lv_iadd hx hb dL_law_1995 ?_
  refine va_sld hx hb hXs hbl hbA I.2.2.2.2.2.2.2.2.1 hn2 dL_law_1996 ?_
  refine lv_aload_n hx hb dL_law_1997 rfl (lv_at hl 0 rfl) ?_
  refine lv_iload hx hb dL_law_1998 (lv_at hl 4 rfl) ?_
  refine lv_iconst (v := 3) hx hb dL_law_2000 (by decide) ?_
  refine lv_iadd hx hb dL_law_2001 ?_
  refine va_sld hx hb hXs hbl hbA I.2.2.2.2.2.2.2.2.1 hn3 dL_law_2002 ?_
  have hI := I.2.2.2.2.2.2.1
  refine lm_i (As := [.int (xs (x4 + 1).toNatClampNeg), .int (xs (x4 + 2).toNatClampNeg), .int (xs (x4 + 3).toNatClampNeg)]) (rest := []) I ⟨hx, hb, hml, hown, hts⟩ (c_X10_ghosts l D cy mo a f g r q ((xs (x4 + 1).toNatClampNeg)) ((xs (x4 + 2).toNatClampNeg)) ((xs (x4 + 3).toNatClampNeg)) hDM) (cwV 3 hts gL_law_X10_ghosts rfl rfl rfl (by decide +kernel) ⟨Nat.le_of_ble_eq_true rfl, Nat.le_of_ble_eq_true rfl⟩) hK hAM rfl hl.1 rfl (Nat.le_of_ble_eq_true rfl) dL_law_2003 ⟨by omega, by omega⟩ (fun _ _ h9 => by obtain ⟨rfl, h9⟩ := h9; exact hI) (fun r2003 u H locs q2003 I => ?_)
  have ef : u.1 1 = f 1 := by obtain ⟨rfl, -⟩ := q2003; rfl
  have e2_ : u.2.2.1 2 = r 2 := by obtain ⟨rfl, -⟩ := q2003; rfl
  have e3_ : u.2.2.1 3 = r 3 := by obtain ⟨rfl, -⟩ := q2003; rfl
  have e4_ : u.2.2.1 4 = r 4 := by obtain ⟨rfl, -⟩ := q2003; rfl
  have e5_ : u.2.2.1 5 = r 5 := by obtain ⟨rfl, -⟩ := q2003; rfl
  have e6_ : u.2.2.1 6 = r 6 := by obtain ⟨rfl, -⟩ := q2003; rfl
  have e7_ : u.2.2.1 7 = r 7 := by obtain ⟨rfl, -⟩ := q2003; rfl
  have e8_ : u.2.2.1 8 = r 8 := by obtain ⟨rfl, -⟩ := q2003; rfl
  obtain ⟨f1, g1, r1, q1⟩ := u
  have ef : f1 1 = f 1 := ef
  have e2_ : r1 2 = r 2 := e2_
  have e3_ : r1 3 = r 3 := e3_
  have e4_ : r1 4 = r 4 := e4_
  have e5_ : r1 5 = r 5 := e5_
  have e6_ : r1 6 = r 6 := e6_
  have e7_ : r1 7 = r 7 := e7_
  have e8_ : r1 8 = r 8 := e8_
  have I : LI D cy s xo mo ou a M G1 W1 f1 g1 r1 q1 H locs := I
  refine lv_pop hx hb dL_law_2006 rfl ?_
  refine lv_goto (tgt := 2355) hx hb dL_law_2007 (by decide) ?_
  have hR1 : RlJ cy xo G1 W1 f1 r1 := hR.keep I0.2.2.1 I0.2.2.2.1 I0.2.2.2.2.1 hX rfl rfl rfl rfl ef e2_ e3_ e4_ e5_ e6_ e7_ e8_
  refine W.widen (k := C + 7) (n := S + 588) (by omega) (by omega) ?_
  exact kk _ _ _ _ _ _ _ _ _ I hR1 (lv_sub hl [0, 1, 2, 3, 4] rfl)
set_option maxHeartbeats 4000000 in
set_option maxRecDepth 100000 in
theorem lcase_29 {p : Program} {l : Launch} {e : Env} {s : State} {m : MethodId} {below : List Frame} {meth : Method} {c : Code} {b L : Nat} {xs : Nat → Int32} {D : va_G} {cy : Nat → ClassId} {xo mo ou : Nat} {a : Nat → Nat} {M : Option Nat} {G : cG} {W' : va_W} {f : Nat → Int32} {g : Nat → Int64} {r : Nat → Nat → Int32} {q : Nat → Nat → Int64} {H : Heap} {locs : List Loc} {ls : Array Slot} {Q : State → Prop} {C S : Nat} (X : LX p l s m c b L xs D cy mo a) (I : LI D cy s xo mo ou a M G W' f g r q H locs) (hR : RlJ cy xo G W' f r) {x4 : Int32} (h4 : 0 ≤ x4.toInt ∧ x4.toInt + 8 ≤ (L : Int) ∧ L ≤ 4096) (hC : C + 7 ≤ 601024) (hSl : S + 53273 ≤ 7293034) (hl : lv_has ls 8 [(0, .ref b), (1, .ref xo), (2, .ref mo), (3, .ref ou), (4, .int x4)]) (kk : ∀ (G : cG) (W' : va_W) (f : Nat → Int32) (g : Nat → Int64) (r : Nat → Nat → Int32) (q : Nat → Nat → Int64) (H : Heap) (locs : List Loc) (ls : Array Slot), LI D cy s xo mo ou a M G W' f g r q H locs → RlJ cy xo G W' f r → lv_has ls 8 [(0, .ref b), (1, .ref xo), (2, .ref mo), (3, .ref ou), (4, .int x4)] → W p l e room_1 s m #[Value.ref b] below meth c H locs (C + 7) (S + 588) Q (F0 m 2355 ls [])) : W p l e room_1 s m #[Value.ref b] below meth c H locs C S Q (F0 m 2010 ls []) := by
  obtain ⟨⟨hx, hb, hml, hown, hts⟩, ⟨hXs, hbl⟩, ⟨hK, hV, hZ, hXT⟩, hst, hDM, hAM⟩ := id X
  have I0 := I
  have hbA : ¬ AL s b := Nat.not_le.mpr hbl
  have hRc : room_1.cells = 601024 := rfl
  have hRs : room_1.slots = 7293034 := rfl
  have hn1 : vp_in (x4 + 1) L := l_in (c := 1) h4 rfl (by decide)
  have hn2 : vp_in (x4 + 2) L := l_in (c := 2) h4 rfl (by decide)
  have hn3 : vp_in (x4 + 3) L := l_in (c := 3) h4 rfl (by decide)
  have hn4 : vp_in (x4 + 4) L := l_in (c := 4) h4 rfl (by decide)
  have hn5 : vp_in (x4 + 5) L := l_in (c := 5) h4 rfl (by decide)
  have hn6 : vp_in (x4 + 6) L := l_in (c := 6) h4 rfl (by decide)
  have hn7 : vp_in (x4 + 7) L := l_in (c := 7) h4 rfl (by decide)
  refine lv_aload_n hx hb dL_law_2010 rfl (lv_at hl 1 rfl) ?_
  refine lv_aload_n hx hb dL_law_2011 rfl (lv_at hl 0 rfl) ?_
  refine lv_iload hx hb dL_law_2012 (lv_at hl 4 rfl) ?_
  refine lv_iconst (v := 1) hx hb dL_law_2014 (by decide) ?_
  refine lv_iadd hx hb dL_law_2015 ?_
  refine va_sld hx hb hXs hbl hbA I.2.2.2.2.2.2.2.2.1 hn1 dL_law_2016 ?_
  refine lv_aload_n hx hb dL_law_2017 rfl (lv_at hl 0 rfl) ?_
  refine lv_iload hx hb dL_law_2018 (lv_at hl 4 rfl) ?_
  refine lv_iconst (v := 2) hx hb dL_law_2020 (by decide) ?_
  refine lv_iadd hx hb dL_law_2021 ?_
  refine va_sld hx hb hXs hbl hbA I.2.2.2.2.2.2.2.2.1 hn2 dL_law_2022 ?_
  refine lv_aload_n hx hb dL_law_2023 rfl (lv_at hl 0 rfl) ?_
  refine lv_iload hx hb dL_law_2024 (lv_at hl 4 rfl) ?_
  refine lv_iconst (v := 3) hx hb dL_law_2026 (by decide) ?_
  refine lv_iadd hx hb dL_law_2027 ?_
  refine va_sld hx hb hXs hbl hbA I.2.2.2.2.2.2.2.2.1 hn3 dL_law_2028 ?_
  refine lv_aload_n hx hb dL_law_2029 rfl (lv_at hl 0 rfl) ?_
  refine lv_iload hx hb dL_law_2030 (lv_at hl 4 rfl) ?_
  refine lv_iconst (v := 4) hx hb dL_law_2032 (by decide) ?_
  refine lv_iadd hx hb dL_law_2033 ?_
  refine va_sld hx hb hXs hbl hbA I.2.2.2.2.2.2.2.2.1 hn4 dL_law_2034 ?_
  refine lv_i2l (v := ((xs (x4 + 4).toNatClampNeg)).toInt64) hx hb dL_law_2035 rfl ?_
  refine lv_bipush (v := 32) hx hb dL_law_2036 (by decide) ?_
  refine lv_lshl (v := (((xs (x4 + 4).toNatClampNeg)).toInt64) <<< ((32 : Int32).toInt64 &&& 63)) hx hb dL_law_2038 rfl ?_
  refine lv_aload_n hx hb dL_law_2039 rfl (lv_at hl 0 rfl) ?_
  refine lv_iload hx hb dL_law_2040 (lv_at hl 4 rfl) ?_
  refine lv_iconst (v := 5) hx hb dL_law_2042 (by decide) ?_
  refine lv_iadd hx hb dL_law_2043 ?_
  refine va_sld hx hb hXs hbl hbA I.2.2.2.2.2.2.2.2.1 hn5 dL_law_2044 ?_
  refine lv_i2l (v := ((xs (x4 + 5).toNatClampNeg)).toInt64) hx hb dL_law_2045 rfl ?_
  refine lv_ldc2 hx hb hown (hts (.constantLong RL 45 (4294967295)) (by decide +kernel)) dL_law_2046 ?_
  refine lv_land hx hb dL_law_2049 ?_
  refine lv_topl (fun v2049 e2049 => ?_)
  refine lv_lor hx hb dL_law_2050 ?_
  refine lv_topl (fun v2050 e2050 => ?_)
  refine lk3_i I (va_runV (g := F0 m 2051 ls ([.long v2050, .int (xs (x4 + 3).toNatClampNeg), .int (xs (x4 + 2).toNatClampNeg), .int (xs (x4 + 1).toNatClampNeg), .ref xo])) (As := [.int (xs (x4 + 1).toNatClampNeg), .int (xs (x4 + 2).toNatClampNeg), .int (xs (x4 + 3).toNatClampNeg), .long v2050]) (rest := []) ⟨hx, hb, hml, hown, hts⟩ (c_X9_keep_w l D cy (AC s mo a) G W' xo ((xs (x4 + 1).toNatClampNeg)) ((xs (x4 + 2).toNatClampNeg)) ((xs (x4 + 3).toNatClampNeg)) v2050 I.2.2.1 I.2.2.2.1 I.2.2.2.2.1) (cwV 4 hts gL_law_X9_keep rfl rfl rfl (by decide +kernel) ⟨Nat.le_of_ble_eq_true rfl, Nat.le_of_ble_eq_true rfl⟩) (l_preV I hK hV) rfl rfl hl.1 rfl (lv_room (Nat.le_of_ble_eq_true rfl)) dL_law_2051 ⟨by omega, by omega⟩) rfl (fun r2051 u H locs q2051 hX I => ?_)
  obtain ⟨G1, W1⟩ := u
  have I : LI D cy s xo mo ou a M G1 W1 f g r q H locs := I
  have hX : cX none (chs [10, 16]) G W' G1 W1 := hX
  refine lv_pop hx hb dL_law_2054 rfl ?_
  refine lv_aload_n hx hb dL_law_2055 rfl (lv_at hl 2 rfl) ?_
  refine lv_aload_n hx hb dL_law_2056 rfl (lv_at hl 0 rfl) ?_
  refine lv_iload hx hb dL_law_2057 (lv_at hl 4 rfl) ?_
  refine lv_iconst (v := 1) hx hb dL_law_2059 (by decide) ?_
  refine lv_iadd hx hb dL_law_2060 ?_
  refine va_sld hx hb hXs hbl hbA I.2.2.2.2.2.2.2.2.1 hn1 dL_law_2061 ?_
  refine lv_aload_n hx hb dL_law_2062 rfl (lv_at hl 0 rfl) ?_
  refine lv_iload hx hb dL_law_2063 (lv_at hl 4 rfl) ?_
  refine lv_iconst (v := 2) hx hb dL_law_2065 (by decide) ?_
  refine lv_iadd hx hb dL_law_2066 ?_
  refine va_sld hx hb hXs hbl hbA I.2.2.2.2.2.2.2.2.1 hn2 dL_law_2067 ?_
  refine lv_aload_n hx hb dL_law_2068 rfl (lv_at hl 0 rfl) ?_
  refine lv_iload hx hb dL_law_2069 (lv_at hl 4 rfl) ?_
  refine lv_iconst (v := 3) hx hb dL_law_2071 (by decide) ?_
  refine lv_iadd hx hb dL_law_2072 ?_
  refine va_sld hx hb hXs hbl hbA I.2.2.2.2.2.2.2.2.1 hn3 dL_law_2073 ?_
  refine lv_aload_n hx hb dL_law_2074 rfl (lv_at hl 0 rfl) ?_
  refine lv_iload hx hb dL_law_2075 (lv_at hl 4 rfl) ?_
  refine lv_iconst (v := 4) hx hb dL_law_2077 (by decide) ?_
  refine lv_iadd hx hb dL_law_2078 ?_
  refine va_sld hx hb hXs hbl hbA I.2.2.2.2.2.2.2.2.1 hn4 dL_law_2079 ?_
  refine lv_i2l (v := ((xs (x4 + 4).toNatClampNeg)).toInt64) hx hb dL_law_2080 rfl ?_
  refine lv_bipush (v := 32) hx hb dL_law_2081 (by decide) ?_
  refine lv_lshl (v := (((xs (x4 + 4).toNatClampNeg)).toInt64) <<< ((32 : Int32).toInt64 &&& 63)) hx hb dL_law_2083 rfl ?_
  refine lv_aload_n hx hb dL_law_2084 rfl (lv_at hl 0 rfl) ?_
  refine lv_iload hx hb dL_law_2085 (lv_at hl 4 rfl) ?_
  refine lv_iconst (v := 5) hx hb dL_law_2087 (by decide) ?_
  refine lv_iadd hx hb dL_law_2088 ?_
  refine va_sld hx hb hXs hbl hbA I.2.2.2.2.2.2.2.2.1 hn5 dL_law_2089 ?_
  refine lv_i2l (v := ((xs (x4 + 5).toNatClampNeg)).toInt64) hx hb dL_law_2090 rfl ?_
  refine lv_ldc2 hx hb hown (hts (.constantLong RL 45 (4294967295)) (by decide +kernel)) dL_law_2091 ?_
  refine lv_land hx hb dL_law_2094 ?_
  refine lv_topl (fun v2094 e2094 => ?_)
  refine lv_lor hx hb dL_law_2095 ?_
  refine lv_topl (fun v2095 e2095 => ?_)
  have hI := I.2.2.2.2.2.2.1
  refine lm_i (As := [.int (xs (x4 + 1).toNatClampNeg), .int (xs (x4 + 2).toNatClampNeg), .int (xs (x4 + 3).toNatClampNeg), .long v2095]) (rest := []) I ⟨hx, hb, hml, hown, hts⟩ (c_X10_keep l D cy mo a f g r q ((xs (x4 + 1).toNatClampNeg)) ((xs (x4 + 2).toNatClampNeg)) ((xs (x4 + 3).toNatClampNeg)) v2095 hDM hI) (cwV 4 hts gL_law_X10_keep rfl rfl rfl (by decide +kernel) ⟨Nat.le_of_ble_eq_true rfl, Nat.le_of_ble_eq_true rfl⟩) hK hAM rfl hl.1 rfl (Nat.le_of_ble_eq_true rfl) dL_law_2096 ⟨by omega, by omega⟩ (fun _ _ h9 => by obtain ⟨_, _, _, _, _, rfl, h9⟩ := h9; exact h9) (fun r2096 u H locs q2096 I => ?_)
  have ef : u.1 1 = f 1 := by obtain ⟨_, _, _, _, _, rfl, -⟩ := q2096; rfl
  have e2_ : u.2.2.1 2 = r 2 := by obtain ⟨_, _, _, _, _, rfl, -⟩ := q2096; rfl
  have e3_ : u.2.2.1 3 = r 3 := by obtain ⟨_, _, _, _, _, rfl, -⟩ := q2096; rfl
  have e4_ : u.2.2.1 4 = r 4 := by obtain ⟨_, _, _, _, _, rfl, -⟩ := q2096; rfl
  have e5_ : u.2.2.1 5 = r 5 := by obtain ⟨_, _, _, _, _, rfl, -⟩ := q2096; rfl
  have e6_ : u.2.2.1 6 = r 6 := by obtain ⟨_, _, _, _, _, rfl, -⟩ := q2096; rfl
  have e7_ : u.2.2.1 7 = r 7 := by obtain ⟨_, _, _, _, _, rfl, -⟩ := q2096; rfl
  have e8_ : u.2.2.1 8 = r 8 := by obtain ⟨_, _, _, _, _, rfl, -⟩ := q2096; rfl
  obtain ⟨f1, g1, r1, q1⟩ := u
  have ef : f1 1 = f 1 := ef
  have e2_ : r1 2 = r 2 := e2_
  have e3_ : r1 3 = r 3 := e3_
  have e4_ : r1 4 = r 4 := e4_
  have e5_ : r1 5 = r 5 := e5_
  have e6_ : r1 6 = r 6 := e6_
  have e7_ : r1 7 = r 7 := e7_
  have e8_ : r1 8 = r 8 := e8_
  have I : LI D cy s xo mo ou a M G1 W1 f1 g1 r1 q1 H locs := I
  refine lv_pop hx hb dL_law_2099 rfl ?_
  refine lv_goto (tgt := 2355) hx hb dL_law_2100 (by decide) ?_
  have hR1 : RlJ cy xo G1 W1 f1 r1 := hR.keep I0.2.2.1 I0.2.2.2.1 I0.2.2.2.2.1 hX rfl rfl rfl rfl ef e2_ e3_ e4_ e5_ e6_ e7_ e8_
  refine W.widen (k := C + 7) (n := S + 588) (by omega) (by omega) ?_
  exact kk _ _ _ _ _ _ _ _ _ I hR1 (lv_sub hl [0, 1, 2, 3, 4] rfl)
set_option maxHeartbeats 4000000 in
set_option maxRecDepth 100000 in
theorem lcase_30 {p : Program} {l : Launch} {e : Env} {s : State} {m : MethodId} {below : List Frame} {meth : Method} {c : Code} {b L : Nat} {xs : Nat → Int32} {D : va_G} {cy : Nat → ClassId} {xo mo ou : Nat} {a : Nat → Nat} {M : Option Nat} {G : cG} {W' : va_W} {f : Nat → Int32} {g : Nat → Int64} {r : Nat → Nat → Int32} {q : Nat → Nat → Int64} {H : Heap} {locs : List Loc} {ls : Array Slot} {Q : State → Prop} {C S : Nat} (X : LX p l s m c b L xs D cy mo a) (I : LI D cy s xo mo ou a M G W' f g r q H locs) (hR : RlJ cy xo G W' f r) {x4 : Int32} (h4 : 0 ≤ x4.toInt ∧ x4.toInt + 8 ≤ (L : Int) ∧ L ≤ 4096) (hC : C + 7 ≤ 601024) (hSl : S + 53273 ≤ 7293034) (hl : lv_has ls 8 [(0, .ref b), (1, .ref xo), (2, .ref mo), (3, .ref ou), (4, .int x4)]) (kk : ∀ (G : cG) (W' : va_W) (f : Nat → Int32) (g : Nat → Int64) (r : Nat → Nat → Int32) (q : Nat → Nat → Int64) (H : Heap) (locs : List Loc) (ls : Array Slot), LI D cy s xo mo ou a M G W' f g r q H locs → RlJ cy xo G W' f r → lv_has ls 8 [(0, .ref b), (1, .ref xo), (2, .ref mo), (3, .ref ou), (4, .int x4)] → W p l e room_1 s m #[Value.ref b] below meth c H locs (C + 7) (S + 588) Q (F0 m 2355 ls [])) : W p l e room_1 s m #[Value.ref b] below meth c H locs C S Q (F0 m 2103 ls []) := by
  obtain ⟨⟨hx, hb, hml, hown, hts⟩, ⟨hXs, hbl⟩, ⟨hK, hV, hZ, hXT⟩, hst, hDM, hAM⟩ := id X
  have I0 := I
  have hbA : ¬ AL s b := Nat.not_le.mpr hbl
  have hRc : room_1.cells = 601024 := rfl
  have hRs : room_1.slots = 7293034 := rfl
  have hn1 : vp_in (x4 + 1) L := l_in (c := 1) h4 rfl (by decide)
  have hn2 : vp_in (x4 + 2) L := l_in (c := 2) h4 rfl (by decide)
  have hn3 : vp_in (x4 + 3) L := l_in (c := 3) h4 rfl (by decide)
  have hn4 : vp_in (x4 + 4) L := l_in (c := 4) h4 rfl (by decide)
  have hn5 : vp_in (x4 + 5) L := l_in (c := 5) h4 rfl (by decide)
  have hn6 : vp_in (x4 + 6) L := l_in (c := 6) h4 rfl (by decide)
  have hn7 : vp_in (x4 + 7) L := l_in (c := 7) h4 rfl (by decide)
  refine lv_aload_n hx hb dL_law_2103 rfl (lv_at hl 1 rfl) ?_
  refine lv_aload_n hx hb dL_law_2104 rfl (lv_at hl 0 rfl) ?_
  refine lv_iload hx hb dL_law_2105 (lv_at hl 4 rfl) ?_
  refine lv_iconst (v := 1) hx hb dL_law_2107 (by decide) ?_
  refine lv_iadd hx hb dL_law_2108 ?_
  refine va_sld hx hb hXs hbl hbA I.2.2.2.2.2.2.2.2.1 hn1 dL_law_2109 ?_
  refine lv_aload_n hx hb dL_law_2110 rfl (lv_at hl 0 rfl) ?_
  refine lv_iload hx hb dL_law_2111 (lv_at hl 4 rfl) ?_
  refine lv_iconst (v := 2) hx hb dL_law_2113 (by decide) ?_
  refine lv_iadd hx hb dL_law_2114 ?_
  refine va_sld hx hb hXs hbl hbA I.2.2.2.2.2.2.2.2.1 hn2 dL_law_2115 ?_
  refine lv_aload_n hx hb dL_law_2116 rfl (lv_at hl 0 rfl) ?_
  refine lv_iload hx hb dL_law_2117 (lv_at hl 4 rfl) ?_
  refine lv_iconst (v := 3) hx hb dL_law_2119 (by decide) ?_
  refine lv_iadd hx hb dL_law_2120 ?_
  refine va_sld hx hb hXs hbl hbA I.2.2.2.2.2.2.2.2.1 hn3 dL_law_2121 ?_
  refine lk3_i I (va_runV (g := F0 m 2122 ls ([.int (xs (x4 + 3).toNatClampNeg), .int (xs (x4 + 2).toNatClampNeg), .int (xs (x4 + 1).toNatClampNeg), .ref xo])) (As := [.int (xs (x4 + 1).toNatClampNeg), .int (xs (x4 + 2).toNatClampNeg), .int (xs (x4 + 3).toNatClampNeg)]) (rest := []) ⟨hx, hb, hml, hown, hts⟩ (c_X9_make l D cy (AC s mo a) G W' xo ((xs (x4 + 1).toNatClampNeg)) ((xs (x4 + 2).toNatClampNeg)) ((xs (x4 + 3).toNatClampNeg)) I.2.2.1 I.2.2.2.1 I.2.2.2.2.1) (cwV 3 hts gL_law_X9_make rfl rfl rfl (by decide +kernel) ⟨Nat.le_of_ble_eq_true rfl, Nat.le_of_ble_eq_true rfl⟩) (l_preV I hK hV) rfl rfl hl.1 rfl (lv_room (Nat.le_of_ble_eq_true rfl)) dL_law_2122 ⟨by omega, by omega⟩) rfl (fun r2122 u H locs q2122 hX I => ?_)
  obtain ⟨G1, W1⟩ := u
  have I : LI D cy s xo mo ou a M G1 W1 f g r q H locs := I
  have hX : cX none (chs [10]) G W' G1 W1 := hX
  refine lv_pop hx hb dL_law_2125 rfl ?_
  refine lv_aload_n hx hb dL_law_2126 rfl (lv_at hl 2 rfl) ?_
  refine lv_aload_n hx hb dL_law_2127 rfl (lv_at hl 0 rfl) ?_
  refine lv_iload hx hb dL_law_2128 (lv_at hl 4 rfl) ?_
  refine lv_iconst (v := 1) hx hb dL_law_2130 (by decide) ?_
  refine lv_iadd hx hb dL_law_2131 ?_
  refine va_sld hx hb hXs hbl hbA I.2.2.2.2.2.2.2.2.1 hn1 dL_law_2132 ?_
  refine lv_aload_n hx hb dL_law_2133 rfl (lv_at hl 0 rfl) ?_
  refine lv_iload hx hb dL_law_2134 (lv_at hl 4 rfl) ?_
  refine lv_iconst (v := 2) hx hb dL_law_2136 (by decide) ?_
  refine lv_iadd hx hb dL_law_2137 ?_
  refine va_sld hx hb hXs hbl hbA I.2.2.2.2.2.2.2.2.1 hn2 dL_law_2138 ?_
  refine lv_aload_n hx hb dL_law_2139 rfl (lv_at hl 0 rfl) ?_
  refine lv_iload hx hb dL_law_2140 (lv_at hl 4 rfl) ?_
  refine lv_iconst (v := 3) hx hb dL_law_2142 (by decide) ?_
  refine lv_iadd hx hb dL_law_2143 ?_
  refine va_sld hx hb hXs hbl hbA I.2.2.2.2.2.2.2.2.1 hn3 dL_law_2144 ?_
  have hI := I.2.2.2.2.2.2.1
  refine lm_i (As := [.int (xs (x4 + 1).toNatClampNeg), .int (xs (x4 + 2).toNatClampNeg), .int (xs (x4 + 3).toNatClampNeg)]) (rest := []) I ⟨hx, hb, hml, hown, hts⟩ (c_X10_make l D cy mo a f g r q ((xs (x4 + 1).toNatClampNeg)) ((xs (x4 + 2).toNatClampNeg)) ((xs (x4 + 3).toNatClampNeg)) hDM hI) (cwV 3 hts gL_law_X10_make rfl rfl rfl (by decide +kernel) ⟨Nat.le_of_ble_eq_true rfl, Nat.le_of_ble_eq_true rfl⟩) hK hAM rfl hl.1 rfl (Nat.le_of_ble_eq_true rfl) dL_law_2145 ⟨by omega, by omega⟩ (fun _ _ h9 => by obtain ⟨_, _, _, rfl, h9⟩ := h9; exact h9.2) (fun r2145 u H locs q2145 I => ?_)
  have ef : u.1 1 = f 1 := by obtain ⟨_, _, _, rfl, -⟩ := q2145; rfl
  have e2_ : u.2.2.1 2 = r 2 := by obtain ⟨_, _, _, rfl, -⟩ := q2145; rfl
  have e3_ : u.2.2.1 3 = r 3 := by obtain ⟨_, _, _, rfl, -⟩ := q2145; rfl
  have e4_ : u.2.2.1 4 = r 4 := by obtain ⟨_, _, _, rfl, -⟩ := q2145; rfl
  have e5_ : u.2.2.1 5 = r 5 := by obtain ⟨_, _, _, rfl, -⟩ := q2145; rfl
  have e6_ : u.2.2.1 6 = r 6 := by obtain ⟨_, _, _, rfl, -⟩ := q2145; rfl
  have e7_ : u.2.2.1 7 = r 7 := by obtain ⟨_, _, _, rfl, -⟩ := q2145; rfl
  have e8_ : u.2.2.1 8 = r 8 := by obtain ⟨_, _, _, rfl, -⟩ := q2145; rfl
  obtain ⟨f1, g1, r1, q1⟩ := u
  have ef : f1 1 = f 1 := ef
  have e2_ : r1 2 = r 2 := e2_
  have e3_ : r1 3 = r 3 := e3_
  have e4_ : r1 4 = r 4 := e4_
  have e5_ : r1 5 = r 5 := e5_
  have e6_ : r1 6 = r 6 := e6_
  have e7_ : r1 7 = r 7 := e7_
  have e8_ : r1 8 = r 8 := e8_
  have I : LI D cy s xo mo ou a M G1 W1 f1 g1 r1 q1 H locs := I
  refine lv_pop hx hb dL_law_2148 rfl ?_
  refine lv_goto (tgt := 2355) hx hb dL_law_2149 (by decide) ?_
  have hR1 : RlJ cy xo G1 W1 f1 r1 := hR.keep I0.2.2.1 I0.2.2.2.1 I0.2.2.2.2.1 hX rfl rfl rfl rfl ef e2_ e3_ e4_ e5_ e6_ e7_ e8_
  refine W.widen (k := C + 7) (n := S + 588) (by omega) (by omega) ?_
  exact kk _ _ _ _ _ _ _ _ _ I hR1 (lv_sub hl [0, 1, 2, 3, 4] rfl)
set_option maxHeartbeats 4000000 in
set_option maxRecDepth 100000 in
theorem lcase_31 {p : Program} {l : Launch} {e : Env} {s : State} {m : MethodId} {below : List Frame} {meth : Method} {c : Code} {b L : Nat} {xs : Nat → Int32} {D : va_G} {cy : Nat → ClassId} {xo mo ou : Nat} {a : Nat → Nat} {M : Option Nat} {G : cG} {W' : va_W} {f : Nat → Int32} {g : Nat → Int64} {r : Nat → Nat → Int32} {q : Nat → Nat → Int64} {H : Heap} {locs : List Loc} {ls : Array Slot} {Q : State → Prop} {C S : Nat} (X : LX p l s m c b L xs D cy mo a) (I : LI D cy s xo mo ou a M G W' f g r q H locs) (hR : RlJ cy xo G W' f r) {x4 : Int32} (h4 : 0 ≤ x4.toInt ∧ x4.toInt + 8 ≤ (L : Int) ∧ L ≤ 4096) (hC : C + 7 ≤ 601024) (hSl : S + 53273 ≤ 7293034) (hl : lv_has ls 8 [(0, .ref b), (1, .ref xo), (2, .ref mo), (3, .ref ou), (4, .int x4)]) (kk : ∀ (G : cG) (W' : va_W) (f : Nat → Int32) (g : Nat → Int64) (r : Nat → Nat → Int32) (q : Nat → Nat → Int64) (H : Heap) (locs : List Loc) (ls : Array Slot), LI D cy s xo mo ou a M G W' f g r q H locs → RlJ cy xo G W' f r → lv_has ls 8 [(0, .ref b), (1, .ref xo), (2, .ref mo), (3, .ref ou), (4, .int x4)] → W p l e room_1 s m #[Value.ref b] below meth c H locs (C + 7) (S + 588) Q (F0 m 2355 ls [])) : W p l e room_1 s m #[Value.ref b] below meth c H locs C S Q (F0 m 2152 ls []) := by
  obtain ⟨⟨hx, hb, hml, hown, hts⟩, ⟨hXs, hbl⟩, ⟨hK, hV, hZ, hXT⟩, hst, hDM, hAM⟩ := id X
  have I0 := I
  have hbA : ¬ AL s b := Nat.not_le.mpr hbl
  have hRc : room_1.cells = 601024 := rfl
  have hRs : room_1.slots = 7293034 := rfl
  have hn1 : vp_in (x4 + 1) L := l_in (c := 1) h4 rfl (by decide)
  have hn2 : vp_in (x4 + 2) L := l_in (c := 2) h4 rfl (by decide)
  have hn3 : vp_in (x4 + 3) L := l_in (c := 3) h4 rfl (by decide)
  have hn4 : vp_in (x4 + 4) L := l_in (c := 4) h4 rfl (by decide)
  have hn5 : vp_in (x4 + 5) L := l_in (c := 5) h4 rfl (by decide)
  have hn6 : vp_in (x4 + 6) L := l_in (c := 6) h4 rfl (by decide)
  have hn7 : vp_in (x4 + 7) L := l_in (c := 7) h4 rfl (by decide)
  refine lv_aload_n hx hb dL_law_2152 rfl (lv_at hl 1 rfl) ?_
  refine lv_aload_n hx hb dL_law_2153 rfl (lv_at hl 0 rfl) ?_
  refine lv_iload hx hb dL_law_2154 (lv_at hl 4 rfl) ?_
  refine lv_iconst (v := 1) hx hb dL_law_2156 (by decide) ?_
  refine lv_iadd hx hb dL_law_2157 ?_
  refine va_sld hx hb hXs hbl hbA I.2.2.2.2.2.2.2.2.1 hn1 dL_law_2158 ?_
  refine lv_aload_n hx hb dL_law_2159 rfl (lv_at hl 0 rfl) ?_
  refine lv_iload hx hb dL_law_2160 (lv_at hl 4 rfl) ?_
  refine lv_iconst (v := 2) hx hb dL_law_2162 (by decide) ?_
  refine lv_iadd hx hb dL_law_2163 ?_
  refine va_sld hx hb hXs hbl hbA I.2.2.2.2.2.2.2.2.1 hn2 dL_law_2164 ?_
  refine lv_aload_n hx hb dL_law_2165 rfl (lv_at hl 3 rfl) ?_
  refine lk3_i I (vx_runSW (g := F0 m 2166 ls ([.ref ou, .int (xs (x4 + 2).toNatClampNeg), .int (xs (x4 + 1).toNatClampNeg), .ref xo])) (As := [.ref xo, .int (xs (x4 + 1).toNatClampNeg), .int (xs (x4 + 2).toNatClampNeg), .ref ou]) (rest := []) ⟨hx, hb, hml, hown, hts⟩ (c_L_element l hst D cy (AC s mo a) G W' xo ((xs (x4 + 1).toNatClampNeg)) ((xs (x4 + 2).toNatClampNeg)) ou I.2.2.1 I.2.2.2.1 I.2.2.2.2.1 I.2.2.2.2.2.1) (vx_cwSW 4 hts gL_law_L_element rfl rfl rfl (by decide +kernel) ⟨Nat.le_of_ble_eq_true rfl, Nat.le_of_ble_eq_true rfl⟩) (l_preS I hK hV hZ hXT) rfl rfl hl.1 rfl (lv_room (Nat.le_of_ble_eq_true rfl)) dL_law_2166 ⟨by omega, by omega⟩) rfl (fun r2166 u H locs q2166 hX I => ?_)
  obtain ⟨G1, W1⟩ := u
  have I : LI D cy s xo mo ou a M G1 W1 f g r q H locs := I
  have hX : cX none (chs [1]) G W' G1 W1 := hX
  refine lv_istore (lv' := [(5, .int r2166), (0, .ref b), (1, .ref xo), (2, .ref mo), (3, .ref ou), (4, .int x4)]) hx hb dL_law_2169 hl (by decide) rfl (fun ls hl => ?_)
  refine lv_aload_n hx hb dL_law_2171 rfl (lv_at hl 3 rfl) ?_
  refine lv_aload_n hx hb dL_law_2172 rfl (lv_at hl 1 rfl) ?_
  refine lv_iload hx hb dL_law_2173 (lv_at hl 5 rfl) ?_
  refine lv_iconst (v := 1) hx hb dL_law_2175 (by decide) ?_
  refine lv_iadd hx hb dL_law_2176 ?_
  refine va_sld hx hb hXs hbl hbA I.2.2.2.2.2.2.2.2.1 hn1 dL_law_2177 ?_
  refine lv_aload_n hx hb dL_law_2178 rfl (lv_at hl 1 rfl) ?_
  refine lv_iload hx hb dL_law_2179 (lv_at hl 5 rfl) ?_
  refine lv_iconst (v := 2) hx hb dL_law_2181 (by decide) ?_
  refine lv_iadd hx hb dL_law_2182 ?_
  refine va_sld hx hb hXs hbl hbA I.2.2.2.2.2.2.2.2.1 hn2 dL_law_2183 ?_
  have hI := I.2.2.2.2.2.2.1
  refine lm_l (As := [.int (xs (x4 + 1).toNatClampNeg), .int (xs (x4 + 2).toNatClampNeg)]) (rest := []) I ⟨hx, hb, hml, hown, hts⟩ (c_X10_element l D cy mo a f g r q ((xs (x4 + 1).toNatClampNeg)) ((xs (x4 + 2).toNatClampNeg)) hDM hI) (cwV 2 hts gL_law_X10_element rfl rfl rfl (by decide +kernel) ⟨Nat.le_of_ble_eq_true rfl, Nat.le_of_ble_eq_true rfl⟩) hK hAM rfl hl.1 rfl (Nat.le_of_ble_eq_true rfl) dL_law_2184 ⟨by omega, by omega⟩ (fun _ _ h9 => by obtain ⟨_, rfl, h9⟩ := h9; exact hI) (fun r2184 u H locs q2184 I => ?_)
  have ef : u.1 1 = f 1 := by obtain ⟨_, rfl, -⟩ := q2184; rfl
  have e2_ : u.2.2.1 2 = r 2 := by obtain ⟨_, rfl, -⟩ := q2184; rfl
  have e3_ : u.2.2.1 3 = r 3 := by obtain ⟨_, rfl, -⟩ := q2184; rfl
  have e4_ : u.2.2.1 4 = r 4 := by obtain ⟨_, rfl, -⟩ := q2184; rfl
  have e5_ : u.2.2.1 5 = r 5 := by obtain ⟨_, rfl, -⟩ := q2184; rfl
  have e6_ : u.2.2.1 6 = r 6 := by obtain ⟨_, rfl, -⟩ := q2184; rfl
  have e7_ : u.2.2.1 7 = r 7 := by obtain ⟨_, rfl, -⟩ := q2184; rfl
  have e8_ : u.2.2.1 8 = r 8 := by obtain ⟨_, rfl, -⟩ := q2184; rfl
  obtain ⟨f1, g1, r1, q1⟩ := u
  have ef : f1 1 = f 1 := ef
  have e2_ : r1 2 = r 2 := e2_
  have e3_ : r1 3 = r 3 := e3_
  have e4_ : r1 4 = r 4 := e4_
  have e5_ : r1 5 = r 5 := e5_
  have e6_ : r1 6 = r 6 := e6_
  have e7_ : r1 7 = r 7 := e7_
  have e8_ : r1 8 = r 8 := e8_
  have I : LI D cy s xo mo ou a M G1 W1 f1 g1 r1 q1 H locs := I
  refine lv_lstore (lv' := [(6, .long r2184), (5, .int r2166), (0, .ref b), (1, .ref xo), (2, .ref mo), (3, .ref ou), (4, .int x4)]) hx hb dL_law_2187 hl (by decide) rfl (fun ls hl => ?_)
  refine lv_goto (tgt := 2355) hx hb dL_law_2189 (by decide) ?_
  have hR1 : RlJ cy xo G1 W1 f1 r1 := hR.keep I0.2.2.1 I0.2.2.2.1 I0.2.2.2.2.1 hX rfl rfl rfl rfl ef e2_ e3_ e4_ e5_ e6_ e7_ e8_
  refine W.widen (k := C + 7) (n := S + 588) (by omega) (by omega) ?_
  exact kk _ _ _ _ _ _ _ _ _ I hR1 (lv_sub hl [2, 3, 4, 5, 6] rfl)
set_option maxHeartbeats 4000000 in
set_option maxRecDepth 100000 in
theorem lcase_32 {p : Program} {l : Launch} {e : Env} {s : State} {m : MethodId} {below : List Frame} {meth : Method} {c : Code} {b L : Nat} {xs : Nat → Int32} {D : va_G} {cy : Nat → ClassId} {xo mo ou : Nat} {a : Nat → Nat} {M : Option Nat} {G : cG} {W' : va_W} {f : Nat → Int32} {g : Nat → Int64} {r : Nat → Nat → Int32} {q : Nat → Nat → Int64} {H : Heap} {locs : List Loc} {ls : Array Slot} {Q : State → Prop} {C S : Nat} (X : LX p l s m c b L xs D cy mo a) (I : LI D cy s xo mo ou a M G W' f g r q H locs) (hR : RlJ cy xo G W' f r) {x4 : Int32} (h4 : 0 ≤ x4.toInt ∧ x4.toInt + 8 ≤ (L : Int) ∧ L ≤ 4096) (hC : C + 7 ≤ 601024) (hSl : S + 53273 ≤ 7293034) (hl : lv_has ls 8 [(0, .ref b), (1, .ref xo), (2, .ref mo), (3, .ref ou), (4, .int x4)]) (kk : ∀ (G : cG) (W' : va_W) (f : Nat → Int32) (g : Nat → Int64) (r : Nat → Nat → Int32) (q : Nat → Nat → Int64) (H : Heap) (locs : List Loc) (ls : Array Slot), LI D cy s xo mo ou a M G W' f g r q H locs → RlJ cy xo G W' f r → lv_has ls 8 [(0, .ref b), (1, .ref xo), (2, .ref mo), (3, .ref ou), (4, .int x4)] → W p l e room_1 s m #[Value.ref b] below meth c H locs (C + 7) (S + 588) Q (F0 m 2355 ls [])) : W p l e room_1 s m #[Value.ref b] below meth c H locs C S Q (F0 m 2192 ls []) := by
  obtain ⟨⟨hx, hb, hml, hown, hts⟩, ⟨hXs, hbl⟩, ⟨hK, hV, hZ, hXT⟩, hst, hDM, hAM⟩ := id X
  have I0 := I
  have hbA : ¬ AL s b := Nat.not_le.mpr hbl
  have hRc : room_1.cells = 601024 := rfl
  have hRs : room_1.slots = 7293034 := rfl
  have hn1 : vp_in (x4 + 1) L := l_in (c := 1) h4 rfl (by decide)
  have hn2 : vp_in (x4 + 2) L := l_in (c := 2) h4 rfl (by decide)
  have hn3 : vp_in (x4 + 3) L := l_in (c := 3) h4 rfl (by decide)
  have hn4 : vp_in (x4 + 4) L := l_in (c := 4) h4 rfl (by decide)
  have hn5 : vp_in (x4 + 5) L := l_in (c := 5) h4 rfl (by decide)
  have hn6 : vp_in (x4 + 6) L := l_in (c := 6) h4 rfl (by decide)
  have hn7 : vp_in (x4 + 7) L := l_in (c := 7) h4 rfl (by decide)
  refine lv_aload_n hx hb dL_law_2192 rfl (lv_at hl 1 rfl) ?_
  refine lv_aload_n hx hb dL_law_2193 rfl (lv_at hl 0 rfl) ?_
  refine lv_iload hx hb dL_law_2194 (lv_at hl 4 rfl) ?_
  refine lv_iconst (v := 1) hx hb dL_law_2196 (by decide) ?_
  refine lv_iadd hx hb dL_law_2197 ?_
  refine va_sld hx hb hXs hbl hbA I.2.2.2.2.2.2.2.2.1 hn1 dL_law_2198 ?_
  refine lv_aload_n hx hb dL_law_2199 rfl (lv_at hl 0 rfl) ?_
  refine lv_iload hx hb dL_law_2200 (lv_at hl 4 rfl) ?_
  refine lv_iconst (v := 2) hx hb dL_law_2202 (by decide) ?_
  refine lv_iadd hx hb dL_law_2203 ?_
  refine va_sld hx hb hXs hbl hbA I.2.2.2.2.2.2.2.2.1 hn2 dL_law_2204 ?_
  refine lv_aload_n hx hb dL_law_2205 rfl (lv_at hl 0 rfl) ?_
  refine lv_iload hx hb dL_law_2206 (lv_at hl 4 rfl) ?_
  refine lv_iconst (v := 3) hx hb dL_law_2208 (by decide) ?_
  refine lv_iadd hx hb dL_law_2209 ?_
  refine va_sld hx hb hXs hbl hbA I.2.2.2.2.2.2.2.2.1 hn3 dL_law_2210 ?_
  refine lv_aload_n hx hb dL_law_2211 rfl (lv_at hl 0 rfl) ?_
  refine lv_iload hx hb dL_law_2212 (lv_at hl 4 rfl) ?_
  refine lv_iconst (v := 4) hx hb dL_law_2214 (by decide) ?_
  refine lv_iadd hx hb dL_law_2215 ?_
  refine va_sld hx hb hXs hbl hbA I.2.2.2.2.2.2.2.2.1 hn4 dL_law_2216 ?_
  refine lv_aload_n hx hb dL_law_2217 rfl (lv_at hl 0 rfl) ?_
  refine lv_iload hx hb dL_law_2218 (lv_at hl 4 rfl) ?_
  refine lv_iconst (v := 5) hx hb dL_law_2220 (by decide) ?_
  refine lv_iadd hx hb dL_law_2221 ?_
  refine va_sld hx hb hXs hbl hbA I.2.2.2.2.2.2.2.2.1 hn5 dL_law_2222 ?_
  refine lk3_i I (va_runV (g := F0 m 2223 ls ([.int (xs (x4 + 5).toNatClampNeg), .int (xs (x4 + 4).toNatClampNeg), .int (xs (x4 + 3).toNatClampNeg), .int (xs (x4 + 2).toNatClampNeg), .int (xs (x4 + 1).toNatClampNeg), .ref xo])) (As := [.int (xs (x4 + 1).toNatClampNeg), .int (xs (x4 + 2).toNatClampNeg), .int (xs (x4 + 3).toNatClampNeg), .int (xs (x4 + 4).toNatClampNeg), .int (xs (x4 + 5).toNatClampNeg)]) (rest := []) ⟨hx, hb, hml, hown, hts⟩ (c_X9_copy l D cy (AC s mo a) G W' xo ((xs (x4 + 1).toNatClampNeg)) ((xs (x4 + 2).toNatClampNeg)) ((xs (x4 + 3).toNatClampNeg)) ((xs (x4 + 4).toNatClampNeg)) ((xs (x4 + 5).toNatClampNeg)) I.2.2.1 I.2.2.2.1 I.2.2.2.2.1) (cwV 5 hts gL_law_X9_copy rfl rfl rfl (by decide +kernel) ⟨Nat.le_of_ble_eq_true rfl, Nat.le_of_ble_eq_true rfl⟩) (l_preV I hK hV) rfl rfl hl.1 rfl (lv_room (Nat.le_of_ble_eq_true rfl)) dL_law_2223 ⟨by omega, by omega⟩) rfl (fun r2223 u H locs q2223 hX I => ?_)
  obtain ⟨G1, W1⟩ := u
  have I : LI D cy s xo mo ou a M G1 W1 f g r q H locs := I
  have hX : cX none (chs [16]) G W' G1 W1 := hX
  refine lv_pop hx hb dL_law_2226 rfl ?_
  refine lv_aload_n hx hb dL_law_2227 rfl (lv_at hl 2 rfl) ?_
  refine lv_aload_n hx hb dL_law_2228 rfl (lv_at hl 0 rfl) ?_
  refine lv_iload hx hb dL_law_2229 (lv_at hl 4 rfl) ?_
  refine lv_iconst (v := 1) hx hb dL_law_2231 (by decide) ?_
  refine lv_iadd hx hb dL_law_2232 ?_
  refine va_sld hx hb hXs hbl hbA I.2.2.2.2.2.2.2.2.1 hn1 dL_law_2233 ?_
  refine lv_aload_n hx hb dL_law_2234 rfl (lv_at hl 0 rfl) ?_
  refine lv_iload hx hb dL_law_2235 (lv_at hl 4 rfl) ?_
  refine lv_iconst (v := 2) hx hb dL_law_2237 (by decide) ?_
  refine lv_iadd hx hb dL_law_2238 ?_
  refine va_sld hx hb hXs hbl hbA I.2.2.2.2.2.2.2.2.1 hn2 dL_law_2239 ?_
  refine lv_aload_n hx hb dL_law_2240 rfl (lv_at hl 0 rfl) ?_
  refine lv_iload hx hb dL_law_2241 (lv_at hl 4 rfl) ?_
  refine lv_iconst (v := 3) hx hb dL_law_2243 (by decide) ?_
  refine lv_iadd hx hb dL_law_2244 ?_
  refine va_sld hx hb hXs hbl hbA I.2.2.2.2.2.2.2.2.1 hn3 dL_law_2245 ?_
  refine lv_aload_n hx hb dL_law_2246 rfl (lv_at hl 0 rfl) ?_
  refine lv_iload hx hb dL_law_2247 (lv_at hl 4 rfl) ?_
  refine lv_iconst (v := 4) hx hb dL_law_2249 (by decide) ?_
  refine lv_iadd hx hb dL_law_2250 ?_
  refine va_sld hx hb hXs hbl hbA I.2.2.2.2.2.2.2.2.1 hn4 dL_law_2251 ?_
  refine lv_aload_n hx hb dL_law_2252 rfl (lv_at hl 0 rfl) ?_
  refine lv_iload hx hb dL_law_2253 (lv_at hl 4 rfl) ?_
  refine lv_iconst (v := 5) hx hb dL_law_2255 (by decide) ?_
  refine lv_iadd hx hb dL_law_2256 ?_
  refine va_sld hx hb hXs hbl hbA I.2.2.2.2.2.2.2.2.1 hn5 dL_law_2257 ?_
  have hI := I.2.2.2.2.2.2.1
  refine lm_i (As := [.int (xs (x4 + 1).toNatClampNeg), .int (xs (x4 + 2).toNatClampNeg), .int (xs (x4 + 3).toNatClampNeg), .int (xs (x4 + 4).toNatClampNeg), .int (xs (x4 + 5).toNatClampNeg)]) (rest := []) I ⟨hx, hb, hml, hown, hts⟩ (c_X10_copy l D cy mo a f g r q ((xs (x4 + 1).toNatClampNeg)) ((xs (x4 + 2).toNatClampNeg)) ((xs (x4 + 3).toNatClampNeg)) ((xs (x4 + 4).toNatClampNeg)) ((xs (x4 + 5).toNatClampNeg)) hDM hI) (cwV 5 hts gL_law_X10_copy rfl rfl rfl (by decide +kernel) ⟨Nat.le_of_ble_eq_true rfl, Nat.le_of_ble_eq_true rfl⟩) hK hAM rfl hl.1 rfl (Nat.le_of_ble_eq_true rfl) dL_law_2258 ⟨by omega, by omega⟩ (fun _ _ h9 => by obtain ⟨_, _, rfl, h9⟩ := h9; exact hI) (fun r2258 u H locs q2258 I => ?_)
  have ef : u.1 1 = f 1 := by obtain ⟨_, _, rfl, -⟩ := q2258; rfl
  have e2_ : u.2.2.1 2 = r 2 := by obtain ⟨_, _, rfl, -⟩ := q2258; rfl
  have e3_ : u.2.2.1 3 = r 3 := by obtain ⟨_, _, rfl, -⟩ := q2258; rfl
  have e4_ : u.2.2.1 4 = r 4 := by obtain ⟨_, _, rfl, -⟩ := q2258; rfl
  have e5_ : u.2.2.1 5 = r 5 := by obtain ⟨_, _, rfl, -⟩ := q2258; rfl
  have e6_ : u.2.2.1 6 = r 6 := by obtain ⟨_, _, rfl, -⟩ := q2258; rfl
  have e7_ : u.2.2.1 7 = r 7 := by obtain ⟨_, _, rfl, -⟩ := q2258; rfl
  have e8_ : u.2.2.1 8 = r 8 := by obtain ⟨_, _, rfl, -⟩ := q2258; rfl
  obtain ⟨f1, g1, r1, q1⟩ := u
  have ef : f1 1 = f 1 := ef
  have e2_ : r1 2 = r 2 := e2_
  have e3_ : r1 3 = r 3 := e3_
  have e4_ : r1 4 = r 4 := e4_
  have e5_ : r1 5 = r 5 := e5_
  have e6_ : r1 6 = r 6 := e6_
  have e7_ : r1 7 = r 7 := e7_
  have e8_ : r1 8 = r 8 := e8_
  have I : LI D cy s xo mo ou a M G1 W1 f1 g1 r1 q1 H locs := I
  refine lv_pop hx hb dL_law_2261 rfl ?_
  refine lv_goto (tgt := 2355) hx hb dL_law_2262 (by decide) ?_
  have hR1 : RlJ cy xo G1 W1 f1 r1 := hR.keep I0.2.2.1 I0.2.2.2.1 I0.2.2.2.2.1 hX rfl rfl rfl rfl ef e2_ e3_ e4_ e5_ e6_ e7_ e8_
  refine W.widen (k := C + 7) (n := S + 588) (by omega) (by omega) ?_
  exact kk _ _ _ _ _ _ _ _ _ I hR1 (lv_sub hl [0, 1, 2, 3, 4] rfl)
set_option maxHeartbeats 4000000 in
set_option maxRecDepth 100000 in
theorem lcase_33 {p : Program} {l : Launch} {e : Env} {s : State} {m : MethodId} {below : List Frame} {meth : Method} {c : Code} {b L : Nat} {xs : Nat → Int32} {D : va_G} {cy : Nat → ClassId} {xo mo ou : Nat} {a : Nat → Nat} {M : Option Nat} {G : cG} {W' : va_W} {f : Nat → Int32} {g : Nat → Int64} {r : Nat → Nat → Int32} {q : Nat → Nat → Int64} {H : Heap} {locs : List Loc} {ls : Array Slot} {Q : State → Prop} {C S : Nat} (X : LX p l s m c b L xs D cy mo a) (I : LI D cy s xo mo ou a M G W' f g r q H locs) (hR : RlJ cy xo G W' f r) {x4 : Int32} (h4 : 0 ≤ x4.toInt ∧ x4.toInt + 8 ≤ (L : Int) ∧ L ≤ 4096) (hC : C + 7 ≤ 601024) (hSl : S + 53273 ≤ 7293034) (hl : lv_has ls 8 [(0, .ref b), (1, .ref xo), (2, .ref mo), (3, .ref ou), (4, .int x4)]) (kk : ∀ (G : cG) (W' : va_W) (f : Nat → Int32) (g : Nat → Int64) (r : Nat → Nat → Int32) (q : Nat → Nat → Int64) (H : Heap) (locs : List Loc) (ls : Array Slot), LI D cy s xo mo ou a M G W' f g r q H locs → RlJ cy xo G W' f r → lv_has ls 8 [(0, .ref b), (1, .ref xo), (2, .ref mo), (3, .ref ou), (4, .int x4)] → W p l e room_1 s m #[Value.ref b] below meth c H locs (C + 7) (S + 588) Q (F0 m 2355 ls [])) : W p l e room_1 s m #[Value.ref b] below meth c H locs C S Q (F0 m 2265 ls []) := by
  obtain ⟨⟨hx, hb, hml, hown, hts⟩, ⟨hXs, hbl⟩, ⟨hK, hV, hZ, hXT⟩, hst, hDM, hAM⟩ := id X
  have I0 := I
  have hbA : ¬ AL s b := Nat.not_le.mpr hbl
  have hRc : room_1.cells = 601024 := rfl
  have hRs : room_1.slots = 7293034 := rfl
  have hn1 : vp_in (x4 + 1) L := l_in (c := 1) h4 rfl (by decide)
  have hn2 : vp_in (x4 + 2) L := l_in (c := 2) h4 rfl (by decide)
  have hn3 : vp_in (x4 + 3) L := l_in (c := 3) h4 rfl (by decide)
  have hn4 : vp_in (x4 + 4) L := l_in (c := 4) h4 rfl (by decide)
  have hn5 : vp_in (x4 + 5) L := l_in (c := 5) h4 rfl (by decide)
  have hn6 : vp_in (x4 + 6) L := l_in (c := 6) h4 rfl (by decide)
  have hn7 : vp_in (x4 + 7) L := l_in (c := 7) h4 rfl (by decide)
  refine lv_aload_n hx hb dL_law_2265 rfl (lv_at hl 1 rfl) ?_
  refine lv_aload_n hx hb dL_law_2266 rfl (lv_at hl 0 rfl) ?_
  refine lv_iload hx hb dL_law_2267 (lv_at hl 4 rfl) ?_
  refine lv_iconst (v := 1) hx hb dL_law_2269 (by decide) ?_
  refine lv_iadd hx hb dL_law_2270 ?_
  refine va_sld hx hb hXs hbl hbA I.2.2.2.2.2.2.2.2.1 hn1 dL_law_2271 ?_
  refine lv_aload_n hx hb dL_law_2272 rfl (lv_at hl 0 rfl) ?_
  refine lv_iload hx hb dL_law_2273 (lv_at hl 4 rfl) ?_
  refine lv_iconst (v := 2) hx hb dL_law_2275 (by decide) ?_
  refine lv_iadd hx hb dL_law_2276 ?_
  refine va_sld hx hb hXs hbl hbA I.2.2.2.2.2.2.2.2.1 hn2 dL_law_2277 ?_
  refine lk3_rl I (va_runV (g := F0 m 2278 ls ([.int (xs (x4 + 2).toNatClampNeg), .int (xs (x4 + 1).toNatClampNeg), .ref xo])) (As := [.int (xs (x4 + 1).toNatClampNeg), .int (xs (x4 + 2).toNatClampNeg)]) (rest := []) ⟨hx, hb, hml, hown, hts⟩ (c_X9_layer l D cy (AC s mo a) G W' xo ((xs (x4 + 1).toNatClampNeg)) ((xs (x4 + 2).toNatClampNeg)) I.2.2.1 I.2.2.2.1 I.2.2.2.2.1) (cwV 2 hts gL_law_X9_layer rfl rfl rfl (by decide +kernel) ⟨Nat.le_of_ble_eq_true rfl, Nat.le_of_ble_eq_true rfl⟩) (l_preV I hK hV) rfl rfl hl.1 rfl (lv_room (Nat.le_of_ble_eq_true rfl)) dL_law_2278 ⟨by omega, by omega⟩) (fun r2278 u H locs q2278 hX I => ?_)
  obtain ⟨G1, W1⟩ := u
  have I : LI D cy s xo mo ou a M G1 W1 f g r q H locs := I
  have hX : cX none (chs []) G W' G1 W1 := hX
  refine lv_pop2_2 hx hb dL_law_2281 rfl ?_
  refine lv_aload_n hx hb dL_law_2282 rfl (lv_at hl 2 rfl) ?_
  refine lv_aload_n hx hb dL_law_2283 rfl (lv_at hl 0 rfl) ?_
  refine lv_iload hx hb dL_law_2284 (lv_at hl 4 rfl) ?_
  refine lv_iconst (v := 1) hx hb dL_law_2286 (by decide) ?_
  refine lv_iadd hx hb dL_law_2287 ?_
  refine va_sld hx hb hXs hbl hbA I.2.2.2.2.2.2.2.2.1 hn1 dL_law_2288 ?_
  refine lv_aload_n hx hb dL_law_2289 rfl (lv_at hl 0 rfl) ?_
  refine lv_iload hx hb dL_law_2290 (lv_at hl 4 rfl) ?_
  refine lv_iconst (v := 2) hx hb dL_law_2292 (by decide) ?_
  refine lv_iadd hx hb dL_law_2293 ?_
  refine va_sld hx hb hXs hbl hbA I.2.2.2.2.2.2.2.2.1 hn2 dL_law_2294 ?_
  have hI := I.2.2.2.2.2.2.1
  refine lm_l (As := [.int (xs (x4 + 1).toNatClampNeg), .int (xs (x4 + 2).toNatClampNeg)]) (rest := []) I ⟨hx, hb, hml, hown, hts⟩ (c_X10_layer l D cy mo a f g r q ((xs (x4 + 1).toNatClampNeg)) ((xs (x4 + 2).toNatClampNeg)) hDM hI) (cwV 2 hts gL_law_X10_layer rfl rfl rfl (by decide +kernel) ⟨Nat.le_of_ble_eq_true rfl, Nat.le_of_ble_eq_true rfl⟩) hK hAM rfl hl.1 rfl (Nat.le_of_ble_eq_true rfl) dL_law_2295 ⟨by omega, by omega⟩ (fun _ _ h9 => by obtain ⟨rfl, h9⟩ := h9; exact hI) (fun r2295 u H locs q2295 I => ?_)
  have ef : u.1 1 = f 1 := by obtain ⟨rfl, -⟩ := q2295; rfl
  have e2_ : u.2.2.1 2 = r 2 := by obtain ⟨rfl, -⟩ := q2295; rfl
  have e3_ : u.2.2.1 3 = r 3 := by obtain ⟨rfl, -⟩ := q2295; rfl
  have e4_ : u.2.2.1 4 = r 4 := by obtain ⟨rfl, -⟩ := q2295; rfl
  have e5_ : u.2.2.1 5 = r 5 := by obtain ⟨rfl, -⟩ := q2295; rfl
  have e6_ : u.2.2.1 6 = r 6 := by obtain ⟨rfl, -⟩ := q2295; rfl
  have e7_ : u.2.2.1 7 = r 7 := by obtain ⟨rfl, -⟩ := q2295; rfl
  have e8_ : u.2.2.1 8 = r 8 := by obtain ⟨rfl, -⟩ := q2295; rfl
  obtain ⟨f1, g1, r1, q1⟩ := u
  have ef : f1 1 = f 1 := ef
  have e2_ : r1 2 = r 2 := e2_
  have e3_ : r1 3 = r 3 := e3_
  have e4_ : r1 4 = r 4 := e4_
  have e5_ : r1 5 = r 5 := e5_
  have e6_ : r1 6 = r 6 := e6_
  have e7_ : r1 7 = r 7 := e7_
  have e8_ : r1 8 = r 8 := e8_
  have I : LI D cy s xo mo ou a M G1 W1 f1 g1 r1 q1 H locs := I
  refine lv_pop2_2 hx hb dL_law_2298 rfl ?_
  refine lv_goto (tgt := 2355) hx hb dL_law_2299 (by decide) ?_
  have hR1 : RlJ cy xo G1 W1 f1 r1 := hR.keep I0.2.2.1 I0.2.2.2.1 I0.2.2.2.2.1 hX rfl rfl rfl rfl ef e2_ e3_ e4_ e5_ e6_ e7_ e8_
  refine W.widen (k := C + 7) (n := S + 588) (by omega) (by omega) ?_
  exact kk _ _ _ _ _ _ _ _ _ I hR1 (lv_sub hl [0, 1, 2, 3, 4] rfl)
set_option maxHeartbeats 4000000 in
set_option maxRecDepth 100000 in
theorem lcase_34 {p : Program} {l : Launch} {e : Env} {s : State} {m : MethodId} {below : List Frame} {meth : Method} {c : Code} {b L : Nat} {xs : Nat → Int32} {D : va_G} {cy : Nat → ClassId} {xo mo ou : Nat} {a : Nat → Nat} {M : Option Nat} {G : cG} {W' : va_W} {f : Nat → Int32} {g : Nat → Int64} {r : Nat → Nat → Int32} {q : Nat → Nat → Int64} {H : Heap} {locs : List Loc} {ls : Array Slot} {Q : State → Prop} {C S : Nat} (X : LX p l s m c b L xs D cy mo a) (I : LI D cy s xo mo ou a M G W' f g r q H locs) (hR : RlJ cy xo G W' f r) {x4 : Int32} (h4 : 0 ≤ x4.toInt ∧ x4.toInt + 8 ≤ (L : Int) ∧ L ≤ 4096) (hC : C + 7 ≤ 601024) (hSl : S + 53273 ≤ 7293034) (hl : lv_has ls 8 [(0, .ref b), (1, .ref xo), (2, .ref mo), (3, .ref ou), (4, .int x4)]) (kk : ∀ (G : cG) (W' : va_W) (f : Nat → Int32) (g : Nat → Int64) (r : Nat → Nat → Int32) (q : Nat → Nat → Int64) (H : Heap) (locs : List Loc) (ls : Array Slot), LI D cy s xo mo ou a M G W' f g r q H locs → RlJ cy xo G W' f r → lv_has ls 8 [(0, .ref b), (1, .ref xo), (2, .ref mo), (3, .ref ou), (4, .int x4)] → W p l e room_1 s m #[Value.ref b] below meth c H locs (C + 7) (S + 588) Q (F0 m 2355 ls [])) : W p l e room_1 s m #[Value.ref b] below meth c H locs C S Q (F0 m 2302 ls []) := by
  obtain ⟨⟨hx, hb, hml, hown, hts⟩, ⟨hXs, hbl⟩, ⟨hK, hV, hZ, hXT⟩, hst, hDM, hAM⟩ := id X
  have I0 := I
  have hbA : ¬ AL s b := Nat.not_le.mpr hbl
  have hRc : room_1.cells = 601024 := rfl
  have hRs : room_1.slots = 7293034 := rfl
  have hn1 : vp_in (x4 + 1) L := l_in (c := 1) h4 rfl (by decide)
  have hn2 : vp_in (x4 + 2) L := l_in (c := 2) h4 rfl (by decide)
  have hn3 : vp_in (x4 + 3) L := l_in (c := 3) h4 rfl (by decide)
  have hn4 : vp_in (x4 + 4) L := l_in (c := 4) h4 rfl (by decide)
  have hn5 : vp_in (x4 + 5) L := l_in (c := 5) h4 rfl (by decide)
  have hn6 : vp_in (x4 + 6) L := l_in (c := 6) h4 rfl (by decide)
  have hn7 : vp_in (x4 + 7) L := l_in (c := 7) h4 rfl (by decide)
  refine lv_aload_n hx hb dL_law_2302 rfl (lv_at hl 1 rfl) ?_
  refine lv_aload_n hx hb dL_law_2303 rfl (lv_at hl 0 rfl) ?_
  refine lv_iload hx hb dL_law_2304 (lv_at hl 4 rfl) ?_
  refine lv_iconst (v := 1) hx hb dL_law_2306 (by decide) ?_
  refine lv_iadd hx hb dL_law_2307 ?_
  refine va_sld hx hb hXs hbl hbA I.2.2.2.2.2.2.2.2.1 hn1 dL_law_2308 ?_
  refine lv_aload_n hx hb dL_law_2309 rfl (lv_at hl 3 rfl) ?_
  refine lk3_i I (vx_runSW (g := F0 m 2310 ls ([.ref ou, .int (xs (x4 + 1).toNatClampNeg), .ref xo])) (As := [.ref xo, .int (xs (x4 + 1).toNatClampNeg), .ref ou]) (rest := []) ⟨hx, hb, hml, hown, hts⟩ (c_L_weight l hst D cy (AC s mo a) G W' xo ((xs (x4 + 1).toNatClampNeg)) ou I.2.2.1 I.2.2.2.1 I.2.2.2.2.1 I.2.2.2.2.2.1) (vx_cwSW 3 hts gL_law_L_weight rfl rfl rfl (by decide +kernel) ⟨Nat.le_of_ble_eq_true rfl, Nat.le_of_ble_eq_true rfl⟩) (l_preS I hK hV hZ hXT) rfl rfl hl.1 rfl (lv_room (Nat.le_of_ble_eq_true rfl)) dL_law_2310 ⟨by omega, by omega⟩) rfl (fun r2310 u H locs q2310 hX I => ?_)
  obtain ⟨G1, W1⟩ := u
  have I : LI D cy s xo mo ou a M G1 W1 f g r q H locs := I
  have hX : cX none (chs [1]) G W' G1 W1 := hX
  refine lv_istore (lv' := [(5, .int r2310), (0, .ref b), (1, .ref xo), (2, .ref mo), (3, .ref ou), (4, .int x4)]) hx hb dL_law_2313 hl (by decide) rfl (fun ls hl => ?_)
  refine lv_aload_n hx hb dL_law_2315 rfl (lv_at hl 3 rfl) ?_
  refine lv_aload_n hx hb dL_law_2316 rfl (lv_at hl 1 rfl) ?_
  refine lv_iload hx hb dL_law_2317 (lv_at hl 5 rfl) ?_
  refine lv_iconst (v := 1) hx hb dL_law_2319 (by decide) ?_
  refine lv_iadd hx hb dL_law_2320 ?_
  refine va_sld hx hb hXs hbl hbA I.2.2.2.2.2.2.2.2.1 hn1 dL_law_2321 ?_
  have hI := I.2.2.2.2.2.2.1
  refine lm_i (As := [.int (xs (x4 + 1).toNatClampNeg)]) (rest := []) I ⟨hx, hb, hml, hown, hts⟩ (c_X10_weight l D cy mo a f g r q ((xs (x4 + 1).toNatClampNeg)) hDM) (cwV 1 hts gL_law_X10_weight rfl rfl rfl (by decide +kernel) ⟨Nat.le_of_ble_eq_true rfl, Nat.le_of_ble_eq_true rfl⟩) hK hAM rfl hl.1 rfl (Nat.le_of_ble_eq_true rfl) dL_law_2322 ⟨by omega, by omega⟩ (fun _ _ h9 => by obtain ⟨_, rfl, h9⟩ := h9; exact hI) (fun r2322 u H locs q2322 I => ?_)
  have ef : u.1 1 = f 1 := by obtain ⟨_, rfl, -⟩ := q2322; rfl
  have e2_ : u.2.2.1 2 = r 2 := by obtain ⟨_, rfl, -⟩ := q2322; rfl
  have e3_ : u.2.2.1 3 = r 3 := by obtain ⟨_, rfl, -⟩ := q2322; rfl
  have e4_ : u.2.2.1 4 = r 4 := by obtain ⟨_, rfl, -⟩ := q2322; rfl
  have e5_ : u.2.2.1 5 = r 5 := by obtain ⟨_, rfl, -⟩ := q2322; rfl
  have e6_ : u.2.2.1 6 = r 6 := by obtain ⟨_, rfl, -⟩ := q2322; rfl
  have e7_ : u.2.2.1 7 = r 7 := by obtain ⟨_, rfl, -⟩ := q2322; rfl
  have e8_ : u.2.2.1 8 = r 8 := by obtain ⟨_, rfl, -⟩ := q2322; rfl
  obtain ⟨f1, g1, r1, q1⟩ := u
  have ef : f1 1 = f 1 := ef
  have e2_ : r1 2 = r 2 := e2_
  have e3_ : r1 3 = r 3 := e3_
  have e4_ : r1 4 = r 4 := e4_
  have e5_ : r1 5 = r 5 := e5_
  have e6_ : r1 6 = r 6 := e6_
  have e7_ : r1 7 = r 7 := e7_
  have e8_ : r1 8 = r 8 := e8_
  have I : LI D cy s xo mo ou a M G1 W1 f1 g1 r1 q1 H locs := I
  refine lv_istore (lv' := [(6, .int r2322), (5, .int r2310), (0, .ref b), (1, .ref xo), (2, .ref mo), (3, .ref ou), (4, .int x4)]) hx hb dL_law_2325 hl (by decide) rfl (fun ls hl => ?_)
  refine lv_goto (tgt := 2355) hx hb dL_law_2327 (by decide) ?_
  have hR1 : RlJ cy xo G1 W1 f1 r1 := hR.keep I0.2.2.1 I0.2.2.2.1 I0.2.2.2.2.1 hX rfl rfl rfl rfl ef e2_ e3_ e4_ e5_ e6_ e7_ e8_
  refine W.widen (k := C + 7) (n := S + 588) (by omega) (by omega) ?_
  exact kk _ _ _ _ _ _ _ _ _ I hR1 (lv_sub hl [2, 3, 4, 5, 6] rfl)
set_option maxHeartbeats 4000000 in
set_option maxRecDepth 100000 in
theorem lcase_35 {p : Program} {l : Launch} {e : Env} {s : State} {m : MethodId} {below : List Frame} {meth : Method} {c : Code} {b L : Nat} {xs : Nat → Int32} {D : va_G} {cy : Nat → ClassId} {xo mo ou : Nat} {a : Nat → Nat} {M : Option Nat} {G : cG} {W' : va_W} {f : Nat → Int32} {g : Nat → Int64} {r : Nat → Nat → Int32} {q : Nat → Nat → Int64} {H : Heap} {locs : List Loc} {ls : Array Slot} {Q : State → Prop} {C S : Nat} (X : LX p l s m c b L xs D cy mo a) (I : LI D cy s xo mo ou a M G W' f g r q H locs) (hR : RlJ cy xo G W' f r) {x4 : Int32} (h4 : 0 ≤ x4.toInt ∧ x4.toInt + 8 ≤ (L : Int) ∧ L ≤ 4096) (hC : C + 7 ≤ 601024) (hSl : S + 53273 ≤ 7293034) (hl : lv_has ls 8 [(0, .ref b), (1, .ref xo), (2, .ref mo), (3, .ref ou), (4, .int x4)]) (kk : ∀ (G : cG) (W' : va_W) (f : Nat → Int32) (g : Nat → Int64) (r : Nat → Nat → Int32) (q : Nat → Nat → Int64) (H : Heap) (locs : List Loc) (ls : Array Slot), LI D cy s xo mo ou a M G W' f g r q H locs → RlJ cy xo G W' f r → lv_has ls 8 [(0, .ref b), (1, .ref xo), (2, .ref mo), (3, .ref ou), (4, .int x4)] → W p l e room_1 s m #[Value.ref b] below meth c H locs (C + 7) (S + 588) Q (F0 m 2355 ls [])) : W p l e room_1 s m #[Value.ref b] below meth c H locs C S Q (F0 m 2330 ls []) := by
  obtain ⟨⟨hx, hb, hml, hown, hts⟩, ⟨hXs, hbl⟩, ⟨hK, hV, hZ, hXT⟩, hst, hDM, hAM⟩ := id X
  have I0 := I
  have hbA : ¬ AL s b := Nat.not_le.mpr hbl
  have hRc : room_1.cells = 601024 := rfl
  have hRs : room_1.slots = 7293034 := rfl
  have hn1 : vp_in (x4 + 1) L := l_in (c := 1) h4 rfl (by decide)
  have hn2 : vp_in (x4 + 2) L := l_in (c := 2) h4 rfl (by decide)
  have hn3 : vp_in (x4 + 3) L := l_in (c := 3) h4 rfl (by decide)
  have hn4 : vp_in (x4 + 4) L := l_in (c := 4) h4 rfl (by decide)
  have hn5 : vp_in (x4 + 5) L := l_in (c := 5) h4 rfl (by decide)
  have hn6 : vp_in (x4 + 6) L := l_in (c := 6) h4 rfl (by decide)
  have hn7 : vp_in (x4 + 7) L := l_in (c := 7) h4 rfl (by decide)
  refine lv_aload_n hx hb dL_law_2330 rfl (lv_at hl 1 rfl) ?_
  refine lv_aload_n hx hb dL_law_2331 rfl (lv_at hl 0 rfl) ?_
  refine lv_iload hx hb dL_law_2332 (lv_at hl 4 rfl) ?_
  refine lv_iconst (v := 1) hx hb dL_law_2334 (by decide) ?_
  refine lv_iadd hx hb dL_law_2335 ?_
  refine va_sld hx hb hXs hbl hbA I.2.2.2.2.2.2.2.2.1 hn1 dL_law_2336 ?_
  refine lk3_ri I (va_runV (g := F0 m 2337 ls ([.int (xs (x4 + 1).toNatClampNeg), .ref xo])) (As := [.int (xs (x4 + 1).toNatClampNeg)]) (rest := []) ⟨hx, hb, hml, hown, hts⟩ (c_X9_toss l hst D cy (AC s mo a) G W' xo ((xs (x4 + 1).toNatClampNeg)) I.2.2.1 I.2.2.2.1 I.2.2.2.2.1) (cwV 1 hts gL_law_X9_toss rfl rfl rfl (by decide +kernel) ⟨Nat.le_of_ble_eq_true rfl, Nat.le_of_ble_eq_true rfl⟩) (l_preX I hK hV hZ hXT) rfl rfl hl.1 rfl (lv_room (Nat.le_of_ble_eq_true rfl)) dL_law_2337 ⟨by omega, by omega⟩) (fun r2337 u H locs q2337 hX I => ?_)
  obtain ⟨G1, W1⟩ := u
  have I : LI D cy s xo mo ou a M G1 W1 f g r q H locs := I
  have hX : cX none (chs []) G W' G1 W1 := hX
  refine lv_pop hx hb dL_law_2340 rfl ?_
  refine lv_aload_n hx hb dL_law_2341 rfl (lv_at hl 2 rfl) ?_
  refine lv_aload_n hx hb dL_law_2342 rfl (lv_at hl 0 rfl) ?_
  refine lv_iload hx hb dL_law_2343 (lv_at hl 4 rfl) ?_
  refine lv_iconst (v := 1) hx hb dL_law_2345 (by decide) ?_
  refine lv_iadd hx hb dL_law_2346 ?_
  refine va_sld hx hb hXs hbl hbA I.2.2.2.2.2.2.2.2.1 hn1 dL_law_2347 ?_
  have hI := I.2.2.2.2.2.2.1
  refine lm_i (As := [.int (xs (x4 + 1).toNatClampNeg)]) (rest := []) I ⟨hx, hb, hml, hown, hts⟩ (c_X10_toss l D cy mo a f g r q ((xs (x4 + 1).toNatClampNeg)) hDM) (cwV 1 hts gL_law_X10_toss rfl rfl rfl (by decide +kernel) ⟨Nat.le_of_ble_eq_true rfl, Nat.le_of_ble_eq_true rfl⟩) hK hAM rfl hl.1 rfl (Nat.le_of_ble_eq_true rfl) dL_law_2348 ⟨by omega, by omega⟩ (fun _ _ h9 => by obtain ⟨rfl, h9⟩ := h9; exact hI) (fun r2348 u H locs q2348 I => ?_)
  have ef : u.1 1 = f 1 := by obtain ⟨rfl, -⟩ := q2348; rfl
  have e2_ : u.2.2.1 2 = r 2 := by obtain ⟨rfl, -⟩ := q2348; rfl
  have e3_ : u.2.2.1 3 = r 3 := by obtain ⟨rfl, -⟩ := q2348; rfl
  have e4_ : u.2.2.1 4 = r 4 := by obtain ⟨rfl, -⟩ := q2348; rfl
  have e5_ : u.2.2.1 5 = r 5 := by obtain ⟨rfl, -⟩ := q2348; rfl
  have e6_ : u.2.2.1 6 = r 6 := by obtain ⟨rfl, -⟩ := q2348; rfl
  have e7_ : u.2.2.1 7 = r 7 := by obtain ⟨rfl, -⟩ := q2348; rfl
  have e8_ : u.2.2.1 8 = r 8 := by obtain ⟨rfl, -⟩ := q2348; rfl
  obtain ⟨f1, g1, r1, q1⟩ := u
  have ef : f1 1 = f 1 := ef
  have e2_ : r1 2 = r 2 := e2_
  have e3_ : r1 3 = r 3 := e3_
  have e4_ : r1 4 = r 4 := e4_
  have e5_ : r1 5 = r 5 := e5_
  have e6_ : r1 6 = r 6 := e6_
  have e7_ : r1 7 = r 7 := e7_
  have e8_ : r1 8 = r 8 := e8_
  have I : LI D cy s xo mo ou a M G1 W1 f1 g1 r1 q1 H locs := I
  refine lv_pop hx hb dL_law_2351 rfl ?_
  refine lv_goto (tgt := 2355) hx hb dL_law_2352 (by decide) ?_
  have hR1 : RlJ cy xo G1 W1 f1 r1 := hR.keep I0.2.2.1 I0.2.2.2.1 I0.2.2.2.2.1 hX rfl rfl rfl rfl ef e2_ e3_ e4_ e5_ e6_ e7_ e8_
  refine W.widen (k := C + 7) (n := S + 588) (by omega) (by omega) ?_
  exact kk _ _ _ _ _ _ _ _ _ I hR1 (lv_sub hl [0, 1, 2, 3, 4] rfl)
