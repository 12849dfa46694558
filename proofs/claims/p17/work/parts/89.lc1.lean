set_option maxHeartbeats 4000000 in
set_option maxRecDepth 100000 in
theorem lcase_18 {p : Program} {l : Launch} {e : Env} {s : State} {m : MethodId} {below : List Frame} {meth : Method} {c : Code} {b L : Nat} {xs : Nat → Int32} {D : va_G} {cy : Nat → ClassId} {xo mo ou : Nat} {a : Nat → Nat} {M : Option Nat} {G : cG} {W' : va_W} {f : Nat → Int32} {g : Nat → Int64} {r : Nat → Nat → Int32} {q : Nat → Nat → Int64} {H : Heap} {locs : List Loc} {ls : Array Slot} {Q : State → Prop} {C S : Nat} (X : LX p l s m c b L xs D cy mo a) (I : LI D cy s xo mo ou a M G W' f g r q H locs) (hR : RlJ cy xo G W' f r) {x4 : Int32} (h4 : 0 ≤ x4.toInt ∧ x4.toInt + 8 ≤ (L : Int) ∧ L ≤ 4096) (hC : C + 7 ≤ 601024) (hSl : S + 53273 ≤ 7293034) (hl : lv_has ls 8 [(0, .ref b), (1, .ref xo), (2, .ref mo), (3, .ref ou), (4, .int x4)]) (kk : ∀ (G : cG) (W' : va_W) (f : Nat → Int32) (g : Nat → Int64) (r : Nat → Nat → Int32) (q : Nat → Nat → Int64) (H : Heap) (locs : List Loc) (ls : Array Slot), LI D cy s xo mo ou a M G W' f g r q H locs → RlJ cy xo G W' f r → lv_has ls 8 [(0, .ref b), (1, .ref xo), (2, .ref mo), (3, .ref ou), (4, .int x4)] → W p l e room_1 s m #[Value.ref b] below meth c H locs (C + 7) (S + 588) Q (F0 m 2354 ls [])) (kk2 : M = none → ∀ x9 : Nat, ∀ (G : cG) (W' : va_W) (f : Nat → Int32) (g : Nat → Int64) (r : Nat → Nat → Int32) (q : Nat → Nat → Int64) (H : Heap) (locs : List Loc) (ls : Array Slot), LI D cy s xo mo ou a (some x9) G W' f g r q H locs → RlJ cy xo G W' f r → lv_has ls 8 [(0, .ref b), (1, .ref xo), (2, .ref mo), (3, .ref ou), (4, .int x4)] → W p l e room_1 s m #[Value.ref b] below meth c H locs (C + 7) (S + 53273) Q (F0 m 2354 ls [])) : W p l e room_1 s m #[Value.ref b] below meth c H locs C S Q (F0 m 1201 ls []) := by
  obtain ⟨⟨hx, hb, hml, hown, hts⟩, ⟨hXs, hbl⟩, ⟨hK, hV, hZ, hXT⟩, hst, hDM, hAM⟩ := id X
  have I0 := I
  have hbA : ¬ AL s b := Nat.not_le.mpr hbl
  have hRc : room_1.cells = 601024 := rfl
  have hRs : room_1.slots = 7293034 := rfl
  have hn1 : vp_in (x4 + 1) L := l_in (c := 1) h4 rfl (by decide)
  have hn2 : vp_in (x4 + 2) L := l_in (c := 2) h4 rfl (by decide)
  have hn3 : vp_in (x4 + 3) L := l_in (c := 3) h4 rfl (by decide)
  have hn4 : vp_in (x4 + 4) L := l_in (c := 4) h4 rfl (by decide)
  have hn5 : vp_in (x4 + 5) L := l_in (c := 5) h4 rfl (by decide)
  have hn6 : vp_in (x4 + 6) L := l_in (c := 6) h4 rfl (by decide)
  have hn7 : vp_in (x4 + 7) L := l_in (c := 7) h4 rfl (by decide)
  refine lv_aload_n hx hb dL_law_1201 rfl (lv_at hl 1 rfl) ?_
  refine lv_aload_n hx hb dL_law_1202 rfl (lv_at hl 0 rfl) ?_
  refine lv_iload hx hb dL_law_1203 (lv_at hl 4 rfl) ?_
  refine lv_iconst (v := 1) hx hb dL_law_1205 (by decide) ?_
  refine lv_iadd hx hb dL_law_1206 ?_
  refine va_sld hx hb hXs hbl hbA I.2.2.2.2.2.2.2.2.1 hn1 dL_law_1207 ?_
  refine lv_aload_n hx hb dL_law_1208 rfl (lv_at hl 0 rfl) ?_
  refine lv_iload hx hb dL_law_1209 (lv_at hl 4 rfl) ?_
  refine lv_iconst (v := 2) hx hb dL_law_1211 (by decide) ?_
  refine lv_iadd hx hb dL_law_1212 ?_
  refine va_sld hx hb hXs hbl hbA I.2.2.2.2.2.2.2.2.1 hn2 dL_law_1213 ?_
  refine lv_aload_n hx hb dL_law_1214 rfl (lv_at hl 0 rfl) ?_
  refine lv_iload hx hb dL_law_1215 (lv_at hl 4 rfl) ?_
  refine lv_iconst (v := 3) hx hb dL_law_1217 (by decide) ?_
  refine lv_iadd hx hb dL_law_1218 ?_
  refine va_sld hx hb hXs hbl hbA I.2.2.2.2.2.2.2.2.1 hn3 dL_law_1219 ?_
  refine lv_i2l (v := ((xs (x4 + 3).toNatClampNeg)).toInt64) hx hb dL_law_1220 rfl ?_
  refine lv_bipush (v := 32) hx hb dL_law_1221 (by decide) ?_
  refine lv_lshl (v := (((xs (x4 + 3).toNatClampNeg)).toInt64) <<< ((32 : Int32).toInt64 &&& 63)) hx hb dL_law_1223 rfl ?_
  refine lv_aload_n hx hb dL_law_1224 rfl (lv_at hl 0 rfl) ?_
  refine lv_iload hx hb dL_law_1225 (lv_at hl 4 rfl) ?_
  refine lv_iconst (v := 4) hx hb dL_law_1227 (by decide) ?_
  refine lv_iadd hx hb dL_law_1228 ?_
  refine va_sld hx hb hXs hbl hbA I.2.2.2.2.2.2.2.2.1 hn4 dL_law_1229 ?_
  refine lv_i2l (v := ((xs (x4 + 4).toNatClampNeg)).toInt64) hx hb dL_law_1230 rfl ?_
  refine lv_ldc2 hx hb hown (hts (.constantLong RL 45 (4294967295)) (by decide +kernel)) dL_law_1231 ?_
  refine lv_land hx hb dL_law_1234 ?_
  refine lv_topl (fun v1234 e1234 => ?_)
  refine lv_lor hx hb dL_law_1235 ?_
  refine lv_topl (fun v1235 e1235 => ?_)
  refine lv_aload_n hx hb dL_law_1236 rfl (lv_at hl 0 rfl) ?_
  refine lv_iload hx hb dL_law_1237 (lv_at hl 4 rfl) ?_
  refine lv_iconst (v := 5) hx hb dL_law_1239 (by decide) ?_
  refine lv_iadd hx hb dL_law_1240 ?_
  refine va_sld hx hb hXs hbl hbA I.2.2.2.2.2.2.2.2.1 hn5 dL_law_1241 ?_
  refine lv_i2l (v := ((xs (x4 + 5).toNatClampNeg)).toInt64) hx hb dL_law_1242 rfl ?_
  refine lv_bipush (v := 32) hx hb dL_law_1243 (by decide) ?_
  refine lv_lshl (v := (((xs (x4 + 5).toNatClampNeg)).toInt64) <<< ((32 : Int32).toInt64 &&& 63)) hx hb dL_law_1245 rfl ?_
  refine lv_aload_n hx hb dL_law_1246 rfl (lv_at hl 0 rfl) ?_
  refine lv_iload hx hb dL_law_1247 (lv_at hl 4 rfl) ?_
  refine lv_bipush (v := 6) hx hb dL_law_1249 (by decide) ?_
  refine lv_iadd hx hb dL_law_1251 ?_
  refine va_sld hx hb hXs hbl hbA I.2.2.2.2.2.2.2.2.1 hn6 dL_law_1252 ?_
  refine lv_i2l (v := ((xs (x4 + 6).toNatClampNeg)).toInt64) hx hb dL_law_1253 rfl ?_
  refine lv_ldc2 hx hb hown (hts (.constantLong RL 45 (4294967295)) (by decide +kernel)) dL_law_1254 ?_
  refine lv_land hx hb dL_law_1257 ?_
  refine lv_topl (fun v1257 e1257 => ?_)
  refine lv_lor hx hb dL_law_1258 ?_
  refine lv_topl (fun v1258 e1258 => ?_)
  obtain ⟨bs, js, sh, wk, ll, jc, lc, lb, hM⟩ := I.2.2.2.2.2.2.2.1
  obtain ⟨hjc, fa, J, hfa, hJ⟩ := hR.at I.2.2.1 hM
  subst hjc
  refine l_callV (mc := 7) (ms := 53273) (As := [.int (xs (x4 + 1).toNatClampNeg), .int (xs (x4 + 2).toNatClampNeg), .long v1235, .long v1258]) (rest := []) ⟨hx, hb, hml, hown, hts⟩ (c_X9_far l D cy (AC s mo a) G W' xo ((xs (x4 + 1).toNatClampNeg)) ((xs (x4 + 2).toNatClampNeg)) v1235 v1258 I.2.2.1 I.2.2.2.1 I.2.2.2.2.1 hM) (cwV 4 hts gL_law_X9_far rfl rfl rfl (by decide +kernel) ⟨Nat.le_of_ble_eq_true rfl, Nat.le_of_ble_eq_true rfl⟩) (l_preV I hK hV) rfl hl.1 rfl (Nat.le_of_ble_eq_true rfl) dL_law_1259 ⟨by omega, by omega⟩ I.2.2.2.2.2.2.2.2.1 (fun _ h9 => h9.1) (fun k9 n9 r1259 u H1 locs1 q1259 hP9 hD9 hT9 hz9 hk9 hS9 => ?_)
  obtain ⟨hX9, q1259⟩ := q1259
  rcases q1259 with ⟨rfl, rfl, hM9⟩ | ⟨rfl, rfl, hM0, x9, hM9⟩
  · skip
    have I : LI D cy s xo mo ou a M u.1 u.2 f g r q H1 locs1 := I.cla hP9 hD9 hT9 hX9.1 ⟨_, _, _, _, _, _, _, lb, hM9⟩ hz9 hk9 hS9
    obtain ⟨G1, W1⟩ := u
    have I : LI D cy s xo mo ou a M G1 W1 f g r q H1 locs1 := I
    refine lv_pop hx hb dL_law_1262 rfl ?_
    refine lv_aload_n hx hb dL_law_1263 rfl (lv_at hl 2 rfl) ?_
    refine lv_aload_n hx hb dL_law_1264 rfl (lv_at hl 0 rfl) ?_
    refine lv_iload hx hb dL_law_1265 (lv_at hl 4 rfl) ?_
    refine lv_iconst (v := 1) hx hb dL_law_1267 (by decide) ?_
    refine lv_iadd hx hb dL_law_1268 ?_
    refine va_sld hx hb hXs hbl hbA I.2.2.2.2.2.2.2.2.1 hn1 dL_law_1269 ?_
    refine lv_aload_n hx hb dL_law_1270 rfl (lv_at hl 0 rfl) ?_
    refine lv_iload hx hb dL_law_1271 (lv_at hl 4 rfl) ?_
    refine lv_iconst (v := 2) hx hb dL_law_1273 (by decide) ?_
    refine lv_iadd hx hb dL_law_1274 ?_
    refine va_sld hx hb hXs hbl hbA I.2.2.2.2.2.2.2.2.1 hn2 dL_law_1275 ?_
    refine lv_aload_n hx hb dL_law_1276 rfl (lv_at hl 0 rfl) ?_
    refine lv_iload hx hb dL_law_1277 (lv_at hl 4 rfl) ?_
    refine lv_iconst (v := 3) hx hb dL_law_1279 (by decide) ?_
    refine lv_iadd hx hb dL_law_1280 ?_
    refine va_sld hx hb hXs hbl hbA I.2.2.2.2.2.2.2.2.1 hn3 dL_law_1281 ?_
    refine lv_i2l (v := ((xs (x4 + 3).toNatClampNeg)).toInt64) hx hb dL_law_1282 rfl ?_
    refine lv_bipush (v := 32) hx hb dL_law_1283 (by decide) ?_
    refine lv_lshl (v := (((xs (x4 + 3).toNatClampNeg)).toInt64) <<< ((32 : Int32).toInt64 &&& 63)) hx hb dL_law_1285 rfl ?_
    refine lv_aload_n hx hb dL_law_1286 rfl (lv_at hl 0 rfl) ?_
    refine lv_iload hx hb dL_law_1287 (lv_at hl 4 rfl) ?_
    refine lv_iconst (v := 4) hx hb dL_law_1289 (by decide) ?_
    refine lv_iadd hx hb dL_law_1290 ?_
    refine va_sld hx hb hXs hbl hbA I.2.2.2.2.2.2.2.2.1 hn4 dL_law_1291 ?_
    refine lv_i2l (v := ((xs (x4 + 4).toNatClampNeg)).toInt64) hx hb dL_law_1292 rfl ?_
    refine lv_ldc2 hx hb hown (hts (.constantLong RL 45 (4294967295)) (by decide +kernel)) dL_law_1293 ?_
    refine lv_land hx hb dL_law_1296 ?_
    refine lv_topl (fun v1296 e1296 => ?_)
    refine lv_lor hx hb dL_law_1297 ?_
    refine lv_topl (fun v1297 e1297 => ?_)
    refine lv_aload_n hx hb dL_law_1298 rfl (lv_at hl 0 rfl) ?_
    refine lv_iload hx hb dL_law_1299 (lv_at hl 4 rfl) ?_
    refine lv_iconst (v := 5) hx hb dL_law_1301 (by decide) ?_
    refine lv_iadd hx hb dL_law_1302 ?_
    refine va_sld hx hb hXs hbl hbA I.2.2.2.2.2.2.2.2.1 hn5 dL_law_1303 ?_
    refine lv_i2l (v := ((xs (x4 + 5).toNatClampNeg)).toInt64) hx hb dL_law_1304 rfl ?_
    refine lv_bipush (v := 32) hx hb dL_law_1305 (by decide) ?_
    refine lv_lshl (v := (((xs (x4 + 5).toNatClampNeg)).toInt64) <<< ((32 : Int32).toInt64 &&& 63)) hx hb dL_law_1307 rfl ?_
    refine lv_aload_n hx hb dL_law_1308 rfl (lv_at hl 0 rfl) ?_
    refine lv_iload hx hb dL_law_1309 (lv_at hl 4 rfl) ?_
    refine lv_bipush (v := 6) hx hb dL_law_1311 (by decide) ?_
    refine lv_iadd hx hb dL_law_1313 ?_
    refine va_sld hx hb hXs hbl hbA I.2.2.2.2.2.2.2.2.1 hn6 dL_law_1314 ?_
    refine lv_i2l (v := ((xs (x4 + 6).toNatClampNeg)).toInt64) hx hb dL_law_1315 rfl ?_
    refine lv_ldc2 hx hb hown (hts (.constantLong RL 45 (4294967295)) (by decide +kernel)) dL_law_1316 ?_
    refine lv_land hx hb dL_law_1319 ?_
    refine lv_topl (fun v1319 e1319 => ?_)
    refine lv_lor hx hb dL_law_1320 ?_
    refine lv_topl (fun v1320 e1320 => ?_)
    have hI := I.2.2.2.2.2.2.1
    refine lm_i (As := [.int (xs (x4 + 1).toNatClampNeg), .int (xs (x4 + 2).toNatClampNeg), .long v1297, .long v1320]) (rest := []) I ⟨hx, hb, hml, hown, hts⟩ (c_X10_far l D cy mo a f g r q ((xs (x4 + 1).toNatClampNeg)) ((xs (x4 + 2).toNatClampNeg)) v1297 v1320 hDM) (cwV 4 hts gL_law_X10_far rfl rfl rfl (by decide +kernel) ⟨Nat.le_of_ble_eq_true rfl, Nat.le_of_ble_eq_true rfl⟩) hK hAM rfl hl.1 rfl (Nat.le_of_ble_eq_true rfl) dL_law_1321 ⟨by omega, by omega⟩ (fun _ _ h9 => by obtain ⟨_, _, _, _, rfl, h9⟩ := h9; exact hI) (fun r1321 u H locs q1321 I => ?_)
    have ef : u.1 1 = f 1 := by obtain ⟨_, _, _, _, rfl, -⟩ := q1321; rfl
    have e2_ : u.2.2.1 2 = r 2 := by obtain ⟨_, _, _, _, rfl, -⟩ := q1321; rfl
    have e3_ : u.2.2.1 3 = r 3 := by obtain ⟨_, _, _, _, rfl, -⟩ := q1321; rfl
    have e4_ : u.2.2.1 4 = r 4 := by obtain ⟨_, _, _, _, rfl, -⟩ := q1321; rfl
    have e5_ : u.2.2.1 5 = r 5 := by obtain ⟨_, _, _, _, rfl, -⟩ := q1321; rfl
    have e6_ : u.2.2.1 6 = r 6 := by obtain ⟨_, _, _, _, rfl, -⟩ := q1321; rfl
    have e7_ : u.2.2.1 7 = r 7 := by obtain ⟨_, _, _, _, rfl, -⟩ := q1321; rfl
    have e8_ : u.2.2.1 8 = r 8 := by obtain ⟨_, _, _, _, rfl, -⟩ := q1321; rfl
    obtain ⟨f1, g1, r1, q1⟩ := u
    have ef : f1 1 = f 1 := ef
    have e2_ : r1 2 = r 2 := e2_
    have e3_ : r1 3 = r 3 := e3_
    have e4_ : r1 4 = r 4 := e4_
    have e5_ : r1 5 = r 5 := e5_
    have e6_ : r1 6 = r 6 := e6_
    have e7_ : r1 7 = r 7 := e7_
    have e8_ : r1 8 = r 8 := e8_
    have I : LI D cy s xo mo ou a M G1 W1 f1 g1 r1 q1 H locs := I
    refine lv_pop hx hb dL_law_1324 rfl ?_
    refine lv_goto (tgt := 2354) hx hb dL_law_1325 (by decide) ?_
    have hR1 : RlJ cy xo G1 W1 f1 r1 := hR.shp I0.2.2.1 I0.2.2.2.1 I0.2.2.2.2.1 hX9 rfl rfl rfl hM (mo1 := M) hM9 ef e2_ e3_ e4_ e5_ e6_ e7_ e8_
    refine W.widen (k := C + 7) (n := S + 588) (by omega) (by omega) ?_
    exact kk _ _ _ _ _ _ _ _ _ I hR1 (lv_sub hl [0, 1, 2, 3, 4] rfl)
  · skip
    have I : LI D cy s xo mo ou a (some x9) u.1 u.2 f g r q H1 locs1 := I.cla hP9 hD9 hT9 hX9.1 ⟨_, _, _, _, _, _, _, lb, hM9⟩ hz9 hk9 hS9
    obtain ⟨G1, W1⟩ := u
    have I : LI D cy s xo mo ou a (some x9) G1 W1 f g r q H1 locs1 := I
    refine lv_pop hx hb dL_law_1262 rfl ?_
    refine lv_aload_n hx hb dL_law_1263 rfl (lv_at hl 2 rfl) ?_
    refine lv_aload_n hx hb dL_law_1264 rfl (lv_at hl 0 rfl) ?_
    refine lv_iload hx hb dL_law_1265 (lv_at hl 4 rfl) ?_
    refine lv_iconst (v := 1) hx hb dL_law_1267 (by decide) ?_
    refine lv_iadd hx hb dL_law_1268 ?_
    refine va_sld hx hb hXs hbl hbA I.2.2.2.2.2.2.2.2.1 hn1 dL_law_1269 ?_
    refine lv_aload_n hx hb dL_law_1270 rfl (lv_at hl 0 rfl) ?_
    refine lv_iload hx hb dL_law_1271 (lv_at hl 4 rfl) ?_
    refine lv_iconst (v := 2) hx hb dL_law_1273 (by decide) ?_
    refine lv_iadd hx hb dL_law_1274 ?_
    refine va_sld hx hb hXs hbl hbA I.2.2.2.2.2.2.2.2.1 hn2 dL_law_1275 ?_
    refine lv_aload_n hx hb dL_law_1276 rfl (lv_at hl 0 rfl) ?_
    refine lv_iload hx hb dL_law_1277 (lv_at hl 4 rfl) ?_
    refine lv_iconst (v := 3) hx hb dL_law_1279 (by decide) ?_
    refine lv_iadd hx hb dL_law_1280 ?_
    refine va_sld hx hb hXs hbl hbA I.2.2.2.2.2.2.2.2.1 hn3 dL_law_1281 ?_
    refine lv_i2l (v := ((xs (x4 + 3).toNatClampNeg)).toInt64) hx hb dL_law_1282 rfl ?_
    refine lv_bipush (v := 32) hx hb dL_law_1283 (by decide) ?_
    refine lv_lshl (v := (((xs (x4 + 3).toNatClampNeg)).toInt64) <<< ((32 : Int32).toInt64 &&& 63)) hx hb dL_law_1285 rfl ?_
    refine lv_aload_n hx hb dL_law_1286 rfl (lv_at hl 0 rfl) ?_
    refine lv_iload hx hb dL_law_1287 (lv_at hl 4 rfl) ?_
    refine lv_iconst (v := 4) hx hb dL_law_1289 (by decide) ?_
    refine lv_iadd hx hb dL_law_1290 ?_
    refine va_sld hx hb hXs hbl hbA I.2.2.2.2.2.2.2.2.1 hn4 dL_law_1291 ?_
    refine lv_i2l (v := ((xs (x4 + 4).toNatClampNeg)).toInt64) hx hb dL_law_1292 rfl ?_
    refine lv_ldc2 hx hb hown (hts (.constantLong RL 45 (4294967295)) (by decide +kernel)) dL_law_1293 ?_
    refine lv_land hx hb dL_law_1296 ?_
    refine lv_topl (fun v1296 e1296 => ?_)
    refine lv_lor hx hb dL_law_1297 ?_
    refine lv_topl (fun v1297 e1297 => ?_)
    refine lv_aload_n hx hb dL_law_1298 rfl (lv_at hl 0 rfl) ?_
    refine lv_iload hx hb dL_law_1299 (lv_at hl 4 rfl) ?_
    refine lv_iconst (v := 5) hx hb dL_law_1301 (by decide) ?_
    refine lv_iadd hx hb dL_law_1302 ?_
    refine va_sld hx hb hXs hbl hbA I.2.2.2.2.2.2.2.2.1 hn5 dL_law_1303 ?_
    refine lv_i2l (v := ((xs (x4 + 5).toNatClampNeg)).toInt64) hx hb dL_law_1304 rfl ?_
    refine lv_bipush (v := 32) hx hb dL_law_1305 (by decide) ?_
    refine lv_lshl (v := (((xs (x4 + 5).toNatClampNeg)).toInt64) <<< ((32 : Int32).toInt64 &&& 63)) hx hb dL_law_1307 rfl ?_
    refine lv_aload_n hx hb dL_law_1308 rfl (lv_at hl 0 rfl) ?_
    refine lv_iload hx hb dL_law_1309 (lv_at hl 4 rfl) ?_
    refine lv_bipush (v := 6) hx hb dL_law_1311 (by decide) ?_
    refine lv_iadd hx hb dL_law_1313 ?_
    refine va_sld hx hb hXs hbl hbA I.2.2.2.2.2.2.2.2.1 hn6 dL_law_1314 ?_
    refine lv_i2l (v := ((xs (x4 + 6).toNatClampNeg)).toInt64) hx hb dL_law_1315 rfl ?_
    refine lv_ldc2 hx hb hown (hts (.constantLong RL 45 (4294967295)) (by decide +kernel)) dL_law_1316 ?_
    refine lv_land hx hb dL_law_1319 ?_
    refine lv_topl (fun v1319 e1319 => ?_)
    refine lv_lor hx hb dL_law_1320 ?_
    refine lv_topl (fun v1320 e1320 => ?_)
    have hI := I.2.2.2.2.2.2.1
    refine lm_i (As := [.int (xs (x4 + 1).toNatClampNeg), .int (xs (x4 + 2).toNatClampNeg), .long v1297, .long v1320]) (rest := []) I ⟨hx, hb, hml, hown, hts⟩ (c_X10_far l D cy mo a f g r q ((xs (x4 + 1).toNatClampNeg)) ((xs (x4 + 2).toNatClampNeg)) v1297 v1320 hDM) (cwV 4 hts gL_law_X10_far rfl rfl rfl (by decide +kernel) ⟨Nat.le_of_ble_eq_true rfl, Nat.le_of_ble_eq_true rfl⟩) hK hAM rfl hl.1 rfl (Nat.le_of_ble_eq_true rfl) dL_law_1321 ⟨by omega, by omega⟩ (fun _ _ h9 => by obtain ⟨_, _, _, _, rfl, h9⟩ := h9; exact hI) (fun r1321 u H locs q1321 I => ?_)
    have ef : u.1 1 = f 1 := by obtain ⟨_, _, _, _, rfl, -⟩ := q1321; rfl
    have e2_ : u.2.2.1 2 = r 2 := by obtain ⟨_, _, _, _, rfl, -⟩ := q1321; rfl
    have e3_ : u.2.2.1 3 = r 3 := by obtain ⟨_, _, _, _, rfl, -⟩ := q1321; rfl
    have e4_ : u.2.2.1 4 = r 4 := by obtain ⟨_, _, _, _, rfl, -⟩ := q1321; rfl
    have e5_ : u.2.2.1 5 = r 5 := by obtain ⟨_, _, _, _, rfl, -⟩ := q1321; rfl
    have e6_ : u.2.2.1 6 = r 6 := by obtain ⟨_, _, _, _, rfl, -⟩ := q1321; rfl
    have e7_ : u.2.2.1 7 = r 7 := by obtain ⟨_, _, _, _, rfl, -⟩ := q1321; rfl
    have e8_ : u.2.2.1 8 = r 8 := by obtain ⟨_, _, _, _, rfl, -⟩ := q1321; rfl
    obtain ⟨f1, g1, r1, q1⟩ := u
    have ef : f1 1 = f 1 := ef
    have e2_ : r1 2 = r 2 := e2_
    have e3_ : r1 3 = r 3 := e3_
    have e4_ : r1 4 = r 4 := e4_
    have e5_ : r1 5 = r 5 := e5_
    have e6_ : r1 6 = r 6 := e6_
    have e7_ : r1 7 = r 7 := e7_
    have e8_ : r1 8 = r 8 := e8_
    have I : LI D cy s xo mo ou a (some x9) G1 W1 f1 g1 r1 q1 H locs := I
    refine lv_pop hx hb dL_law_1324 rfl ?_
    refine lv_goto (tgt := 2354) hx hb dL_law_1325 (by decide) ?_
    have hR1 : RlJ cy xo G1 W1 f1 r1 := hR.shp I0.2.2.1 I0.2.2.2.1 I0.2.2.2.2.1 hX9 rfl rfl rfl hM (mo1 := some x9) hM9 ef e2_ e3_ e4_ e5_ e6_ e7_ e8_
    refine W.widen (k := C + 7) (n := S + 53273) (by omega) (by omega) ?_
    exact kk2 hM0 _ _ _ _ _ _ _ _ _ _ I hR1 (lv_sub hl [0, 1, 2, 3, 4] rfl)
set_option maxHeartbeats 4000000 in
set_option maxRecDepth 100000 in
theorem lcase_19 {p : Program} {l : Launch} {e : Env} {s : State} {m : MethodId} {below : List Frame} {meth : Method} {c : Code} {b L : Nat} {xs : Nat → Int32} {D : va_G} {cy : Nat → ClassId} {xo mo ou : Nat} {a : Nat → Nat} {M : Option Nat} {G : cG} {W' : va_W} {f : Nat → Int32} {g : Nat → Int64} {r : Nat → Nat → Int32} {q : Nat → Nat → Int64} {H : Heap} {locs : List Loc} {ls : Array Slot} {Q : State → Prop} {C S : Nat} (X : LX p l s m c b L xs D cy mo a) (I : LI D cy s xo mo ou a M G W' f g r q H locs) (hR : RlJ cy xo G W' f r) {x4 : Int32} (h4 : 0 ≤ x4.toInt ∧ x4.toInt + 8 ≤ (L : Int) ∧ L ≤ 4096) (hC : C + 7 ≤ 601024) (hSl : S + 53273 ≤ 7293034) (hl : lv_has ls 8 [(0, .ref b), (1, .ref xo), (2, .ref mo), (3, .ref ou), (4, .int x4)]) (kk : ∀ (G : cG) (W' : va_W) (f : Nat → Int32) (g : Nat → Int64) (r : Nat → Nat → Int32) (q : Nat → Nat → Int64) (H : Heap) (locs : List Loc) (ls : Array Slot), LI D cy s xo mo ou a M G W' f g r q H locs → RlJ cy xo G W' f r → lv_has ls 8 [(0, .ref b), (1, .ref xo), (2, .ref mo), (3, .ref ou), (4, .int x4)] → W p l e room_1 s m #[Value.ref b] below meth c H locs (C + 7) (S + 588) Q (F0 m 2354 ls [])) : W p l e room_1 s m #[Value.ref b] below meth c H locs C S Q (F0 m 1328 ls []) := by
  obtain ⟨⟨hx, hb, hml, hown, hts⟩, ⟨hXs, hbl⟩, ⟨hK, hV, hZ, hXT⟩, hst, hDM, hAM⟩ := id X
  have I0 := I
  have hbA : ¬ AL s b := Nat.not_le.mpr hbl
  have hRc : room_1.cells = 601024 := rfl
  have hRs : room_1.slots = 7293034 := rfl
  have hn1 : vp_in (x4 + 1) L := l_in (c := 1) h4 rfl (by decide)
  have hn2 : vp_in (x4 + 2) L := l_in (c := 2) h4 rfl (by decide)
  have hn3 : vp_in (x4 + 3) L := l_in (c := 3) h4 rfl (by decide)
  have hn4 : vp_in (x4 + 4) L := l_in (c := 4) h4 rfl (by decide)
  have hn5 : vp_in (x4 + 5) L := l_in (c := 5) h4 rfl (by decide)
  have hn6 : vp_in (x4 + 6) L := l_in (c := 6) h4 rfl (by decide)
  have hn7 : vp_in (x4 + 7) L := l_in (c := 7) h4 rfl (by decide)
  refine lv_aload_n hx hb dL_law_1328 rfl (lv_at hl 1 rfl) ?_
  refine lv_aload_n hx hb dL_law_1329 rfl (lv_at hl 0 rfl) ?_
  refine lv_iload hx hb dL_law_1330 (lv_at hl 4 rfl) ?_
  refine lv_iconst (v := 1) hx hb dL_law_1332 (by decide) ?_
  refine lv_iadd hx hb dL_law_1333 ?_
  refine va_sld hx hb hXs hbl hbA I.2.2.2.2.2.2.2.2.1 hn1 dL_law_1334 ?_
  refine lv_aload_n hx hb dL_law_1335 rfl (lv_at hl 0 rfl) ?_
  refine lv_iload hx hb dL_law_1336 (lv_at hl 4 rfl) ?_
  refine lv_iconst (v := 2) hx hb dL_law_1338 (by decide) ?_
  refine lv_iadd hx hb dL_law_1339 ?_
  refine va_sld hx hb hXs hbl hbA I.2.2.2.2.2.2.2.2.1 hn2 dL_law_1340 ?_
  refine lv_aload_n hx hb dL_law_1341 rfl (lv_at hl 0 rfl) ?_
  refine lv_iload hx hb dL_law_1342 (lv_at hl 4 rfl) ?_
  refine lv_iconst (v := 3) hx hb dL_law_1344 (by decide) ?_
  refine lv_iadd hx hb dL_law_1345 ?_
  refine va_sld hx hb hXs hbl hbA I.2.2.2.2.2.2.2.2.1 hn3 dL_law_1346 ?_
  refine lv_i2l (v := ((xs (x4 + 3).toNatClampNeg)).toInt64) hx hb dL_law_1347 rfl ?_
  refine lv_bipush (v := 32) hx hb dL_law_1348 (by decide) ?_
  refine lv_lshl (v := (((xs (x4 + 3).toNatClampNeg)).toInt64) <<< ((32 : Int32).toInt64 &&& 63)) hx hb dL_law_1350 rfl ?_
  refine lv_aload_n hx hb dL_law_1351 rfl (lv_at hl 0 rfl) ?_
  refine lv_iload hx hb dL_law_1352 (lv_at hl 4 rfl) ?_
  refine lv_iconst (v := 4) hx hb dL_law_1354 (by decide) ?_
  refine lv_iadd hx hb dL_law_1355 ?_
  refine va_sld hx hb hXs hbl hbA I.2.2.2.2.2.2.2.2.1 hn4 dL_law_1356 ?_
  refine lv_i2l (v := ((xs (x4 + 4).toNatClampNeg)).toInt64) hx hb dL_law_1357 rfl ?_
  refine lv_ldc2 hx hb hown (hts (.constantLong RL 45 (4294967295)) (by decide +kernel)) dL_law_1358 ?_
  refine lv_land hx hb dL_law_1361 ?_
  refine lv_topl (fun v1361 e1361 => ?_)
  refine lv_lor hx hb dL_law_1362 ?_
  refine lv_topl (fun v1362 e1362 => ?_)
  refine lk3_i I (va_runV (g := F0 m 1363 ls ([.long v1362, .int (xs (x4 + 2).toNatClampNeg), .int (xs (x4 + 1).toNatClampNeg), .ref xo])) (As := [.int (xs (x4 + 1).toNatClampNeg), .int (xs (x4 + 2).toNatClampNeg), .long v1362]) (rest := []) ⟨hx, hb, hml, hown, hts⟩ (c_X9_joined l D cy (AC s mo a) G W' xo ((xs (x4 + 1).toNatClampNeg)) ((xs (x4 + 2).toNatClampNeg)) v1362 I.2.2.1 I.2.2.2.1 I.2.2.2.2.1) (cwV 3 hts gL_law_X9_joined rfl rfl rfl (by decide +kernel) ⟨Nat.le_of_ble_eq_true rfl, Nat.le_of_ble_eq_true rfl⟩) (l_preV I hK hV) rfl rfl hl.1 rfl (lv_room (Nat.le_of_ble_eq_true rfl)) dL_law_1363 ⟨by omega, by omega⟩) rfl (fun r1363 u H locs q1363 hX I => ?_)
  obtain ⟨G1, W1⟩ := u
  have I : LI D cy s xo mo ou a M G1 W1 f g r q H locs := I
  have hX : cX none (chs [1, 8]) G W' G1 W1 := hX
  refine lv_pop hx hb dL_law_1366 rfl ?_
  refine lv_aload_n hx hb dL_law_1367 rfl (lv_at hl 2 rfl) ?_
  refine lv_aload_n hx hb dL_law_1368 rfl (lv_at hl 0 rfl) ?_
  refine lv_iload hx hb dL_law_1369 (lv_at hl 4 rfl) ?_
  refine lv_iconst (v := 1) hx hb dL_law_1371 (by decide) ?_
  refine lv_iadd hx hb dL_law_1372 ?_
  refine va_sld hx hb hXs hbl hbA I.2.2.2.2.2.2.2.2.1 hn1 dL_law_1373 ?_
  refine lv_aload_n hx hb dL_law_1374 rfl (lv_at hl 0 rfl) ?_
  refine lv_iload hx hb dL_law_1375 (lv_at hl 4 rfl) ?_
  refine lv_iconst (v := 2) hx hb dL_law_1377 (by decide) ?_
  refine lv_iadd hx hb dL_law_1378 ?_
  refine va_sld hx hb hXs hbl hbA I.2.2.2.2.2.2.2.2.1 hn2 dL_law_1379 ?_
  refine lv_aload_n hx hb dL_law_1380 rfl (lv_at hl 0 rfl) ?_
  refine lv_iload hx hb dL_law_1381 (lv_at hl 4 rfl) ?_
  refine lv_iconst (v := 3) hx hb dL_law_1383 (by decide) ?_
  refine lv_iadd hx hb dL_law_1384 ?_
  refine va_sld hx hb hXs hbl hbA I.2.2.2.2.2.2.2.2.1 hn3 dL_law_1385 ?_
  refine lv_i2l (v := ((xs (x4 + 3).toNatClampNeg)).toInt64) hx hb dL_law_1386 rfl ?_
  refine lv_bipush (v := 32) hx hb dL_law_1387 (by decide) ?_
  refine lv_lshl (v := (((xs (x4 + 3).toNatClampNeg)).toInt64) <<< ((32 : Int32).toInt64 &&& 63)) hx hb dL_law_1389 rfl ?_
  refine lv_aload_n hx hb dL_law_1390 rfl (lv_at hl 0 rfl) ?_
  refine lv_iload hx hb dL_law_1391 (lv_at hl 4 rfl) ?_
  refine lv_iconst (v := 4) hx hb dL_law_1393 (by decide) ?_
  refine lv_iadd hx hb dL_law_1394 ?_
  refine va_sld hx hb hXs hbl hbA I.2.2.2.2.2.2.2.2.1 hn4 dL_law_1395 ?_
  refine lv_i2l (v := ((xs (x4 + 4).toNatClampNeg)).toInt64) hx hb dL_law_1396 rfl ?_
  refine lv_ldc2 hx hb hown (hts (.constantLong RL 45 (4294967295)) (by decide +kernel)) dL_law_1397 ?_
  refine lv_land hx hb dL_law_1400 ?_
  refine lv_topl (fun v1400 e1400 => ?_)
  refine lv_lor hx hb dL_law_1401 ?_
  refine lv_topl (fun v1401 e1401 => ?_)
  have hI := I.2.2.2.2.2.2.1
  refine lm_i (As := [.int (xs (x4 + 1).toNatClampNeg), .int (xs (x4 + 2).toNatClampNeg), .long v1401]) (rest := []) I ⟨hx, hb, hml, hown, hts⟩ (c_X10_joined l D cy mo a f g r q ((xs (x4 + 1).toNatClampNeg)) ((xs (x4 + 2).toNatClampNeg)) v1401 hDM) (cwV 3 hts gL_law_X10_joined rfl rfl rfl (by decide +kernel) ⟨Nat.le_of_ble_eq_true rfl, Nat.le_of_ble_eq_true rfl⟩) hK hAM rfl hl.1 rfl (Nat.le_of_ble_eq_true rfl) dL_law_1402 ⟨by omega, by omega⟩ (fun _ _ h9 => by obtain ⟨_, rfl, h9⟩ := h9; exact hI) (fun r1402 u H locs q1402 I => ?_)
  have ef : u.1 1 = f 1 := by obtain ⟨_, rfl, -⟩ := q1402; rfl
  have e2_ : u.2.2.1 2 = r 2 := by obtain ⟨_, rfl, -⟩ := q1402; rfl
  have e3_ : u.2.2.1 3 = r 3 := by obtain ⟨_, rfl, -⟩ := q1402; rfl
  have e4_ : u.2.2.1 4 = r 4 := by obtain ⟨_, rfl, -⟩ := q1402; rfl
  have e5_ : u.2.2.1 5 = r 5 := by obtain ⟨_, rfl, -⟩ := q1402; rfl
  have e6_ : u.2.2.1 6 = r 6 := by obtain ⟨_, rfl, -⟩ := q1402; rfl
  have e7_ : u.2.2.1 7 = r 7 := by obtain ⟨_, rfl, -⟩ := q1402; rfl
  have e8_ : u.2.2.1 8 = r 8 := by obtain ⟨_, rfl, -⟩ := q1402; rfl
  obtain ⟨f1, g1, r1, q1⟩ := u
  have ef : f1 1 = f 1 := ef
  have e2_ : r1 2 = r 2 := e2_
  have e3_ : r1 3 = r 3 := e3_
  have e4_ : r1 4 = r 4 := e4_
  have e5_ : r1 5 = r 5 := e5_
  have e6_ : r1 6 = r 6 := e6_
  have e7_ : r1 7 = r 7 := e7_
  have e8_ : r1 8 = r 8 := e8_
  have I : LI D cy s xo mo ou a M G1 W1 f1 g1 r1 q1 H locs := I
  refine lv_pop hx hb dL_law_1405 rfl ?_
  refine lv_goto (tgt := 2354) hx hb dL_law_1406 (by decide) ?_
  have hR1 : RlJ cy xo G1 W1 f1 r1 := hR.keep I0.2.2.1 I0.2.2.2.1 I0.2.2.2.2.1 hX rfl rfl rfl rfl ef e2_ e3_ e4_ e5_ e6_ e7_ e8_
  refine W.widen (k := C + 7) (n := S + 588) (by omega) (by omega) ?_
  exact kk _ _ _ _ _ _ _ _ _ I hR1 (lv_sub hl [0, 1, 2, 3, 4] rfl)
set_option maxHeartbeats 4000000 in
set_option maxRecDepth 100000 in
theorem lcase_20 {p : Program} {l : Launch} {e : Env} {s : State} {m : MethodId} {below : List Frame} {meth : Method} {c : Code} {b L : Nat} {xs : Nat → Int32} {D : va_G} {cy : Nat → ClassId} {xo mo ou : Nat} {a : Nat → Nat} {M : Option Nat} {G : cG} {W' : va_W} {f : Nat → Int32} {g : Nat → Int64} {r : Nat → Nat → Int32} {q : Nat → Nat → Int64} {H : Heap} {locs : List Loc} {ls : Array Slot} {Q : State → Prop} {C S : Nat} (X : LX p l s m c b L xs D cy mo a) (I : LI D cy s xo mo ou a M G W' f g r q H locs) (hR : RlJ cy xo G W' f r) {x4 : Int32} (h4 : 0 ≤ x4.toInt ∧ x4.toInt + 8 ≤ (L : Int) ∧ L ≤ 4096) (hC : C + 7 ≤ 601024) (hSl : S + 53273 ≤ 7293034) (hl : lv_has ls 8 [(0, .ref b), (1, .ref xo), (2, .ref mo), (3, .ref ou), (4, .int x4)]) (kk : ∀ (G : cG) (W' : va_W) (f : Nat → Int32) (g : Nat → Int64) (r : Nat → Nat → Int32) (q : Nat → Nat → Int64) (H : Heap) (locs : List Loc) (ls : Array Slot), LI D cy s xo mo ou a M G W' f g r q H locs → RlJ cy xo G W' f r → lv_has ls 8 [(0, .ref b), (1, .ref xo), (2, .ref mo), (3, .ref ou), (4, .int x4)] → W p l e room_1 s m #[Value.ref b] below meth c H locs (C + 7) (S + 588) Q (F0 m 2354 ls [])) : W p l e room_1 s m #[Value.ref b] below meth c H locs C S Q (F0 m 1409 ls []) := by
  obtain ⟨⟨hx, hb, hml, hown, hts⟩, ⟨hXs, hbl⟩, ⟨hK, hV, hZ, hXT⟩, hst, hDM, hAM⟩ := id X
  have I0 := I
  have hbA : ¬ AL s b := Nat.not_le.mpr hbl
  have hRc : room_1.cells = 601024 := rfl
  have hRs : room_1.slots = 7293034 := rfl
  have hn1 : vp_in (x4 + 1) L := l_in (c := 1) h4 rfl (by decide)
  have hn2 : vp_in (x4 + 2) L := l_in (c := 2) h4 rfl (by decide)
  have hn3 : vp_in (x4 + 3) L := l_in (c := 3) h4 rfl (by decide)
  have hn4 : vp_in (x4 + 4) L := l_in (c := 4) h4 rfl (by decide)
  have hn5 : vp_in (x4 + 5) L := l_in (c := 5) h4 rfl (by decide)
  have hn6 : vp_in (x4 + 6) L := l_in (c := 6) h4 rfl (by decide)
  have hn7 : vp_in (x4 + 7) L := l_in (c := 7) h4 rfl (by decide)
  refine lv_aload_n hx hb dL_law_1409 rfl (lv_at hl 1 rfl) ?_
  refine lv_aload_n hx hb dL_law_1410 rfl (lv_at hl 0 rfl) ?_
  refine lv_iload hx hb dL_law_1411 (lv_at hl 4 rfl) ?_
  refine lv_iconst (v := 1) hx hb dL_law_1413 (by decide) ?_
  refine lv_iadd hx hb dL_law_1414 ?_
  refine va_sld hx hb hXs hbl hbA I.2.2.2.2.2.2.2.2.1 hn1 dL_law_1415 ?_
  refine lv_aload_n hx hb dL_law_1416 rfl (lv_at hl 0 rfl) ?_
  refine lv_iload hx hb dL_law_1417 (lv_at hl 4 rfl) ?_
  refine lv_iconst (v := 2) hx hb dL_law_1419 (by decide) ?_
  refine lv_iadd hx hb dL_law_1420 ?_
  refine va_sld hx hb hXs hbl hbA I.2.2.2.2.2.2.2.2.1 hn2 dL_law_1421 ?_
  refine lv_aload_n hx hb dL_law_1422 rfl (lv_at hl 0 rfl) ?_
  refine lv_iload hx hb dL_law_1423 (lv_at hl 4 rfl) ?_
  refine lv_iconst (v := 3) hx hb dL_law_1425 (by decide) ?_
  refine lv_iadd hx hb dL_law_1426 ?_
  refine va_sld hx hb hXs hbl hbA I.2.2.2.2.2.2.2.2.1 hn3 dL_law_1427 ?_
  refine lv_i2l (v := ((xs (x4 + 3).toNatClampNeg)).toInt64) hx hb dL_law_1428 rfl ?_
  refine lv_bipush (v := 32) hx hb dL_law_1429 (by decide) ?_
  refine lv_lshl (v := (((xs (x4 + 3).toNatClampNeg)).toInt64) <<< ((32 : Int32).toInt64 &&& 63)) hx hb dL_law_1431 rfl ?_
  refine lv_aload_n hx hb dL_law_1432 rfl (lv_at hl 0 rfl) ?_
  refine lv_iload hx hb dL_law_1433 (lv_at hl 4 rfl) ?_
  refine lv_iconst (v := 4) hx hb dL_law_1435 (by decide) ?_
  refine lv_iadd hx hb dL_law_1436 ?_
  refine va_sld hx hb hXs hbl hbA I.2.2.2.2.2.2.2.2.1 hn4 dL_law_1437 ?_
  refine lv_i2l (v := ((xs (x4 + 4).toNatClampNeg)).toInt64) hx hb dL_law_1438 rfl ?_
  refine lv_ldc2 hx hb hown (hts (.constantLong RL 45 (4294967295)) (by decide +kernel)) dL_law_1439 ?_
  refine lv_land hx hb dL_law_1442 ?_
  refine lv_topl (fun v1442 e1442 => ?_)
  refine lv_lor hx hb dL_law_1443 ?_
  refine lv_topl (fun v1443 e1443 => ?_)
  refine lv_aload_n hx hb dL_law_1444 rfl (lv_at hl 0 rfl) ?_
  refine lv_iload hx hb dL_law_1445 (lv_at hl 4 rfl) ?_
  refine lv_iconst (v := 5) hx hb dL_law_1447 (by decide) ?_
  refine lv_iadd hx hb dL_law_1448 ?_
  refine va_sld hx hb hXs hbl hbA I.2.2.2.2.2.2.2.2.1 hn5 dL_law_1449 ?_
  refine lv_if_eq (tgt := 1457) hx hb dL_law_1450 (by decide) (fun c1450 => ?_) (fun c1450 => ?_)
  · skip
    have d1450 := c1450
    rw [fa_eq] at d1450
    refine lv_iconst (v := 0) hx hb dL_law_1457 (by decide) ?_
    refine lk3_i I (va_runV (g := F0 m 1458 ls ([.int (0 : Int32), .long v1443, .int (xs (x4 + 2).toNatClampNeg), .int (xs (x4 + 1).toNatClampNeg), .ref xo])) (As := [.int (xs (x4 + 1).toNatClampNeg), .int (xs (x4 + 2).toNatClampNeg), .long v1443, .int (0 : Int32)]) (rest := []) ⟨hx, hb, hml, hown, hts⟩ (c_X9_even l D cy (AC s mo a) G W' xo ((xs (x4 + 1).toNatClampNeg)) ((xs (x4 + 2).toNatClampNeg)) v1443 (0 : Int32) I.2.2.1 I.2.2.2.1 I.2.2.2.2.1) (cwV 4 hts gL_law_X9_even rfl rfl rfl (by decide +kernel) ⟨Nat.le_of_ble_eq_true rfl, Nat.le_of_ble_eq_true rfl⟩) (l_preV I hK hV) rfl rfl hl.1 rfl (lv_room (Nat.le_of_ble_eq_true rfl)) dL_law_1458 ⟨by omega, by omega⟩) rfl (fun r1458 u H locs q1458 hX I => ?_)
    obtain ⟨G1, W1⟩ := u
    have I : LI D cy s xo mo ou a M G1 W1 f g r q H locs := I
    have hX : cX none (chs [1, 8]) G W' G1 W1 := hX
    refine lv_pop hx hb dL_law_1461 rfl ?_
    refine lv_aload_n hx hb dL_law_1462 rfl (lv_at hl 2 rfl) ?_
    refine lv_aload_n hx hb dL_law_1463 rfl (lv_at hl 0 rfl) ?_
    refine lv_iload hx hb dL_law_1464 (lv_at hl 4 rfl) ?_
    refine lv_iconst (v := 1) hx hb dL_law_1466 (by decide) ?_
    refine lv_iadd hx hb dL_law_1467 ?_
    refine va_sld hx hb hXs hbl hbA I.2.2.2.2.2.2.2.2.1 hn1 dL_law_1468 ?_
    refine lv_aload_n hx hb dL_law_1469 rfl (lv_at hl 0 rfl) ?_
    refine lv_iload hx hb dL_law_1470 (lv_at hl 4 rfl) ?_
    refine lv_iconst (v := 2) hx hb dL_law_1472 (by decide) ?_
    refine lv_iadd hx hb dL_law_1473 ?_
    refine va_sld hx hb hXs hbl hbA I.2.2.2.2.2.2.2.2.1 hn2 dL_law_1474 ?_
    refine lv_aload_n hx hb dL_law_1475 rfl (lv_at hl 0 rfl) ?_
    refine lv_iload hx hb dL_law_1476 (lv_at hl 4 rfl) ?_
    refine lv_iconst (v := 3) hx hb dL_law_1478 (by decide) ?_
    refine lv_iadd hx hb dL_law_1479 ?_
    refine va_sld hx hb hXs hbl hbA I.2.2.2.2.2.2.2.2.1 hn3 dL_law_1480 ?_
    refine lv_i2l (v := ((xs (x4 + 3).toNatClampNeg)).toInt64) hx hb dL_law_1481 rfl ?_
    refine lv_bipush (v := 32) hx hb dL_law_1482 (by decide) ?_
    refine lv_lshl (v := (((xs (x4 + 3).toNatClampNeg)).toInt64) <<< ((32 : Int32).toInt64 &&& 63)) hx hb dL_law_1484 rfl ?_
    refine lv_aload_n hx hb dL_law_1485 rfl (lv_at hl 0 rfl) ?_
    refine lv_iload hx hb dL_law_1486 (lv_at hl 4 rfl) ?_
    refine lv_iconst (v := 4) hx hb dL_law_1488 (by decide) ?_
    refine lv_iadd hx hb dL_law_1489 ?_
    refine va_sld hx hb hXs hbl hbA I.2.2.2.2.2.2.2.2.1 hn4 dL_law_1490 ?_
    refine lv_i2l (v := ((xs (x4 + 4).toNatClampNeg)).toInt64) hx hb dL_law_1491 rfl ?_
    refine lv_ldc2 hx hb hown (hts (.constantLong RL 45 (4294967295)) (by decide +kernel)) dL_law_1492 ?_
    refine lv_land hx hb dL_law_1495 ?_
    refine lv_topl (fun v1495 e1495 => ?_)
    refine lv_lor hx hb dL_law_1496 ?_
    refine lv_topl (fun v1496 e1496 => ?_)
    refine lv_aload_n hx hb dL_law_1497 rfl (lv_at hl 0 rfl) ?_
    refine lv_iload hx hb dL_law_1498 (lv_at hl 4 rfl) ?_
    refine lv_iconst (v := 5) hx hb dL_law_1500 (by decide) ?_
    refine lv_iadd hx hb dL_law_1501 ?_
    refine va_sld hx hb hXs hbl hbA I.2.2.2.2.2.2.2.2.1 hn5 dL_law_1502 ?_
    refine lv_if_eq (tgt := 1510) hx hb dL_law_1503 (by decide) (fun c1503 => ?_) (fun c1503 => ?_)
    · skip
      have d1503 := c1503
      rw [fa_eq] at d1503
      refine lv_iconst (v := 0) hx hb dL_law_1510 (by decide) ?_
      have hI := I.2.2.2.2.2.2.1
      refine lm_i (As := [.int (xs (x4 + 1).toNatClampNeg), .int (xs (x4 + 2).toNatClampNeg), .long v1496, .int (0 : Int32)]) (rest := []) I ⟨hx, hb, hml, hown, hts⟩ (c_X10_even l D cy mo a f g r q ((xs (x4 + 1).toNatClampNeg)) ((xs (x4 + 2).toNatClampNeg)) v1496 (0 : Int32) hDM) (cwV 4 hts gL_law_X10_even rfl rfl rfl (by decide +kernel) ⟨Nat.le_of_ble_eq_true rfl, Nat.le_of_ble_eq_true rfl⟩) hK hAM rfl hl.1 rfl (Nat.le_of_ble_eq_true rfl) dL_law_1511 ⟨by omega, by omega⟩ (fun _ _ h9 => by obtain ⟨rfl, h9⟩ := h9; exact hI) (fun r1511 u H locs q1511 I => ?_)
      have ef : u.1 1 = f 1 := by obtain ⟨rfl, -⟩ := q1511; rfl
      have e2_ : u.2.2.1 2 = r 2 := by obtain ⟨rfl, -⟩ := q1511; rfl
      have e3_ : u.2.2.1 3 = r 3 := by obtain ⟨rfl, -⟩ := q1511; rfl
      have e4_ : u.2.2.1 4 = r 4 := by obtain ⟨rfl, -⟩ := q1511; rfl
      have e5_ : u.2.2.1 5 = r 5 := by obtain ⟨rfl, -⟩ := q1511; rfl
      have e6_ : u.2.2.1 6 = r 6 := by obtain ⟨rfl, -⟩ := q1511; rfl
      have e7_ : u.2.2.1 7 = r 7 := by obtain ⟨rfl, -⟩ := q1511; rfl
      have e8_ : u.2.2.1 8 = r 8 := by obtain ⟨rfl, -⟩ := q1511; rfl
      obtain ⟨f1, g1, r1, q1⟩ := u
      have ef : f1 1 = f 1 := ef
      have e2_ : r1 2 = r 2 := e2_
      have e3_ : r1 3 = r 3 := e3_
      have e4_ : r1 4 = r 4 := e4_
      have e5_ : r1 5 = r 5 := e5_
      have e6_ : r1 6 = r 6 := e6_
      have e7_ : r1 7 = r 7 := e7_
      have e8_ : r1 8 = r 8 := e8_
      have I : LI D cy s xo mo ou a M G1 W1 f1 g1 r1 q1 H locs := I
      refine lv_pop hx hb dL_law_1514 rfl ?_
      refine lv_goto (tgt := 2354) hx hb dL_law_1515 (by decide) ?_
      have hR1 : RlJ cy xo G1 W1 f1 r1 := hR.keep I0.2.2.1 I0.2.2.2.1 I0.2.2.2.2.1 hX rfl rfl rfl rfl ef e2_ e3_ e4_ e5_ e6_ e7_ e8_
      refine W.widen (k := C + 7) (n := S + 588) (by omega) (by omega) ?_
      exact kk _ _ _ _ _ _ _ _ _ I hR1 (lv_sub hl [0, 1, 2, 3, 4] rfl)
    · first | exact absurd c1503 c1450 | exact absurd c1450 c1503
  · skip
    have d1450 := c1450
    rw [fa_eq] at d1450
    refine lv_iconst (v := 1) hx hb dL_law_1453 (by decide) ?_
    refine lv_goto (tgt := 1458) hx hb dL_law_1454 (by decide) ?_
    refine lk3_i I (va_runV (g := F0 m 1458 ls ([.int (1 : Int32), .long v1443, .int (xs (x4 + 2).toNatClampNeg), .int (xs (x4 + 1).toNatClampNeg), .ref xo])) (As := [.int (xs (x4 + 1).toNatClampNeg), .int (xs (x4 + 2).toNatClampNeg), .long v1443, .int (1 : Int32)]) (rest := []) ⟨hx, hb, hml, hown, hts⟩ (c_X9_even l D cy (AC s mo a) G W' xo ((xs (x4 + 1).toNatClampNeg)) ((xs (x4 + 2).toNatClampNeg)) v1443 (1 : Int32) I.2.2.1 I.2.2.2.1 I.2.2.2.2.1) (cwV 4 hts gL_law_X9_even rfl rfl rfl (by decide +kernel) ⟨Nat.le_of_ble_eq_true rfl, Nat.le_of_ble_eq_true rfl⟩) (l_preV I hK hV) rfl rfl hl.1 rfl (lv_room (Nat.le_of_ble_eq_true rfl)) dL_law_1458 ⟨by omega, by omega⟩) rfl (fun r1458 u H locs q1458 hX I => ?_)
    obtain ⟨G1, W1⟩ := u
    have I : LI D cy s xo mo ou a M G1 W1 f g r q H locs := I
    have hX : cX none (chs [1, 8]) G W' G1 W1 := hX
    refine lv_pop hx hb dL_law_1461 rfl ?_
    refine lv_aload_n hx hb dL_law_1462 rfl (lv_at hl 2 rfl) ?_
    refine lv_aload_n hx hb dL_law_1463 rfl (lv_at hl 0 rfl) ?_
    refine lv_iload hx hb dL_law_1464 (lv_at hl 4 rfl) ?_
    refine lv_iconst (v := 1) hx hb dL_law_1466 (by decide) ?_
    refine lv_iadd hx hb dL_law_1467 ?_
    refine va_sld hx hb hXs hbl hbA I.2.2.2.2.2.2.2.2.1 hn1 dL_law_1468 ?_
    refine lv_aload_n hx hb dL_law_1469 rfl (lv_at hl 0 rfl) ?_
    refine lv_iload hx hb dL_law_1470 (lv_at hl 4 rfl) ?_
    refine lv_iconst (v := 2) hx hb dL_law_1472 (by decide) ?_
    refine lv_iadd hx hb dL_law_1473 ?_
    refine va_sld hx hb hXs hbl hbA I.2.2.2.2.2.2.2.2.1 hn2 dL_law_1474 ?_
    refine lv_aload_n hx hb dL_law_1475 rfl (lv_at hl 0 rfl) ?_
    refine lv_iload hx hb dL_law_1476 (lv_at hl 4 rfl) ?_
    refine lv_iconst (v := 3) hx hb dL_law_1478 (by decide) ?_
    refine lv_iadd hx hb dL_law_1479 ?_
    refine va_sld hx hb hXs hbl hbA I.2.2.2.2.2.2.2.2.1 hn3 dL_law_1480 ?_
    refine lv_i2l (v := ((xs (x4 + 3).toNatClampNeg)).toInt64) hx hb dL_law_1481 rfl ?_
    refine lv_bipush (v := 32) hx hb dL_law_1482 (by decide) ?_
    refine lv_lshl (v := (((xs (x4 + 3).toNatClampNeg)).toInt64) <<< ((32 : Int32).toInt64 &&& 63)) hx hb dL_law_1484 rfl ?_
    refine lv_aload_n hx hb dL_law_1485 rfl (lv_at hl 0 rfl) ?_
    refine lv_iload hx hb dL_law_1486 (lv_at hl 4 rfl) ?_
    refine lv_iconst (v := 4) hx hb dL_law_1488 (by decide) ?_
    refine lv_iadd hx hb dL_law_1489 ?_
    refine va_sld hx hb hXs hbl hbA I.2.2.2.2.2.2.2.2.1 hn4 dL_law_1490 ?_
    refine lv_i2l (v := ((xs (x4 + 4).toNatClampNeg)).toInt64) hx hb dL_law_1491 rfl ?_
    refine lv_ldc2 hx hb hown (hts (.constantLong RL 45 (4294967295)) (by decide +kernel)) dL_law_1492 ?_
    refine lv_land hx hb dL_law_1495 ?_
    refine lv_topl (fun v1495 e1495 => ?_)
    refine lv_lor hx hb dL_law_1496 ?_
    refine lv_topl (fun v1496 e1496 => ?_)
    refine lv_aload_n hx hb dL_law_1497 rfl (lv_at hl 0 rfl) ?_
    refine lv_iload hx hb dL_law_1498 (lv_at hl 4 rfl) ?_
    refine lv_iconst (v := 5) hx hb dL_law_1500 (by decide) ?_
    refine lv_iadd hx hb dL_law_1501 ?_
    refine va_sld hx hb hXs hbl hbA I.2.2.2.2.2.2.2.2.1 hn5 dL_law_1502 ?_
    refine lv_if_eq (tgt := 1510) hx hb dL_law_1503 (by decide) (fun c1503 => ?_) (fun c1503 => ?_)
    · first | exact absurd c1503 c1450 | exact absurd c1450 c1503
    · skip
      have d1503 := c1503
      rw [fa_eq] at d1503
      refine lv_iconst (v := 1) hx hb dL_law_1506 (by decide) ?_
      refine lv_goto (tgt := 1511) hx hb dL_law_1507 (by decide) ?_
      have hI := I.2.2.2.2.2.2.1
      refine lm_i (As := [.int (xs (x4 + 1).toNatClampNeg), .int (xs (x4 + 2).toNatClampNeg), .long v1496, .int (1 : Int32)]) (rest := []) I ⟨hx, hb, hml, hown, hts⟩ (c_X10_even l D cy mo a f g r q ((xs (x4 + 1).toNatClampNeg)) ((xs (x4 + 2).toNatClampNeg)) v1496 (1 : Int32) hDM) (cwV 4 hts gL_law_X10_even rfl rfl rfl (by decide +kernel) ⟨Nat.le_of_ble_eq_true rfl, Nat.le_of_ble_eq_true rfl⟩) hK hAM rfl hl.1 rfl (Nat.le_of_ble_eq_true rfl) dL_law_1511 ⟨by omega, by omega⟩ (fun _ _ h9 => by obtain ⟨rfl, h9⟩ := h9; exact hI) (fun r1511 u H locs q1511 I => ?_)
      have ef : u.1 1 = f 1 := by obtain ⟨rfl, -⟩ := q1511; rfl
      have e2_ : u.2.2.1 2 = r 2 := by obtain ⟨rfl, -⟩ := q1511; rfl
      have e3_ : u.2.2.1 3 = r 3 := by obtain ⟨rfl, -⟩ := q1511; rfl
      have e4_ : u.2.2.1 4 = r 4 := by obtain ⟨rfl, -⟩ := q1511; rfl
      have e5_ : u.2.2.1 5 = r 5 := by obtain ⟨rfl, -⟩ := q1511; rfl
      have e6_ : u.2.2.1 6 = r 6 := by obtain ⟨rfl, -⟩ := q1511; rfl
      have e7_ : u.2.2.1 7 = r 7 := by obtain ⟨rfl, -⟩ := q1511; rfl
      have e8_ : u.2.2.1 8 = r 8 := by obtain ⟨rfl, -⟩ := q1511; rfl
      obtain ⟨f1, g1, r1, q1⟩ := u
      have ef : f1 1 = f 1 := ef
      have e2_ : r1 2 = r 2 := e2_
      have e3_ : r1 3 = r 3 := e3_
      have e4_ : r1 4 = r 4 := e4_
      have e5_ : r1 5 = r 5 := e5_
      have e6_ : r1 6 = r 6 := e6_
      have e7_ : r1 7 = r 7 := e7_
      have e8_ : r1 8 = r 8 := e8_
      have I : LI D cy s xo mo ou a M G1 W1 f1 g1 r1 q1 H locs := I
      refine lv_pop hx hb dL_law_1514 rfl ?_
      refine lv_goto (tgt := 2354) hx hb dL_law_1515 (by decide) ?_
      have hR1 : RlJ cy xo G1 W1 f1 r1 := hR.keep I0.2.2.1 I0.2.2.2.1 I0.2.2.2.2.1 hX rfl rfl rfl rfl ef e2_ e3_ e4_ e5_ e6_ e7_ e8_
      refine W.widen (k := C + 7) (n := S + 588) (by omega) (by omega) ?_
      exact kk _ _ _ _ _ _ _ _ _ I hR1 (lv_sub hl [0, 1, 2, 3, 4] rfl)
set_option maxHeartbeats 4000000 in
set_option maxRecDepth 100000 in
theorem lcase_21 {p : Program} {l : Launch} {e : Env} {s : State} {m : MethodId} {below : List Frame} {meth : Method} {c : Code} {b L : Nat} {xs : Nat → Int32} {D : va_G} {cy : Nat → ClassId} {xo mo ou : Nat} {a : Nat → Nat} {M : Option Nat} {G : cG} {W' : va_W} {f : Nat → Int32} {g : Nat → Int64} {r : Nat → Nat → Int32} {q : Nat → Nat → Int64} {H : Heap} {locs : List Loc} {ls : Array Slot} {Q : State → Prop} {C S : Nat} (X : LX p l s m c b L xs D cy mo a) (I : LI D cy s xo mo ou a M G W' f g r q H locs) (hR : RlJ cy xo G W' f r) {x4 : Int32} (h4 : 0 ≤ x4.toInt ∧ x4.toInt + 8 ≤ (L : Int) ∧ L ≤ 4096) (hC : C + 7 ≤ 601024) (hSl : S + 53273 ≤ 7293034) (hl : lv_has ls 8 [(0, .ref b), (1, .ref xo), (2, .ref mo), (3, .ref ou), (4, .int x4)]) (kk : ∀ (G : cG) (W' : va_W) (f : Nat → Int32) (g : Nat → Int64) (r : Nat → Nat → Int32) (q : Nat → Nat → Int64) (H : Heap) (locs : List Loc) (ls : Array Slot), LI D cy s xo mo ou a M G W' f g r q H locs → RlJ cy xo G W' f r → lv_has ls 8 [(0, .ref b), (1, .ref xo), (2, .ref mo), (3, .ref ou), (4, .int x4)] → W p l e room_1 s m #[Value.ref b] below meth c H locs (C + 7) (S + 588) Q (F0 m 2354 ls [])) : W p l e room_1 s m #[Value.ref b] below meth c H locs C S Q (F0 m 1518 ls []) := by
  obtain ⟨⟨hx, hb, hml, hown, hts⟩, ⟨hXs, hbl⟩, ⟨hK, hV, hZ, hXT⟩, hst, hDM, hAM⟩ := id X
  have I0 := I
  have hbA : ¬ AL s b := Nat.not_le.mpr hbl
  have hRc : room_1.cells = 601024 := rfl
  have hRs : room_1.slots = 7293034 := rfl
  have hn1 : vp_in (x4 + 1) L := l_in (c := 1) h4 rfl (by decide)
  have hn2 : vp_in (x4 + 2) L := l_in (c := 2) h4 rfl (by decide)
  have hn3 : vp_in (x4 + 3) L := l_in (c := 3) h4 rfl (by decide)
  have hn4 : vp_in (x4 + 4) L := l_in (c := 4) h4 rfl (by decide)
  have hn5 : vp_in (x4 + 5) L := l_in (c := 5) h4 rfl (by decide)
  have hn6 : vp_in (x4 + 6) L := l_in (c := 6) h4 rfl (by decide)
  have hn7 : vp_in (x4 + 7) L := l_in (c := 7) h4 rfl (by decide)
  refine lv_aload_n hx hb dL_law_1518 rfl (lv_at hl 1 rfl) ?_
  refine lv_aload_n hx hb dL_law_1519 rfl (lv_at hl 0 rfl) ?_
  refine lv_iload hx hb dL_law_1520 (lv_at hl 4 rfl) ?_
  refine lv_iconst (v := 1) hx hb dL_law_1522 (by decide) ?_
  refine lv_iadd hx hb dL_law_1523 ?_
  refine va_sld hx hb hXs hbl hbA I.2.2.2.2.2.2.2.2.1 hn1 dL_law_1524 ?_
  refine lv_aload_n hx hb dL_law_1525 rfl (lv_at hl 0 rfl) ?_
  refine lv_iload hx hb dL_law_1526 (lv_at hl 4 rfl) ?_
  refine lv_iconst (v := 2) hx hb dL_law_1528 (by decide) ?_
  refine lv_iadd hx hb dL_law_1529 ?_
  refine va_sld hx hb hXs hbl hbA I.2.2.2.2.2.2.2.2.1 hn2 dL_law_1530 ?_
  refine lv_aload_n hx hb dL_law_1531 rfl (lv_at hl 0 rfl) ?_
  refine lv_iload hx hb dL_law_1532 (lv_at hl 4 rfl) ?_
  refine lv_iconst (v := 3) hx hb dL_law_1534 (by decide) ?_
  refine lv_iadd hx hb dL_law_1535 ?_
  refine va_sld hx hb hXs hbl hbA I.2.2.2.2.2.2.2.2.1 hn3 dL_law_1536 ?_
  refine lv_i2l (v := ((xs (x4 + 3).toNatClampNeg)).toInt64) hx hb dL_law_1537 rfl ?_
  refine lv_bipush (v := 32) hx hb dL_law_1538 (by decide) ?_
  refine lv_lshl (v := (((xs (x4 + 3).toNatClampNeg)).toInt64) <<< ((32 : Int32).toInt64 &&& 63)) hx hb dL_law_1540 rfl ?_
  refine lv_aload_n hx hb dL_law_1541 rfl (lv_at hl 0 rfl) ?_
  refine lv_iload hx hb dL_law_1542 (lv_at hl 4 rfl) ?_
  refine lv_iconst (v := 4) hx hb dL_law_1544 (by decide) ?_
  refine lv_iadd hx hb dL_law_1545 ?_
  refine va_sld hx hb hXs hbl hbA I.2.2.2.2.2.2.2.2.1 hn4 dL_law_1546 ?_
  refine lv_i2l (v := ((xs (x4 + 4).toNatClampNeg)).toInt64) hx hb dL_law_1547 rfl ?_
  refine lv_ldc2 hx hb hown (hts (.constantLong RL 45 (4294967295)) (by decide +kernel)) dL_law_1548 ?_
  refine lv_land hx hb dL_law_1551 ?_
  refine lv_topl (fun v1551 e1551 => ?_)
  refine lv_lor hx hb dL_law_1552 ?_
  refine lv_topl (fun v1552 e1552 => ?_)
  refine lv_aload_n hx hb dL_law_1553 rfl (lv_at hl 0 rfl) ?_
  refine lv_iload hx hb dL_law_1554 (lv_at hl 4 rfl) ?_
  refine lv_iconst (v := 5) hx hb dL_law_1556 (by decide) ?_
  refine lv_iadd hx hb dL_law_1557 ?_
  refine va_sld hx hb hXs hbl hbA I.2.2.2.2.2.2.2.2.1 hn5 dL_law_1558 ?_
  refine lk3_l I (va_runV (g := F0 m 1559 ls ([.int (xs (x4 + 5).toNatClampNeg), .long v1552, .int (xs (x4 + 2).toNatClampNeg), .int (xs (x4 + 1).toNatClampNeg), .ref xo])) (As := [.int (xs (x4 + 1).toNatClampNeg), .int (xs (x4 + 2).toNatClampNeg), .long v1552, .int (xs (x4 + 5).toNatClampNeg)]) (rest := []) ⟨hx, hb, hml, hown, hts⟩ (c_X9_turned l D cy (AC s mo a) G W' xo ((xs (x4 + 1).toNatClampNeg)) ((xs (x4 + 2).toNatClampNeg)) v1552 ((xs (x4 + 5).toNatClampNeg)) I.2.2.1 I.2.2.2.1 I.2.2.2.2.1) (cwV 4 hts gL_law_X9_turned rfl rfl rfl (by decide +kernel) ⟨Nat.le_of_ble_eq_true rfl, Nat.le_of_ble_eq_true rfl⟩) (l_preV I hK hV) rfl rfl hl.1 rfl (lv_room (Nat.le_of_ble_eq_true rfl)) dL_law_1559 ⟨by omega, by omega⟩) rfl (fun r1559 u H locs q1559 hX I => ?_)
  obtain ⟨G1, W1⟩ := u
  have I : LI D cy s xo mo ou a M G1 W1 f g r q H locs := I
  have hX : cX none (chs [1, 8]) G W' G1 W1 := hX
  refine lv_pop2_2 hx hb dL_law_1562 rfl ?_
  refine lv_aload_n hx hb dL_law_1563 rfl (lv_at hl 2 rfl) ?_
  refine lv_aload_n hx hb dL_law_1564 rfl (lv_at hl 0 rfl) ?_
  refine lv_iload hx hb dL_law_1565 (lv_at hl 4 rfl) ?_
  refine lv_iconst (v := 1) hx hb dL_law_1567 (by decide) ?_
  refine lv_iadd hx hb dL_law_1568 ?_
  refine va_sld hx hb hXs hbl hbA I.2.2.2.2.2.2.2.2.1 hn1 dL_law_1569 ?_
  refine lv_aload_n hx hb dL_law_1570 rfl (lv_at hl 0 rfl) ?_
  refine lv_iload hx hb dL_law_1571 (lv_at hl 4 rfl) ?_
  refine lv_iconst (v := 2) hx hb dL_law_1573 (by decide) ?_
  refine lv_iadd hx hb dL_law_1574 ?_
  refine va_sld hx hb hXs hbl hbA I.2.2.2.2.2.2.2.2.1 hn2 dL_law_1575 ?_
  refine lv_aload_n hx hb dL_law_1576 rfl (lv_at hl 0 rfl) ?_
  refine lv_iload hx hb dL_law_1577 (lv_at hl 4 rfl) ?_
  refine lv_iconst (v := 3) hx hb dL_law_1579 (by decide) ?_
  refine lv_iadd hx hb dL_law_1580 ?_
  refine va_sld hx hb hXs hbl hbA I.2.2.2.2.2.2.2.2.1 hn3 dL_law_1581 ?_
  refine lv_i2l (v := ((xs (x4 + 3).toNatClampNeg)).toInt64) hx hb dL_law_1582 rfl ?_
  refine lv_bipush (v := 32) hx hb dL_law_1583 (by decide) ?_
  refine lv_lshl (v := (((xs (x4 + 3).toNatClampNeg)).toInt64) <<< ((32 : Int32).toInt64 &&& 63)) hx hb dL_law_1585 rfl ?_
  refine lv_aload_n hx hb dL_law_1586 rfl (lv_at hl 0 rfl) ?_
  refine lv_iload hx hb dL_law_1587 (lv_at hl 4 rfl) ?_
  refine lv_iconst (v := 4) hx hb dL_law_1589 (by decide) ?_
  refine lv_iadd hx hb dL_law_1590 ?_
  refine va_sld hx hb hXs hbl hbA I.2.2.2.2.2.2.2.2.1 hn4 dL_law_1591 ?_
  refine lv_i2l (v := ((xs (x4 + 4).toNatClampNeg)).toInt64) hx hb dL_law_1592 rfl ?_
  refine lv_ldc2 hx hb hown (hts (.constantLong RL 45 (4294967295)) (by decide +kernel)) dL_law_1593 ?_
  refine lv_land hx hb dL_law_1596 ?_
  refine lv_topl (fun v1596 e1596 => ?_)
  refine lv_lor hx hb dL_law_1597 ?_
  refine lv_topl (fun v1597 e1597 => ?_)
  refine lv_aload_n hx hb dL_law_1598 rfl (lv_at hl 0 rfl) ?_
  refine lv_iload hx hb dL_law_1599 (lv_at hl 4 rfl) ?_
  refine lv_iconst (v := 5) hx hb dL_law_1601 (by decide) ?_
  refine lv_iadd hx hb dL_law_1602 ?_
  refine va_sld hx hb hXs hbl hbA I.2.2.2.2.2.2.2.2.1 hn5 dL_law_1603 ?_
  have hI := I.2.2.2.2.2.2.1
  refine lm_l (As := [.int (xs (x4 + 1).toNatClampNeg), .int (xs (x4 + 2).toNatClampNeg), .long v1597, .int (xs (x4 + 5).toNatClampNeg)]) (rest := []) I ⟨hx, hb, hml, hown, hts⟩ (c_X10_turned l D cy mo a f g r q ((xs (x4 + 1).toNatClampNeg)) ((xs (x4 + 2).toNatClampNeg)) v1597 ((xs (x4 + 5).toNatClampNeg)) hDM) (cwV 4 hts gL_law_X10_turned rfl rfl rfl (by decide +kernel) ⟨Nat.le_of_ble_eq_true rfl, Nat.le_of_ble_eq_true rfl⟩) hK hAM rfl hl.1 rfl (Nat.le_of_ble_eq_true rfl) dL_law_1604 ⟨by omega, by omega⟩ (fun _ _ h9 => by obtain ⟨rfl, h9⟩ := h9; exact hI) (fun r1604 u H locs q1604 I => ?_)
  have ef : u.1 1 = f 1 := by obtain ⟨rfl, -⟩ := q1604; rfl
  have e2_ : u.2.2.1 2 = r 2 := by obtain ⟨rfl, -⟩ := q1604; rfl
  have e3_ : u.2.2.1 3 = r 3 := by obtain ⟨rfl, -⟩ := q1604; rfl
  have e4_ : u.2.2.1 4 = r 4 := by obtain ⟨rfl, -⟩ := q1604; rfl
  have e5_ : u.2.2.1 5 = r 5 := by obtain ⟨rfl, -⟩ := q1604; rfl
  have e6_ : u.2.2.1 6 = r 6 := by obtain ⟨rfl, -⟩ := q1604; rfl
  have e7_ : u.2.2.1 7 = r 7 := by obtain ⟨rfl, -⟩ := q1604; rfl
  have e8_ : u.2.2.1 8 = r 8 := by obtain ⟨rfl, -⟩ := q1604; rfl
  obtain ⟨f1, g1, r1, q1⟩ := u
  have ef : f1 1 = f 1 := ef
  have e2_ : r1 2 = r 2 := e2_
  have e3_ : r1 3 = r 3 := e3_
  have e4_ : r1 4 = r 4 := e4_
  have e5_ : r1 5 = r 5 := e5_
  have e6_ : r1 6 = r 6 := e6_
  have e7_ : r1 7 = r 7 := e7_
  have e8_ : r1 8 = r 8 := e8_
  have I : LI D cy s xo mo ou a M G1 W1 f1 g1 r1 q1 H locs := I
  refine lv_pop2_2 hx hb dL_law_1607 rfl ?_
  refine lv_goto (tgt := 2354) hx hb dL_law_1608 (by decide) ?_
  have hR1 : RlJ cy xo G1 W1 f1 r1 := hR.keep I0.2.2.1 I0.2.2.2.1 I0.2.2.2.2.1 hX rfl rfl rfl rfl ef e2_ e3_ e4_ e5_ e6_ e7_ e8_
  refine W.widen (k := C + 7) (n := S + 588) (by omega) (by omega) ?_
  exact kk _ _ _ _ _ _ _ _ _ I hR1 (lv_sub hl [0, 1, 2, 3, 4] rfl)
set_option maxHeartbeats 4000000 in
set_option maxRecDepth 100000 in
theorem lcase_22 {p : Program} {l : Launch} {e : Env} {s : State} {m : MethodId} {below : List Frame} {meth : Method} {c : Code} {b L : Nat} {xs : Nat → Int32} {D : va_G} {cy : Nat → ClassId} {xo mo ou : Nat} {a : Nat → Nat} {M : Option Nat} {G : cG} {W' : va_W} {f : Nat → Int32} {g : Nat → Int64} {r : Nat → Nat → Int32} {q : Nat → Nat → Int64} {H : Heap} {locs : List Loc} {ls : Array Slot} {Q : State → Prop} {C S : Nat} (X : LX p l s m c b L xs D cy mo a) (I : LI D cy s xo mo ou a M G W' f g r q H locs) (hR : RlJ cy xo G W' f r) {x4 : Int32} (h4 : 0 ≤ x4.toInt ∧ x4.toInt + 8 ≤ (L : Int) ∧ L ≤ 4096) (hC : C + 7 ≤ 601024) (hSl : S + 53273 ≤ 7293034) (hl : lv_has ls 8 [(0, .ref b), (1, .ref xo), (2, .ref mo), (3, .ref ou), (4, .int x4)]) (kk : ∀ (G : cG) (W' : va_W) (f : Nat → Int32) (g : Nat → Int64) (r : Nat → Nat → Int32) (q : Nat → Nat → Int64) (H : Heap) (locs : List Loc) (ls : Array Slot), LI D cy s xo mo ou a M G W' f g r q H locs → RlJ cy xo G W' f r → lv_has ls 8 [(0, .ref b), (1, .ref xo), (2, .ref mo), (3, .ref ou), (4, .int x4)] → W p l e room_1 s m #[Value.ref b] below meth c H locs (C + 7) (S + 588) Q (F0 m 2354 ls [])) : W p l e room_1 s m #[Value.ref b] below meth c H locs C S Q (F0 m 1611 ls []) := by
  obtain ⟨⟨hx, hb, hml, hown, hts⟩, ⟨hXs, hbl⟩, ⟨hK, hV, hZ, hXT⟩, hst, hDM, hAM⟩ := id X
  have I0 := I
  have hbA : ¬ AL s b := Nat.not_le.mpr hbl
  have hRc : room_1.cells = 601024 := rfl
  have hRs : room_1.slots = 7293034 := rfl
  have hn1 : vp_in (x4 + 1) L := l_in (c := 1) h4 rfl (by decide)
  have hn2 : vp_in (x4 + 2) L := l_in (c := 2) h4 rfl (by decide)
  have hn3 : vp_in (x4 + 3) L := l_in (c := 3) h4 rfl (by decide)
  have hn4 : vp_in (x4 + 4) L := l_in (c := 4) h4 rfl (by decide)
  have hn5 : vp_in (x4 + 5) L := l_in (c := 5) h4 rfl (by decide)
  have hn6 : vp_in (x4 + 6) L := l_in (c := 6) h4 rfl (by decide)
  have hn7 : vp_in (x4 + 7) L := l_in (c := 7) h4 rfl (by decide)
  refine lv_aload_n hx hb dL_law_1611 rfl (lv_at hl 1 rfl) ?_
  refine lv_aload_n hx hb dL_law_1612 rfl (lv_at hl 0 rfl) ?_
  refine lv_iload hx hb dL_law_1613 (lv_at hl 4 rfl) ?_
  refine lv_iconst (v := 1) hx hb dL_law_1615 (by decide) ?_
  refine lv_iadd hx hb dL_law_1616 ?_
  refine va_sld hx hb hXs hbl hbA I.2.2.2.2.2.2.2.2.1 hn1 dL_law_1617 ?_
  refine lv_aload_n hx hb dL_law_1618 rfl (lv_at hl 0 rfl) ?_
  refine lv_iload hx hb dL_law_1619 (lv_at hl 4 rfl) ?_
  refine lv_iconst (v := 2) hx hb dL_law_1621 (by decide) ?_
  refine lv_iadd hx hb dL_law_1622 ?_
  refine va_sld hx hb hXs hbl hbA I.2.2.2.2.2.2.2.2.1 hn2 dL_law_1623 ?_
  refine lv_aload_n hx hb dL_law_1624 rfl (lv_at hl 0 rfl) ?_
  refine lv_iload hx hb dL_law_1625 (lv_at hl 4 rfl) ?_
  refine lv_iconst (v := 3) hx hb dL_law_1627 (by decide) ?_
  refine lv_iadd hx hb dL_law_1628 ?_
  refine va_sld hx hb hXs hbl hbA I.2.2.2.2.2.2.2.2.1 hn3 dL_law_1629 ?_
  refine lv_i2l (v := ((xs (x4 + 3).toNatClampNeg)).toInt64) hx hb dL_law_1630 rfl ?_
  refine lv_bipush (v := 32) hx hb dL_law_1631 (by decide) ?_
  refine lv_lshl (v := (((xs (x4 + 3).toNatClampNeg)).toInt64) <<< ((32 : Int32).toInt64 &&& 63)) hx hb dL_law_1633 rfl ?_
  refine lv_aload_n hx hb dL_law_1634 rfl (lv_at hl 0 rfl) ?_
  refine lv_iload hx hb dL_law_1635 (lv_at hl 4 rfl) ?_
  refine lv_iconst (v := 4) hx hb dL_law_1637 (by decide) ?_
  refine lv_iadd hx hb dL_law_1638 ?_
  refine va_sld hx hb hXs hbl hbA I.2.2.2.2.2.2.2.2.1 hn4 dL_law_1639 ?_
  refine lv_i2l (v := ((xs (x4 + 4).toNatClampNeg)).toInt64) hx hb dL_law_1640 rfl ?_
  refine lv_ldc2 hx hb hown (hts (.constantLong RL 45 (4294967295)) (by decide +kernel)) dL_law_1641 ?_
  refine lv_land hx hb dL_law_1644 ?_
  refine lv_topl (fun v1644 e1644 => ?_)
  refine lv_lor hx hb dL_law_1645 ?_
  refine lv_topl (fun v1645 e1645 => ?_)
  refine lv_aload_n hx hb dL_law_1646 rfl (lv_at hl 0 rfl) ?_
  refine lv_iload hx hb dL_law_1647 (lv_at hl 4 rfl) ?_
  refine lv_iconst (v := 5) hx hb dL_law_1649 (by decide) ?_
  refine lv_iadd hx hb dL_law_1650 ?_
  refine va_sld hx hb hXs hbl hbA I.2.2.2.2.2.2.2.2.1 hn5 dL_law_1651 ?_
  refine lv_i2l (v := ((xs (x4 + 5).toNatClampNeg)).toInt64) hx hb dL_law_1652 rfl ?_
  refine lv_bipush (v := 32) hx hb dL_law_1653 (by decide) ?_
  refine lv_lshl (v := (((xs (x4 + 5).toNatClampNeg)).toInt64) <<< ((32 : Int32).toInt64 &&& 63)) hx hb dL_law_1655 rfl ?_
  refine lv_aload_n hx hb dL_law_1656 rfl (lv_at hl 0 rfl) ?_
  refine lv_iload hx hb dL_law_1657 (lv_at hl 4 rfl) ?_
  refine lv_bipush (v := 6) hx hb dL_law_1659 (by decide) ?_
  refine lv_iadd hx hb dL_law_1661 ?_
  refine va_sld hx hb hXs hbl hbA I.2.2.2.2.2.2.2.2.1 hn6 dL_law_1662 ?_
  refine lv_i2l (v := ((xs (x4 + 6).toNatClampNeg)).toInt64) hx hb dL_law_1663 rfl ?_
  refine lv_ldc2 hx hb hown (hts (.constantLong RL 45 (4294967295)) (by decide +kernel)) dL_law_1664 ?_
  refine lv_land hx hb dL_law_1667 ?_
  refine lv_topl (fun v1667 e1667 => ?_)
  refine lv_lor hx hb dL_law_1668 ?_
  refine lv_topl (fun v1668 e1668 => ?_)
  refine lv_aload_n hx hb dL_law_1669 rfl (lv_at hl 0 rfl) ?_
  refine lv_iload hx hb dL_law_1670 (lv_at hl 4 rfl) ?_
  refine lv_bipush (v := 7) hx hb dL_law_1672 (by decide) ?_
  refine lv_iadd hx hb dL_law_1674 ?_
  refine va_sld hx hb hXs hbl hbA I.2.2.2.2.2.2.2.2.1 hn7 dL_law_1675 ?_
  refine lk3_i I (va_runV (g := F0 m 1676 ls ([.int (xs (x4 + 7).toNatClampNeg), .long v1668, .long v1645, .int (xs (x4 + 2).toNatClampNeg), .int (xs (x4 + 1).toNatClampNeg), .ref xo])) (As := [.int (xs (x4 + 1).toNatClampNeg), .int (xs (x4 + 2).toNatClampNeg), .long v1645, .long v1668, .int (xs (x4 + 7).toNatClampNeg)]) (rest := []) ⟨hx, hb, hml, hown, hts⟩ (c_X9_parts l D cy (AC s mo a) G W' xo ((xs (x4 + 1).toNatClampNeg)) ((xs (x4 + 2).toNatClampNeg)) v1645 v1668 ((xs (x4 + 7).toNatClampNeg)) I.2.2.1 I.2.2.2.1 I.2.2.2.2.1) (cwV 5 hts gL_law_X9_parts rfl rfl rfl (by decide +kernel) ⟨Nat.le_of_ble_eq_true rfl, Nat.le_of_ble_eq_true rfl⟩) (l_preV I hK hV) rfl rfl hl.1 rfl (lv_room (Nat.le_of_ble_eq_true rfl)) dL_law_1676 ⟨by omega, by omega⟩) rfl (fun r1676 u H locs q1676 hX I => ?_)
  obtain ⟨G1, W1⟩ := u
  have I : LI D cy s xo mo ou a M G1 W1 f g r q H locs := I
  have hX : cX none (chs [1, 8]) G W' G1 W1 := hX
  refine lv_pop hx hb dL_law_1679 rfl ?_
  refine lv_aload_n hx hb dL_law_1680 rfl (lv_at hl 2 rfl) ?_
  refine lv_aload_n hx hb dL_law_1681 rfl (lv_at hl 0 rfl) ?_
  refine lv_iload hx hb dL_law_1682 (lv_at hl 4 rfl) ?_
  refine lv_iconst (v := 1) hx hb dL_law_1684 (by decide) ?_
  refine lv_iadd hx hb dL_law_1685 ?_
  refine va_sld hx hb hXs hbl hbA I.2.2.2.2.2.2.2.2.1 hn1 dL_law_1686 ?_
  refine lv_aload_n hx hb dL_law_1687 rfl (lv_at hl 0 rfl) ?_
  refine lv_iload hx hb dL_law_1688 (lv_at hl 4 rfl) ?_
  refine lv_iconst (v := 2) hx hb dL_law_1690 (by decide) ?_
  refine lv_iadd hx hb dL_law_1691 ?_
  refine va_sld hx hb hXs hbl hbA I.2.2.2.2.2.2.2.2.1 hn2 dL_law_1692 ?_
  refine lv_aload_n hx hb dL_law_1693 rfl (lv_at hl 0 rfl) ?_
  refine lv_iload hx hb dL_law_1694 (lv_at hl 4 rfl) ?_
  refine lv_iconst (v := 3) hx hb dL_law_1696 (by decide) ?_
  refine lv_iadd hx hb dL_law_1697 ?_
  refine va_sld hx hb hXs hbl hbA I.2.2.2.2.2.2.2.2.1 hn3 dL_law_1698 ?_
  refine lv_i2l (v := ((xs (x4 + 3).toNatClampNeg)).toInt64) hx hb dL_law_1699 rfl ?_
  refine lv_bipush (v := 32) hx hb dL_law_1700 (by decide) ?_
  refine lv_lshl (v := (((xs (x4 + 3).toNatClampNeg)).toInt64) <<< ((32 : Int32).toInt64 &&& 63)) hx hb dL_law_1702 rfl ?_
  refine lv_aload_n hx hb dL_law_1703 rfl (lv_at hl 0 rfl) ?_
  refine lv_iload hx hb dL_law_1704 (lv_at hl 4 rfl) ?_
  refine lv_iconst (v := 4) hx hb dL_law_1706 (by decide) ?_
  refine lv_iadd hx hb dL_law_1707 ?_
  refine va_sld hx hb hXs hbl hbA I.2.2.2.2.2.2.2.2.1 hn4 dL_law_1708 ?_
  refine lv_i2l (v := ((xs (x4 + 4).toNatClampNeg)).toInt64) hx hb dL_law_1709 rfl ?_
  refine lv_ldc2 hx hb hown (hts (.constantLong RL 45 (4294967295)) (by decide +kernel)) dL_law_1710 ?_
  refine lv_land hx hb dL_law_1713 ?_
  refine lv_topl (fun v1713 e1713 => ?_)
  refine lv_lor hx hb dL_law_1714 ?_
  refine lv_topl (fun v1714 e1714 => ?_)
  refine lv_aload_n hx hb dL_law_1715 rfl (lv_at hl 0 rfl) ?_
  refine lv_iload hx hb dL_law_1716 (lv_at hl 4 rfl) ?_
  refine lv_iconst (v := 5) hx hb dL_law_1718 (by decide) ?_
  refine lv_iadd hx hb dL_law_1719 ?_
  refine va_sld hx hb hXs hbl hbA I.2.2.2.2.2.2.2.2.1 hn5 dL_law_1720 ?_
  refine lv_i2l (v := ((xs (x4 + 5).toNatClampNeg)).toInt64) hx hb dL_law_1721 rfl ?_
  refine lv_bipush (v := 32) hx hb dL_law_1722 (by decide) ?_
  refine lv_lshl (v := (((xs (x4 + 5).toNatClampNeg)).toInt64) <<< ((32 : Int32).toInt64 &&& 63)) hx hb dL_law_1724 rfl ?_
  refine lv_aload_n hx hb dL_law_1725 rfl (lv_at hl 0 rfl) ?_
  refine lv_iload hx hb dL_law_1726 (lv_at hl 4 rfl) ?_
  refine lv_bipush (v := 6) hx hb dL_law_1728 (by decide) ?_
  refine lv_iadd hx hb dL_law_1730 ?_
  refine va_sld hx hb hXs hbl hbA I.2.2.2.2.2.2.2.2.1 hn6 dL_law_1731 ?_
  refine lv_i2l (v := ((xs (x4 + 6).toNatClampNeg)).toInt64) hx hb dL_law_1732 rfl ?_
  refine lv_ldc2 hx hb hown (hts (.constantLong RL 45 (4294967295)) (by decide +kernel)) dL_law_1733 ?_
  refine lv_land hx hb dL_law_1736 ?_
  refine lv_topl (fun v1736 e1736 => ?_)
  refine lv_lor hx hb dL_law_1737 ?_
  refine lv_topl (fun v1737 e1737 => ?_)
  refine lv_aload_n hx hb dL_law_1738 rfl (lv_at hl 0 rfl) ?_
  refine lv_iload hx hb dL_law_1739 (lv_at hl 4 rfl) ?_
  refine lv_bipush (v := 7) hx hb dL_law_1741 (by decide) ?_
  refine lv_iadd hx hb dL_law_1743 ?_
  refine va_sld hx hb hXs hbl hbA I.2.2.2.2.2.2.2.2.1 hn7 dL_law_1744 ?_
  have hI := I.2.2.2.2.2.2.1
  refine lm_i (As := [.int (xs (x4 + 1).toNatClampNeg), .int (xs (x4 + 2).toNatClampNeg), .long v1714, .long v1737, .int (xs (x4 + 7).toNatClampNeg)]) (rest := []) I ⟨hx, hb, hml, hown, hts⟩ (c_X10_parts l D cy mo a f g r q ((xs (x4 + 1).toNatClampNeg)) ((xs (x4 + 2).toNatClampNeg)) v1714 v1737 ((xs (x4 + 7).toNatClampNeg)) hDM) (cwV 5 hts gL_law_X10_parts rfl rfl rfl (by decide +kernel) ⟨Nat.le_of_ble_eq_true rfl, Nat.le_of_ble_eq_true rfl⟩) hK hAM rfl hl.1 rfl (Nat.le_of_ble_eq_true rfl) dL_law_1745 ⟨by omega, by omega⟩ (fun _ _ h9 => by obtain ⟨rfl, h9⟩ := h9; exact hI) (fun r1745 u H locs q1745 I => ?_)
  have ef : u.1 1 = f 1 := by obtain ⟨rfl, -⟩ := q1745; rfl
  have e2_ : u.2.2.1 2 = r 2 := by obtain ⟨rfl, -⟩ := q1745; rfl
  have e3_ : u.2.2.1 3 = r 3 := by obtain ⟨rfl, -⟩ := q1745; rfl
  have e4_ : u.2.2.1 4 = r 4 := by obtain ⟨rfl, -⟩ := q1745; rfl
  have e5_ : u.2.2.1 5 = r 5 := by obtain ⟨rfl, -⟩ := q1745; rfl
  have e6_ : u.2.2.1 6 = r 6 := by obtain ⟨rfl, -⟩ := q1745; rfl
  have e7_ : u.2.2.1 7 = r 7 := by obtain ⟨rfl, -⟩ := q1745; rfl
  have e8_ : u.2.2.1 8 = r 8 := by obtain ⟨rfl, -⟩ := q1745; rfl
  obtain ⟨f1, g1, r1, q1⟩ := u
  have ef : f1 1 = f 1 := ef
  have e2_ : r1 2 = r 2 := e2_
  have e3_ : r1 3 = r 3 := e3_
  have e4_ : r1 4 = r 4 := e4_
  have e5_ : r1 5 = r 5 := e5_
  have e6_ : r1 6 = r 6 := e6_
  have e7_ : r1 7 = r 7 := e7_
  have e8_ : r1 8 = r 8 := e8_
  have I : LI D cy s xo mo ou a M G1 W1 f1 g1 r1 q1 H locs := I
  refine lv_pop hx hb dL_law_1748 rfl ?_
  refine lv_goto (tgt := 2354) hx hb dL_law_1749 (by decide) ?_
  have hR1 : RlJ cy xo G1 W1 f1 r1 := hR.keep I0.2.2.1 I0.2.2.2.1 I0.2.2.2.2.1 hX rfl rfl rfl rfl ef e2_ e3_ e4_ e5_ e6_ e7_ e8_
  refine W.widen (k := C + 7) (n := S + 588) (by omega) (by omega) ?_
  exact kk _ _ _ _ _ _ _ _ _ I hR1 (lv_sub hl [0, 1, 2, 3, 4] rfl)
set_option maxHeartbeats 4000000 in
set_option maxRecDepth 100000 in
theorem lcase_23 {p : Program} {l : Launch} {e : Env} {s : State} {m : MethodId} {below : List Frame} {meth : Method} {c : Code} {b L : Nat} {xs : Nat → Int32} {D : va_G} {cy : Nat → ClassId} {xo mo ou : Nat} {a : Nat → Nat} {M : Option Nat} {G : cG} {W' : va_W} {f : Nat → Int32} {g : Nat → Int64} {r : Nat → Nat → Int32} {q : Nat → Nat → Int64} {H : Heap} {locs : List Loc} {ls : Array Slot} {Q : State → Prop} {C S : Nat} (X : LX p l s m c b L xs D cy mo a) (I : LI D cy s xo mo ou a M G W' f g r q H locs) (hR : RlJ cy xo G W' f r) {x4 : Int32} (h4 : 0 ≤ x4.toInt ∧ x4.toInt + 8 ≤ (L : Int) ∧ L ≤ 4096) (hC : C + 7 ≤ 601024) (hSl : S + 53273 ≤ 7293034) (hl : lv_has ls 8 [(0, .ref b), (1, .ref xo), (2, .ref mo), (3, .ref ou), (4, .int x4)]) (kk : ∀ (G : cG) (W' : va_W) (f : Nat → Int32) (g : Nat → Int64) (r : Nat → Nat → Int32) (q : Nat → Nat → Int64) (H : Heap) (locs : List Loc) (ls : Array Slot), LI D cy s xo mo ou a M G W' f g r q H locs → RlJ cy xo G W' f r → lv_has ls 8 [(0, .ref b), (1, .ref xo), (2, .ref mo), (3, .ref ou), (4, .int x4)] → W p l e room_1 s m #[Value.ref b] below meth c H locs (C + 7) (S + 588) Q (F0 m 2354 ls [])) : W p l e room_1 s m #[Value.ref b] below meth c H locs C S Q (F0 m 1752 ls []) := by
  obtain ⟨⟨hx, hb, hml, hown, hts⟩, ⟨hXs, hbl⟩, ⟨hK, hV, hZ, hXT⟩, hst, hDM, hAM⟩ := id X
  have I0 := I
  have hbA : ¬ AL s b := Nat.not_le.mpr hbl
  have hRc : room_1.cells = 601024 := rfl
  have hRs : room_1.slots = 7293034 := rfl
  have hn1 : vp_in (x4 + 1) L := l_in (c := 1) h4 rfl (by decide)
  have hn2 : vp_in (x4 + 2) L := l_in (c := 2) h4 rfl (by decide)
  have hn3 : vp_in (x4 + 3) L := l_in (c := 3) h4 rfl (by decide)
  have hn4 : vp_in (x4 + 4) L := l_in (c := 4) h4 rfl (by decide)
  have hn5 : vp_in (x4 + 5) L := l_in (c := 5) h4 rfl (by decide)
  have hn6 : vp_in (x4 + 6) L := l_in (c := 6) h4 rfl (by decide)
  have hn7 : vp_in (x4 + 7) L := l_in (c := 7) h4 rfl (by decide)
  refine lv_aload_n hx hb dL_law_1752 rfl (lv_at hl 1 rfl) ?_
  refine lv_aload_n hx hb dL_law_1753 rfl (lv_at hl 0 rfl) ?_
  refine lv_iload hx hb dL_law_1754 (lv_at hl 4 rfl) ?_
  refine lv_iconst (v := 1) hx hb dL_law_1756 (by decide) ?_
  refine lv_iadd hx hb dL_law_1757 ?_
  refine va_sld hx hb hXs hbl hbA I.2.2.2.2.2.2.2.2.1 hn1 dL_law_1758 ?_
  refine lv_aload_n hx hb dL_law_1759 rfl (lv_at hl 0 rfl) ?_
  refine lv_iload hx hb dL_law_1760 (lv_at hl 4 rfl) ?_
  refine lv_iconst (v := 2) hx hb dL_law_1762 (by decide) ?_
  refine lv_iadd hx hb dL_law_1763 ?_
  refine va_sld hx hb hXs hbl hbA I.2.2.2.2.2.2.2.2.1 hn2 dL_law_1764 ?_
  refine lv_aload_n hx hb dL_law_1765 rfl (lv_at hl 0 rfl) ?_
  refine lv_iload hx hb dL_law_1766 (lv_at hl 4 rfl) ?_
  refine lv_iconst (v := 3) hx hb dL_law_1768 (by decide) ?_
  refine lv_iadd hx hb dL_law_1769 ?_
  refine va_sld hx hb hXs hbl hbA I.2.2.2.2.2.2.2.2.1 hn3 dL_law_1770 ?_
  refine lv_i2l (v := ((xs (x4 + 3).toNatClampNeg)).toInt64) hx hb dL_law_1771 rfl ?_
  refine lv_bipush (v := 32) hx hb dL_law_1772 (by decide) ?_
  refine lv_lshl (v := (((xs (x4 + 3).toNatClampNeg)).toInt64) <<< ((32 : Int32).toInt64 &&& 63)) hx hb dL_law_1774 rfl ?_
  refine lv_aload_n hx hb dL_law_1775 rfl (lv_at hl 0 rfl) ?_
  refine lv_iload hx hb dL_law_1776 (lv_at hl 4 rfl) ?_
  refine lv_iconst (v := 4) hx hb dL_law_1778 (by decide) ?_
  refine lv_iadd hx hb dL_law_1779 ?_
  refine va_sld hx hb hXs hbl hbA I.2.2.2.2.2.2.2.2.1 hn4 dL_law_1780 ?_
  refine lv_i2l (v := ((xs (x4 + 4).toNatClampNeg)).toInt64) hx hb dL_law_1781 rfl ?_
  refine lv_ldc2 hx hb hown (hts (.constantLong RL 45 (4294967295)) (by decide +kernel)) dL_law_1782 ?_
  refine lv_land hx hb dL_law_1785 ?_
  refine lv_topl (fun v1785 e1785 => ?_)
  refine lv_lor hx hb dL_law_1786 ?_
  refine lv_topl (fun v1786 e1786 => ?_)
  obtain ⟨bs, js, sh, wk, ll, jc, lc, lb, hM⟩ := I.2.2.2.2.2.2.2.1
  obtain ⟨hjc, fa, J, hfa, hJ⟩ := hR.at I.2.2.1 hM
  subst hjc
  refine lk3_s I (va_runV (g := F0 m 1787 ls ([.long v1786, .int (xs (x4 + 2).toNatClampNeg), .int (xs (x4 + 1).toNatClampNeg), .ref xo])) (As := [.int (xs (x4 + 1).toNatClampNeg), .int (xs (x4 + 2).toNatClampNeg), .long v1786]) (rest := []) ⟨hx, hb, hml, hown, hts⟩ (c_X9_list_k l D cy (AC s mo a) G W' xo ((xs (x4 + 1).toNatClampNeg)) ((xs (x4 + 2).toNatClampNeg)) v1786 I.2.2.1 I.2.2.2.1 I.2.2.2.2.1 hM) (cwV 3 hts gL_law_X9_list rfl rfl rfl (by decide +kernel) ⟨Nat.le_of_ble_eq_true rfl, Nat.le_of_ble_eq_true rfl⟩) (l_preV I hK hV) rfl rfl hl.1 rfl (lv_room (Nat.le_of_ble_eq_true rfl)) dL_law_1787 ⟨by omega, by omega⟩) (fun _ _ h9 => by obtain ⟨lc9, lb9, hm9⟩ := h9; exact ⟨_, _, _, _, _, _, lc9, lb9, hm9⟩) (fun r1787 u H locs q1787 hX I => ?_)
  obtain ⟨G1, W1⟩ := u
  have I : LI D cy s xo mo ou a M G1 W1 f g r q H locs := I
  have hX : cX none (chs [1, 7, 8, 17]) G W' G1 W1 := hX
  have qj := q1787
  refine lv_pop hx hb dL_law_1790 rfl ?_
  refine lv_aload_n hx hb dL_law_1791 rfl (lv_at hl 2 rfl) ?_
  refine lv_aload_n hx hb dL_law_1792 rfl (lv_at hl 0 rfl) ?_
  refine lv_iload hx hb dL_law_1793 (lv_at hl 4 rfl) ?_
  refine lv_iconst (v := 1) hx hb dL_law_1795 (by decide) ?_
  refine lv_iadd hx hb dL_law_1796 ?_
  refine va_sld hx hb hXs hbl hbA I.2.2.2.2.2.2.2.2.1 hn1 dL_law_1797 ?_
  refine lv_aload_n hx hb dL_law_1798 rfl (lv_at hl 0 rfl) ?_
  refine lv_iload hx hb dL_law_1799 (lv_at hl 4 rfl) ?_
  refine lv_iconst (v := 2) hx hb dL_law_1801 (by decide) ?_
  refine lv_iadd hx hb dL_law_1802 ?_
  refine va_sld hx hb hXs hbl hbA I.2.2.2.2.2.2.2.2.1 hn2 dL_law_1803 ?_
  refine lv_aload_n hx hb dL_law_1804 rfl (lv_at hl 0 rfl) ?_
  refine lv_iload hx hb dL_law_1805 (lv_at hl 4 rfl) ?_
  refine lv_iconst (v := 3) hx hb dL_law_1807 (by decide) ?_
  refine lv_iadd hx hb dL_law_1808 ?_
  refine va_sld hx hb hXs hbl hbA I.2.2.2.2.2.2.2.2.1 hn3 dL_law_1809 ?_
  refine lv_i2l (v := ((xs (x4 + 3).toNatClampNeg)).toInt64) hx hb dL_law_1810 rfl ?_
  refine lv_bipush (v := 32) hx hb dL_law_1811 (by decide) ?_
  refine lv_lshl (v := (((xs (x4 + 3).toNatClampNeg)).toInt64) <<< ((32 : Int32).toInt64 &&& 63)) hx hb dL_law_1813 rfl ?_
  refine lv_aload_n hx hb dL_law_1814 rfl (lv_at hl 0 rfl) ?_
  refine lv_iload hx hb dL_law_1815 (lv_at hl 4 rfl) ?_
  refine lv_iconst (v := 4) hx hb dL_law_1817 (by decide) ?_
  refine lv_iadd hx hb dL_law_1818 ?_
  refine va_sld hx hb hXs hbl hbA I.2.2.2.2.2.2.2.2.1 hn4 dL_law_1819 ?_
  refine lv_i2l (v := ((xs (x4 + 4).toNatClampNeg)).toInt64) hx hb dL_law_1820 rfl ?_
  refine lv_ldc2 hx hb hown (hts (.constantLong RL 45 (4294967295)) (by decide +kernel)) dL_law_1821 ?_
  refine lv_land hx hb dL_law_1824 ?_
  refine lv_topl (fun v1824 e1824 => ?_)
  refine lv_lor hx hb dL_law_1825 ?_
  refine lv_topl (fun v1825 e1825 => ?_)
  have hI := I.2.2.2.2.2.2.1
  refine lm_i (As := [.int (xs (x4 + 1).toNatClampNeg), .int (xs (x4 + 2).toNatClampNeg), .long v1825]) (rest := []) I ⟨hx, hb, hml, hown, hts⟩ (c_X10_list l D cy mo a f g r q ((xs (x4 + 1).toNatClampNeg)) ((xs (x4 + 2).toNatClampNeg)) v1825 hDM hI) (cwV 3 hts gL_law_X10_list rfl rfl rfl (by decide +kernel) ⟨Nat.le_of_ble_eq_true rfl, Nat.le_of_ble_eq_true rfl⟩) hK hAM rfl hl.1 rfl (Nat.le_of_ble_eq_true rfl) dL_law_1826 ⟨by omega, by omega⟩ (fun _ _ h9 => by obtain ⟨_, _, _, _, rfl, h9⟩ := h9; exact h9) (fun r1826 u H locs q1826 I => ?_)
  have ef : u.1 1 = f 1 := by obtain ⟨_, _, _, _, rfl, -⟩ := q1826; rfl
  have e2_ : u.2.2.1 2 = r 2 := by obtain ⟨_, _, _, _, rfl, -⟩ := q1826; rfl
  have e3_ : u.2.2.1 3 = r 3 := by obtain ⟨_, _, _, _, rfl, -⟩ := q1826; rfl
  have e4_ : u.2.2.1 4 = r 4 := by obtain ⟨_, _, _, _, rfl, -⟩ := q1826; rfl
  have e5_ : u.2.2.1 5 = r 5 := by obtain ⟨_, _, _, _, rfl, -⟩ := q1826; rfl
  have e6_ : u.2.2.1 6 = r 6 := by obtain ⟨_, _, _, _, rfl, -⟩ := q1826; rfl
  have e7_ : u.2.2.1 7 = r 7 := by obtain ⟨_, _, _, _, rfl, -⟩ := q1826; rfl
  have e8_ : u.2.2.1 8 = r 8 := by obtain ⟨_, _, _, _, rfl, -⟩ := q1826; rfl
  obtain ⟨f1, g1, r1, q1⟩ := u
  have ef : f1 1 = f 1 := ef
  have e2_ : r1 2 = r 2 := e2_
  have e3_ : r1 3 = r 3 := e3_
  have e4_ : r1 4 = r 4 := e4_
  have e5_ : r1 5 = r 5 := e5_
  have e6_ : r1 6 = r 6 := e6_
  have e7_ : r1 7 = r 7 := e7_
  have e8_ : r1 8 = r 8 := e8_
  have I : LI D cy s xo mo ou a M G1 W1 f1 g1 r1 q1 H locs := I
  refine lv_pop hx hb dL_law_1829 rfl ?_
  refine lv_goto (tgt := 2354) hx hb dL_law_1830 (by decide) ?_
  have hR1 : RlJ cy xo G1 W1 f1 r1 := by obtain ⟨lc9, lb9, hm9⟩ := qj; exact hR.shp I0.2.2.1 I0.2.2.2.1 I0.2.2.2.2.1 hX rfl rfl rfl hM hm9 ef e2_ e3_ e4_ e5_ e6_ e7_ e8_
  refine W.widen (k := C + 7) (n := S + 588) (by omega) (by omega) ?_
  exact kk _ _ _ _ _ _ _ _ _ I hR1 (lv_sub hl [0, 1, 2, 3, 4] rfl)
set_option maxHeartbeats 4000000 in
set_option maxRecDepth 100000 in
theorem lcase_24 {p : Program} {l : Launch} {e : Env} {s : State} {m : MethodId} {below : List Frame} {meth : Method} {c : Code} {b L : Nat} {xs : Nat → Int32} {D : va_G} {cy : Nat → ClassId} {xo mo ou : Nat} {a : Nat → Nat} {M : Option Nat} {G : cG} {W' : va_W} {f : Nat → Int32} {g : Nat → Int64} {r : Nat → Nat → Int32} {q : Nat → Nat → Int64} {H : Heap} {locs : List Loc} {ls : Array Slot} {Q : State → Prop} {C S : Nat} (X : LX p l s m c b L xs D cy mo a) (I : LI D cy s xo mo ou a M G W' f g r q H locs) (hR : RlJ cy xo G W' f r) {x4 : Int32} (h4 : 0 ≤ x4.toInt ∧ x4.toInt + 8 ≤ (L : Int) ∧ L ≤ 4096) (hC : C + 7 ≤ 601024) (hSl : S + 53273 ≤ 7293034) (hl : lv_has ls 8 [(0, .ref b), (1, .ref xo), (2, .ref mo), (3, .ref ou), (4, .int x4)]) (kk : ∀ (G : cG) (W' : va_W) (f : Nat → Int32) (g : Nat → Int64) (r : Nat → Nat → Int32) (q : Nat → Nat → Int64) (H : Heap) (locs : List Loc) (ls : Array Slot), LI D cy s xo mo ou a M G W' f g r q H locs → RlJ cy xo G W' f r → lv_has ls 8 [(0, .ref b), (1, .ref xo), (2, .ref mo), (3, .ref ou), (4, .int x4)] → W p l e room_1 s m #[Value.ref b] below meth c H locs (C + 7) (S + 588) Q (F0 m 2354 ls [])) : W p l e room_1 s m #[Value.ref b] below meth c H locs C S Q (F0 m 1833 ls []) := by
  obtain ⟨⟨hx, hb, hml, hown, hts⟩, ⟨hXs, hbl⟩, ⟨hK, hV, hZ, hXT⟩, hst, hDM, hAM⟩ := id X
  have I0 := I
  have hbA : ¬ AL s b := Nat.not_le.mpr hbl
  have hRc : room_1.cells = 601024 := rfl
  have hRs : room_1.slots = 7293034 := rfl
  have hn1 : vp_in (x4 + 1) L := l_in (c := 1) h4 rfl (by decide)
  have hn2 : vp_in (x4 + 2) L := l_in (c := 2) h4 rfl (by decide)
  have hn3 : vp_in (x4 + 3) L := l_in (c := 3) h4 rfl (by decide)
  have hn4 : vp_in (x4 + 4) L := l_in (c := 4) h4 rfl (by decide)
  have hn5 : vp_in (x4 + 5) L := l_in (c := 5) h4 rfl (by decide)
  have hn6 : vp_in (x4 + 6) L := l_in (c := 6) h4 rfl (by decide)
  have hn7 : vp_in (x4 + 7) L := l_in (c := 7) h4 rfl (by decide)
  refine lv_aload_n hx hb dL_law_1833 rfl (lv_at hl 1 rfl) ?_
  obtain ⟨bs, js, sh, wk, ll, jc, lc, lb, hM⟩ := I.2.2.2.2.2.2.2.1
  obtain ⟨hjc, fa, J, hfa, hJ⟩ := hR.at I.2.2.1 hM
  subst hjc
  refine lk3_s I (va_runV (g := F0 m 1834 ls ([.ref xo])) (As := []) (rest := []) ⟨hx, hb, hml, hown, hts⟩ (c_X9_clear_k l D cy (AC s mo a) G W' xo  I.2.2.1 I.2.2.2.1 I.2.2.2.2.1 hM) (cwV 0 hts gL_law_X9_clear rfl rfl rfl (by decide +kernel) ⟨Nat.le_of_ble_eq_true rfl, Nat.le_of_ble_eq_true rfl⟩) (l_preV I hK hV) rfl rfl hl.1 rfl (lv_room (Nat.le_of_ble_eq_true rfl)) dL_law_1834 ⟨by omega, by omega⟩) (fun _ _ h9 => by obtain ⟨lc9, lb9, hm9⟩ := h9; exact ⟨_, _, _, _, _, _, lc9, lb9, hm9⟩) (fun r1834 u H locs q1834 hX I => ?_)
  obtain ⟨G1, W1⟩ := u
  have I : LI D cy s xo mo ou a M G1 W1 f g r q H locs := I
  have hX : cX none (chs [7]) G W' G1 W1 := hX
  have qj := q1834
  refine lv_pop hx hb dL_law_1837 rfl ?_
  refine lv_aload_n hx hb dL_law_1838 rfl (lv_at hl 2 rfl) ?_
  have hI := I.2.2.2.2.2.2.1
  refine lm_i (As := []) (rest := []) I ⟨hx, hb, hml, hown, hts⟩ (c_X10_clear l D cy mo a f g r q  hDM hI) (cwV 0 hts gL_law_X10_clear rfl rfl rfl (by decide +kernel) ⟨Nat.le_of_ble_eq_true rfl, Nat.le_of_ble_eq_true rfl⟩) hK hAM rfl hl.1 rfl (Nat.le_of_ble_eq_true rfl) dL_law_1839 ⟨by omega, by omega⟩ (fun _ _ h9 => by obtain ⟨rfl, h9⟩ := h9; exact h9.2) (fun r1839 u H locs q1839 I => ?_)
  have ef : u.1 1 = f 1 := by obtain ⟨rfl, -⟩ := q1839; rfl
  have e2_ : u.2.2.1 2 = r 2 := by obtain ⟨rfl, -⟩ := q1839; rfl
  have e3_ : u.2.2.1 3 = r 3 := by obtain ⟨rfl, -⟩ := q1839; rfl
  have e4_ : u.2.2.1 4 = r 4 := by obtain ⟨rfl, -⟩ := q1839; rfl
  have e5_ : u.2.2.1 5 = r 5 := by obtain ⟨rfl, -⟩ := q1839; rfl
  have e6_ : u.2.2.1 6 = r 6 := by obtain ⟨rfl, -⟩ := q1839; rfl
  have e7_ : u.2.2.1 7 = r 7 := by obtain ⟨rfl, -⟩ := q1839; rfl
  have e8_ : u.2.2.1 8 = r 8 := by obtain ⟨rfl, -⟩ := q1839; rfl
  obtain ⟨f1, g1, r1, q1⟩ := u
  have ef : f1 1 = f 1 := ef
  have e2_ : r1 2 = r 2 := e2_
  have e3_ : r1 3 = r 3 := e3_
  have e4_ : r1 4 = r 4 := e4_
  have e5_ : r1 5 = r 5 := e5_
  have e6_ : r1 6 = r 6 := e6_
  have e7_ : r1 7 = r 7 := e7_
  have e8_ : r1 8 = r 8 := e8_
  have I : LI D cy s xo mo ou a M G1 W1 f1 g1 r1 q1 H locs := I
  refine lv_pop hx hb dL_law_1842 rfl ?_
  refine lv_goto (tgt := 2354) hx hb dL_law_1843 (by decide) ?_
  have hR1 : RlJ cy xo G1 W1 f1 r1 := by obtain ⟨lc9, lb9, hm9⟩ := qj; exact hR.shp I0.2.2.1 I0.2.2.2.1 I0.2.2.2.2.1 hX rfl rfl rfl hM hm9 ef e2_ e3_ e4_ e5_ e6_ e7_ e8_
  refine W.widen (k := C + 7) (n := S + 588) (by omega) (by omega) ?_
  exact kk _ _ _ _ _ _ _ _ _ I hR1 (lv_sub hl [0, 1, 2, 3, 4] rfl)
set_option maxHeartbeats 4000000 in
set_option maxRecDepth 100000 in
theorem lcase_25 {p : Program} {l : Launch} {e : Env} {s : State} {m : MethodId} {below : List Frame} {meth : Method} {c : Code} {b L : Nat} {xs : Nat → Int32} {D : va_G} {cy : Nat → ClassId} {xo mo ou : Nat} {a : Nat → Nat} {M : Option Nat} {G : cG} {W' : va_W} {f : Nat → Int32} {g : Nat → Int64} {r : Nat → Nat → Int32} {q : Nat → Nat → Int64} {H : Heap} {locs : List Loc} {ls : Array Slot} {Q : State → Prop} {C S : Nat} (X : LX p l s m c b L xs D cy mo a) (I : LI D cy s xo mo ou a M G W' f g r q H locs) (hR : RlJ cy xo G W' f r) {x4 : Int32} (h4 : 0 ≤ x4.toInt ∧ x4.toInt + 8 ≤ (L : Int) ∧ L ≤ 4096) (hC : C + 7 ≤ 601024) (hSl : S + 53273 ≤ 7293034) (hl : lv_has ls 8 [(0, .ref b), (1, .ref xo), (2, .ref mo), (3, .ref ou), (4, .int x4)]) (kk : ∀ (G : cG) (W' : va_W) (f : Nat → Int32) (g : Nat → Int64) (r : Nat → Nat → Int32) (q : Nat → Nat → Int64) (H : Heap) (locs : List Loc) (ls : Array Slot), LI D cy s xo mo ou a M G W' f g r q H locs → RlJ cy xo G W' f r → lv_has ls 8 [(0, .ref b), (1, .ref xo), (2, .ref mo), (3, .ref ou), (4, .int x4)] → W p l e room_1 s m #[Value.ref b] below meth c H locs (C + 7) (S + 588) Q (F0 m 2354 ls [])) : W p l e room_1 s m #[Value.ref b] below meth c H locs C S Q (F0 m 1846 ls []) := by
  obtain ⟨⟨hx, hb, hml, hown, hts⟩, ⟨hXs, hbl⟩, ⟨hK, hV, hZ, hXT⟩, hst, hDM, hAM⟩ := id X
  have I0 := I
  have hbA : ¬ AL s b := Nat.not_le.mpr hbl
  have hRc : room_1.cells = 601024 := rfl
  have hRs : room_1.slots = 7293034 := rfl
  have hn1 : vp_in (x4 + 1) L := l_in (c := 1) h4 rfl (by decide)
  have hn2 : vp_in (x4 + 2) L := l_in (c := 2) h4 rfl (by decide)
  have hn3 : vp_in (x4 + 3) L := l_in (c := 3) h4 rfl (by decide)
  have hn4 : vp_in (x4 + 4) L := l_in (c := 4) h4 rfl (by decide)
  have hn5 : vp_in (x4 + 5) L := l_in (c := 5) h4 rfl (by decide)
  have hn6 : vp_in (x4 + 6) L := l_in (c := 6) h4 rfl (by decide)
  have hn7 : vp_in (x4 + 7) L := l_in (c := 7) h4 rfl (by decide)
  refine lv_aload_n hx hb dL_law_1846 rfl (lv_at hl 1 rfl) ?_
  refine lk3_ri I (va_runV (g := F0 m 1847 ls ([.ref xo])) (As := []) (rest := []) ⟨hx, hb, hml, hown, hts⟩ (c_X9_ways l D cy (AC s mo a) G W' xo  I.2.2.1 I.2.2.2.1 I.2.2.2.2.1) (cwV 0 hts gL_law_X9_ways rfl rfl rfl (by decide +kernel) ⟨Nat.le_of_ble_eq_true rfl, Nat.le_of_ble_eq_true rfl⟩) (l_preV I hK hV) rfl rfl hl.1 rfl (lv_room (Nat.le_of_ble_eq_true rfl)) dL_law_1847 ⟨by omega, by omega⟩) (fun r1847 u H locs q1847 hX I => ?_)
  obtain ⟨G1, W1⟩ := u
  have I : LI D cy s xo mo ou a M G1 W1 f g r q H locs := I
  have hX : cX none (chs []) G W' G1 W1 := hX
  refine lv_pop hx hb dL_law_1850 rfl ?_
  refine lv_aload_n hx hb dL_law_1851 rfl (lv_at hl 2 rfl) ?_
  have hI := I.2.2.2.2.2.2.1
  refine lm_i (As := []) (rest := []) I ⟨hx, hb, hml, hown, hts⟩ (c_X10_ways l D cy mo a f g r q  hDM hI) (cwV 0 hts gL_law_X10_ways rfl rfl rfl (by decide +kernel) ⟨Nat.le_of_ble_eq_true rfl, Nat.le_of_ble_eq_true rfl⟩) hK hAM rfl hl.1 rfl (Nat.le_of_ble_eq_true rfl) dL_law_1852 ⟨by omega, by omega⟩ (fun _ _ h9 => by obtain ⟨rfl, h9⟩ := h9; exact hI) (fun r1852 u H locs q1852 I => ?_)
  have ef : u.1 1 = f 1 := by obtain ⟨rfl, -⟩ := q1852; rfl
  have e2_ : u.2.2.1 2 = r 2 := by obtain ⟨rfl, -⟩ := q1852; rfl
  have e3_ : u.2.2.1 3 = r 3 := by obtain ⟨rfl, -⟩ := q1852; rfl
  have e4_ : u.2.2.1 4 = r 4 := by obtain ⟨rfl, -⟩ := q1852; rfl
  have e5_ : u.2.2.1 5 = r 5 := by obtain ⟨rfl, -⟩ := q1852; rfl
  have e6_ : u.2.2.1 6 = r 6 := by obtain ⟨rfl, -⟩ := q1852; rfl
  have e7_ : u.2.2.1 7 = r 7 := by obtain ⟨rfl, -⟩ := q1852; rfl
  have e8_ : u.2.2.1 8 = r 8 := by obtain ⟨rfl, -⟩ := q1852; rfl
  obtain ⟨f1, g1, r1, q1⟩ := u
  have ef : f1 1 = f 1 := ef
  have e2_ : r1 2 = r 2 := e2_
  have e3_ : r1 3 = r 3 := e3_
  have e4_ : r1 4 = r 4 := e4_
  have e5_ : r1 5 = r 5 := e5_
  have e6_ : r1 6 = r 6 := e6_
  have e7_ : r1 7 = r 7 := e7_
  have e8_ : r1 8 = r 8 := e8_
  have I : LI D cy s xo mo ou a M G1 W1 f1 g1 r1 q1 H locs := I
  refine lv_pop hx hb dL_law_1855 rfl ?_
  refine lv_goto (tgt := 2354) hx hb dL_law_1856 (by decide) ?_
  have hR1 : RlJ cy xo G1 W1 f1 r1 := hR.keep I0.2.2.1 I0.2.2.2.1 I0.2.2.2.2.1 hX rfl rfl rfl rfl ef e2_ e3_ e4_ e5_ e6_ e7_ e8_
  refine W.widen (k := C + 7) (n := S + 588) (by omega) (by omega) ?_
  exact kk _ _ _ _ _ _ _ _ _ I hR1 (lv_sub hl [0, 1, 2, 3, 4] rfl)
set_option maxHeartbeats 4000000 in
set_option maxRecDepth 100000 in
theorem lcase_26 {p : Program} {l : Launch} {e : Env} {s : State} {m : MethodId} {below : List Frame} {meth : Method} {c : Code} {b L : Nat} {xs : Nat → Int32} {D : va_G} {cy : Nat → ClassId} {xo mo ou : Nat} {a : Nat → Nat} {M : Option Nat} {G : cG} {W' : va_W} {f : Nat → Int32} {g : Nat → Int64} {r : Nat → Nat → Int32} {q : Nat → Nat → Int64} {H : Heap} {locs : List Loc} {ls : Array Slot} {Q : State → Prop} {C S : Nat} (X : LX p l s m c b L xs D cy mo a) (I : LI D cy s xo mo ou a M G W' f g r q H locs) (hR : RlJ cy xo G W' f r) {x4 : Int32} (h4 : 0 ≤ x4.toInt ∧ x4.toInt + 8 ≤ (L : Int) ∧ L ≤ 4096) (hC : C + 7 ≤ 601024) (hSl : S + 53273 ≤ 7293034) (hl : lv_has ls 8 [(0, .ref b), (1, .ref xo), (2, .ref mo), (3, .ref ou), (4, .int x4)]) (kk : ∀ (G : cG) (W' : va_W) (f : Nat → Int32) (g : Nat → Int64) (r : Nat → Nat → Int32) (q : Nat → Nat → Int64) (H : Heap) (locs : List Loc) (ls : Array Slot), LI D cy s xo mo ou a M G W' f g r q H locs → RlJ cy xo G W' f r → lv_has ls 8 [(0, .ref b), (1, .ref xo), (2, .ref mo), (3, .ref ou), (4, .int x4)] → W p l e room_1 s m #[Value.ref b] below meth c H locs (C + 7) (S + 588) Q (F0 m 2354 ls [])) : W p l e room_1 s m #[Value.ref b] below meth c H locs C S Q (F0 m 1859 ls []) := by
  obtain ⟨⟨hx, hb, hml, hown, hts⟩, ⟨hXs, hbl⟩, ⟨hK, hV, hZ, hXT⟩, hst, hDM, hAM⟩ := id X
  have I0 := I
  have hbA : ¬ AL s b := Nat.not_le.mpr hbl
  have hRc : room_1.cells = 601024 := rfl
  have hRs : room_1.slots = 7293034 := rfl
  have hn1 : vp_in (x4 + 1) L := l_in (c := 1) h4 rfl (by decide)
  have hn2 : vp_in (x4 + 2) L := l_in (c := 2) h4 rfl (by decide)
  have hn3 : vp_in (x4 + 3) L := l_in (c := 3) h4 rfl (by decide)
  have hn4 : vp_in (x4 + 4) L := l_in (c := 4) h4 rfl (by decide)
  have hn5 : vp_in (x4 + 5) L := l_in (c := 5) h4 rfl (by decide)
  have hn6 : vp_in (x4 + 6) L := l_in (c := 6) h4 rfl (by decide)
  have hn7 : vp_in (x4 + 7) L := l_in (c := 7) h4 rfl (by decide)
  refine lv_aload_n hx hb dL_law_1859 rfl (lv_at hl 1 rfl) ?_
  refine lv_aload_n hx hb dL_law_1860 rfl (lv_at hl 0 rfl) ?_
  refine lv_iload hx hb dL_law_1861 (lv_at hl 4 rfl) ?_
  refine lv_iconst (v := 1) hx hb dL_law_1863 (by decide) ?_
  refine lv_iadd hx hb dL_law_1864 ?_
  refine va_sld hx hb hXs hbl hbA I.2.2.2.2.2.2.2.2.1 hn1 dL_law_1865 ?_
  refine lv_aload_n hx hb dL_law_1866 rfl (lv_at hl 0 rfl) ?_
  refine lv_iload hx hb dL_law_1867 (lv_at hl 4 rfl) ?_
  refine lv_iconst (v := 2) hx hb dL_law_1869 (by decide) ?_
  refine lv_iadd hx hb dL_law_1870 ?_
  refine va_sld hx hb hXs hbl hbA I.2.2.2.2.2.2.2.2.1 hn2 dL_law_1871 ?_
  refine lv_aload_n hx hb dL_law_1872 rfl (lv_at hl 0 rfl) ?_
  refine lv_iload hx hb dL_law_1873 (lv_at hl 4 rfl) ?_
  refine lv_iconst (v := 3) hx hb dL_law_1875 (by decide) ?_
  refine lv_iadd hx hb dL_law_1876 ?_
  refine va_sld hx hb hXs hbl hbA I.2.2.2.2.2.2.2.2.1 hn3 dL_law_1877 ?_
  refine lv_aload_n hx hb dL_law_1878 rfl (lv_at hl 3 rfl) ?_
  refine lk3_i I (vx_runSW (g := F0 m 1879 ls ([.ref ou, .int (xs (x4 + 3).toNatClampNeg), .int (xs (x4 + 2).toNatClampNeg), .int (xs (x4 + 1).toNatClampNeg), .ref xo])) (As := [.ref xo, .int (xs (x4 + 1).toNatClampNeg), .int (xs (x4 + 2).toNatClampNeg), .int (xs (x4 + 3).toNatClampNeg), .ref ou]) (rest := []) ⟨hx, hb, hml, hown, hts⟩ (c_L_ghost l hst D cy (AC s mo a) G W' xo ((xs (x4 + 1).toNatClampNeg)) ((xs (x4 + 2).toNatClampNeg)) ((xs (x4 + 3).toNatClampNeg)) ou I.2.2.1 I.2.2.2.1 I.2.2.2.2.1 I.2.2.2.2.2.1) (vx_cwSW 5 hts gL_law_L_ghost rfl rfl rfl (by decide +kernel) ⟨Nat.le_of_ble_eq_true rfl, Nat.le_of_ble_eq_true rfl⟩) (l_preS I hK hV hZ hXT) rfl rfl hl.1 rfl (lv_room (Nat.le_of_ble_eq_true rfl)) dL_law_1879 ⟨by omega, by omega⟩) rfl (fun r1879 u H locs q1879 hX I => ?_)
  obtain ⟨G1, W1⟩ := u
  have I : LI D cy s xo mo ou a M G1 W1 f g r q H locs := I
  have hX : cX none (chs [1]) G W' G1 W1 := hX
  refine lv_istore (lv' := [(5, .int r1879), (0, .ref b), (1, .ref xo), (2, .ref mo), (3, .ref ou), (4, .int x4)]) hx hb dL_law_1882 hl (by decide) rfl (fun ls hl => ?_)
  refine lv_aload_n hx hb dL_law_1884 rfl (lv_at hl 3 rfl) ?_
  refine lv_aload_n hx hb dL_law_1885 rfl (lv_at hl 1 rfl) ?_
  refine lv_iload hx hb dL_law_1886 (lv_at hl 5 rfl) ?_
  refine lv_iconst (v := 1) hx hb dL_law_1888 (by decide) ?_
  refine lv_iadd hx hb dL_law_1889 ?_
  refine va_sld hx hb hXs hbl hbA I.2.2.2.2.2.2.2.2.1 hn1 dL_law_1890 ?_
  refine lv_aload_n hx hb dL_law_1891 rfl (lv_at hl 1 rfl) ?_
  refine lv_iload hx hb dL_law_1892 (lv_at hl 5 rfl) ?_
  refine lv_iconst (v := 2) hx hb dL_law_1894 (by decide) ?_
  refine lv_iadd hx hb dL_law_1895 ?_
  refine va_sld hx hb hXs hbl hbA I.2.2.2.2.2.2.2.2.1 hn2 dL_law_1896 ?_
  refine lv_aload_n hx hb dL_law_1897 rfl (lv_at hl 1 rfl) ?_
  refine lv_iload hx hb dL_law_1898 (lv_at hl 5 rfl) ?_
  refine lv_iconst (v := 3) hx hb dL_law_1900 (by decide) ?_
  refine lv_iadd hx hb dL_law_1901 ?_
  refine va_sld hx hb hXs hbl hbA I.2.2.2.2.2.2.2.2.1 hn3 dL_law_1902 ?_
  have hI := I.2.2.2.2.2.2.1
  refine lm_i (As := [.int (xs (x4 + 1).toNatClampNeg), .int (xs (x4 + 2).toNatClampNeg), .int (xs (x4 + 3).toNatClampNeg)]) (rest := []) I ⟨hx, hb, hml, hown, hts⟩ (c_X10_ghost l D cy mo a f g r q ((xs (x4 + 1).toNatClampNeg)) ((xs (x4 + 2).toNatClampNeg)) ((xs (x4 + 3).toNatClampNeg)) hDM) (cwV 3 hts gL_law_X10_ghost rfl rfl rfl (by decide +kernel) ⟨Nat.le_of_ble_eq_true rfl, Nat.le_of_ble_eq_true rfl⟩) hK hAM rfl hl.1 rfl (Nat.le_of_ble_eq_true rfl) dL_law_1903 ⟨by omega, by omega⟩ (fun _ _ h9 => by obtain ⟨_, _, _, rfl, h9⟩ := h9; exact hI) (fun r1903 u H locs q1903 I => ?_)
  have ef : u.1 1 = f 1 := by obtain ⟨_, _, _, rfl, -⟩ := q1903; rfl
  have e2_ : u.2.2.1 2 = r 2 := by obtain ⟨_, _, _, rfl, -⟩ := q1903; rfl
  have e3_ : u.2.2.1 3 = r 3 := by obtain ⟨_, _, _, rfl, -⟩ := q1903; rfl
  have e4_ : u.2.2.1 4 = r 4 := by obtain ⟨_, _, _, rfl, -⟩ := q1903; rfl
  have e5_ : u.2.2.1 5 = r 5 := by obtain ⟨_, _, _, rfl, -⟩ := q1903; rfl
  have e6_ : u.2.2.1 6 = r 6 := by obtain ⟨_, _, _, rfl, -⟩ := q1903; rfl
  have e7_ : u.2.2.1 7 = r 7 := by obtain ⟨_, _, _, rfl, -⟩ := q1903; rfl
  have e8_ : u.2.2.1 8 = r 8 := by obtain ⟨_, _, _, rfl, -⟩ := q1903; rfl
  obtain ⟨f1, g1, r1, q1⟩ := u
  have ef : f1 1 = f 1 := ef
  have e2_ : r1 2 = r 2 := e2_
  have e3_ : r1 3 = r 3 := e3_
  have e4_ : r1 4 = r 4 := e4_
  have e5_ : r1 5 = r 5 := e5_
  have e6_ : r1 6 = r 6 := e6_
  have e7_ : r1 7 = r 7 := e7_
  have e8_ : r1 8 = r 8 := e8_
  have I : LI D cy s xo mo ou a M G1 W1 f1 g1 r1 q1 H locs := I
  refine lv_istore (lv' := [(6, .int r1903), (5, .int r1879), (0, .ref b), (1, .ref xo), (2, .ref mo), (3, .ref ou), (4, .int x4)]) hx hb dL_law_1906 hl (by decide) rfl (fun ls hl => ?_)
  refine lv_goto (tgt := 2354) hx hb dL_law_1908 (by decide) ?_
  have hR1 : RlJ cy xo G1 W1 f1 r1 := hR.keep I0.2.2.1 I0.2.2.2.1 I0.2.2.2.2.1 hX rfl rfl rfl rfl ef e2_ e3_ e4_ e5_ e6_ e7_ e8_
  refine W.widen (k := C + 7) (n := S + 588) (by omega) (by omega) ?_
  exact kk _ _ _ _ _ _ _ _ _ I hR1 (lv_sub hl [2, 3, 4, 5, 6] rfl)
set_option maxHeartbeats 4000000 in
set_option maxRecDepth 100000 in
theorem lcase_27 {p : Program} {l : Launch} {e : Env} {s : State} {m : MethodId} {below : List Frame} {meth : Method} {c : Code} {b L : Nat} {xs : Nat → Int32} {D : va_G} {cy : Nat → ClassId} {xo mo ou : Nat} {a : Nat → Nat} {M : Option Nat} {G : cG} {W' : va_W} {f : Nat → Int32} {g : Nat → Int64} {r : Nat → Nat → Int32} {q : Nat → Nat → Int64} {H : Heap} {locs : List Loc} {ls : Array Slot} {Q : State → Prop} {C S : Nat} (X : LX p l s m c b L xs D cy mo a) (I : LI D cy s xo mo ou a M G W' f g r q H locs) (hR : RlJ cy xo G W' f r) {x4 : Int32} (h4 : 0 ≤ x4.toInt ∧ x4.toInt + 8 ≤ (L : Int) ∧ L ≤ 4096) (hC : C + 7 ≤ 601024) (hSl : S + 53273 ≤ 7293034) (hl : lv_has ls 8 [(0, .ref b), (1, .ref xo), (2, .ref mo), (3, .ref ou), (4, .int x4)]) (kk : ∀ (G : cG) (W' : va_W) (f : Nat → Int32) (g : Nat → Int64) (r : Nat → Nat → Int32) (q : Nat → Nat → Int64) (H : Heap) (locs : List Loc) (ls : Array Slot), LI D cy s xo mo ou a M G W' f g r q H locs → RlJ cy xo G W' f r → lv_has ls 8 [(0, .ref b), (1, .ref xo), (2, .ref mo), (3, .ref ou), (4, .int x4)] → W p l e room_1 s m #[Value.ref b] below meth c H locs (C + 7) (S + 588) Q (F0 m 2354 ls [])) : W p l e room_1 s m #[Value.ref b] below meth c H locs C S Q (F0 m 1911 ls []) := by
  obtain ⟨⟨hx, hb, hml, hown, hts⟩, ⟨hXs, hbl⟩, ⟨hK, hV, hZ, hXT⟩, hst, hDM, hAM⟩ := id X
  have I0 := I
  have hbA : ¬ AL s b := Nat.not_le.mpr hbl
  have hRc : room_1.cells = 601024 := rfl
  have hRs : room_1.slots = 7293034 := rfl
  have hn1 : vp_in (x4 + 1) L := l_in (c := 1) h4 rfl (by decide)
  have hn2 : vp_in (x4 + 2) L := l_in (c := 2) h4 rfl (by decide)
  have hn3 : vp_in (x4 + 3) L := l_in (c := 3) h4 rfl (by decide)
  have hn4 : vp_in (x4 + 4) L := l_in (c := 4) h4 rfl (by decide)
  have hn5 : vp_in (x4 + 5) L := l_in (c := 5) h4 rfl (by decide)
  have hn6 : vp_in (x4 + 6) L := l_in (c := 6) h4 rfl (by decide)
  have hn7 : vp_in (x4 + 7) L := l_in (c := 7) h4 rfl (by decide)
  refine lv_aload_n hx hb dL_law_1911 rfl (lv_at hl 1 rfl) ?_
  refine lv_aload_n hx hb dL_law_1912 rfl (lv_at hl 0 rfl) ?_
  refine lv_iload hx hb dL_law_1913 (lv_at hl 4 rfl) ?_
  refine lv_iconst (v := 1) hx hb dL_law_1915 (by decide) ?_
  refine lv_iadd hx hb dL_law_1916 ?_
  refine va_sld hx hb hXs hbl hbA I.2.2.2.2.2.2.2.2.1 hn1 dL_law_1917 ?_
  refine lv_aload_n hx hb dL_law_1918 rfl (lv_at hl 0 rfl) ?_
  refine lv_iload hx hb dL_law_1919 (lv_at hl 4 rfl) ?_
  refine lv_iconst (v := 2) hx hb dL_law_1921 (by decide) ?_
  refine lv_iadd hx hb dL_law_1922 ?_
  refine va_sld hx hb hXs hbl hbA I.2.2.2.2.2.2.2.2.1 hn2 dL_law_1923 ?_
  refine lv_aload_n hx hb dL_law_1924 rfl (lv_at hl 0 rfl) ?_
  refine lv_iload hx hb dL_law_1925 (lv_at hl 4 rfl) ?_
  refine lv_iconst (v := 3) hx hb dL_law_1927 (by decide) ?_
  refine lv_iadd hx hb dL_law_1928 ?_
  refine va_sld hx hb hXs hbl hbA I.2.2.2.2.2.2.2.2.1 hn3 dL_law_1929 ?_
  refine lk3_i I (va_runV (g := F0 m 1930 ls ([.int (xs (x4 + 3).toNatClampNeg), .int (xs (x4 + 2).toNatClampNeg), .int (xs (x4 + 1).toNatClampNeg), .ref xo])) (As := [.int (xs (x4 + 1).toNatClampNeg), .int (xs (x4 + 2).toNatClampNeg), .int (xs (x4 + 3).toNatClampNeg)]) (rest := []) ⟨hx, hb, hml, hown, hts⟩ (c_X9_haunts l D cy (AC s mo a) G W' xo ((xs (x4 + 1).toNatClampNeg)) ((xs (x4 + 2).toNatClampNeg)) ((xs (x4 + 3).toNatClampNeg)) I.2.2.1 I.2.2.2.1 I.2.2.2.2.1) (cwV 3 hts gL_law_X9_haunts rfl rfl rfl (by decide +kernel) ⟨Nat.le_of_ble_eq_true rfl, Nat.le_of_ble_eq_true rfl⟩) (l_preE I hK hV hZ) rfl rfl hl.1 rfl (lv_room (Nat.le_of_ble_eq_true rfl)) dL_law_1930 ⟨by omega, by omega⟩) rfl (fun r1930 u H locs q1930 hX I => ?_)
  obtain ⟨G1, W1⟩ := u
  have I : LI D cy s xo mo ou a M G1 W1 f g r q H locs := I
  have hX : cX none (chs [1, 8]) G W' G1 W1 := hX
  refine lv_pop hx hb dL_law_1933 rfl ?_
  refine lv_aload_n hx hb dL_law_1934 rfl (lv_at hl 2 rfl) ?_
  refine lv_aload_n hx hb dL_law_1935 rfl (lv_at hl 0 rfl) ?_
  refine lv_iload hx hb dL_law_1936 (lv_at hl 4 rfl) ?_
  refine lv_iconst (v := 1) hx hb dL_law_1938 (by decide) ?_
  refine lv_iadd hx hb dL_law_1939 ?_
  refine va_sld hx hb hXs hbl hbA I.2.2.2.2.2.2.2.2.1 hn1 dL_law_1940 ?_
  refine lv_aload_n hx hb dL_law_1941 rfl (lv_at hl 0 rfl) ?_
  refine lv_iload hx hb dL_law_1942 (lv_at hl 4 rfl) ?_
  refine lv_iconst (v := 2) hx hb dL_law_1944 (by decide) ?_
  refine lv_iadd hx hb dL_law_1945 ?_
  refine va_sld hx hb hXs hbl hbA I.2.2.2.2.2.2.2.2.1 hn2 dL_law_1946 ?_
  refine lv_aload_n hx hb dL_law_1947 rfl (lv_at hl 0 rfl) ?_
  refine lv_iload hx hb dL_law_1948 (lv_at hl 4 rfl) ?_
  refine lv_iconst (v := 3) hx hb dL_law_1950 (by decide) ?_
  refine lv_iadd hx hb dL_law_1951 ?_
  refine va_sld hx hb hXs hbl hbA I.2.2.2.2.2.2.2.2.1 hn3 dL_law_1952 ?_
  have hI := I.2.2.2.2.2.2.1
  refine lm_i (As := [.int (xs (x4 + 1).toNatClampNeg), .int (xs (x4 + 2).toNatClampNeg), .int (xs (x4 + 3).toNatClampNeg)]) (rest := []) I ⟨hx, hb, hml, hown, hts⟩ (c_X10_haunts l D cy mo a f g r q ((xs (x4 + 1).toNatClampNeg)) ((xs (x4 + 2).toNatClampNeg)) ((xs (x4 + 3).toNatClampNeg)) hDM) (cwV 3 hts gL_law_X10_haunts rfl rfl rfl (by decide +kernel) ⟨Nat.le_of_ble_eq_true rfl, Nat.le_of_ble_eq_true rfl⟩) hK hAM rfl hl.1 rfl (Nat.le_of_ble_eq_true rfl) dL_law_1953 ⟨by omega, by omega⟩ (fun _ _ h9 => by obtain ⟨rfl, h9⟩ := h9; exact hI) (fun r1953 u H locs q1953 I => ?_)
  have ef : u.1 1 = f 1 := by obtain ⟨rfl, -⟩ := q1953; rfl
  have e2_ : u.2.2.1 2 = r 2 := by obtain ⟨rfl, -⟩ := q1953; rfl
  have e3_ : u.2.2.1 3 = r 3 := by obtain ⟨rfl, -⟩ := q1953; rfl
  have e4_ : u.2.2.1 4 = r 4 := by obtain ⟨rfl, -⟩ := q1953; rfl
  have e5_ : u.2.2.1 5 = r 5 := by obtain ⟨rfl, -⟩ := q1953; rfl
  have e6_ : u.2.2.1 6 = r 6 := by obtain ⟨rfl, -⟩ := q1953; rfl
  have e7_ : u.2.2.1 7 = r 7 := by obtain ⟨rfl, -⟩ := q1953; rfl
  have e8_ : u.2.2.1 8 = r 8 := by obtain ⟨rfl, -⟩ := q1953; rfl
  obtain ⟨f1, g1, r1, q1⟩ := u
  have ef : f1 1 = f 1 := ef
  have e2_ : r1 2 = r 2 := e2_
  have e3_ : r1 3 = r 3 := e3_
  have e4_ : r1 4 = r 4 := e4_
  have e5_ : r1 5 = r 5 := e5_
  have e6_ : r1 6 = r 6 := e6_
  have e7_ : r1 7 = r 7 := e7_
  have e8_ : r1 8 = r 8 := e8_
  have I : LI D cy s xo mo ou a M G1 W1 f1 g1 r1 q1 H locs := I
  refine lv_pop hx hb dL_law_1956 rfl ?_
  refine lv_goto (tgt := 2354) hx hb dL_law_1957 (by decide) ?_
  have hR1 : RlJ cy xo G1 W1 f1 r1 := hR.keep I0.2.2.1 I0.2.2.2.1 I0.2.2.2.2.1 hX rfl rfl rfl rfl ef e2_ e3_ e4_ e5_ e6_ e7_ e8_
  refine W.widen (k := C + 7) (n := S + 588) (by omega) (by omega) ?_
  exact kk _ _ _ _ _ _ _ _ _ I hR1 (lv_sub hl [0, 1, 2, 3, 4] rfl)
set_option maxHeartbeats 4000000 in
set_option maxRecDepth 100000 in
theorem lcase_28 {p : Program} {l : Launch} {e : Env} {s : State} {m : MethodId} {below : List Frame} {meth : Method} {c : Code} {b L : Nat} {xs : Nat → Int32} {D : va_G} {cy : Nat → ClassId} {xo mo ou : Nat} {a : Nat → Nat} {M : Option Nat} {G : cG} {W' : va_W} {f : Nat → Int32} {g : Nat → Int64} {r : Nat → Nat → Int32} {q : Nat → Nat → Int64} {H : Heap} {locs : List Loc} {ls : Array Slot} {Q : State → Prop} {C S : Nat} (X : LX p l s m c b L xs D cy mo a) (I : LI D cy s xo mo ou a M G W' f g r q H locs) (hR : RlJ cy xo G W' f r) {x4 : Int32} (h4 : 0 ≤ x4.toInt ∧ x4.toInt + 8 ≤ (L : Int) ∧ L ≤ 4096) (hC : C + 7 ≤ 601024) (hSl : S + 53273 ≤ 7293034) (hl : lv_has ls 8 [(0, .ref b), (1, .ref xo), (2, .ref mo), (3, .ref ou), (4, .int x4)]) (kk : ∀ (G : cG) (W' : va_W) (f : Nat → Int32) (g : Nat → Int64) (r : Nat → Nat → Int32) (q : Nat → Nat → Int64) (H : Heap) (locs : List Loc) (ls : Array Slot), LI D cy s xo mo ou a M G W' f g r q H locs → RlJ cy xo G W' f r → lv_has ls 8 [(0, .ref b), (1, .ref xo), (2, .ref mo), (3, .ref ou), (4, .int x4)] → W p l e room_1 s m #[Value.ref b] below meth c H locs (C + 7) (S + 588) Q (F0 m 2354 ls [])) : W p l e room_1 s m #[Value.ref b] below meth c H locs C S Q (F0 m 1960 ls []) := by
  obtain ⟨⟨hx, hb, hml, hown, hts⟩, ⟨hXs, hbl⟩, ⟨hK, hV, hZ, hXT⟩, hst, hDM, hAM⟩ := id X
  have I0 := I
  have hbA : ¬ AL s b := Nat.not_le.mpr hbl
  have hRc : room_1.cells = 601024 := rfl
  have hRs : room_1.slots = 7293034 := rfl
  have hn1 : vp_in (x4 + 1) L := l_in (c := 1) h4 rfl (by decide)
  have hn2 : vp_in (x4 + 2) L := l_in (c := 2) h4 rfl (by decide)
  have hn3 : vp_in (x4 + 3) L := l_in (c := 3) h4 rfl (by decide)
  have hn4 : vp_in (x4 + 4) L := l_in (c := 4) h4 rfl (by decide)
  have hn5 : vp_in (x4 + 5) L := l_in (c := 5) h4 rfl (by decide)
  have hn6 : vp_in (x4 + 6) L := l_in (c := 6) h4 rfl (by decide)
  have hn7 : vp_in (x4 + 7) L := l_in (c := 7) h4 rfl (by decide)
  refine lv_aload_n hx hb dL_law_1960 rfl (lv_at hl 1 rfl) ?_
  refine lv_aload_n hx hb dL_law_1961 rfl (lv_at hl 0 rfl) ?_
  refine lv_iload hx hb dL_law_1962 (lv_at hl 4 rfl) ?_
  refine lv_iconst (v := 1) hx hb dL_law_1964 (by decide) ?_
  refine lv_iadd hx hb dL_law_1965 ?_
  refine va_sld hx hb hXs hbl hbA I.2.2.2.2.2.2.2.2.1 hn1 dL_law_1966 ?_
  refine lv_aload_n hx hb dL_law_1967 rfl (lv_at hl 0 rfl) ?_
  refine lv_iload hx hb dL_law_1968 (lv_at hl 4 rfl) ?_
  refine lv_iconst (v := 2) hx hb dL_law_1970 (by decide) ?_
  refine lv_iadd hx hb dL_law_1971 ?_
  refine va_sld hx hb hXs hbl hbA I.2.2.2.2.2.2.2.2.1 hn2 dL_law_1972 ?_
  refine lv_aload_n hx hb dL_law_1973 rfl (lv_at hl 0 rfl) ?_
  refine lv_iload hx hb dL_law_1974 (lv_at hl 4 rfl) ?_
  refine lv_iconst (v := 3) hx hb dL_law_1976 (by decide) ?_
  refine lv_iadd hx hb dL_law_1977 ?_
  refine va_sld hx hb hXs hbl hbA I.2.2.2.2.2.2.2.2.1 hn3 dL_law_1978 ?_
  refine lk3_i I (va_runV (g := F0 m 1979 ls ([.int (xs (x4 + 3).toNatClampNeg), .int (xs (x4 + 2).toNatClampNeg), .int (xs (x4 + 1).toNatClampNeg), .ref xo])) (As := [.int (xs (x4 + 1).toNatClampNeg), .int (xs (x4 + 2).toNatClampNeg), .int (xs (x4 + 3).toNatClampNeg)]) (rest := []) ⟨hx, hb, hml, hown, hts⟩ (c_X9_ghosts l D cy (AC s mo a) G W' xo ((xs (x4 + 1).toNatClampNeg)) ((xs (x4 + 2).toNatClampNeg)) ((xs (x4 + 3).toNatClampNeg)) I.2.2.1 I.2.2.2.1 I.2.2.2.2.1) (cwV 3 hts gL_law_X9_ghosts rfl rfl rfl (by decide +kernel) ⟨Nat.le_of_ble_eq_true rfl, Nat.le_of_ble_eq_true rfl⟩) (l_preE I hK hV hZ) rfl rfl hl.1 rfl (lv_room (Nat.le_of_ble_eq_true rfl)) dL_law_1979 ⟨by omega, by omega⟩) rfl (fun r1979 u H locs q1979 hX I => ?_)
  obtain ⟨G1, W1⟩ := u
  have I : LI D cy s xo mo ou a M G1 W1 f g r q H locs := I
  have hX : cX none (chs [1, 8]) G W' G1 W1 := hX
  refine lv_pop hx hb dL_law_1982 rfl ?_
  refine lv_aload_n hx hb dL_law_1983 rfl (lv_at hl 2 rfl) ?_
  refine lv_aload_n hx hb dL_law_1984 rfl (lv_at hl 0 rfl) ?_
  refine lv_iload hx hb dL_law_1985 (lv_at hl 4 rfl) ?_
  refine lv_iconst (v := 1) hx hb dL_law_1987 (by decide) ?_
  refine lv_iadd hx hb dL_law_1988 ?_
  refine va_sld hx hb hXs hbl hbA I.2.2.2.2.2.2.2.2.1 hn1 dL_law_1989 ?_
  refine lv_aload_n hx hb dL_law_1990 rfl (lv_at hl 0 rfl) ?_
  refine lv_iload hx hb dL_law_1991 (lv_at hl 4 rfl) ?_
  refine lv_iconst (v := 2) hx hb dL_law_1993 (by decide) ?_
  refine lv_iadd hx hb dL_law_1994 ?_
  refine va_sld hx hb hXs hbl hbA I.2.2.2.2.2.2.2.2.1 hn2 dL_law_1995 ?_
  refine lv_aload_n hx hb dL_law_1996 rfl (lv_at hl 0 rfl) ?_
  refine lv_iload hx hb dL_law_1997 (lv_at hl 4 rfl) ?_
  refine lv_iconst (v := 3) hx hb dL_law_1999 (by decide) ?_
  refine lv_iadd hx hb dL_law_2000 ?_
  refine va_sld hx hb hXs hbl hbA I.2.2.2.2.2.2.2.2.1 hn3 dL_law_2001 ?_
  have hI := I.2.2.2.2.2.2.1
  refine lm_i (As := [.int (xs (x4 + 1).toNatClampNeg), .int (xs (x4 + 2).toNatClampNeg), .int (xs (x4 + 3).toNatClampNeg)]) (rest := []) I ⟨hx, hb, hml, hown, hts⟩ (c_X10_ghosts l D cy mo a f g r q ((xs (x4 + 1).toNatClampNeg)) ((xs (x4 + 2).toNatClampNeg)) ((xs (x4 + 3).toNatClampNeg)) hDM) (cwV 3 hts gL_law_X10_ghosts rfl rfl rfl (by decide +kernel) ⟨Nat.le_of_ble_eq_true rfl, Nat.le_of_ble_eq_true rfl⟩) hK hAM rfl hl.1 rfl (Nat.le_of_ble_eq_true rfl) dL_law_2002 ⟨by omega, by omega⟩ (fun _ _ h9 => by obtain ⟨rfl, h9⟩ := h9; exact hI) (fun r2002 u H locs q2002 I => ?_)
  have ef : u.1 1 = f 1 := by obtain ⟨rfl, -⟩ := q2002; rfl
  have e2_ : u.2.2.1 2 = r 2 := by obtain ⟨rfl, -⟩ := q2002; rfl
  have e3_ : u.2.2.1 3 = r 3 := by obtain ⟨rfl, -⟩ := q2002; rfl
  have e4_ : u.2.2.1 4 = r 4 := by obtain ⟨rfl, -⟩ := q2002; rfl
  have e5_ : u.2.2.1 5 = r 5 := by obtain ⟨rfl, -⟩ := q2002; rfl
  have e6_ : u.2.2.1 6 = r 6 := by obtain ⟨rfl, -⟩ := q2002; rfl
  have e7_ : u.2.2.1 7 = r 7 := by obtain ⟨rfl, -⟩ := q2002; rfl
  have e8_ : u.2.2.1 8 = r 8 := by obtain ⟨rfl, -⟩ := q2002; rfl
  obtain ⟨f1, g1, r1, q1⟩ := u
  have ef : f1 1 = f 1 := ef
  have e2_ : r1 2 = r 2 := e2_
  have e3_ : r1 3 = r 3 := e3_
  have e4_ : r1 4 = r 4 := e4_
  have e5_ : r1 5 = r 5 := e5_
  have e6_ : r1 6 = r 6 := e6_
  have e7_ : r1 7 = r 7 := e7_
  have e8_ : r1 8 = r 8 := e8_
  have I : LI D cy s xo mo ou a M G1 W1 f1 g1 r1 q1 H locs := I
  refine lv_pop hx hb dL_law_2005 rfl ?_
  refine lv_goto (tgt := 2354) hx hb dL_law_2006 (by decide) ?_
  have hR1 : RlJ cy xo G1 W1 f1 r1 := hR.keep I0.2.2.1 I0.2.2.2.1 I0.2.2.2.2.1 hX rfl rfl rfl rfl ef e2_ e3_ e4_ e5_ e6_ e7_ e8_
  refine W.widen (k := C + 7) (n := S + 588) (by omega) (by omega) ?_
  exact kk _ _ _ _ _ _ _ _ _ I hR1 (lv_sub hl [0, 1, 2, 3, 4] rfl)
set_option maxHeartbeats 4000000 in
set_option maxRecDepth 100000 in
theorem lcase_29 {p : Program} {l : Launch} {e : Env} {s : State} {m : MethodId} {below : List Frame} {meth : Method} {c : Code} {b L : Nat} {xs : Nat → Int32} {D : va_G} {cy : Nat → ClassId} {xo mo ou : Nat} {a : Nat → Nat} {M : Option Nat} {G : cG} {W' : va_W} {f : Nat → Int32} {g : Nat → Int64} {r : Nat → Nat → Int32} {q : Nat → Nat → Int64} {H : Heap} {locs : List Loc} {ls : Array Slot} {Q : State → Prop} {C S : Nat} (X : LX p l s m c b L xs D cy mo a) (I : LI D cy s xo mo ou a M G W' f g r q H locs) (hR : RlJ cy xo G W' f r) {x4 : Int32} (h4 : 0 ≤ x4.toInt ∧ x4.toInt + 8 ≤ (L : Int) ∧ L ≤ 4096) (hC : C + 7 ≤ 601024) (hSl : S + 53273 ≤ 7293034) (hl : lv_has ls 8 [(0, .ref b), (1, .ref xo), (2, .ref mo), (3, .ref ou), (4, .int x4)]) (kk : ∀ (G : cG) (W' : va_W) (f : Nat → Int32) (g : Nat → Int64) (r : Nat → Nat → Int32) (q : Nat → Nat → Int64) (H : Heap) (locs : List Loc) (ls : Array Slot), LI D cy s xo mo ou a M G W' f g r q H locs → RlJ cy xo G W' f r → lv_has ls 8 [(0, .ref b), (1, .ref xo), (2, .ref mo), (3, .ref ou), (4, .int x4)] → W p l e room_1 s m #[Value.ref b] below meth c H locs (C + 7) (S + 588) Q (F0 m 2354 ls [])) : W p l e room_1 s m #[Value.ref b] below meth c H locs C S Q (F0 m 2009 ls []) := by
  obtain ⟨⟨hx, hb, hml, hown, hts⟩, ⟨hXs, hbl⟩, ⟨hK, hV, hZ, hXT⟩, hst, hDM, hAM⟩ := id X
  have I0 := I
  have hbA : ¬ AL s b := Nat.not_le.mpr hbl
  have hRc : room_1.cells = 601024 := rfl
  have hRs : room_1.slots = 7293034 := rfl
  have hn1 : vp_in (x4 + 1) L := l_in (c := 1) h4 rfl (by decide)
  have hn2 : vp_in (x4 + 2) L := l_in (c := 2) h4 rfl (by decide)
  have hn3 : vp_in (x4 + 3) L := l_in (c := 3) h4 rfl (by decide)
  have hn4 : vp_in (x4 + 4) L := l_in (c := 4) h4 rfl (by decide)
  have hn5 : vp_in (x4 + 5) L := l_in (c := 5) h4 rfl (by decide)
  have hn6 : vp_in (x4 + 6) L := l_in (c := 6) h4 rfl (by decide)
  have hn7 : vp_in (x4 + 7) L := l_in (c := 7) h4 rfl (by decide)
  refine lv_aload_n hx hb dL_law_2009 rfl (lv_at hl 1 rfl) ?_
  refine lv_aload_n hx hb dL_law_2010 rfl (lv_at hl 0 rfl) ?_
  refine lv_iload hx hb dL_law_2011 (lv_at hl 4 rfl) ?_
  refine lv_iconst (v := 1) hx hb dL_law_2013 (by decide) ?_
  refine lv_iadd hx hb dL_law_2014 ?_
  refine va_sld hx hb hXs hbl hbA I.2.2.2.2.2.2.2.2.1 hn1 dL_law_2015 ?_
  refine lv_aload_n hx hb dL_law_2016 rfl (lv_at hl 0 rfl) ?_
  refine lv_iload hx hb dL_law_2017 (lv_at hl 4 rfl) ?_
  refine lv_iconst (v := 2) hx hb dL_law_2019 (by decide) ?_
  refine lv_iadd hx hb dL_law_2020 ?_
  refine va_sld hx hb hXs hbl hbA I.2.2.2.2.2.2.2.2.1 hn2 dL_law_2021 ?_
  refine lv_aload_n hx hb dL_law_2022 rfl (lv_at hl 0 rfl) ?_
  refine lv_iload hx hb dL_law_2023 (lv_at hl 4 rfl) ?_
  refine lv_iconst (v := 3) hx hb dL_law_2025 (by decide) ?_
  refine lv_iadd hx hb dL_law_2026 ?_
  refine va_sld hx hb hXs hbl hbA I.2.2.2.2.2.2.2.2.1 hn3 dL_law_2027 ?_
  refine lv_aload_n hx hb dL_law_2028 rfl (lv_at hl 0 rfl) ?_
  refine lv_iload hx hb dL_law_2029 (lv_at hl 4 rfl) ?_
  refine lv_iconst (v := 4) hx hb dL_law_2031 (by decide) ?_
  refine lv_iadd hx hb dL_law_2032 ?_
  refine va_sld hx hb hXs hbl hbA I.2.2.2.2.2.2.2.2.1 hn4 dL_law_2033 ?_
  refine lv_i2l (v := ((xs (x4 + 4).toNatClampNeg)).toInt64) hx hb dL_law_2034 rfl ?_
  refine lv_bipush (v := 32) hx hb dL_law_2035 (by decide) ?_
  refine lv_lshl (v := (((xs (x4 + 4).toNatClampNeg)).toInt64) <<< ((32 : Int32).toInt64 &&& 63)) hx hb dL_law_2037 rfl ?_
  refine lv_aload_n hx hb dL_law_2038 rfl (lv_at hl 0 rfl) ?_
  refine lv_iload hx hb dL_law_2039 (lv_at hl 4 rfl) ?_
  refine lv_iconst (v := 5) hx hb dL_law_2041 (by decide) ?_
  refine lv_iadd hx hb dL_law_2042 ?_
  refine va_sld hx hb hXs hbl hbA I.2.2.2.2.2.2.2.2.1 hn5 dL_law_2043 ?_
  refine lv_i2l (v := ((xs (x4 + 5).toNatClampNeg)).toInt64) hx hb dL_law_2044 rfl ?_
  refine lv_ldc2 hx hb hown (hts (.constantLong RL 45 (4294967295)) (by decide +kernel)) dL_law_2045 ?_
  refine lv_land hx hb dL_law_2048 ?_
  refine lv_topl (fun v2048 e2048 => ?_)
  refine lv_lor hx hb dL_law_2049 ?_
  refine lv_topl (fun v2049 e2049 => ?_)
  refine lk3_i I (va_runV (g := F0 m 2050 ls ([.long v2049, .int (xs (x4 + 3).toNatClampNeg), .int (xs (x4 + 2).toNatClampNeg), .int (xs (x4 + 1).toNatClampNeg), .ref xo])) (As := [.int (xs (x4 + 1).toNatClampNeg), .int (xs (x4 + 2).toNatClampNeg), .int (xs (x4 + 3).toNatClampNeg), .long v2049]) (rest := []) ⟨hx, hb, hml, hown, hts⟩ (c_X9_keep_w l D cy (AC s mo a) G W' xo ((xs (x4 + 1).toNatClampNeg)) ((xs (x4 + 2).toNatClampNeg)) ((xs (x4 + 3).toNatClampNeg)) v2049 I.2.2.1 I.2.2.2.1 I.2.2.2.2.1) (cwV 4 hts gL_law_X9_keep rfl rfl rfl (by decide +kernel) ⟨Nat.le_of_ble_eq_true rfl, Nat.le_of_ble_eq_true rfl⟩) (l_preV I hK hV) rfl rfl hl.1 rfl (lv_room (Nat.le_of_ble_eq_true rfl)) dL_law_2050 ⟨by omega, by omega⟩) rfl (fun r2050 u H locs q2050 hX I => ?_)
  obtain ⟨G1, W1⟩ := u
  have I : LI D cy s xo mo ou a M G1 W1 f g r q H locs := I
  have hX : cX none (chs [10, 16]) G W' G1 W1 := hX
  refine lv_pop hx hb dL_law_2053 rfl ?_
  refine lv_aload_n hx hb dL_law_2054 rfl (lv_at hl 2 rfl) ?_
  refine lv_aload_n hx hb dL_law_2055 rfl (lv_at hl 0 rfl) ?_
  refine lv_iload hx hb dL_law_2056 (lv_at hl 4 rfl) ?_
  refine lv_iconst (v := 1) hx hb dL_law_2058 (by decide) ?_
  refine lv_iadd hx hb dL_law_2059 ?_
  refine va_sld hx hb hXs hbl hbA I.2.2.2.2.2.2.2.2.1 hn1 dL_law_2060 ?_
  refine lv_aload_n hx hb dL_law_2061 rfl (lv_at hl 0 rfl) ?_
  refine lv_iload hx hb dL_law_2062 (lv_at hl 4 rfl) ?_
  refine lv_iconst (v := 2) hx hb dL_law_2064 (by decide) ?_
  refine lv_iadd hx hb dL_law_2065 ?_
  refine va_sld hx hb hXs hbl hbA I.2.2.2.2.2.2.2.2.1 hn2 dL_law_2066 ?_
  refine lv_aload_n hx hb dL_law_2067 rfl (lv_at hl 0 rfl) ?_
  refine lv_iload hx hb dL_law_2068 (lv_at hl 4 rfl) ?_
  refine lv_iconst (v := 3) hx hb dL_law_2070 (by decide) ?_
  refine lv_iadd hx hb dL_law_2071 ?_
  refine va_sld hx hb hXs hbl hbA I.2.2.2.2.2.2.2.2.1 hn3 dL_law_2072 ?_
  refine lv_aload_n hx hb dL_law_2073 rfl (lv_at hl 0 rfl) ?_
  refine lv_iload hx hb dL_law_2074 (lv_at hl 4 rfl) ?_
  refine lv_iconst (v := 4) hx hb dL_law_2076 (by decide) ?_
  refine lv_iadd hx hb dL_law_2077 ?_
  refine va_sld hx hb hXs hbl hbA I.2.2.2.2.2.2.2.2.1 hn4 dL_law_2078 ?_
  refine lv_i2l (v := ((xs (x4 + 4).toNatClampNeg)).toInt64) hx hb dL_law_2079 rfl ?_
  refine lv_bipush (v := 32) hx hb dL_law_2080 (by decide) ?_
  refine lv_lshl (v := (((xs (x4 + 4).toNatClampNeg)).toInt64) <<< ((32 : Int32).toInt64 &&& 63)) hx hb dL_law_2082 rfl ?_
  refine lv_aload_n hx hb dL_law_2083 rfl (lv_at hl 0 rfl) ?_
  refine lv_iload hx hb dL_law_2084 (lv_at hl 4 rfl) ?_
  refine lv_iconst (v := 5) hx hb dL_law_2086 (by decide) ?_
  refine lv_iadd hx hb dL_law_2087 ?_
  refine va_sld hx hb hXs hbl hbA I.2.2.2.2.2.2.2.2.1 hn5 dL_law_2088 ?_
  refine lv_i2l (v := ((xs (x4 + 5).toNatClampNeg)).toInt64) hx hb dL_law_2089 rfl ?_
  refine lv_ldc2 hx hb hown (hts (.constantLong RL 45 (4294967295)) (by decide +kernel)) dL_law_2090 ?_
  refine lv_land hx hb dL_law_2093 ?_
  refine lv_topl (fun v2093 e2093 => ?_)
  refine lv_lor hx hb dL_law_2094 ?_
  refine lv_topl (fun v2094 e2094 => ?_)
  have hI := I.2.2.2.2.2.2.1
  refine lm_i (As := [.int (xs (x4 + 1).toNatClampNeg), .int (xs (x4 + 2).toNatClampNeg), .int (xs (x4 + 3).toNatClampNeg), .long v2094]) (rest := []) I ⟨hx, hb, hml, hown, hts⟩ (c_X10_keep l D cy mo a f g r q ((xs (x4 + 1).toNatClampNeg)) ((xs (x4 + 2).toNatClampNeg)) ((xs (x4 + 3).toNatClampNeg)) v2094 hDM hI) (cwV 4 hts gL_law_X10_keep rfl rfl rfl (by decide +kernel) ⟨Nat.le_of_ble_eq_true rfl, Nat.le_of_ble_eq_true rfl⟩) hK hAM rfl hl.1 rfl (Nat.le_of_ble_eq_true rfl) dL_law_2095 ⟨by omega, by omega⟩ (fun _ _ h9 => by obtain ⟨_, _, _, _, _, rfl, h9⟩ := h9; exact h9) (fun r2095 u H locs q2095 I => ?_)
  have ef : u.1 1 = f 1 := by obtain ⟨_, _, _, _, _, rfl, -⟩ := q2095; rfl
  have e2_ : u.2.2.1 2 = r 2 := by obtain ⟨_, _, _, _, _, rfl, -⟩ := q2095; rfl
  have e3_ : u.2.2.1 3 = r 3 := by obtain ⟨_, _, _, _, _, rfl, -⟩ := q2095; rfl
  have e4_ : u.2.2.1 4 = r 4 := by obtain ⟨_, _, _, _, _, rfl, -⟩ := q2095; rfl
  have e5_ : u.2.2.1 5 = r 5 := by obtain ⟨_, _, _, _, _, rfl, -⟩ := q2095; rfl
  have e6_ : u.2.2.1 6 = r 6 := by obtain ⟨_, _, _, _, _, rfl, -⟩ := q2095; rfl
  have e7_ : u.2.2.1 7 = r 7 := by obtain ⟨_, _, _, _, _, rfl, -⟩ := q2095; rfl
  have e8_ : u.2.2.1 8 = r 8 := by obtain ⟨_, _, _, _, _, rfl, -⟩ := q2095; rfl
  obtain ⟨f1, g1, r1, q1⟩ := u
  have ef : f1 1 = f 1 := ef
  have e2_ : r1 2 = r 2 := e2_
  have e3_ : r1 3 = r 3 := e3_
  have e4_ : r1 4 = r 4 := e4_
  have e5_ : r1 5 = r 5 := e5_
  have e6_ : r1 6 = r 6 := e6_
  have e7_ : r1 7 = r 7 := e7_
  have e8_ : r1 8 = r 8 := e8_
  have I : LI D cy s xo mo ou a M G1 W1 f1 g1 r1 q1 H locs := I
  refine lv_pop hx hb dL_law_2098 rfl ?_
  refine lv_goto (tgt := 2354) hx hb dL_law_2099 (by decide) ?_
  have hR1 : RlJ cy xo G1 W1 f1 r1 := hR.keep I0.2.2.1 I0.2.2.2.1 I0.2.2.2.2.1 hX rfl rfl rfl rfl ef e2_ e3_ e4_ e5_ e6_ e7_ e8_
  refine W.widen (k := C + 7) (n := S + 588) (by omega) (by omega) ?_
  exact kk _ _ _ _ _ _ _ _ _ I hR1 (lv_sub hl [0, 1, 2, 3, 4] rfl)
set_option maxHeartbeats 4000000 in
set_option maxRecDepth 100000 in
theorem lcase_30 {p : Program} {l : Launch} {e : Env} {s : State} {m : MethodId} {below : List Frame} {meth : Method} {c : Code} {b L : Nat} {xs : Nat → Int32} {D : va_G} {cy : Nat → ClassId} {xo mo ou : Nat} {a : Nat → Nat} {M : Option Nat} {G : cG} {W' : va_W} {f : Nat → Int32} {g : Nat → Int64} {r : Nat → Nat → Int32} {q : Nat → Nat → Int64} {H : Heap} {locs : List Loc} {ls : Array Slot} {Q : State → Prop} {C S : Nat} (X : LX p l s m c b L xs D cy mo a) (I : LI D cy s xo mo ou a M G W' f g r q H locs) (hR : RlJ cy xo G W' f r) {x4 : Int32} (h4 : 0 ≤ x4.toInt ∧ x4.toInt + 8 ≤ (L : Int) ∧ L ≤ 4096) (hC : C + 7 ≤ 601024) (hSl : S + 53273 ≤ 7293034) (hl : lv_has ls 8 [(0, .ref b), (1, .ref xo), (2, .ref mo), (3, .ref ou), (4, .int x4)]) (kk : ∀ (G : cG) (W' : va_W) (f : Nat → Int32) (g : Nat → Int64) (r : Nat → Nat → Int32) (q : Nat → Nat → Int64) (H : Heap) (locs : List Loc) (ls : Array Slot), LI D cy s xo mo ou a M G W' f g r q H locs → RlJ cy xo G W' f r → lv_has ls 8 [(0, .ref b), (1, .ref xo), (2, .ref mo), (3, .ref ou), (4, .int x4)] → W p l e room_1 s m #[Value.ref b] below meth c H locs (C + 7) (S + 588) Q (F0 m 2354 ls [])) : W p l e room_1 s m #[Value.ref b] below meth c H locs C S Q (F0 m 2102 ls []) := by
  obtain ⟨⟨hx, hb, hml, hown, hts⟩, ⟨hXs, hbl⟩, ⟨hK, hV, hZ, hXT⟩, hst, hDM, hAM⟩ := id X
  have I0 := I
  have hbA : ¬ AL s b := Nat.not_le.mpr hbl
  have hRc : room_1.cells = 601024 := rfl
  have hRs : room_1.slots = 7293034 := rfl
  have hn1 : vp_in (x4 + 1) L := l_in (c := 1) h4 rfl (by decide)
  have hn2 : vp_in (x4 + 2) L := l_in (c := 2) h4 rfl (by decide)
  have hn3 : vp_in (x4 + 3) L := l_in (c := 3) h4 rfl (by decide)
  have hn4 : vp_in (x4 + 4) L := l_in (c := 4) h4 rfl (by decide)
  have hn5 : vp_in (x4 + 5) L := l_in (c := 5) h4 rfl (by decide)
  have hn6 : vp_in (x4 + 6) L := l_in (c := 6) h4 rfl (by decide)
  have hn7 : vp_in (x4 + 7) L := l_in (c := 7) h4 rfl (by decide)
  refine lv_aload_n hx hb dL_law_2102 rfl (lv_at hl 1 rfl) ?_
  refine lv_aload_n hx hb dL_law_2103 rfl (lv_at hl 0 rfl) ?_
  refine lv_iload hx hb dL_law_2104 (lv_at hl 4 rfl) ?_
  refine lv_iconst (v := 1) hx hb dL_law_2106 (by decide) ?_
  refine lv_iadd hx hb dL_law_2107 ?_
  refine va_sld hx hb hXs hbl hbA I.2.2.2.2.2.2.2.2.1 hn1 dL_law_2108 ?_
  refine lv_aload_n hx hb dL_law_2109 rfl (lv_at hl 0 rfl) ?_
  refine lv_iload hx hb dL_law_2110 (lv_at hl 4 rfl) ?_
  refine lv_iconst (v := 2) hx hb dL_law_2112 (by decide) ?_
  refine lv_iadd hx hb dL_law_2113 ?_
  refine va_sld hx hb hXs hbl hbA I.2.2.2.2.2.2.2.2.1 hn2 dL_law_2114 ?_
  refine lv_aload_n hx hb dL_law_2115 rfl (lv_at hl 0 rfl) ?_
  refine lv_iload hx hb dL_law_2116 (lv_at hl 4 rfl) ?_
  refine lv_iconst (v := 3) hx hb dL_law_2118 (by decide) ?_
  refine lv_iadd hx hb dL_law_2119 ?_
  refine va_sld hx hb hXs hbl hbA I.2.2.2.2.2.2.2.2.1 hn3 dL_law_2120 ?_
  refine lk3_i I (va_runV (g := F0 m 2121 ls ([.int (xs (x4 + 3).toNatClampNeg), .int (xs (x4 + 2).toNatClampNeg), .int (xs (x4 + 1).toNatClampNeg), .ref xo])) (As := [.int (xs (x4 + 1).toNatClampNeg), .int (xs (x4 + 2).toNatClampNeg), .int (xs (x4 + 3).toNatClampNeg)]) (rest := []) ⟨hx, hb, hml, hown, hts⟩ (c_X9_make l D cy (AC s mo a) G W' xo ((xs (x4 + 1).toNatClampNeg)) ((xs (x4 + 2).toNatClampNeg)) ((xs (x4 + 3).toNatClampNeg)) I.2.2.1 I.2.2.2.1 I.2.2.2.2.1) (cwV 3 hts gL_law_X9_make rfl rfl rfl (by decide +kernel) ⟨Nat.le_of_ble_eq_true rfl, Nat.le_of_ble_eq_true rfl⟩) (l_preV I hK hV) rfl rfl hl.1 rfl (lv_room (Nat.le_of_ble_eq_true rfl)) dL_law_2121 ⟨by omega, by omega⟩) rfl (fun r2121 u H locs q2121 hX I => ?_)
  obtain ⟨G1, W1⟩ := u
  have I : LI D cy s xo mo ou a M G1 W1 f g r q H locs := I
  have hX : cX none (chs [10]) G W' G1 W1 := hX
  refine lv_pop hx hb dL_law_2124 rfl ?_
  refine lv_aload_n hx hb dL_law_2125 rfl (lv_at hl 2 rfl) ?_
  refine lv_aload_n hx hb dL_law_2126 rfl (lv_at hl 0 rfl) ?_
  refine lv_iload hx hb dL_law_2127 (lv_at hl 4 rfl) ?_
  refine lv_iconst (v := 1) hx hb dL_law_2129 (by decide) ?_
  refine lv_iadd hx hb dL_law_2130 ?_
  refine va_sld hx hb hXs hbl hbA I.2.2.2.2.2.2.2.2.1 hn1 dL_law_2131 ?_
  refine lv_aload_n hx hb dL_law_2132 rfl (lv_at hl 0 rfl) ?_
  refine lv_iload hx hb dL_law_2133 (lv_at hl 4 rfl) ?_
  refine lv_iconst (v := 2) hx hb dL_law_2135 (by decide) ?_
  refine lv_iadd hx hb dL_law_2136 ?_
  refine va_sld hx hb hXs hbl hbA I.2.2.2.2.2.2.2.2.1 hn2 dL_law_2137 ?_
  refine lv_aload_n hx hb dL_law_2138 rfl (lv_at hl 0 rfl) ?_
  refine lv_iload hx hb dL_law_2139 (lv_at hl 4 rfl) ?_
  refine lv_iconst (v := 3) hx hb dL_law_2141 (by decide) ?_
  refine lv_iadd hx hb dL_law_2142 ?_
  refine va_sld hx hb hXs hbl hbA I.2.2.2.2.2.2.2.2.1 hn3 dL_law_2143 ?_
  have hI := I.2.2.2.2.2.2.1
  refine lm_i (As := [.int (xs (x4 + 1).toNatClampNeg), .int (xs (x4 + 2).toNatClampNeg), .int (xs (x4 + 3).toNatClampNeg)]) (rest := []) I ⟨hx, hb, hml, hown, hts⟩ (c_X10_make l D cy mo a f g r q ((xs (x4 + 1).toNatClampNeg)) ((xs (x4 + 2).toNatClampNeg)) ((xs (x4 + 3).toNatClampNeg)) hDM hI) (cwV 3 hts gL_law_X10_make rfl rfl rfl (by decide +kernel) ⟨Nat.le_of_ble_eq_true rfl, Nat.le_of_ble_eq_true rfl⟩) hK hAM rfl hl.1 rfl (Nat.le_of_ble_eq_true rfl) dL_law_2144 ⟨by omega, by omega⟩ (fun _ _ h9 => by obtain ⟨_, _, _, rfl, h9⟩ := h9; exact h9.2) (fun r2144 u H locs q2144 I => ?_)
  have ef : u.1 1 = f 1 := by obtain ⟨_, _, _, rfl, -⟩ := q2144; rfl
  have e2_ : u.2.2.1 2 = r 2 := by obtain ⟨_, _, _, rfl, -⟩ := q2144; rfl
  have e3_ : u.2.2.1 3 = r 3 := by obtain ⟨_, _, _, rfl, -⟩ := q2144; rfl
  have e4_ : u.2.2.1 4 = r 4 := by obtain ⟨_, _, _, rfl, -⟩ := q2144; rfl
  have e5_ : u.2.2.1 5 = r 5 := by obtain ⟨_, _, _, rfl, -⟩ := q2144; rfl
  have e6_ : u.2.2.1 6 = r 6 := by obtain ⟨_, _, _, rfl, -⟩ := q2144; rfl
  have e7_ : u.2.2.1 7 = r 7 := by obtain ⟨_, _, _, rfl, -⟩ := q2144; rfl
  have e8_ : u.2.2.1 8 = r 8 := by obtain ⟨_, _, _, rfl, -⟩ := q2144; rfl
  obtain ⟨f1, g1, r1, q1⟩ := u
  have ef : f1 1 = f 1 := ef
  have e2_ : r1 2 = r 2 := e2_
  have e3_ : r1 3 = r 3 := e3_
  have e4_ : r1 4 = r 4 := e4_
  have e5_ : r1 5 = r 5 := e5_
  have e6_ : r1 6 = r 6 := e6_
  have e7_ : r1 7 = r 7 := e7_
  have e8_ : r1 8 = r 8 := e8_
  have I : LI D cy s xo mo ou a M G1 W1 f1 g1 r1 q1 H locs := I
  refine lv_pop hx hb dL_law_2147 rfl ?_
  refine lv_goto (tgt := 2354) hx hb dL_law_2148 (by decide) ?_
  have hR1 : RlJ cy xo G1 W1 f1 r1 := hR.keep I0.2.2.1 I0.2.2.2.1 I0.2.2.2.2.1 hX rfl rfl rfl rfl ef e2_ e3_ e4_ e5_ e6_ e7_ e8_
  refine W.widen (k := C + 7) (n := S + 588) (by omega) (by omega) ?_
  exact kk _ _ _ _ _ _ _ _ _ I hR1 (lv_sub hl [0, 1, 2, 3, 4] rfl)
set_option maxHeartbeats 4000000 in
set_option maxRecDepth 100000 in
theorem lcase_31 {p : Program} {l : Launch} {e : Env} {s : State} {m : MethodId} {below : List Frame} {meth : Method} {c : Code} {b L : Nat} {xs : Nat → Int32} {D : va_G} {cy : Nat → ClassId} {xo mo ou : Nat} {a : Nat → Nat} {M : Option Nat} {G : cG} {W' : va_W} {f : Nat → Int32} {g : Nat → Int64} {r : Nat → Nat → Int32} {q : Nat → Nat → Int64} {H : Heap} {locs : List Loc} {ls : Array Slot} {Q : State → Prop} {C S : Nat} (X : LX p l s m c b L xs D cy mo a) (I : LI D cy s xo mo ou a M G W' f g r q H locs) (hR : RlJ cy xo G W' f r) {x4 : Int32} (h4 : 0 ≤ x4.toInt ∧ x4.toInt + 8 ≤ (L : Int) ∧ L ≤ 4096) (hC : C + 7 ≤ 601024) (hSl : S + 53273 ≤ 7293034) (hl : lv_has ls 8 [(0, .ref b), (1, .ref xo), (2, .ref mo), (3, .ref ou), (4, .int x4)]) (kk : ∀ (G : cG) (W' : va_W) (f : Nat → Int32) (g : Nat → Int64) (r : Nat → Nat → Int32) (q : Nat → Nat → Int64) (H : Heap) (locs : List Loc) (ls : Array Slot), LI D cy s xo mo ou a M G W' f g r q H locs → RlJ cy xo G W' f r → lv_has ls 8 [(0, .ref b), (1, .ref xo), (2, .ref mo), (3, .ref ou), (4, .int x4)] → W p l e room_1 s m #[Value.ref b] below meth c H locs (C + 7) (S + 588) Q (F0 m 2354 ls [])) : W p l e room_1 s m #[Value.ref b] below meth c H locs C S Q (F0 m 2151 ls []) := by
  obtain ⟨⟨hx, hb, hml, hown, hts⟩, ⟨hXs, hbl⟩, ⟨hK, hV, hZ, hXT⟩, hst, hDM, hAM⟩ := id X
  have I0 := I
  have hbA : ¬ AL s b := Nat.not_le.mpr hbl
  have hRc : room_1.cells = 601024 := rfl
  have hRs : room_1.slots = 7293034 := rfl
  have hn1 : vp_in (x4 + 1) L := l_in (c := 1) h4 rfl (by decide)
  have hn2 : vp_in (x4 + 2) L := l_in (c := 2) h4 rfl (by decide)
  have hn3 : vp_in (x4 + 3) L := l_in (c := 3) h4 rfl (by decide)
  have hn4 : vp_in (x4 + 4) L := l_in (c := 4) h4 rfl (by decide)
  have hn5 : vp_in (x4 + 5) L := l_in (c := 5) h4 rfl (by decide)
  have hn6 : vp_in (x4 + 6) L := l_in (c := 6) h4 rfl (by decide)
  have hn7 : vp_in (x4 + 7) L := l_in (c := 7) h4 rfl (by decide)
  refine lv_aload_n hx hb dL_law_2151 rfl (lv_at hl 1 rfl) ?_
  refine lv_aload_n hx hb dL_law_2152 rfl (lv_at hl 0 rfl) ?_
  refine lv_iload hx hb dL_law_2153 (lv_at hl 4 rfl) ?_
  refine lv_iconst (v := 1) hx hb dL_law_2155 (by decide) ?_
  refine lv_iadd hx hb dL_law_2156 ?_
  refine va_sld hx hb hXs hbl hbA I.2.2.2.2.2.2.2.2.1 hn1 dL_law_2157 ?_
  refine lv_aload_n hx hb dL_law_2158 rfl (lv_at hl 0 rfl) ?_
  refine lv_iload hx hb dL_law_2159 (lv_at hl 4 rfl) ?_
  refine lv_iconst (v := 2) hx hb dL_law_2161 (by decide) ?_
  refine lv_iadd hx hb dL_law_2162 ?_
  refine va_sld hx hb hXs hbl hbA I.2.2.2.2.2.2.2.2.1 hn2 dL_law_2163 ?_
  refine lv_aload_n hx hb dL_law_2164 rfl (lv_at hl 3 rfl) ?_
  refine lk3_i I (vx_runSW (g := F0 m 2165 ls ([.ref ou, .int (xs (x4 + 2).toNatClampNeg), .int (xs (x4 + 1).toNatClampNeg), .ref xo])) (As := [.ref xo, .int (xs (x4 + 1).toNatClampNeg), .int (xs (x4 + 2).toNatClampNeg), .ref ou]) (rest := []) ⟨hx, hb, hml, hown, hts⟩ (c_L_element l hst D cy (AC s mo a) G W' xo ((xs (x4 + 1).toNatClampNeg)) ((xs (x4 + 2).toNatClampNeg)) ou I.2.2.1 I.2.2.2.1 I.2.2.2.2.1 I.2.2.2.2.2.1) (vx_cwSW 4 hts gL_law_L_element rfl rfl rfl (by decide +kernel) ⟨Nat.le_of_ble_eq_true rfl, Nat.le_of_ble_eq_true rfl⟩) (l_preS I hK hV hZ hXT) rfl rfl hl.1 rfl (lv_room (Nat.le_of_ble_eq_true rfl)) dL_law_2165 ⟨by omega, by omega⟩) rfl (fun r2165 u H locs q2165 hX I => ?_)
  obtain ⟨G1, W1⟩ := u
  have I : LI D cy s xo mo ou a M G1 W1 f g r q H locs := I
  have hX : cX none (chs [1]) G W' G1 W1 := hX
  refine lv_istore (lv' := [(5, .int r2165), (0, .ref b), (1, .ref xo), (2, .ref mo), (3, .ref ou), (4, .int x4)]) hx hb dL_law_2168 hl (by decide) rfl (fun ls hl => ?_)
  refine lv_aload_n hx hb dL_law_2170 rfl (lv_at hl 3 rfl) ?_
  refine lv_aload_n hx hb dL_law_2171 rfl (lv_at hl 1 rfl) ?_
  refine lv_iload hx hb dL_law_2172 (lv_at hl 5 rfl) ?_
  refine lv_iconst (v := 1) hx hb dL_law_2174 (by decide) ?_
  refine lv_iadd hx hb dL_law_2175 ?_
  refine va_sld hx hb hXs hbl hbA I.2.2.2.2.2.2.2.2.1 hn1 dL_law_2176 ?_
  refine lv_aload_n hx hb dL_law_2177 rfl (lv_at hl 1 rfl) ?_
  refine lv_iload hx hb dL_law_2178 (lv_at hl 5 rfl) ?_
  refine lv_iconst (v := 2) hx hb dL_law_2180 (by decide) ?_
  refine lv_iadd hx hb dL_law_2181 ?_
  refine va_sld hx hb hXs hbl hbA I.2.2.2.2.2.2.2.2.1 hn2 dL_law_2182 ?_
  have hI := I.2.2.2.2.2.2.1
  refine lm_l (As := [.int (xs (x4 + 1).toNatClampNeg), .int (xs (x4 + 2).toNatClampNeg)]) (rest := []) I ⟨hx, hb, hml, hown, hts⟩ (c_X10_element l D cy mo a f g r q ((xs (x4 + 1).toNatClampNeg)) ((xs (x4 + 2).toNatClampNeg)) hDM hI) (cwV 2 hts gL_law_X10_element rfl rfl rfl (by decide +kernel) ⟨Nat.le_of_ble_eq_true rfl, Nat.le_of_ble_eq_true rfl⟩) hK hAM rfl hl.1 rfl (Nat.le_of_ble_eq_true rfl) dL_law_2183 ⟨by omega, by omega⟩ (fun _ _ h9 => by obtain ⟨_, rfl, h9⟩ := h9; exact hI) (fun r2183 u H locs q2183 I => ?_)
  have ef : u.1 1 = f 1 := by obtain ⟨_, rfl, -⟩ := q2183; rfl
  have e2_ : u.2.2.1 2 = r 2 := by obtain ⟨_, rfl, -⟩ := q2183; rfl
  have e3_ : u.2.2.1 3 = r 3 := by obtain ⟨_, rfl, -⟩ := q2183; rfl
  have e4_ : u.2.2.1 4 = r 4 := by obtain ⟨_, rfl, -⟩ := q2183; rfl
  have e5_ : u.2.2.1 5 = r 5 := by obtain ⟨_, rfl, -⟩ := q2183; rfl
  have e6_ : u.2.2.1 6 = r 6 := by obtain ⟨_, rfl, -⟩ := q2183; rfl
  have e7_ : u.2.2.1 7 = r 7 := by obtain ⟨_, rfl, -⟩ := q2183; rfl
  have e8_ : u.2.2.1 8 = r 8 := by obtain ⟨_, rfl, -⟩ := q2183; rfl
  obtain ⟨f1, g1, r1, q1⟩ := u
  have ef : f1 1 = f 1 := ef
  have e2_ : r1 2 = r 2 := e2_
  have e3_ : r1 3 = r 3 := e3_
  have e4_ : r1 4 = r 4 := e4_
  have e5_ : r1 5 = r 5 := e5_
  have e6_ : r1 6 = r 6 := e6_
  have e7_ : r1 7 = r 7 := e7_
  have e8_ : r1 8 = r 8 := e8_
  have I : LI D cy s xo mo ou a M G1 W1 f1 g1 r1 q1 H locs := I
  refine lv_lstore (lv' := [(6, .long r2183), (5, .int r2165), (0, .ref b), (1, .ref xo), (2, .ref mo), (3, .ref ou), (4, .int x4)]) hx hb dL_law_2186 hl (by decide) rfl (fun ls hl => ?_)
  refine lv_goto (tgt := 2354) hx hb dL_law_2188 (by decide) ?_
  have hR1 : RlJ cy xo G1 W1 f1 r1 := hR.keep I0.2.2.1 I0.2.2.2.1 I0.2.2.2.2.1 hX rfl rfl rfl rfl ef e2_ e3_ e4_ e5_ e6_ e7_ e8_
  refine W.widen (k := C + 7) (n := S + 588) (by omega) (by omega) ?_
  exact kk _ _ _ _ _ _ _ _ _ I hR1 (lv_sub hl [2, 3, 4, 5, 6] rfl)
set_option maxHeartbeats 4000000 in
set_option maxRecDepth 100000 in
theorem lcase_32 {p : Program} {l : Launch} {e : Env} {s : State} {m : MethodId} {below : List Frame} {meth : Method} {c : Code} {b L : Nat} {xs : Nat → Int32} {D : va_G} {cy : Nat → ClassId} {xo mo ou : Nat} {a : Nat → Nat} {M : Option Nat} {G : cG} {W' : va_W} {f : Nat → Int32} {g : Nat → Int64} {r : Nat → Nat → Int32} {q : Nat → Nat → Int64} {H : Heap} {locs : List Loc} {ls : Array Slot} {Q : State → Prop} {C S : Nat} (X : LX p l s m c b L xs D cy mo a) (I : LI D cy s xo mo ou a M G W' f g r q H locs) (hR : RlJ cy xo G W' f r) {x4 : Int32} (h4 : 0 ≤ x4.toInt ∧ x4.toInt + 8 ≤ (L : Int) ∧ L ≤ 4096) (hC : C + 7 ≤ 601024) (hSl : S + 53273 ≤ 7293034) (hl : lv_has ls 8 [(0, .ref b), (1, .ref xo), (2, .ref mo), (3, .ref ou), (4, .int x4)]) (kk : ∀ (G : cG) (W' : va_W) (f : Nat → Int32) (g : Nat → Int64) (r : Nat → Nat → Int32) (q : Nat → Nat → Int64) (H : Heap) (locs : List Loc) (ls : Array Slot), LI D cy s xo mo ou a M G W' f g r q H locs → RlJ cy xo G W' f r → lv_has ls 8 [(0, .ref b), (1, .ref xo), (2, .ref mo), (3, .ref ou), (4, .int x4)] → W p l e room_1 s m #[Value.ref b] below meth c H locs (C + 7) (S + 588) Q (F0 m 2354 ls [])) : W p l e room_1 s m #[Value.ref b] below meth c H locs C S Q (F0 m 2191 ls []) := by
  obtain ⟨⟨hx, hb, hml, hown, hts⟩, ⟨hXs, hbl⟩, ⟨hK, hV, hZ, hXT⟩, hst, hDM, hAM⟩ := id X
  have I0 := I
  have hbA : ¬ AL s b := Nat.not_le.mpr hbl
  have hRc : room_1.cells = 601024 := rfl
  have hRs : room_1.slots = 7293034 := rfl
  have hn1 : vp_in (x4 + 1) L := l_in (c := 1) h4 rfl (by decide)
  have hn2 : vp_in (x4 + 2) L := l_in (c := 2) h4 rfl (by decide)
  have hn3 : vp_in (x4 + 3) L := l_in (c := 3) h4 rfl (by decide)
  have hn4 : vp_in (x4 + 4) L := l_in (c := 4) h4 rfl (by decide)
  have hn5 : vp_in (x4 + 5) L := l_in (c := 5) h4 rfl (by decide)
  have hn6 : vp_in (x4 + 6) L := l_in (c := 6) h4 rfl (by decide)
  have hn7 : vp_in (x4 + 7) L := l_in (c := 7) h4 rfl (by decide)
  refine lv_aload_n hx hb dL_law_2191 rfl (lv_at hl 1 rfl) ?_
  refine lv_aload_n hx hb dL_law_2192 rfl (lv_at hl 0 rfl) ?_
  refine lv_iload hx hb dL_law_2193 (lv_at hl 4 rfl) ?_
  refine lv_iconst (v := 1) hx hb dL_law_2195 (by decide) ?_
  refine lv_iadd hx hb dL_law_2196 ?_
  refine va_sld hx hb hXs hbl hbA I.2.2.2.2.2.2.2.2.1 hn1 dL_law_2197 ?_
  refine lv_aload_n hx hb dL_law_2198 rfl (lv_at hl 0 rfl) ?_
  refine lv_iload hx hb dL_law_2199 (lv_at hl 4 rfl) ?_
  refine lv_iconst (v := 2) hx hb dL_law_2201 (by decide) ?_
  refine lv_iadd hx hb dL_law_2202 ?_
  refine va_sld hx hb hXs hbl hbA I.2.2.2.2.2.2.2.2.1 hn2 dL_law_2203 ?_
  refine lv_aload_n hx hb dL_law_2204 rfl (lv_at hl 0 rfl) ?_
  refine lv_iload hx hb dL_law_2205 (lv_at hl 4 rfl) ?_
  refine lv_iconst (v := 3) hx hb dL_law_2207 (by decide) ?_
  refine lv_iadd hx hb dL_law_2208 ?_
  refine va_sld hx hb hXs hbl hbA I.2.2.2.2.2.2.2.2.1 hn3 dL_law_2209 ?_
  refine lv_aload_n hx hb dL_law_2210 rfl (lv_at hl 0 rfl) ?_
  refine lv_iload hx hb dL_law_2211 (lv_at hl 4 rfl) ?_
  refine lv_iconst (v := 4) hx hb dL_law_2213 (by decide) ?_
  refine lv_iadd hx hb dL_law_2214 ?_
  refine va_sld hx hb hXs hbl hbA I.2.2.2.2.2.2.2.2.1 hn4 dL_law_2215 ?_
  refine lv_aload_n hx hb dL_law_2216 rfl (lv_at hl 0 rfl) ?_
  refine lv_iload hx hb dL_law_2217 (lv_at hl 4 rfl) ?_
  refine lv_iconst (v := 5) hx hb dL_law_2219 (by decide) ?_
  refine lv_iadd hx hb dL_law_2220 ?_
  refine va_sld hx hb hXs hbl hbA I.2.2.2.2.2.2.2.2.1 hn5 dL_law_2221 ?_
  refine lk3_i I (va_runV (g := F0 m 2222 ls ([.int (xs (x4 + 5).toNatClampNeg), .int (xs (x4 + 4).toNatClampNeg), .int (xs (x4 + 3).toNatClampNeg), .int (xs (x4 + 2).toNatClampNeg), .int (xs (x4 + 1).toNatClampNeg), .ref xo])) (As := [.int (xs (x4 + 1).toNatClampNeg), .int (xs (x4 + 2).toNatClampNeg), .int (xs (x4 + 3).toNatClampNeg), .int (xs (x4 + 4).toNatClampNeg), .int (xs (x4 + 5).toNatClampNeg)]) (rest := []) ⟨hx, hb, hml, hown, hts⟩ (c_X9_copy l D cy (AC s mo a) G W' xo ((xs (x4 + 1).toNatClampNeg)) ((xs (x4 + 2).toNatClampNeg)) ((xs (x4 + 3).toNatClampNeg)) ((xs (x4 + 4).toNatClampNeg)) ((xs (x4 + 5).toNatClampNeg)) I.2.2.1 I.2.2.2.1 I.2.2.2.2.1) (cwV 5 hts gL_law_X9_copy rfl rfl rfl (by decide +kernel) ⟨Nat.le_of_ble_eq_true rfl, Nat.le_of_ble_eq_true rfl⟩) (l_preV I hK hV) rfl rfl hl.1 rfl (lv_room (Nat.le_of_ble_eq_true rfl)) dL_law_2222 ⟨by omega, by omega⟩) rfl (fun r2222 u H locs q2222 hX I => ?_)
  obtain ⟨G1, W1⟩ := u
  have I : LI D cy s xo mo ou a M G1 W1 f g r q H locs := I
  have hX : cX none (chs [16]) G W' G1 W1 := hX
  refine lv_pop hx hb dL_law_2225 rfl ?_
  refine lv_aload_n hx hb dL_law_2226 rfl (lv_at hl 2 rfl) ?_
  refine lv_aload_n hx hb dL_law_2227 rfl (lv_at hl 0 rfl) ?_
  refine lv_iload hx hb dL_law_2228 (lv_at hl 4 rfl) ?_
  refine lv_iconst (v := 1) hx hb dL_law_2230 (by decide) ?_
  refine lv_iadd hx hb dL_law_2231 ?_
  refine va_sld hx hb hXs hbl hbA I.2.2.2.2.2.2.2.2.1 hn1 dL_law_2232 ?_
  refine lv_aload_n hx hb dL_law_2233 rfl (lv_at hl 0 rfl) ?_
  refine lv_iload hx hb dL_law_2234 (lv_at hl 4 rfl) ?_
  refine lv_iconst (v := 2) hx hb dL_law_2236 (by decide) ?_
  refine lv_iadd hx hb dL_law_2237 ?_
  refine va_sld hx hb hXs hbl hbA I.2.2.2.2.2.2.2.2.1 hn2 dL_law_2238 ?_
  refine lv_aload_n hx hb dL_law_2239 rfl (lv_at hl 0 rfl) ?_
  refine lv_iload hx hb dL_law_2240 (lv_at hl 4 rfl) ?_
  refine lv_iconst (v := 3) hx hb dL_law_2242 (by decide) ?_
  refine lv_iadd hx hb dL_law_2243 ?_
  refine va_sld hx hb hXs hbl hbA I.2.2.2.2.2.2.2.2.1 hn3 dL_law_2244 ?_
  refine lv_aload_n hx hb dL_law_2245 rfl (lv_at hl 0 rfl) ?_
  refine lv_iload hx hb dL_law_2246 (lv_at hl 4 rfl) ?_
  refine lv_iconst (v := 4) hx hb dL_law_2248 (by decide) ?_
  refine lv_iadd hx hb dL_law_2249 ?_
  refine va_sld hx hb hXs hbl hbA I.2.2.2.2.2.2.2.2.1 hn4 dL_law_2250 ?_
  refine lv_aload_n hx hb dL_law_2251 rfl (lv_at hl 0 rfl) ?_
  refine lv_iload hx hb dL_law_2252 (lv_at hl 4 rfl) ?_
  refine lv_iconst (v := 5) hx hb dL_law_2254 (by decide) ?_
  refine lv_iadd hx hb dL_law_2255 ?_
  refine va_sld hx hb hXs hbl hbA I.2.2.2.2.2.2.2.2.1 hn5 dL_law_2256 ?_
  have hI := I.2.2.2.2.2.2.1
  refine lm_i (As := [.int (xs (x4 + 1).toNatClampNeg), .int (xs (x4 + 2).toNatClampNeg), .int (xs (x4 + 3).toNatClampNeg), .int (xs (x4 + 4).toNatClampNeg), .int (xs (x4 + 5).toNatClampNeg)]) (rest := []) I ⟨hx, hb, hml, hown, hts⟩ (c_X10_copy l D cy mo a f g r q ((xs (x4 + 1).toNatClampNeg)) ((xs (x4 + 2).toNatClampNeg)) ((xs (x4 + 3).toNatClampNeg)) ((xs (x4 + 4).toNatClampNeg)) ((xs (x4 + 5).toNatClampNeg)) hDM hI) (cwV 5 hts gL_law_X10_copy rfl rfl rfl (by decide +kernel) ⟨Nat.le_of_ble_eq_true rfl, Nat.le_of_ble_eq_true rfl⟩) hK hAM rfl hl.1 rfl (Nat.le_of_ble_eq_true rfl) dL_law_2257 ⟨by omega, by omega⟩ (fun _ _ h9 => by obtain ⟨_, _, rfl, h9⟩ := h9; exact hI) (fun r2257 u H locs q2257 I => ?_)
  have ef : u.1 1 = f 1 := by obtain ⟨_, _, rfl, -⟩ := q2257; rfl
  have e2_ : u.2.2.1 2 = r 2 := by obtain ⟨_, _, rfl, -⟩ := q2257; rfl
  have e3_ : u.2.2.1 3 = r 3 := by obtain ⟨_, _, rfl, -⟩ := q2257; rfl
  have e4_ : u.2.2.1 4 = r 4 := by obtain ⟨_, _, rfl, -⟩ := q2257; rfl
  have e5_ : u.2.2.1 5 = r 5 := by obtain ⟨_, _, rfl, -⟩ := q2257; rfl
  have e6_ : u.2.2.1 6 = r 6 := by obtain ⟨_, _, rfl, -⟩ := q2257; rfl
  have e7_ : u.2.2.1 7 = r 7 := by obtain ⟨_, _, rfl, -⟩ := q2257; rfl
  have e8_ : u.2.2.1 8 = r 8 := by obtain ⟨_, _, rfl, -⟩ := q2257; rfl
  obtain ⟨f1, g1, r1, q1⟩ := u
  have ef : f1 1 = f 1 := ef
  have e2_ : r1 2 = r 2 := e2_
  have e3_ : r1 3 = r 3 := e3_
  have e4_ : r1 4 = r 4 := e4_
  have e5_ : r1 5 = r 5 := e5_
  have e6_ : r1 6 = r 6 := e6_
  have e7_ : r1 7 = r 7 := e7_
  have e8_ : r1 8 = r 8 := e8_
  have I : LI D cy s xo mo ou a M G1 W1 f1 g1 r1 q1 H locs := I
  refine lv_pop hx hb dL_law_2260 rfl ?_
  refine lv_goto (tgt := 2354) hx hb dL_law_2261 (by decide) ?_
  have hR1 : RlJ cy xo G1 W1 f1 r1 := hR.keep I0.2.2.1 I0.2.2.2.1 I0.2.2.2.2.1 hX rfl rfl rfl rfl ef e2_ e3_ e4_ e5_ e6_ e7_ e8_
  refine W.widen (k := C + 7) (n := S + 588) (by omega) (by omega) ?_
  exact kk _ _ _ _ _ _ _ _ _ I hR1 (lv_sub hl [0, 1, 2, 3, 4] rfl)
set_option maxHeartbeats 4000000 in
set_option maxRecDepth 100000 in
theorem lcase_33 {p : Program} {l : Launch} {e : Env} {s : State} {m : MethodId} {below : List Frame} {meth : Method} {c : Code} {b L : Nat} {xs : Nat → Int32} {D : va_G} {cy : Nat → ClassId} {xo mo ou : Nat} {a : Nat → Nat} {M : Option Nat} {G : cG} {W' : va_W} {f : Nat → Int32} {g : Nat → Int64} {r : Nat → Nat → Int32} {q : Nat → Nat → Int64} {H : Heap} {locs : List Loc} {ls : Array Slot} {Q : State → Prop} {C S : Nat} (X : LX p l s m c b L xs D cy mo a) (I : LI D cy s xo mo ou a M G W' f g r q H locs) (hR : RlJ cy xo G W' f r) {x4 : Int32} (h4 : 0 ≤ x4.toInt ∧ x4.toInt + 8 ≤ (L : Int) ∧ L ≤ 4096) (hC : C + 7 ≤ 601024) (hSl : S + 53273 ≤ 7293034) (hl : lv_has ls 8 [(0, .ref b), (1, .ref xo), (2, .ref mo), (3, .ref ou), (4, .int x4)]) (kk : ∀ (G : cG) (W' : va_W) (f : Nat → Int32) (g : Nat → Int64) (r : Nat → Nat → Int32) (q : Nat → Nat → Int64) (H : Heap) (locs : List Loc) (ls : Array Slot), LI D cy s xo mo ou a M G W' f g r q H locs → RlJ cy xo G W' f r → lv_has ls 8 [(0, .ref b), (1, .ref xo), (2, .ref mo), (3, .ref ou), (4, .int x4)] → W p l e room_1 s m #[Value.ref b] below meth c H locs (C + 7) (S + 588) Q (F0 m 2354 ls [])) : W p l e room_1 s m #[Value.ref b] below meth c H locs C S Q (F0 m 2264 ls []) := by
  obtain ⟨⟨hx, hb, hml, hown, hts⟩, ⟨hXs, hbl⟩, ⟨hK, hV, hZ, hXT⟩, hst, hDM, hAM⟩ := id X
  have I0 := I
  have hbA : ¬ AL s b := Nat.not_le.mpr hbl
  have hRc : room_1.cells = 601024 := rfl
  have hRs : room_1.slots = 7293034 := rfl
  have hn1 : vp_in (x4 + 1) L := l_in (c := 1) h4 rfl (by decide)
  have hn2 : vp_in (x4 + 2) L := l_in (c := 2) h4 rfl (by decide)
  have hn3 : vp_in (x4 + 3) L := l_in (c := 3) h4 rfl (by decide)
  have hn4 : vp_in (x4 + 4) L := l_in (c := 4) h4 rfl (by decide)
  have hn5 : vp_in (x4 + 5) L := l_in (c := 5) h4 rfl (by decide)
  have hn6 : vp_in (x4 + 6) L := l_in (c := 6) h4 rfl (by decide)
  have hn7 : vp_in (x4 + 7) L := l_in (c := 7) h4 rfl (by decide)
  refine lv_aload_n hx hb dL_law_2264 rfl (lv_at hl 1 rfl) ?_
  refine lv_aload_n hx hb dL_law_2265 rfl (lv_at hl 0 rfl) ?_
  refine lv_iload hx hb dL_law_2266 (lv_at hl 4 rfl) ?_
  refine lv_iconst (v := 1) hx hb dL_law_2268 (by decide) ?_
  refine lv_iadd hx hb dL_law_2269 ?_
  refine va_sld hx hb hXs hbl hbA I.2.2.2.2.2.2.2.2.1 hn1 dL_law_2270 ?_
  refine lv_aload_n hx hb dL_law_2271 rfl (lv_at hl 0 rfl) ?_
  refine lv_iload hx hb dL_law_2272 (lv_at hl 4 rfl) ?_
  refine lv_iconst (v := 2) hx hb dL_law_2274 (by decide) ?_
  refine lv_iadd hx hb dL_law_2275 ?_
  refine va_sld hx hb hXs hbl hbA I.2.2.2.2.2.2.2.2.1 hn2 dL_law_2276 ?_
  refine lk3_rl I (va_runV (g := F0 m 2277 ls ([.int (xs (x4 + 2).toNatClampNeg), .int (xs (x4 + 1).toNatClampNeg), .ref xo])) (As := [.int (xs (x4 + 1).toNatClampNeg), .int (xs (x4 + 2).toNatClampNeg)]) (rest := []) ⟨hx, hb, hml, hown, hts⟩ (c_X9_layer l D cy (AC s mo a) G W' xo ((xs (x4 + 1).toNatClampNeg)) ((xs (x4 + 2).toNatClampNeg)) I.2.2.1 I.2.2.2.1 I.2.2.2.2.1) (cwV 2 hts gL_law_X9_layer rfl rfl rfl (by decide +kernel) ⟨Nat.le_of_ble_eq_true rfl, Nat.le_of_ble_eq_true rfl⟩) (l_preV I hK hV) rfl rfl hl.1 rfl (lv_room (Nat.le_of_ble_eq_true rfl)) dL_law_2277 ⟨by omega, by omega⟩) (fun r2277 u H locs q2277 hX I => ?_)
  obtain ⟨G1, W1⟩ := u
  have I : LI D cy s xo mo ou a M G1 W1 f g r q H locs := I
  have hX : cX none (chs []) G W' G1 W1 := hX
  refine lv_pop2_2 hx hb dL_law_2280 rfl ?_
  refine lv_aload_n hx hb dL_law_2281 rfl (lv_at hl 2 rfl) ?_
  refine lv_aload_n hx hb dL_law_2282 rfl (lv_at hl 0 rfl) ?_
  refine lv_iload hx hb dL_law_2283 (lv_at hl 4 rfl) ?_
  refine lv_iconst (v := 1) hx hb dL_law_2285 (by decide) ?_
  refine lv_iadd hx hb dL_law_2286 ?_
  refine va_sld hx hb hXs hbl hbA I.2.2.2.2.2.2.2.2.1 hn1 dL_law_2287 ?_
  refine lv_aload_n hx hb dL_law_2288 rfl (lv_at hl 0 rfl) ?_
  refine lv_iload hx hb dL_law_2289 (lv_at hl 4 rfl) ?_
  refine lv_iconst (v := 2) hx hb dL_law_2291 (by decide) ?_
  refine lv_iadd hx hb dL_law_2292 ?_
  refine va_sld hx hb hXs hbl hbA I.2.2.2.2.2.2.2.2.1 hn2 dL_law_2293 ?_
  have hI := I.2.2.2.2.2.2.1
  refine lm_l (As := [.int (xs (x4 + 1).toNatClampNeg), .int (xs (x4 + 2).toNatClampNeg)]) (rest := []) I ⟨hx, hb, hml, hown, hts⟩ (c_X10_layer l D cy mo a f g r q ((xs (x4 + 1).toNatClampNeg)) ((xs (x4 + 2).toNatClampNeg)) hDM hI) (cwV 2 hts gL_law_X10_layer rfl rfl rfl (by decide +kernel) ⟨Nat.le_of_ble_eq_true rfl, Nat.le_of_ble_eq_true rfl⟩) hK hAM rfl hl.1 rfl (Nat.le_of_ble_eq_true rfl) dL_law_2294 ⟨by omega, by omega⟩ (fun _ _ h9 => by obtain ⟨rfl, h9⟩ := h9; exact hI) (fun r2294 u H locs q2294 I => ?_)
  have ef : u.1 1 = f 1 := by obtain ⟨rfl, -⟩ := q2294; rfl
  have e2_ : u.2.2.1 2 = r 2 := by obtain ⟨rfl, -⟩ := q2294; rfl
  have e3_ : u.2.2.1 3 = r 3 := by obtain ⟨rfl, -⟩ := q2294; rfl
  have e4_ : u.2.2.1 4 = r 4 := by obtain ⟨rfl, -⟩ := q2294; rfl
  have e5_ : u.2.2.1 5 = r 5 := by obtain ⟨rfl, -⟩ := q2294; rfl
  have e6_ : u.2.2.1 6 = r 6 := by obtain ⟨rfl, -⟩ := q2294; rfl
  have e7_ : u.2.2.1 7 = r 7 := by obtain ⟨rfl, -⟩ := q2294; rfl
  have e8_ : u.2.2.1 8 = r 8 := by obtain ⟨rfl, -⟩ := q2294; rfl
  obtain ⟨f1, g1, r1, q1⟩ := u
  have ef : f1 1 = f 1 := ef
  have e2_ : r1 2 = r 2 := e2_
  have e3_ : r1 3 = r 3 := e3_
  have e4_ : r1 4 = r 4 := e4_
  have e5_ : r1 5 = r 5 := e5_
  have e6_ : r1 6 = r 6 := e6_
  have e7_ : r1 7 = r 7 := e7_
  have e8_ : r1 8 = r 8 := e8_
  have I : LI D cy s xo mo ou a M G1 W1 f1 g1 r1 q1 H locs := I
  refine lv_pop2_2 hx hb dL_law_2297 rfl ?_
  refine lv_goto (tgt := 2354) hx hb dL_law_2298 (by decide) ?_
  have hR1 : RlJ cy xo G1 W1 f1 r1 := hR.keep I0.2.2.1 I0.2.2.2.1 I0.2.2.2.2.1 hX rfl rfl rfl rfl ef e2_ e3_ e4_ e5_ e6_ e7_ e8_
  refine W.widen (k := C + 7) (n := S + 588) (by omega) (by omega) ?_
  exact kk _ _ _ _ _ _ _ _ _ I hR1 (lv_sub hl [0, 1, 2, 3, 4] rfl)
set_option maxHeartbeats 4000000 in
set_option maxRecDepth 100000 in
theorem lcase_34 {p : Program} {l : Launch} {e : Env} {s : State} {m : MethodId} {below : List Frame} {meth : Method} {c : Code} {b L : Nat} {xs : Nat → Int32} {D : va_G} {cy : Nat → ClassId} {xo mo ou : Nat} {a : Nat → Nat} {M : Option Nat} {G : cG} {W' : va_W} {f : Nat → Int32} {g : Nat → Int64} {r : Nat → Nat → Int32} {q : Nat → Nat → Int64} {H : Heap} {locs : List Loc} {ls : Array Slot} {Q : State → Prop} {C S : Nat} (X : LX p l s m c b L xs D cy mo a) (I : LI D cy s xo mo ou a M G W' f g r q H locs) (hR : RlJ cy xo G W' f r) {x4 : Int32} (h4 : 0 ≤ x4.toInt ∧ x4.toInt + 8 ≤ (L : Int) ∧ L ≤ 4096) (hC : C + 7 ≤ 601024) (hSl : S + 53273 ≤ 7293034) (hl : lv_has ls 8 [(0, .ref b), (1, .ref xo), (2, .ref mo), (3, .ref ou), (4, .int x4)]) (kk : ∀ (G : cG) (W' : va_W) (f : Nat → Int32) (g : Nat → Int64) (r : Nat → Nat → Int32) (q : Nat → Nat → Int64) (H : Heap) (locs : List Loc) (ls : Array Slot), LI D cy s xo mo ou a M G W' f g r q H locs → RlJ cy xo G W' f r → lv_has ls 8 [(0, .ref b), (1, .ref xo), (2, .ref mo), (3, .ref ou), (4, .int x4)] → W p l e room_1 s m #[Value.ref b] below meth c H locs (C + 7) (S + 588) Q (F0 m 2354 ls [])) : W p l e room_1 s m #[Value.ref b] below meth c H locs C S Q (F0 m 2301 ls []) := by
  obtain ⟨⟨hx, hb, hml, hown, hts⟩, ⟨hXs, hbl⟩, ⟨hK, hV, hZ, hXT⟩, hst, hDM, hAM⟩ := id X
  have I0 := I
  have hbA : ¬ AL s b := Nat.not_le.mpr hbl
  have hRc : room_1.cells = 601024 := rfl
  have hRs : room_1.slots = 7293034 := rfl
  have hn1 : vp_in (x4 + 1) L := l_in (c := 1) h4 rfl (by decide)
  have hn2 : vp_in (x4 + 2) L := l_in (c := 2) h4 rfl (by decide)
  have hn3 : vp_in (x4 + 3) L := l_in (c := 3) h4 rfl (by decide)
  have hn4 : vp_in (x4 + 4) L := l_in (c := 4) h4 rfl (by decide)
  have hn5 : vp_in (x4 + 5) L := l_in (c := 5) h4 rfl (by decide)
  have hn6 : vp_in (x4 + 6) L := l_in (c := 6) h4 rfl (by decide)
  have hn7 : vp_in (x4 + 7) L := l_in (c := 7) h4 rfl (by decide)
  refine lv_aload_n hx hb dL_law_2301 rfl (lv_at hl 1 rfl) ?_
  refine lv_aload_n hx hb dL_law_2302 rfl (lv_at hl 0 rfl) ?_
  refine lv_iload hx hb dL_law_2303 (lv_at hl 4 rfl) ?_
  refine lv_iconst (v := 1) hx hb dL_law_2305 (by decide) ?_
  refine lv_iadd hx hb dL_law_2306 ?_
  refine va_sld hx hb hXs hbl hbA I.2.2.2.2.2.2.2.2.1 hn1 dL_law_2307 ?_
  refine lv_aload_n hx hb dL_law_2308 rfl (lv_at hl 3 rfl) ?_
  refine lk3_i I (vx_runSW (g := F0 m 2309 ls ([.ref ou, .int (xs (x4 + 1).toNatClampNeg), .ref xo])) (As := [.ref xo, .int (xs (x4 + 1).toNatClampNeg), .ref ou]) (rest := []) ⟨hx, hb, hml, hown, hts⟩ (c_L_weight l hst D cy (AC s mo a) G W' xo ((xs (x4 + 1).toNatClampNeg)) ou I.2.2.1 I.2.2.2.1 I.2.2.2.2.1 I.2.2.2.2.2.1) (vx_cwSW 3 hts gL_law_L_weight rfl rfl rfl (by decide +kernel) ⟨Nat.le_of_ble_eq_true rfl, Nat.le_of_ble_eq_true rfl⟩) (l_preS I hK hV hZ hXT) rfl rfl hl.1 rfl (lv_room (Nat.le_of_ble_eq_true rfl)) dL_law_2309 ⟨by omega, by omega⟩) rfl (fun r2309 u H locs q2309 hX I => ?_)
  obtain ⟨G1, W1⟩ := u
  have I : LI D cy s xo mo ou a M G1 W1 f g r q H locs := I
  have hX : cX none (chs [1]) G W' G1 W1 := hX
  refine lv_istore (lv' := [(5, .int r2309), (0, .ref b), (1, .ref xo), (2, .ref mo), (3, .ref ou), (4, .int x4)]) hx hb dL_law_2312 hl (by decide) rfl (fun ls hl => ?_)
  refine lv_aload_n hx hb dL_law_2314 rfl (lv_at hl 3 rfl) ?_
  refine lv_aload_n hx hb dL_law_2315 rfl (lv_at hl 1 rfl) ?_
  refine lv_iload hx hb dL_law_2316 (lv_at hl 5 rfl) ?_
  refine lv_iconst (v := 1) hx hb dL_law_2318 (by decide) ?_
  refine lv_iadd hx hb dL_law_2319 ?_
  refine va_sld hx hb hXs hbl hbA I.2.2.2.2.2.2.2.2.1 hn1 dL_law_2320 ?_
  have hI := I.2.2.2.2.2.2.1
  refine lm_i (As := [.int (xs (x4 + 1).toNatClampNeg)]) (rest := []) I ⟨hx, hb, hml, hown, hts⟩ (c_X10_weight l D cy mo a f g r q ((xs (x4 + 1).toNatClampNeg)) hDM) (cwV 1 hts gL_law_X10_weight rfl rfl rfl (by decide +kernel) ⟨Nat.le_of_ble_eq_true rfl, Nat.le_of_ble_eq_true rfl⟩) hK hAM rfl hl.1 rfl (Nat.le_of_ble_eq_true rfl) dL_law_2321 ⟨by omega, by omega⟩ (fun _ _ h9 => by obtain ⟨_, rfl, h9⟩ := h9; exact hI) (fun r2321 u H locs q2321 I => ?_)
  have ef : u.1 1 = f 1 := by obtain ⟨_, rfl, -⟩ := q2321; rfl
  have e2_ : u.2.2.1 2 = r 2 := by obtain ⟨_, rfl, -⟩ := q2321; rfl
  have e3_ : u.2.2.1 3 = r 3 := by obtain ⟨_, rfl, -⟩ := q2321; rfl
  have e4_ : u.2.2.1 4 = r 4 := by obtain ⟨_, rfl, -⟩ := q2321; rfl
  have e5_ : u.2.2.1 5 = r 5 := by obtain ⟨_, rfl, -⟩ := q2321; rfl
  have e6_ : u.2.2.1 6 = r 6 := by obtain ⟨_, rfl, -⟩ := q2321; rfl
  have e7_ : u.2.2.1 7 = r 7 := by obtain ⟨_, rfl, -⟩ := q2321; rfl
  have e8_ : u.2.2.1 8 = r 8 := by obtain ⟨_, rfl, -⟩ := q2321; rfl
  obtain ⟨f1, g1, r1, q1⟩ := u
  have ef : f1 1 = f 1 := ef
  have e2_ : r1 2 = r 2 := e2_
  have e3_ : r1 3 = r 3 := e3_
  have e4_ : r1 4 = r 4 := e4_
  have e5_ : r1 5 = r 5 := e5_
  have e6_ : r1 6 = r 6 := e6_
  have e7_ : r1 7 = r 7 := e7_
  have e8_ : r1 8 = r 8 := e8_
  have I : LI D cy s xo mo ou a M G1 W1 f1 g1 r1 q1 H locs := I
  refine lv_istore (lv' := [(6, .int r2321), (5, .int r2309), (0, .ref b), (1, .ref xo), (2, .ref mo), (3, .ref ou), (4, .int x4)]) hx hb dL_law_2324 hl (by decide) rfl (fun ls hl => ?_)
  refine lv_goto (tgt := 2354) hx hb dL_law_2326 (by decide) ?_
  have hR1 : RlJ cy xo G1 W1 f1 r1 := hR.keep I0.2.2.1 I0.2.2.2.1 I0.2.2.2.2.1 hX rfl rfl rfl rfl ef e2_ e3_ e4_ e5_ e6_ e7_ e8_
  refine W.widen (k := C + 7) (n := S + 588) (by omega) (by omega) ?_
  exact kk _ _ _ _ _ _ _ _ _ I hR1 (lv_sub hl [2, 3, 4, 5, 6] rfl)
set_option maxHeartbeats 4000000 in
set_option maxRecDepth 100000 in
theorem lcase_35 {p : Program} {l : Launch} {e : Env} {s : State} {m : MethodId} {below : List Frame} {meth : Method} {c : Code} {b L : Nat} {xs : Nat → Int32} {D : va_G} {cy : Nat → ClassId} {xo mo ou : Nat} {a : Nat → Nat} {M : Option Nat} {G : cG} {W' : va_W} {f : Nat → Int32} {g : Nat → Int64} {r : Nat → Nat → Int32} {q : Nat → Nat → Int64} {H : Heap} {locs : List Loc} {ls : Array Slot} {Q : State → Prop} {C S : Nat} (X : LX p l s m c b L xs D cy mo a) (I : LI D cy s xo mo ou a M G W' f g r q H locs) (hR : RlJ cy xo G W' f r) {x4 : Int32} (h4 : 0 ≤ x4.toInt ∧ x4.toInt + 8 ≤ (L : Int) ∧ L ≤ 4096) (hC : C + 7 ≤ 601024) (hSl : S + 53273 ≤ 7293034) (hl : lv_has ls 8 [(0, .ref b), (1, .ref xo), (2, .ref mo), (3, .ref ou), (4, .int x4)]) (kk : ∀ (G : cG) (W' : va_W) (f : Nat → Int32) (g : Nat → Int64) (r : Nat → Nat → Int32) (q : Nat → Nat → Int64) (H : Heap) (locs : List Loc) (ls : Array Slot), LI D cy s xo mo ou a M G W' f g r q H locs → RlJ cy xo G W' f r → lv_has ls 8 [(0, .ref b), (1, .ref xo), (2, .ref mo), (3, .ref ou), (4, .int x4)] → W p l e room_1 s m #[Value.ref b] below meth c H locs (C + 7) (S + 588) Q (F0 m 2354 ls [])) : W p l e room_1 s m #[Value.ref b] below meth c H locs C S Q (F0 m 2329 ls []) := by
  obtain ⟨⟨hx, hb, hml, hown, hts⟩, ⟨hXs, hbl⟩, ⟨hK, hV, hZ, hXT⟩, hst, hDM, hAM⟩ := id X
  have I0 := I
  have hbA : ¬ AL s b := Nat.not_le.mpr hbl
  have hRc : room_1.cells = 601024 := rfl
  have hRs : room_1.slots = 7293034 := rfl
  have hn1 : vp_in (x4 + 1) L := l_in (c := 1) h4 rfl (by decide)
  have hn2 : vp_in (x4 + 2) L := l_in (c := 2) h4 rfl (by decide)
  have hn3 : vp_in (x4 + 3) L := l_in (c := 3) h4 rfl (by decide)
  have hn4 : vp_in (x4 + 4) L := l_in (c := 4) h4 rfl (by decide)
  have hn5 : vp_in (x4 + 5) L := l_in (c := 5) h4 rfl (by decide)
  have hn6 : vp_in (x4 + 6) L := l_in (c := 6) h4 rfl (by decide)
  have hn7 : vp_in (x4 + 7) L := l_in (c := 7) h4 rfl (by decide)
  refine lv_aload_n hx hb dL_law_2329 rfl (lv_at hl 1 rfl) ?_
  refine lv_aload_n hx hb dL_law_2330 rfl (lv_at hl 0 rfl) ?_
  refine lv_iload hx hb dL_law_2331 (lv_at hl 4 rfl) ?_
  refine lv_iconst (v := 1) hx hb dL_law_2333 (by decide) ?_
  refine lv_iadd hx hb dL_law_2334 ?_
  refine va_sld hx hb hXs hbl hbA I.2.2.2.2.2.2.2.2.1 hn1 dL_law_2335 ?_
  refine lk3_ri I (va_runV (g := F0 m 2336 ls ([.int (xs (x4 + 1).toNatClampNeg), .ref xo])) (As := [.int (xs (x4 + 1).toNatClampNeg)]) (rest := []) ⟨hx, hb, hml, hown, hts⟩ (c_X9_toss l hst D cy (AC s mo a) G W' xo ((xs (x4 + 1).toNatClampNeg)) I.2.2.1 I.2.2.2.1 I.2.2.2.2.1) (cwV 1 hts gL_law_X9_toss rfl rfl rfl (by decide +kernel) ⟨Nat.le_of_ble_eq_true rfl, Nat.le_of_ble_eq_true rfl⟩) (l_preX I hK hV hZ hXT) rfl rfl hl.1 rfl (lv_room (Nat.le_of_ble_eq_true rfl)) dL_law_2336 ⟨by omega, by omega⟩) (fun r2336 u H locs q2336 hX I => ?_)
  obtain ⟨G1, W1⟩ := u
  have I : LI D cy s xo mo ou a M G1 W1 f g r q H locs := I
  have hX : cX none (chs []) G W' G1 W1 := hX
  refine lv_pop hx hb dL_law_2339 rfl ?_
  refine lv_aload_n hx hb dL_law_2340 rfl (lv_at hl 2 rfl) ?_
  refine lv_aload_n hx hb dL_law_2341 rfl (lv_at hl 0 rfl) ?_
  refine lv_iload hx hb dL_law_2342 (lv_at hl 4 rfl) ?_
  refine lv_iconst (v := 1) hx hb dL_law_2344 (by decide) ?_
  refine lv_iadd hx hb dL_law_2345 ?_
  refine va_sld hx hb hXs hbl hbA I.2.2.2.2.2.2.2.2.1 hn1 dL_law_2346 ?_
  have hI := I.2.2.2.2.2.2.1
  refine lm_i (As := [.int (xs (x4 + 1).toNatClampNeg)]) (rest := []) I ⟨hx, hb, hml, hown, hts⟩ (c_X10_toss l D cy mo a f g r q ((xs (x4 + 1).toNatClampNeg)) hDM) (cwV 1 hts gL_law_X10_toss rfl rfl rfl (by decide +kernel) ⟨Nat.le_of_ble_eq_true rfl, Nat.le_of_ble_eq_true rfl⟩) hK hAM rfl hl.1 rfl (Nat.le_of_ble_eq_true rfl) dL_law_2347 ⟨by omega, by omega⟩ (fun _ _ h9 => by obtain ⟨rfl, h9⟩ := h9; exact hI) (fun r2347 u H locs q2347 I => ?_)
  have ef : u.1 1 = f 1 := by obtain ⟨rfl, -⟩ := q2347; rfl
  have e2_ : u.2.2.1 2 = r 2 := by obtain ⟨rfl, -⟩ := q2347; rfl
  have e3_ : u.2.2.1 3 = r 3 := by obtain ⟨rfl, -⟩ := q2347; rfl
  have e4_ : u.2.2.1 4 = r 4 := by obtain ⟨rfl, -⟩ := q2347; rfl
  have e5_ : u.2.2.1 5 = r 5 := by obtain ⟨rfl, -⟩ := q2347; rfl
  have e6_ : u.2.2.1 6 = r 6 := by obtain ⟨rfl, -⟩ := q2347; rfl
  have e7_ : u.2.2.1 7 = r 7 := by obtain ⟨rfl, -⟩ := q2347; rfl
  have e8_ : u.2.2.1 8 = r 8 := by obtain ⟨rfl, -⟩ := q2347; rfl
  obtain ⟨f1, g1, r1, q1⟩ := u
  have ef : f1 1 = f 1 := ef
  have e2_ : r1 2 = r 2 := e2_
  have e3_ : r1 3 = r 3 := e3_
  have e4_ : r1 4 = r 4 := e4_
  have e5_ : r1 5 = r 5 := e5_
  have e6_ : r1 6 = r 6 := e6_
  have e7_ : r1 7 = r 7 := e7_
  have e8_ : r1 8 = r 8 := e8_
  have I : LI D cy s xo mo ou a M G1 W1 f1 g1 r1 q1 H locs := I
  refine lv_pop hx hb dL_law_2350 rfl ?_
  refine lv_goto (tgt := 2354) hx hb dL_law_2351 (by decide) ?_
  have hR1 : RlJ cy xo G1 W1 f1 r1 := hR.keep I0.2.2.1 I0.2.2.2.1 I0.2.2.2.2.1 hX rfl rfl rfl rfl ef e2_ e3_ e4_ e5_ e6_ e7_ e8_
  refine W.widen (k := C + 7) (n := S + 588) (by omega) (by omega) ?_
  exact kk _ _ _ _ _ _ _ _ _ I hR1 (lv_sub hl [0, 1, 2, 3, 4] rfl)
