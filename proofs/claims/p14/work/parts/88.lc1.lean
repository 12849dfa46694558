set_option maxHeartbeats 4000000 in
set_option maxRecDepth 100000 in
theorem lcase_18 {p : Program} {l : Launch} {e : Env} {s : State} {m : MethodId} {below : List Frame} {meth : Method} {c : Code} {b L : Nat} {xs : Nat → Int32} {D : va_G} {cy : Nat → ClassId} {xo mo ou : Nat} {a : Nat → Nat} {M : Option Nat} {G : cG} {W' : va_W} {f : Nat → Int32} {g : Nat → Int64} {r : Nat → Nat → Int32} {q : Nat → Nat → Int64} {H : Heap} {locs : List Loc} {ls : Array Slot} {Q : State → Prop} {C S : Nat} (X : LX p l s m c b L xs D cy mo a) (I : LI D cy s xo mo ou a M G W' f g r q H locs) (hR : RlJ cy xo G W' f r) {x4 : Int32} (h4 : 0 ≤ x4.toInt ∧ x4.toInt + 8 ≤ (L : Int) ∧ L ≤ 4096) (hC : C + 7 ≤ 601024) (hSl : S + 53273 ≤ 7293034) (hl : lv_has ls 8 [(0, .ref b), (1, .ref xo), (2, .ref mo), (3, .ref ou), (4, .int x4)]) (kk : ∀ (G : cG) (W' : va_W) (f : Nat → Int32) (g : Nat → Int64) (r : Nat → Nat → Int32) (q : Nat → Nat → Int64) (H : Heap) (locs : List Loc) (ls : Array Slot), LI D cy s xo mo ou a M G W' f g r q H locs → RlJ cy xo G W' f r → lv_has ls 8 [(0, .ref b), (1, .ref xo), (2, .ref mo), (3, .ref ou), (4, .int x4)] → W p l e room_1 s m #[Value.ref b] below meth c H locs (C + 7) (S + 588) Q (F0 m 2327 ls [])) (kk2 : M = none → ∀ x9 : Nat, ∀ (G : cG) (W' : va_W) (f : Nat → Int32) (g : Nat → Int64) (r : Nat → Nat → Int32) (q : Nat → Nat → Int64) (H : Heap) (locs : List Loc) (ls : Array Slot), LI D cy s xo mo ou a (some x9) G W' f g r q H locs → RlJ cy xo G W' f r → lv_has ls 8 [(0, .ref b), (1, .ref xo), (2, .ref mo), (3, .ref ou), (4, .int x4)] → W p l e room_1 s m #[Value.ref b] below meth c H locs (C + 7) (S + 53273) Q (F0 m 2327 ls [])) : W p l e room_1 s m #[Value.ref b] below meth c H locs C S Q (F0 m 1174 ls []) := by
  obtain ⟨⟨hx, hb, hml, hown, hts⟩, ⟨hXs, hbl⟩, ⟨hK, hV, hZ, hXT⟩, hst, hDM, hAM⟩ := id X
  have I0 := I
  have hbA : ¬ AL s b := Nat.not_le.mpr hbl
  have hRc : room_1.cells = 601024 := rfl
  have hRs : room_1.slots = 7293034 := rfl
  have hn1 : vp_in (x4 + 1) L := l_in (c := 1) h4 rfl (by decide)
  have hn2 : vp_in (x4 + 2) L := l_in (c := 2) h4 rfl (by decide)
  have hn3 : vp_in (x4 + 3) L := l_in (c := 3) h4 rfl (by decide)
  have hn4 : vp_in (x4 + 4) L := l_in (c := 4) h4 rfl (by decide)
  have hn5 : vp_in (x4 + 5) L := l_in (c := 5) h4 rfl (by decide)
  have hn6 : vp_in (x4 + 6) L := l_in (c := 6) h4 rfl (by decide)
  have hn7 : vp_in (x4 + 7) L := l_in (c := 7) h4 rfl (by decide)
  refine lv_aload_n hx hb dL_law_1174 rfl (lv_at hl 1 rfl) ?_
  refine lv_aload_n hx hb dL_law_1175 rfl (lv_at hl 0 rfl) ?_
  refine lv_iload hx hb dL_law_1176 (lv_at hl 4 rfl) ?_
  refine lv_iconst (v := 1) hx hb dL_law_1178 (by decide) ?_
  refine lv_iadd hx hb dL_law_1179 ?_
  refine va_sld hx hb hXs hbl hbA I.2.2.2.2.2.2.2.2.1 hn1 dL_law_1180 ?_
  refine lv_aload_n hx hb dL_law_1181 rfl (lv_at hl 0 rfl) ?_
  refine lv_iload hx hb dL_law_1182 (lv_at hl 4 rfl) ?_
  refine lv_iconst (v := 2) hx hb dL_law_1184 (by decide) ?_
  refine lv_iadd hx hb dL_law_1185 ?_
  refine va_sld hx hb hXs hbl hbA I.2.2.2.2.2.2.2.2.1 hn2 dL_law_1186 ?_
  refine lv_aload_n hx hb dL_law_1187 rfl (lv_at hl 0 rfl) ?_
  refine lv_iload hx hb dL_law_1188 (lv_at hl 4 rfl) ?_
  refine lv_iconst (v := 3) hx hb dL_law_1190 (by decide) ?_
  refine lv_iadd hx hb dL_law_1191 ?_
  refine va_sld hx hb hXs hbl hbA I.2.2.2.2.2.2.2.2.1 hn3 dL_law_1192 ?_
  refine lv_i2l (v := ((xs (x4 + 3).toNatClampNeg)).toInt64) hx hb dL_law_1193 rfl ?_
  refine lv_bipush (v := 32) hx hb dL_law_1194 (by decide) ?_
  refine lv_lshl (v := (((xs (x4 + 3).toNatClampNeg)).toInt64) <<< ((32 : Int32).toInt64 &&& 63)) hx hb dL_law_1196 rfl ?_
  refine lv_aload_n hx hb dL_law_1197 rfl (lv_at hl 0 rfl) ?_
  refine lv_iload hx hb dL_law_1198 (lv_at hl 4 rfl) ?_
  refine lv_iconst (v := 4) hx hb dL_law_1200 (by decide) ?_
  refine lv_iadd hx hb dL_law_1201 ?_
  refine va_sld hx hb hXs hbl hbA I.2.2.2.2.2.2.2.2.1 hn4 dL_law_1202 ?_
  refine lv_i2l (v := ((xs (x4 + 4).toNatClampNeg)).toInt64) hx hb dL_law_1203 rfl ?_
  refine lv_ldc2 hx hb hown (hts (.constantLong RL 45 (4294967295)) (by decide +kernel)) dL_law_1204 ?_
  refine lv_land hx hb dL_law_1207 ?_
  refine lv_topl (fun v1207 e1207 => ?_)
  refine lv_lor hx hb dL_law_1208 ?_
  refine lv_topl (fun v1208 e1208 => ?_)
  refine lv_aload_n hx hb dL_law_1209 rfl (lv_at hl 0 rfl) ?_
  refine lv_iload hx hb dL_law_1210 (lv_at hl 4 rfl) ?_
  refine lv_iconst (v := 5) hx hb dL_law_1212 (by decide) ?_
  refine lv_iadd hx hb dL_law_1213 ?_
  refine va_sld hx hb hXs hbl hbA I.2.2.2.2.2.2.2.2.1 hn5 dL_law_1214 ?_
  refine lv_i2l (v := ((xs (x4 + 5).toNatClampNeg)).toInt64) hx hb dL_law_1215 rfl ?_
  refine lv_bipush (v := 32) hx hb dL_law_1216 (by decide) ?_
  refine lv_lshl (v := (((xs (x4 + 5).toNatClampNeg)).toInt64) <<< ((32 : Int32).toInt64 &&& 63)) hx hb dL_law_1218 rfl ?_
  refine lv_aload_n hx hb dL_law_1219 rfl (lv_at hl 0 rfl) ?_
  refine lv_iload hx hb dL_law_1220 (lv_at hl 4 rfl) ?_
  refine lv_bipush (v := 6) hx hb dL_law_1222 (by decide) ?_
  refine lv_iadd hx hb dL_law_1224 ?_
  refine va_sld hx hb hXs hbl hbA I.2.2.2.2.2.2.2.2.1 hn6 dL_law_1225 ?_
  refine lv_i2l (v := ((xs (x4 + 6).toNatClampNeg)).toInt64) hx hb dL_law_1226 rfl ?_
  refine lv_ldc2 hx hb hown (hts (.constantLong RL 45 (4294967295)) (by decide +kernel)) dL_law_1227 ?_
  refine lv_land hx hb dL_law_1230 ?_
  refine lv_topl (fun v1230 e1230 => ?_)
  refine lv_lor hx hb dL_law_1231 ?_
  refine lv_topl (fun v1231 e1231 => ?_)
  obtain ⟨bs, js, sh, wk, ll, jc, lc, lb, hM⟩ := I.2.2.2.2.2.2.2.1
  obtain ⟨hjc, fa, J, hfa, hJ⟩ := hR.at I.2.2.1 hM
  subst hjc
  refine l_callV (mc := 7) (ms := 53273) (As := [.int (xs (x4 + 1).toNatClampNeg), .int (xs (x4 + 2).toNatClampNeg), .long v1208, .long v1231]) (rest := []) ⟨hx, hb, hml, hown, hts⟩ (c_X9_far l D cy (AC s mo a) G W' xo ((xs (x4 + 1).toNatClampNeg)) ((xs (x4 + 2).toNatClampNeg)) v1208 v1231 I.2.2.1 I.2.2.2.1 I.2.2.2.2.1 hM) (cwV 4 hts gL_law_X9_far rfl rfl rfl (by decide +kernel) ⟨Nat.le_of_ble_eq_true rfl, Nat.le_of_ble_eq_true rfl⟩) (l_preV I hK hV) rfl hl.1 rfl (Nat.le_of_ble_eq_true rfl) dL_law_1232 ⟨by omega, by omega⟩ I.2.2.2.2.2.2.2.2.1 (fun _ h9 => h9.1) (fun k9 n9 r1232 u H1 locs1 q1232 hP9 hD9 hT9 hz9 hk9 hS9 => ?_)
  obtain ⟨hX9, q1232⟩ := q1232
  rcases q1232 with ⟨rfl, rfl, hM9⟩ | ⟨rfl, rfl, hM0, x9, hM9⟩
  · skip
    have I : LI D cy s xo mo ou a M u.1 u.2 f g r q H1 locs1 := I.cla hP9 hD9 hT9 hX9.1 ⟨_, _, _, _, _, _, _, lb, hM9⟩ hz9 hk9 hS9
    obtain ⟨G1, W1⟩ := u
    have I : LI D cy s xo mo ou a M G1 W1 f g r q H1 locs1 := I
    refine lv_pop hx hb dL_law_1235 rfl ?_
    refine lv_aload_n hx hb dL_law_1236 rfl (lv_at hl 2 rfl) ?_
    refine lv_aload_n hx hb dL_law_1237 rfl (lv_at hl 0 rfl) ?_
    refine lv_iload hx hb dL_law_1238 (lv_at hl 4 rfl) ?_
    refine lv_iconst (v := 1) hx hb dL_law_1240 (by decide) ?_
    refine lv_iadd hx hb dL_law_1241 ?_
    refine va_sld hx hb hXs hbl hbA I.2.2.2.2.2.2.2.2.1 hn1 dL_law_1242 ?_
    refine lv_aload_n hx hb dL_law_1243 rfl (lv_at hl 0 rfl) ?_
    refine lv_iload hx hb dL_law_1244 (lv_at hl 4 rfl) ?_
    refine lv_iconst (v := 2) hx hb dL_law_1246 (by decide) ?_
    refine lv_iadd hx hb dL_law_1247 ?_
    refine va_sld hx hb hXs hbl hbA I.2.2.2.2.2.2.2.2.1 hn2 dL_law_1248 ?_
    refine lv_aload_n hx hb dL_law_1249 rfl (lv_at hl 0 rfl) ?_
    refine lv_iload hx hb dL_law_1250 (lv_at hl 4 rfl) ?_
    refine lv_iconst (v := 3) hx hb dL_law_1252 (by decide) ?_
    refine lv_iadd hx hb dL_law_1253 ?_
    refine va_sld hx hb hXs hbl hbA I.2.2.2.2.2.2.2.2.1 hn3 dL_law_1254 ?_
    refine lv_i2l (v := ((xs (x4 + 3).toNatClampNeg)).toInt64) hx hb dL_law_1255 rfl ?_
    refine lv_bipush (v := 32) hx hb dL_law_1256 (by decide) ?_
    refine lv_lshl (v := (((xs (x4 + 3).toNatClampNeg)).toInt64) <<< ((32 : Int32).toInt64 &&& 63)) hx hb dL_law_1258 rfl ?_
    refine lv_aload_n hx hb dL_law_1259 rfl (lv_at hl 0 rfl) ?_
    refine lv_iload hx hb dL_law_1260 (lv_at hl 4 rfl) ?_
    refine lv_iconst (v := 4) hx hb dL_law_1262 (by decide) ?_
    refine lv_iadd hx hb dL_law_1263 ?_
    refine va_sld hx hb hXs hbl hbA I.2.2.2.2.2.2.2.2.1 hn4 dL_law_1264 ?_
    refine lv_i2l (v := ((xs (x4 + 4).toNatClampNeg)).toInt64) hx hb dL_law_1265 rfl ?_
    refine lv_ldc2 hx hb hown (hts (.constantLong RL 45 (4294967295)) (by decide +kernel)) dL_law_1266 ?_
    refine lv_land hx hb dL_law_1269 ?_
    refine lv_topl (fun v1269 e1269 => ?_)
    refine lv_lor hx hb dL_law_1270 ?_
    refine lv_topl (fun v1270 e1270 => ?_)
    refine lv_aload_n hx hb dL_law_1271 rfl (lv_at hl 0 rfl) ?_
    refine lv_iload hx hb dL_law_1272 (lv_at hl 4 rfl) ?_
    refine lv_iconst (v := 5) hx hb dL_law_1274 (by decide) ?_
    refine lv_iadd hx hb dL_law_1275 ?_
    refine va_sld hx hb hXs hbl hbA I.2.2.2.2.2.2.2.2.1 hn5 dL_law_1276 ?_
    refine lv_i2l (v := ((xs (x4 + 5).toNatClampNeg)).toInt64) hx hb dL_law_1277 rfl ?_
    refine lv_bipush (v := 32) hx hb dL_law_1278 (by decide) ?_
    refine lv_lshl (v := (((xs (x4 + 5).toNatClampNeg)).toInt64) <<< ((32 : Int32).toInt64 &&& 63)) hx hb dL_law_1280 rfl ?_
    refine lv_aload_n hx hb dL_law_1281 rfl (lv_at hl 0 rfl) ?_
    refine lv_iload hx hb dL_law_1282 (lv_at hl 4 rfl) ?_
    refine lv_bipush (v := 6) hx hb dL_law_1284 (by decide) ?_
    refine lv_iadd hx hb dL_law_1286 ?_
    refine va_sld hx hb hXs hbl hbA I.2.2.2.2.2.2.2.2.1 hn6 dL_law_1287 ?_
    refine lv_i2l (v := ((xs (x4 + 6).toNatClampNeg)).toInt64) hx hb dL_law_1288 rfl ?_
    refine lv_ldc2 hx hb hown (hts (.constantLong RL 45 (4294967295)) (by decide +kernel)) dL_law_1289 ?_
    refine lv_land hx hb dL_law_1292 ?_
    refine lv_topl (fun v1292 e1292 => ?_)
    refine lv_lor hx hb dL_law_1293 ?_
    refine lv_topl (fun v1293 e1293 => ?_)
    have hI := I.2.2.2.2.2.2.1
    refine lm_i (As := [.int (xs (x4 + 1).toNatClampNeg), .int (xs (x4 + 2).toNatClampNeg), .long v1270, .long v1293]) (rest := []) I ⟨hx, hb, hml, hown, hts⟩ (c_X10_far l D cy mo a f g r q ((xs (x4 + 1).toNatClampNeg)) ((xs (x4 + 2).toNatClampNeg)) v1270 v1293 hDM) (cwV 4 hts gL_law_X10_far rfl rfl rfl (by decide +kernel) ⟨Nat.le_of_ble_eq_true rfl, Nat.le_of_ble_eq_true rfl⟩) hK hAM rfl hl.1 rfl (Nat.le_of_ble_eq_true rfl) dL_law_1294 ⟨by omega, by omega⟩ (fun _ _ h9 => by obtain ⟨_, _, _, _, rfl, h9⟩ := h9; exact hI) (fun r1294 u H locs q1294 I => ?_)
    have ef : u.1 1 = f 1 := by obtain ⟨_, _, _, _, rfl, -⟩ := q1294; rfl
    have e2_ : u.2.2.1 2 = r 2 := by obtain ⟨_, _, _, _, rfl, -⟩ := q1294; rfl
    have e3_ : u.2.2.1 3 = r 3 := by obtain ⟨_, _, _, _, rfl, -⟩ := q1294; rfl
    have e4_ : u.2.2.1 4 = r 4 := by obtain ⟨_, _, _, _, rfl, -⟩ := q1294; rfl
    have e5_ : u.2.2.1 5 = r 5 := by obtain ⟨_, _, _, _, rfl, -⟩ := q1294; rfl
    have e6_ : u.2.2.1 6 = r 6 := by obtain ⟨_, _, _, _, rfl, -⟩ := q1294; rfl
    have e7_ : u.2.2.1 7 = r 7 := by obtain ⟨_, _, _, _, rfl, -⟩ := q1294; rfl
    have e8_ : u.2.2.1 8 = r 8 := by obtain ⟨_, _, _, _, rfl, -⟩ := q1294; rfl
    obtain ⟨f1, g1, r1, q1⟩ := u
    have ef : f1 1 = f 1 := ef
    have e2_ : r1 2 = r 2 := e2_
    have e3_ : r1 3 = r 3 := e3_
    have e4_ : r1 4 = r 4 := e4_
    have e5_ : r1 5 = r 5 := e5_
    have e6_ : r1 6 = r 6 := e6_
    have e7_ : r1 7 = r 7 := e7_
    have e8_ : r1 8 = r 8 := e8_
    have I : LI D cy s xo mo ou a M G1 W1 f1 g1 r1 q1 H locs := I
    refine lv_pop hx hb dL_law_1297 rfl ?_
    refine lv_goto (tgt := 2327) hx hb dL_law_1298 (by decide) ?_
    have hR1 : RlJ cy xo G1 W1 f1 r1 := hR.shp I0.2.2.1 I0.2.2.2.1 I0.2.2.2.2.1 hX9 rfl rfl rfl hM (mo1 := M) hM9 ef e2_ e3_ e4_ e5_ e6_ e7_ e8_
    refine W.widen (k := C + 7) (n := S + 588) (by omega) (by omega) ?_
    exact kk _ _ _ _ _ _ _ _ _ I hR1 (lv_sub hl [0, 1, 2, 3, 4] rfl)
  · skip
    have I : LI D cy s xo mo ou a (some x9) u.1 u.2 f g r q H1 locs1 := I.cla hP9 hD9 hT9 hX9.1 ⟨_, _, _, _, _, _, _, lb, hM9⟩ hz9 hk9 hS9
    obtain ⟨G1, W1⟩ := u
    have I : LI D cy s xo mo ou a (some x9) G1 W1 f g r q H1 locs1 := I
    refine lv_pop hx hb dL_law_1235 rfl ?_
    refine lv_aload_n hx hb dL_law_1236 rfl (lv_at hl 2 rfl) ?_
    refine lv_aload_n hx hb dL_law_1237 rfl (lv_at hl 0 rfl) ?_
    refine lv_iload hx hb dL_law_1238 (lv_at hl 4 rfl) ?_
    refine lv_iconst (v := 1) hx hb dL_law_1240 (by decide) ?_
    refine lv_iadd hx hb dL_law_1241 ?_
    refine va_sld hx hb hXs hbl hbA I.2.2.2.2.2.2.2.2.1 hn1 dL_law_1242 ?_
    refine lv_aload_n hx hb dL_law_1243 rfl (lv_at hl 0 rfl) ?_
    refine lv_iload hx hb dL_law_1244 (lv_at hl 4 rfl) ?_
    refine lv_iconst (v := 2) hx hb dL_law_1246 (by decide) ?_
    refine lv_iadd hx hb dL_law_1247 ?_
    refine va_sld hx hb hXs hbl hbA I.2.2.2.2.2.2.2.2.1 hn2 dL_law_1248 ?_
    refine lv_aload_n hx hb dL_law_1249 rfl (lv_at hl 0 rfl) ?_
    refine lv_iload hx hb dL_law_1250 (lv_at hl 4 rfl) ?_
    refine lv_iconst (v := 3) hx hb dL_law_1252 (by decide) ?_
    refine lv_iadd hx hb dL_law_1253 ?_
    refine va_sld hx hb hXs hbl hbA I.2.2.2.2.2.2.2.2.1 hn3 dL_law_1254 ?_
    refine lv_i2l (v := ((xs (x4 + 3).toNatClampNeg)).toInt64) hx hb dL_law_1255 rfl ?_
    refine lv_bipush (v := 32) hx hb dL_law_1256 (by decide) ?_
    refine lv_lshl (v := (((xs (x4 + 3).toNatClampNeg)).toInt64) <<< ((32 : Int32).toInt64 &&& 63)) hx hb dL_law_1258 rfl ?_
    refine lv_aload_n hx hb dL_law_1259 rfl (lv_at hl 0 rfl) ?_
    refine lv_iload hx hb dL_law_1260 (lv_at hl 4 rfl) ?_
    refine lv_iconst (v := 4) hx hb dL_law_1262 (by decide) ?_
    refine lv_iadd hx hb dL_law_1263 ?_
    refine va_sld hx hb hXs hbl hbA I.2.2.2.2.2.2.2.2.1 hn4 dL_law_1264 ?_
    refine lv_i2l (v := ((xs (x4 + 4).toNatClampNeg)).toInt64) hx hb dL_law_1265 rfl ?_
    refine lv_ldc2 hx hb hown (hts (.constantLong RL 45 (4294967295)) (by decide +kernel)) dL_law_1266 ?_
    refine lv_land hx hb dL_law_1269 ?_
    refine lv_topl (fun v1269 e1269 => ?_)
    refine lv_lor hx hb dL_law_1270 ?_
    refine lv_topl (fun v1270 e1270 => ?_)
    refine lv_aload_n hx hb dL_law_1271 rfl (lv_at hl 0 rfl) ?_
    refine lv_iload hx hb dL_law_1272 (lv_at hl 4 rfl) ?_
    refine lv_iconst (v := 5) hx hb dL_law_1274 (by decide) ?_
    refine lv_iadd hx hb dL_law_1275 ?_
    refine va_sld hx hb hXs hbl hbA I.2.2.2.2.2.2.2.2.1 hn5 dL_law_1276 ?_
    refine lv_i2l (v := ((xs (x4 + 5).toNatClampNeg)).toInt64) hx hb dL_law_1277 rfl ?_
    refine lv_bipush (v := 32) hx hb dL_law_1278 (by decide) ?_
    refine lv_lshl (v := (((xs (x4 + 5).toNatClampNeg)).toInt64) <<< ((32 : Int32).toInt64 &&& 63)) hx hb dL_law_1280 rfl ?_
    refine lv_aload_n hx hb dL_law_1281 rfl (lv_at hl 0 rfl) ?_
    refine lv_iload hx hb dL_law_1282 (lv_at hl 4 rfl) ?_
    refine lv_bipush (v := 6) hx hb dL_law_1284 (by decide) ?_
    refine lv_iadd hx hb dL_law_1286 ?_
    refine va_sld hx hb hXs hbl hbA I.2.2.2.2.2.2.2.2.1 hn6 dL_law_1287 ?_
    refine lv_i2l (v := ((xs (x4 + 6).toNatClampNeg)).toInt64) hx hb dL_law_1288 rfl ?_
    refine lv_ldc2 hx hb hown (hts (.constantLong RL 45 (4294967295)) (by decide +kernel)) dL_law_1289 ?_
    refine lv_land hx hb dL_law_1292 ?_
    refine lv_topl (fun v1292 e1292 => ?_)
    refine lv_lor hx hb dL_law_1293 ?_
    refine lv_topl (fun v1293 e1293 => ?_)
    have hI := I.2.2.2.2.2.2.1
    refine lm_i (As := [.int (xs (x4 + 1).toNatClampNeg), .int (xs (x4 + 2).toNatClampNeg), .long v1270, .long v1293]) (rest := []) I ⟨hx, hb, hml, hown, hts⟩ (c_X10_far l D cy mo a f g r q ((xs (x4 + 1).toNatClampNeg)) ((xs (x4 + 2).toNatClampNeg)) v1270 v1293 hDM) (cwV 4 hts gL_law_X10_far rfl rfl rfl (by decide +kernel) ⟨Nat.le_of_ble_eq_true rfl, Nat.le_of_ble_eq_true rfl⟩) hK hAM rfl hl.1 rfl (Nat.le_of_ble_eq_true rfl) dL_law_1294 ⟨by omega, by omega⟩ (fun _ _ h9 => by obtain ⟨_, _, _, _, rfl, h9⟩ := h9; exact hI) (fun r1294 u H locs q1294 I => ?_)
    have ef : u.1 1 = f 1 := by obtain ⟨_, _, _, _, rfl, -⟩ := q1294; rfl
    have e2_ : u.2.2.1 2 = r 2 := by obtain ⟨_, _, _, _, rfl, -⟩ := q1294; rfl
    have e3_ : u.2.2.1 3 = r 3 := by obtain ⟨_, _, _, _, rfl, -⟩ := q1294; rfl
    have e4_ : u.2.2.1 4 = r 4 := by obtain ⟨_, _, _, _, rfl, -⟩ := q1294; rfl
    have e5_ : u.2.2.1 5 = r 5 := by obtain ⟨_, _, _, _, rfl, -⟩ := q1294; rfl
    have e6_ : u.2.2.1 6 = r 6 := by obtain ⟨_, _, _, _, rfl, -⟩ := q1294; rfl
    have e7_ : u.2.2.1 7 = r 7 := by obtain ⟨_, _, _, _, rfl, -⟩ := q1294; rfl
    have e8_ : u.2.2.1 8 = r 8 := by obtain ⟨_, _, _, _, rfl, -⟩ := q1294; rfl
    obtain ⟨f1, g1, r1, q1⟩ := u
    have ef : f1 1 = f 1 := ef
    have e2_ : r1 2 = r 2 := e2_
    have e3_ : r1 3 = r 3 := e3_
    have e4_ : r1 4 = r 4 := e4_
    have e5_ : r1 5 = r 5 := e5_
    have e6_ : r1 6 = r 6 := e6_
    have e7_ : r1 7 = r 7 := e7_
    have e8_ : r1 8 = r 8 := e8_
    have I : LI D cy s xo mo ou a (some x9) G1 W1 f1 g1 r1 q1 H locs := I
    refine lv_pop hx hb dL_law_1297 rfl ?_
    refine lv_goto (tgt := 2327) hx hb dL_law_1298 (by decide) ?_
    have hR1 : RlJ cy xo G1 W1 f1 r1 := hR.shp I0.2.2.1 I0.2.2.2.1 I0.2.2.2.2.1 hX9 rfl rfl rfl hM (mo1 := some x9) hM9 ef e2_ e3_ e4_ e5_ e6_ e7_ e8_
    refine W.widen (k := C + 7) (n := S + 53273) (by omega) (by omega) ?_
    exact kk2 hM0 _ _ _ _ _ _ _ _ _ _ I hR1 (lv_sub hl [0, 1, 2, 3, 4] rfl)
set_option maxHeartbeats 4000000 in
set_option maxRecDepth 100000 in
theorem lcase_19 {p : Program} {l : Launch} {e : Env} {s : State} {m : MethodId} {below : List Frame} {meth : Method} {c : Code} {b L : Nat} {xs : Nat → Int32} {D : va_G} {cy : Nat → ClassId} {xo mo ou : Nat} {a : Nat → Nat} {M : Option Nat} {G : cG} {W' : va_W} {f : Nat → Int32} {g : Nat → Int64} {r : Nat → Nat → Int32} {q : Nat → Nat → Int64} {H : Heap} {locs : List Loc} {ls : Array Slot} {Q : State → Prop} {C S : Nat} (X : LX p l s m c b L xs D cy mo a) (I : LI D cy s xo mo ou a M G W' f g r q H locs) (hR : RlJ cy xo G W' f r) {x4 : Int32} (h4 : 0 ≤ x4.toInt ∧ x4.toInt + 8 ≤ (L : Int) ∧ L ≤ 4096) (hC : C + 7 ≤ 601024) (hSl : S + 53273 ≤ 7293034) (hl : lv_has ls 8 [(0, .ref b), (1, .ref xo), (2, .ref mo), (3, .ref ou), (4, .int x4)]) (kk : ∀ (G : cG) (W' : va_W) (f : Nat → Int32) (g : Nat → Int64) (r : Nat → Nat → Int32) (q : Nat → Nat → Int64) (H : Heap) (locs : List Loc) (ls : Array Slot), LI D cy s xo mo ou a M G W' f g r q H locs → RlJ cy xo G W' f r → lv_has ls 8 [(0, .ref b), (1, .ref xo), (2, .ref mo), (3, .ref ou), (4, .int x4)] → W p l e room_1 s m #[Value.ref b] below meth c H locs (C + 7) (S + 588) Q (F0 m 2327 ls [])) : W p l e room_1 s m #[Value.ref b] below meth c H locs C S Q (F0 m 1301 ls []) := by
  obtain ⟨⟨hx, hb, hml, hown, hts⟩, ⟨hXs, hbl⟩, ⟨hK, hV, hZ, hXT⟩, hst, hDM, hAM⟩ := id X
  have I0 := I
  have hbA : ¬ AL s b := Nat.not_le.mpr hbl
  have hRc : room_1.cells = 601024 := rfl
  have hRs : room_1.slots = 7293034 := rfl
  have hn1 : vp_in (x4 + 1) L := l_in (c := 1) h4 rfl (by decide)
  have hn2 : vp_in (x4 + 2) L := l_in (c := 2) h4 rfl (by decide)
  have hn3 : vp_in (x4 + 3) L := l_in (c := 3) h4 rfl (by decide)
  have hn4 : vp_in (x4 + 4) L := l_in (c := 4) h4 rfl (by decide)
  have hn5 : vp_in (x4 + 5) L := l_in (c := 5) h4 rfl (by decide)
  have hn6 : vp_in (x4 + 6) L := l_in (c := 6) h4 rfl (by decide)
  have hn7 : vp_in (x4 + 7) L := l_in (c := 7) h4 rfl (by decide)
  refine lv_aload_n hx hb dL_law_1301 rfl (lv_at hl 1 rfl) ?_
  refine lv_aload_n hx hb dL_law_1302 rfl (lv_at hl 0 rfl) ?_
  refine lv_iload hx hb dL_law_1303 (lv_at hl 4 rfl) ?_
  refine lv_iconst (v := 1) hx hb dL_law_1305 (by decide) ?_
  refine lv_iadd hx hb dL_law_1306 ?_
  refine va_sld hx hb hXs hbl hbA I.2.2.2.2.2.2.2.2.1 hn1 dL_law_1307 ?_
  refine lv_aload_n hx hb dL_law_1308 rfl (lv_at hl 0 rfl) ?_
  refine lv_iload hx hb dL_law_1309 (lv_at hl 4 rfl) ?_
  refine lv_iconst (v := 2) hx hb dL_law_1311 (by decide) ?_
  refine lv_iadd hx hb dL_law_1312 ?_
  refine va_sld hx hb hXs hbl hbA I.2.2.2.2.2.2.2.2.1 hn2 dL_law_1313 ?_
  refine lv_aload_n hx hb dL_law_1314 rfl (lv_at hl 0 rfl) ?_
  refine lv_iload hx hb dL_law_1315 (lv_at hl 4 rfl) ?_
  refine lv_iconst (v := 3) hx hb dL_law_1317 (by decide) ?_
  refine lv_iadd hx hb dL_law_1318 ?_
  refine va_sld hx hb hXs hbl hbA I.2.2.2.2.2.2.2.2.1 hn3 dL_law_1319 ?_
  refine lv_i2l (v := ((xs (x4 + 3).toNatClampNeg)).toInt64) hx hb dL_law_1320 rfl ?_
  refine lv_bipush (v := 32) hx hb dL_law_1321 (by decide) ?_
  refine lv_lshl (v := (((xs (x4 + 3).toNatClampNeg)).toInt64) <<< ((32 : Int32).toInt64 &&& 63)) hx hb dL_law_1323 rfl ?_
  refine lv_aload_n hx hb dL_law_1324 rfl (lv_at hl 0 rfl) ?_
  refine lv_iload hx hb dL_law_1325 (lv_at hl 4 rfl) ?_
  refine lv_iconst (v := 4) hx hb dL_law_1327 (by decide) ?_
  refine lv_iadd hx hb dL_law_1328 ?_
  refine va_sld hx hb hXs hbl hbA I.2.2.2.2.2.2.2.2.1 hn4 dL_law_1329 ?_
  refine lv_i2l (v := ((xs (x4 + 4).toNatClampNeg)).toInt64) hx hb dL_law_1330 rfl ?_
  refine lv_ldc2 hx hb hown (hts (.constantLong RL 45 (4294967295)) (by decide +kernel)) dL_law_1331 ?_
  refine lv_land hx hb dL_law_1334 ?_
  refine lv_topl (fun v1334 e1334 => ?_)
  refine lv_lor hx hb dL_law_1335 ?_
  refine lv_topl (fun v1335 e1335 => ?_)
  refine lk3_i I (va_runV (g := F0 m 1336 ls ([.long v1335, .int (xs (x4 + 2).toNatClampNeg), .int (xs (x4 + 1).toNatClampNeg), .ref xo])) (As := [.int (xs (x4 + 1).toNatClampNeg), .int (xs (x4 + 2).toNatClampNeg), .long v1335]) (rest := []) ⟨hx, hb, hml, hown, hts⟩ (c_X9_joined l D cy (AC s mo a) G W' xo ((xs (x4 + 1).toNatClampNeg)) ((xs (x4 + 2).toNatClampNeg)) v1335 I.2.2.1 I.2.2.2.1 I.2.2.2.2.1) (cwV 3 hts gL_law_X9_joined rfl rfl rfl (by decide +kernel) ⟨Nat.le_of_ble_eq_true rfl, Nat.le_of_ble_eq_true rfl⟩) (l_preV I hK hV) rfl rfl hl.1 rfl (lv_room (Nat.le_of_ble_eq_true rfl)) dL_law_1336 ⟨by omega, by omega⟩) rfl (fun r1336 u H locs q1336 hX I => ?_)
  obtain ⟨G1, W1⟩ := u
  have I : LI D cy s xo mo ou a M G1 W1 f g r q H locs := I
  have hX : cX none (chs [1, 8]) G W' G1 W1 := hX
  refine lv_pop hx hb dL_law_1339 rfl ?_
  refine lv_aload_n hx hb dL_law_1340 rfl (lv_at hl 2 rfl) ?_
  refine lv_aload_n hx hb dL_law_1341 rfl (lv_at hl 0 rfl) ?_
  refine lv_iload hx hb dL_law_1342 (lv_at hl 4 rfl) ?_
  refine lv_iconst (v := 1) hx hb dL_law_1344 (by decide) ?_
  refine lv_iadd hx hb dL_law_1345 ?_
  refine va_sld hx hb hXs hbl hbA I.2.2.2.2.2.2.2.2.1 hn1 dL_law_1346 ?_
  refine lv_aload_n hx hb dL_law_1347 rfl (lv_at hl 0 rfl) ?_
  refine lv_iload hx hb dL_law_1348 (lv_at hl 4 rfl) ?_
  refine lv_iconst (v := 2) hx hb dL_law_1350 (by decide) ?_
  refine lv_iadd hx hb dL_law_1351 ?_
  refine va_sld hx hb hXs hbl hbA I.2.2.2.2.2.2.2.2.1 hn2 dL_law_1352 ?_
  refine lv_aload_n hx hb dL_law_1353 rfl (lv_at hl 0 rfl) ?_
  refine lv_iload hx hb dL_law_1354 (lv_at hl 4 rfl) ?_
  refine lv_iconst (v := 3) hx hb dL_law_1356 (by decide) ?_
  refine lv_iadd hx hb dL_law_1357 ?_
  refine va_sld hx hb hXs hbl hbA I.2.2.2.2.2.2.2.2.1 hn3 dL_law_1358 ?_
  refine lv_i2l (v := ((xs (x4 + 3).toNatClampNeg)).toInt64) hx hb dL_law_1359 rfl ?_
  refine lv_bipush (v := 32) hx hb dL_law_1360 (by decide) ?_
  refine lv_lshl (v := (((xs (x4 + 3).toNatClampNeg)).toInt64) <<< ((32 : Int32).toInt64 &&& 63)) hx hb dL_law_1362 rfl ?_
  refine lv_aload_n hx hb dL_law_1363 rfl (lv_at hl 0 rfl) ?_
  refine lv_iload hx hb dL_law_1364 (lv_at hl 4 rfl) ?_
  refine lv_iconst (v := 4) hx hb dL_law_1366 (by decide) ?_
  refine lv_iadd hx hb dL_law_1367 ?_
  refine va_sld hx hb hXs hbl hbA I.2.2.2.2.2.2.2.2.1 hn4 dL_law_1368 ?_
  refine lv_i2l (v := ((xs (x4 + 4).toNatClampNeg)).toInt64) hx hb dL_law_1369 rfl ?_
  refine lv_ldc2 hx hb hown (hts (.constantLong RL 45 (4294967295)) (by decide +kernel)) dL_law_1370 ?_
  refine lv_land hx hb dL_law_1373 ?_
  refine lv_topl (fun v1373 e1373 => ?_)
  refine lv_lor hx hb dL_law_1374 ?_
  refine lv_topl (fun v1374 e1374 => ?_)
  have hI := I.2.2.2.2.2.2.1
  refine lm_i (As := [.int (xs (x4 + 1).toNatClampNeg), .int (xs (x4 + 2).toNatClampNeg), .long v1374]) (rest := []) I ⟨hx, hb, hml, hown, hts⟩ (c_X10_joined l D cy mo a f g r q ((xs (x4 + 1).toNatClampNeg)) ((xs (x4 + 2).toNatClampNeg)) v1374 hDM) (cwV 3 hts gL_law_X10_joined rfl rfl rfl (by decide +kernel) ⟨Nat.le_of_ble_eq_true rfl, Nat.le_of_ble_eq_true rfl⟩) hK hAM rfl hl.1 rfl (Nat.le_of_ble_eq_true rfl) dL_law_1375 ⟨by omega, by omega⟩ (fun _ _ h9 => by obtain ⟨_, rfl, h9⟩ := h9; exact hI) (fun r1375 u H locs q1375 I => ?_)
  have ef : u.1 1 = f 1 := by obtain ⟨_, rfl, -⟩ := q1375; rfl
  have e2_ : u.2.2.1 2 = r 2 := by obtain ⟨_, rfl, -⟩ := q1375; rfl
  have e3_ : u.2.2.1 3 = r 3 := by obtain ⟨_, rfl, -⟩ := q1375; rfl
  have e4_ : u.2.2.1 4 = r 4 := by obtain ⟨_, rfl, -⟩ := q1375; rfl
  have e5_ : u.2.2.1 5 = r 5 := by obtain ⟨_, rfl, -⟩ := q1375; rfl
  have e6_ : u.2.2.1 6 = r 6 := by obtain ⟨_, rfl, -⟩ := q1375; rfl
  have e7_ : u.2.2.1 7 = r 7 := by obtain ⟨_, rfl, -⟩ := q1375; rfl
  have e8_ : u.2.2.1 8 = r 8 := by obtain ⟨_, rfl, -⟩ := q1375; rfl
  obtain ⟨f1, g1, r1, q1⟩ := u
  have ef : f1 1 = f 1 := ef
  have e2_ : r1 2 = r 2 := e2_
  have e3_ : r1 3 = r 3 := e3_
  have e4_ : r1 4 = r 4 := e4_
  have e5_ : r1 5 = r 5 := e5_
  have e6_ : r1 6 = r 6 := e6_
  have e7_ : r1 7 = r 7 := e7_
  have e8_ : r1 8 = r 8 := e8_
  have I : LI D cy s xo mo ou a M G1 W1 f1 g1 r1 q1 H locs := I
  refine lv_pop hx hb dL_law_1378 rfl ?_
  refine lv_goto (tgt := 2327) hx hb dL_law_1379 (by decide) ?_
  have hR1 : RlJ cy xo G1 W1 f1 r1 := hR.keep I0.2.2.1 I0.2.2.2.1 I0.2.2.2.2.1 hX rfl rfl rfl rfl ef e2_ e3_ e4_ e5_ e6_ e7_ e8_
  refine W.widen (k := C + 7) (n := S + 588) (by omega) (by omega) ?_
  exact kk _ _ _ _ _ _ _ _ _ I hR1 (lv_sub hl [0, 1, 2, 3, 4] rfl)
set_option maxHeartbeats 4000000 in
set_option maxRecDepth 100000 in
theorem lcase_20 {p : Program} {l : Launch} {e : Env} {s : State} {m : MethodId} {below : List Frame} {meth : Method} {c : Code} {b L : Nat} {xs : Nat → Int32} {D : va_G} {cy : Nat → ClassId} {xo mo ou : Nat} {a : Nat → Nat} {M : Option Nat} {G : cG} {W' : va_W} {f : Nat → Int32} {g : Nat → Int64} {r : Nat → Nat → Int32} {q : Nat → Nat → Int64} {H : Heap} {locs : List Loc} {ls : Array Slot} {Q : State → Prop} {C S : Nat} (X : LX p l s m c b L xs D cy mo a) (I : LI D cy s xo mo ou a M G W' f g r q H locs) (hR : RlJ cy xo G W' f r) {x4 : Int32} (h4 : 0 ≤ x4.toInt ∧ x4.toInt + 8 ≤ (L : Int) ∧ L ≤ 4096) (hC : C + 7 ≤ 601024) (hSl : S + 53273 ≤ 7293034) (hl : lv_has ls 8 [(0, .ref b), (1, .ref xo), (2, .ref mo), (3, .ref ou), (4, .int x4)]) (kk : ∀ (G : cG) (W' : va_W) (f : Nat → Int32) (g : Nat → Int64) (r : Nat → Nat → Int32) (q : Nat → Nat → Int64) (H : Heap) (locs : List Loc) (ls : Array Slot), LI D cy s xo mo ou a M G W' f g r q H locs → RlJ cy xo G W' f r → lv_has ls 8 [(0, .ref b), (1, .ref xo), (2, .ref mo), (3, .ref ou), (4, .int x4)] → W p l e room_1 s m #[Value.ref b] below meth c H locs (C + 7) (S + 588) Q (F0 m 2327 ls [])) : W p l e room_1 s m #[Value.ref b] below meth c H locs C S Q (F0 m 1382 ls []) := by
  obtain ⟨⟨hx, hb, hml, hown, hts⟩, ⟨hXs, hbl⟩, ⟨hK, hV, hZ, hXT⟩, hst, hDM, hAM⟩ := id X
  have I0 := I
  have hbA : ¬ AL s b := Nat.not_le.mpr hbl
  have hRc : room_1.cells = 601024 := rfl
  have hRs : room_1.slots = 7293034 := rfl
  have hn1 : vp_in (x4 + 1) L := l_in (c := 1) h4 rfl (by decide)
  have hn2 : vp_in (x4 + 2) L := l_in (c := 2) h4 rfl (by decide)
  have hn3 : vp_in (x4 + 3) L := l_in (c := 3) h4 rfl (by decide)
  have hn4 : vp_in (x4 + 4) L := l_in (c := 4) h4 rfl (by decide)
  have hn5 : vp_in (x4 + 5) L := l_in (c := 5) h4 rfl (by decide)
  have hn6 : vp_in (x4 + 6) L := l_in (c := 6) h4 rfl (by decide)
  have hn7 : vp_in (x4 + 7) L := l_in (c := 7) h4 rfl (by decide)
  refine lv_aload_n hx hb dL_law_1382 rfl (lv_at hl 1 rfl) ?_
  refine lv_aload_n hx hb dL_law_1383 rfl (lv_at hl 0 rfl) ?_
  refine lv_iload hx hb dL_law_1384 (lv_at hl 4 rfl) ?_
  refine lv_iconst (v := 1) hx hb dL_law_1386 (by decide) ?_
  refine lv_iadd hx hb dL_law_1387 ?_
  refine va_sld hx hb hXs hbl hbA I.2.2.2.2.2.2.2.2.1 hn1 dL_law_1388 ?_
  refine lv_aload_n hx hb dL_law_1389 rfl (lv_at hl 0 rfl) ?_
  refine lv_iload hx hb dL_law_1390 (lv_at hl 4 rfl) ?_
  refine lv_iconst (v := 2) hx hb dL_law_1392 (by decide) ?_
  refine lv_iadd hx hb dL_law_1393 ?_
  refine va_sld hx hb hXs hbl hbA I.2.2.2.2.2.2.2.2.1 hn2 dL_law_1394 ?_
  refine lv_aload_n hx hb dL_law_1395 rfl (lv_at hl 0 rfl) ?_
  refine lv_iload hx hb dL_law_1396 (lv_at hl 4 rfl) ?_
  refine lv_iconst (v := 3) hx hb dL_law_1398 (by decide) ?_
  refine lv_iadd hx hb dL_law_1399 ?_
  refine va_sld hx hb hXs hbl hbA I.2.2.2.2.2.2.2.2.1 hn3 dL_law_1400 ?_
  refine lv_i2l (v := ((xs (x4 + 3).toNatClampNeg)).toInt64) hx hb dL_law_1401 rfl ?_
  refine lv_bipush (v := 32) hx hb dL_law_1402 (by decide) ?_
  refine lv_lshl (v := (((xs (x4 + 3).toNatClampNeg)).toInt64) <<< ((32 : Int32).toInt64 &&& 63)) hx hb dL_law_1404 rfl ?_
  refine lv_aload_n hx hb dL_law_1405 rfl (lv_at hl 0 rfl) ?_
  refine lv_iload hx hb dL_law_1406 (lv_at hl 4 rfl) ?_
  refine lv_iconst (v := 4) hx hb dL_law_1408 (by decide) ?_
  refine lv_iadd hx hb dL_law_1409 ?_
  refine va_sld hx hb hXs hbl hbA I.2.2.2.2.2.2.2.2.1 hn4 dL_law_1410 ?_
  refine lv_i2l (v := ((xs (x4 + 4).toNatClampNeg)).toInt64) hx hb dL_law_1411 rfl ?_
  refine lv_ldc2 hx hb hown (hts (.constantLong RL 45 (4294967295)) (by decide +kernel)) dL_law_1412 ?_
  refine lv_land hx hb dL_law_1415 ?_
  refine lv_topl (fun v1415 e1415 => ?_)
  refine lv_lor hx hb dL_law_1416 ?_
  refine lv_topl (fun v1416 e1416 => ?_)
  refine lv_aload_n hx hb dL_law_1417 rfl (lv_at hl 0 rfl) ?_
  refine lv_iload hx hb dL_law_1418 (lv_at hl 4 rfl) ?_
  refine lv_iconst (v := 5) hx hb dL_law_1420 (by decide) ?_
  refine lv_iadd hx hb dL_law_1421 ?_
  refine va_sld hx hb hXs hbl hbA I.2.2.2.2.2.2.2.2.1 hn5 dL_law_1422 ?_
  refine lv_if_eq (tgt := 1430) hx hb dL_law_1423 (by decide) (fun c1423 => ?_) (fun c1423 => ?_)
  · skip
    have d1423 := c1423
    rw [fa_eq] at d1423
    refine lv_iconst (v := 0) hx hb dL_law_1430 (by decide) ?_
    refine lk3_i I (va_runV (g := F0 m 1431 ls ([.int (0 : Int32), .long v1416, .int (xs (x4 + 2).toNatClampNeg), .int (xs (x4 + 1).toNatClampNeg), .ref xo])) (As := [.int (xs (x4 + 1).toNatClampNeg), .int (xs (x4 + 2).toNatClampNeg), .long v1416, .int (0 : Int32)]) (rest := []) ⟨hx, hb, hml, hown, hts⟩ (c_X9_even l D cy (AC s mo a) G W' xo ((xs (x4 + 1).toNatClampNeg)) ((xs (x4 + 2).toNatClampNeg)) v1416 (0 : Int32) I.2.2.1 I.2.2.2.1 I.2.2.2.2.1) (cwV 4 hts gL_law_X9_even rfl rfl rfl (by decide +kernel) ⟨Nat.le_of_ble_eq_true rfl, Nat.le_of_ble_eq_true rfl⟩) (l_preV I hK hV) rfl rfl hl.1 rfl (lv_room (Nat.le_of_ble_eq_true rfl)) dL_law_1431 ⟨by omega, by omega⟩) rfl (fun r1431 u H locs q1431 hX I => ?_)
    obtain ⟨G1, W1⟩ := u
    have I : LI D cy s xo mo ou a M G1 W1 f g r q H locs := I
    have hX : cX none (chs [1, 8]) G W' G1 W1 := hX
    refine lv_pop hx hb dL_law_1434 rfl ?_
    refine lv_aload_n hx hb dL_law_1435 rfl (lv_at hl 2 rfl) ?_
    refine lv_aload_n hx hb dL_law_1436 rfl (lv_at hl 0 rfl) ?_
    refine lv_iload hx hb dL_law_1437 (lv_at hl 4 rfl) ?_
    refine lv_iconst (v := 1) hx hb dL_law_1439 (by decide) ?_
    refine lv_iadd hx hb dL_law_1440 ?_
    refine va_sld hx hb hXs hbl hbA I.2.2.2.2.2.2.2.2.1 hn1 dL_law_1441 ?_
    refine lv_aload_n hx hb dL_law_1442 rfl (lv_at hl 0 rfl) ?_
    refine lv_iload hx hb dL_law_1443 (lv_at hl 4 rfl) ?_
    refine lv_iconst (v := 2) hx hb dL_law_1445 (by decide) ?_
    refine lv_iadd hx hb dL_law_1446 ?_
    refine va_sld hx hb hXs hbl hbA I.2.2.2.2.2.2.2.2.1 hn2 dL_law_1447 ?_
    refine lv_aload_n hx hb dL_law_1448 rfl (lv_at hl 0 rfl) ?_
    refine lv_iload hx hb dL_law_1449 (lv_at hl 4 rfl) ?_
    refine lv_iconst (v := 3) hx hb dL_law_1451 (by decide) ?_
    refine lv_iadd hx hb dL_law_1452 ?_
    refine va_sld hx hb hXs hbl hbA I.2.2.2.2.2.2.2.2.1 hn3 dL_law_1453 ?_
    refine lv_i2l (v := ((xs (x4 + 3).toNatClampNeg)).toInt64) hx hb dL_law_1454 rfl ?_
    refine lv_bipush (v := 32) hx hb dL_law_1455 (by decide) ?_
    refine lv_lshl (v := (((xs (x4 + 3).toNatClampNeg)).toInt64) <<< ((32 : Int32).toInt64 &&& 63)) hx hb dL_law_1457 rfl ?_
    refine lv_aload_n hx hb dL_law_1458 rfl (lv_at hl 0 rfl) ?_
    refine lv_iload hx hb dL_law_1459 (lv_at hl 4 rfl) ?_
    refine lv_iconst (v := 4) hx hb dL_law_1461 (by decide) ?_
    refine lv_iadd hx hb dL_law_1462 ?_
    refine va_sld hx hb hXs hbl hbA I.2.2.2.2.2.2.2.2.1 hn4 dL_law_1463 ?_
    refine lv_i2l (v := ((xs (x4 + 4).toNatClampNeg)).toInt64) hx hb dL_law_1464 rfl ?_
    refine lv_ldc2 hx hb hown (hts (.constantLong RL 45 (4294967295)) (by decide +kernel)) dL_law_1465 ?_
    refine lv_land hx hb dL_law_1468 ?_
    refine lv_topl (fun v1468 e1468 => ?_)
    refine lv_lor hx hb dL_law_1469 ?_
    refine lv_topl (fun v1469 e1469 => ?_)
    refine lv_aload_n hx hb dL_law_1470 rfl (lv_at hl 0 rfl) ?_
    refine lv_iload hx hb dL_law_1471 (lv_at hl 4 rfl) ?_
    refine lv_iconst (v := 5) hx hb dL_law_1473 (by decide) ?_
    refine lv_iadd hx hb dL_law_1474 ?_
    refine va_sld hx hb hXs hbl hbA I.2.2.2.2.2.2.2.2.1 hn5 dL_law_1475 ?_
    refine lv_if_eq (tgt := 1483) hx hb dL_law_1476 (by decide) (fun c1476 => ?_) (fun c1476 => ?_)
    · skip
      have d1476 := c1476
      rw [fa_eq] at d1476
      refine lv_iconst (v := 0) hx hb dL_law_1483 (by decide) ?_
      have hI := I.2.2.2.2.2.2.1
      refine lm_i (As := [.int (xs (x4 + 1).toNatClampNeg), .int (xs (x4 + 2).toNatClampNeg), .long v1469, .int (0 : Int32)]) (rest := []) I ⟨hx, hb, hml, hown, hts⟩ (c_X10_even l D cy mo a f g r q ((xs (x4 + 1).toNatClampNeg)) ((xs (x4 + 2).toNatClampNeg)) v1469 (0 : Int32) hDM) (cwV 4 hts gL_law_X10_even rfl rfl rfl (by decide +kernel) ⟨Nat.le_of_ble_eq_true rfl, Nat.le_of_ble_eq_true rfl⟩) hK hAM rfl hl.1 rfl (Nat.le_of_ble_eq_true rfl) dL_law_1484 ⟨by omega, by omega⟩ (fun _ _ h9 => by obtain ⟨rfl, h9⟩ := h9; exact hI) (fun r1484 u H locs q1484 I => ?_)
      have ef : u.1 1 = f 1 := by obtain ⟨rfl, -⟩ := q1484; rfl
      have e2_ : u.2.2.1 2 = r 2 := by obtain ⟨rfl, -⟩ := q1484; rfl
      have e3_ : u.2.2.1 3 = r 3 := by obtain ⟨rfl, -⟩ := q1484; rfl
      have e4_ : u.2.2.1 4 = r 4 := by obtain ⟨rfl, -⟩ := q1484; rfl
      have e5_ : u.2.2.1 5 = r 5 := by obtain ⟨rfl, -⟩ := q1484; rfl
      have e6_ : u.2.2.1 6 = r 6 := by obtain ⟨rfl, -⟩ := q1484; rfl
      have e7_ : u.2.2.1 7 = r 7 := by obtain ⟨rfl, -⟩ := q1484; rfl
      have e8_ : u.2.2.1 8 = r 8 := by obtain ⟨rfl, -⟩ := q1484; rfl
      obtain ⟨f1, g1, r1, q1⟩ := u
      have ef : f1 1 = f 1 := ef
      have e2_ : r1 2 = r 2 := e2_
      have e3_ : r1 3 = r 3 := e3_
      have e4_ : r1 4 = r 4 := e4_
      have e5_ : r1 5 = r 5 := e5_
      have e6_ : r1 6 = r 6 := e6_
      have e7_ : r1 7 = r 7 := e7_
      have e8_ : r1 8 = r 8 := e8_
      have I : LI D cy s xo mo ou a M G1 W1 f1 g1 r1 q1 H locs := I
      refine lv_pop hx hb dL_law_1487 rfl ?_
      refine lv_goto (tgt := 2327) hx hb dL_law_1488 (by decide) ?_
      have hR1 : RlJ cy xo G1 W1 f1 r1 := hR.keep I0.2.2.1 I0.2.2.2.1 I0.2.2.2.2.1 hX rfl rfl rfl rfl ef e2_ e3_ e4_ e5_ e6_ e7_ e8_
      refine W.widen (k := C + 7) (n := S + 588) (by omega) (by omega) ?_
      exact kk _ _ _ _ _ _ _ _ _ I hR1 (lv_sub hl [0, 1, 2, 3, 4] rfl)
    · first | exact absurd c1476 c1423 | exact absurd c1423 c1476
  · skip
    have d1423 := c1423
    rw [fa_eq] at d1423
    refine lv_iconst (v := 1) hx hb dL_law_1426 (by decide) ?_
    refine lv_goto (tgt := 1431) hx hb dL_law_1427 (by decide) ?_
    refine lk3_i I (va_runV (g := F0 m 1431 ls ([.int (1 : Int32), .long v1416, .int (xs (x4 + 2).toNatClampNeg), .int (xs (x4 + 1).toNatClampNeg), .ref xo])) (As := [.int (xs (x4 + 1).toNatClampNeg), .int (xs (x4 + 2).toNatClampNeg), .long v1416, .int (1 : Int32)]) (rest := []) ⟨hx, hb, hml, hown, hts⟩ (c_X9_even l D cy (AC s mo a) G W' xo ((xs (x4 + 1).toNatClampNeg)) ((xs (x4 + 2).toNatClampNeg)) v1416 (1 : Int32) I.2.2.1 I.2.2.2.1 I.2.2.2.2.1) (cwV 4 hts gL_law_X9_even rfl rfl rfl (by decide +kernel) ⟨Nat.le_of_ble_eq_true rfl, Nat.le_of_ble_eq_true rfl⟩) (l_preV I hK hV) rfl rfl hl.1 rfl (lv_room (Nat.le_of_ble_eq_true rfl)) dL_law_1431 ⟨by omega, by omega⟩) rfl (fun r1431 u H locs q1431 hX I => ?_)
    obtain ⟨G1, W1⟩ := u
    have I : LI D cy s xo mo ou a M G1 W1 f g r q H locs := I
    have hX : cX none (chs [1, 8]) G W' G1 W1 := hX
    refine lv_pop hx hb dL_law_1434 rfl ?_
    refine lv_aload_n hx hb dL_law_1435 rfl (lv_at hl 2 rfl) ?_
    refine lv_aload_n hx hb dL_law_1436 rfl (lv_at hl 0 rfl) ?_
    refine lv_iload hx hb dL_law_1437 (lv_at hl 4 rfl) ?_
    refine lv_iconst (v := 1) hx hb dL_law_1439 (by decide) ?_
    refine lv_iadd hx hb dL_law_1440 ?_
    refine va_sld hx hb hXs hbl hbA I.2.2.2.2.2.2.2.2.1 hn1 dL_law_1441 ?_
    refine lv_aload_n hx hb dL_law_1442 rfl (lv_at hl 0 rfl) ?_
    refine lv_iload hx hb dL_law_1443 (lv_at hl 4 rfl) ?_
    refine lv_iconst (v := 2) hx hb dL_law_1445 (by decide) ?_
    refine lv_iadd hx hb dL_law_1446 ?_
    refine va_sld hx hb hXs hbl hbA I.2.2.2.2.2.2.2.2.1 hn2 dL_law_1447 ?_
    refine lv_aload_n hx hb dL_law_1448 rfl (lv_at hl 0 rfl) ?_
    refine lv_iload hx hb dL_law_1449 (lv_at hl 4 rfl) ?_
    refine lv_iconst (v := 3) hx hb dL_law_1451 (by decide) ?_
    refine lv_iadd hx hb dL_law_1452 ?_
    refine va_sld hx hb hXs hbl hbA I.2.2.2.2.2.2.2.2.1 hn3 dL_law_1453 ?_
    refine lv_i2l (v := ((xs (x4 + 3).toNatClampNeg)).toInt64) hx hb dL_law_1454 rfl ?_
    refine lv_bipush (v := 32) hx hb dL_law_1455 (by decide) ?_
    refine lv_lshl (v := (((xs (x4 + 3).toNatClampNeg)).toInt64) <<< ((32 : Int32).toInt64 &&& 63)) hx hb dL_law_1457 rfl ?_
    refine lv_aload_n hx hb dL_law_1458 rfl (lv_at hl 0 rfl) ?_
    refine lv_iload hx hb dL_law_1459 (lv_at hl 4 rfl) ?_
    refine lv_iconst (v := 4) hx hb dL_law_1461 (by decide) ?_
    refine lv_iadd hx hb dL_law_1462 ?_
    refine va_sld hx hb hXs hbl hbA I.2.2.2.2.2.2.2.2.1 hn4 dL_law_1463 ?_
    refine lv_i2l (v := ((xs (x4 + 4).toNatClampNeg)).toInt64) hx hb dL_law_1464 rfl ?_
    refine lv_ldc2 hx hb hown (hts (.constantLong RL 45 (4294967295)) (by decide +kernel)) dL_law_1465 ?_
    refine lv_land hx hb dL_law_1468 ?_
    refine lv_topl (fun v1468 e1468 => ?_)
    refine lv_lor hx hb dL_law_1469 ?_
    refine lv_topl (fun v1469 e1469 => ?_)
    refine lv_aload_n hx hb dL_law_1470 rfl (lv_at hl 0 rfl) ?_
    refine lv_iload hx hb dL_law_1471 (lv_at hl 4 rfl) ?_
    refine lv_iconst (v := 5) hx hb dL_law_1473 (by decide) ?_
    refine lv_iadd hx hb dL_law_1474 ?_
    refine va_sld hx hb hXs hbl hbA I.2.2.2.2.2.2.2.2.1 hn5 dL_law_1475 ?_
    refine lv_if_eq (tgt := 1483) hx hb dL_law_1476 (by decide) (fun c1476 => ?_) (fun c1476 => ?_)
    · first | exact absurd c1476 c1423 | exact absurd c1423 c1476
    · skip
      have d1476 := c1476
      rw [fa_eq] at d1476
      refine lv_iconst (v := 1) hx hb dL_law_1479 (by decide) ?_
      refine lv_goto (tgt := 1484) hx hb dL_law_1480 (by decide) ?_
      have hI := I.2.2.2.2.2.2.1
      refine lm_i (As := [.int (xs (x4 + 1).toNatClampNeg), .int (xs (x4 + 2).toNatClampNeg), .long v1469, .int (1 : Int32)]) (rest := []) I ⟨hx, hb, hml, hown, hts⟩ (c_X10_even l D cy mo a f g r q ((xs (x4 + 1).toNatClampNeg)) ((xs (x4 + 2).toNatClampNeg)) v1469 (1 : Int32) hDM) (cwV 4 hts gL_law_X10_even rfl rfl rfl (by decide +kernel) ⟨Nat.le_of_ble_eq_true rfl, Nat.le_of_ble_eq_true rfl⟩) hK hAM rfl hl.1 rfl (Nat.le_of_ble_eq_true rfl) dL_law_1484 ⟨by omega, by omega⟩ (fun _ _ h9 => by obtain ⟨rfl, h9⟩ := h9; exact hI) (fun r1484 u H locs q1484 I => ?_)
      have ef : u.1 1 = f 1 := by obtain ⟨rfl, -⟩ := q1484; rfl
      have e2_ : u.2.2.1 2 = r 2 := by obtain ⟨rfl, -⟩ := q1484; rfl
      have e3_ : u.2.2.1 3 = r 3 := by obtain ⟨rfl, -⟩ := q1484; rfl
      have e4_ : u.2.2.1 4 = r 4 := by obtain ⟨rfl, -⟩ := q1484; rfl
      have e5_ : u.2.2.1 5 = r 5 := by obtain ⟨rfl, -⟩ := q1484; rfl
      have e6_ : u.2.2.1 6 = r 6 := by obtain ⟨rfl, -⟩ := q1484; rfl
      have e7_ : u.2.2.1 7 = r 7 := by obtain ⟨rfl, -⟩ := q1484; rfl
      have e8_ : u.2.2.1 8 = r 8 := by obtain ⟨rfl, -⟩ := q1484; rfl
      obtain ⟨f1, g1, r1, q1⟩ := u
      have ef : f1 1 = f 1 := ef
      have e2_ : r1 2 = r 2 := e2_
      have e3_ : r1 3 = r 3 := e3_
      have e4_ : r1 4 = r 4 := e4_
      have e5_ : r1 5 = r 5 := e5_
      have e6_ : r1 6 = r 6 := e6_
      have e7_ : r1 7 = r 7 := e7_
      have e8_ : r1 8 = r 8 := e8_
      have I : LI D cy s xo mo ou a M G1 W1 f1 g1 r1 q1 H locs := I
      refine lv_pop hx hb dL_law_1487 rfl ?_
      refine lv_goto (tgt := 2327) hx hb dL_law_1488 (by decide) ?_
      have hR1 : RlJ cy xo G1 W1 f1 r1 := hR.keep I0.2.2.1 I0.2.2.2.1 I0.2.2.2.2.1 hX rfl rfl rfl rfl ef e2_ e3_ e4_ e5_ e6_ e7_ e8_
      refine W.widen (k := C + 7) (n := S + 588) (by omega) (by omega) ?_
      exact kk _ _ _ _ _ _ _ _ _ I hR1 (lv_sub hl [0, 1, 2, 3, 4] rfl)
set_option maxHeartbeats 4000000 in
set_option maxRecDepth 100000 in
theorem lcase_21 {p : Program} {l : Launch} {e : Env} {s : State} {m : MethodId} {below : List Frame} {meth : Method} {c : Code} {b L : Nat} {xs : Nat → Int32} {D : va_G} {cy : Nat → ClassId} {xo mo ou : Nat} {a : Nat → Nat} {M : Option Nat} {G : cG} {W' : va_W} {f : Nat → Int32} {g : Nat → Int64} {r : Nat → Nat → Int32} {q : Nat → Nat → Int64} {H : Heap} {locs : List Loc} {ls : Array Slot} {Q : State → Prop} {C S : Nat} (X : LX p l s m c b L xs D cy mo a) (I : LI D cy s xo mo ou a M G W' f g r q H locs) (hR : RlJ cy xo G W' f r) {x4 : Int32} (h4 : 0 ≤ x4.toInt ∧ x4.toInt + 8 ≤ (L : Int) ∧ L ≤ 4096) (hC : C + 7 ≤ 601024) (hSl : S + 53273 ≤ 7293034) (hl : lv_has ls 8 [(0, .ref b), (1, .ref xo), (2, .ref mo), (3, .ref ou), (4, .int x4)]) (kk : ∀ (G : cG) (W' : va_W) (f : Nat → Int32) (g : Nat → Int64) (r : Nat → Nat → Int32) (q : Nat → Nat → Int64) (H : Heap) (locs : List Loc) (ls : Array Slot), LI D cy s xo mo ou a M G W' f g r q H locs → RlJ cy xo G W' f r → lv_has ls 8 [(0, .ref b), (1, .ref xo), (2, .ref mo), (3, .ref ou), (4, .int x4)] → W p l e room_1 s m #[Value.ref b] below meth c H locs (C + 7) (S + 588) Q (F0 m 2327 ls [])) : W p l e room_1 s m #[Value.ref b] below meth c H locs C S Q (F0 m 1491 ls []) := by
  obtain ⟨⟨hx, hb, hml, hown, hts⟩, ⟨hXs, hbl⟩, ⟨hK, hV, hZ, hXT⟩, hst, hDM, hAM⟩ := id X
  have I0 := I
  have hbA : ¬ AL s b := Nat.not_le.mpr hbl
  have hRc : room_1.cells = 601024 := rfl
  have hRs : room_1.slots = 7293034 := rfl
  have hn1 : vp_in (x4 + 1) L := l_in (c := 1) h4 rfl (by decide)
  have hn2 : vp_in (x4 + 2) L := l_in (c := 2) h4 rfl (by decide)
  have hn3 : vp_in (x4 + 3) L := l_in (c := 3) h4 rfl (by decide)
  have hn4 : vp_in (x4 + 4) L := l_in (c := 4) h4 rfl (by decide)
  have hn5 : vp_in (x4 + 5) L := l_in (c := 5) h4 rfl (by decide)
  have hn6 : vp_in (x4 + 6) L := l_in (c := 6) h4 rfl (by decide)
  have hn7 : vp_in (x4 + 7) L := l_in (c := 7) h4 rfl (by decide)
  refine lv_aload_n hx hb dL_law_1491 rfl (lv_at hl 1 rfl) ?_
  refine lv_aload_n hx hb dL_law_1492 rfl (lv_at hl 0 rfl) ?_
  refine lv_iload hx hb dL_law_1493 (lv_at hl 4 rfl) ?_
  refine lv_iconst (v := 1) hx hb dL_law_1495 (by decide) ?_
  refine lv_iadd hx hb dL_law_1496 ?_
  refine va_sld hx hb hXs hbl hbA I.2.2.2.2.2.2.2.2.1 hn1 dL_law_1497 ?_
  refine lv_aload_n hx hb dL_law_1498 rfl (lv_at hl 0 rfl) ?_
  refine lv_iload hx hb dL_law_1499 (lv_at hl 4 rfl) ?_
  refine lv_iconst (v := 2) hx hb dL_law_1501 (by decide) ?_
  refine lv_iadd hx hb dL_law_1502 ?_
  refine va_sld hx hb hXs hbl hbA I.2.2.2.2.2.2.2.2.1 hn2 dL_law_1503 ?_
  refine lv_aload_n hx hb dL_law_1504 rfl (lv_at hl 0 rfl) ?_
  refine lv_iload hx hb dL_law_1505 (lv_at hl 4 rfl) ?_
  refine lv_iconst (v := 3) hx hb dL_law_1507 (by decide) ?_
  refine lv_iadd hx hb dL_law_1508 ?_
  refine va_sld hx hb hXs hbl hbA I.2.2.2.2.2.2.2.2.1 hn3 dL_law_1509 ?_
  refine lv_i2l (v := ((xs (x4 + 3).toNatClampNeg)).toInt64) hx hb dL_law_1510 rfl ?_
  refine lv_bipush (v := 32) hx hb dL_law_1511 (by decide) ?_
  refine lv_lshl (v := (((xs (x4 + 3).toNatClampNeg)).toInt64) <<< ((32 : Int32).toInt64 &&& 63)) hx hb dL_law_1513 rfl ?_
  refine lv_aload_n hx hb dL_law_1514 rfl (lv_at hl 0 rfl) ?_
  refine lv_iload hx hb dL_law_1515 (lv_at hl 4 rfl) ?_
  refine lv_iconst (v := 4) hx hb dL_law_1517 (by decide) ?_
  refine lv_iadd hx hb dL_law_1518 ?_
  refine va_sld hx hb hXs hbl hbA I.2.2.2.2.2.2.2.2.1 hn4 dL_law_1519 ?_
  refine lv_i2l (v := ((xs (x4 + 4).toNatClampNeg)).toInt64) hx hb dL_law_1520 rfl ?_
  refine lv_ldc2 hx hb hown (hts (.constantLong RL 45 (4294967295)) (by decide +kernel)) dL_law_1521 ?_
  refine lv_land hx hb dL_law_1524 ?_
  refine lv_topl (fun v1524 e1524 => ?_)
  refine lv_lor hx hb dL_law_1525 ?_
  refine lv_topl (fun v1525 e1525 => ?_)
  refine lv_aload_n hx hb dL_law_1526 rfl (lv_at hl 0 rfl) ?_
  refine lv_iload hx hb dL_law_1527 (lv_at hl 4 rfl) ?_
  refine lv_iconst (v := 5) hx hb dL_law_1529 (by decide) ?_
  refine lv_iadd hx hb dL_law_1530 ?_
  refine va_sld hx hb hXs hbl hbA I.2.2.2.2.2.2.2.2.1 hn5 dL_law_1531 ?_
  refine lk3_l I (va_runV (g := F0 m 1532 ls ([.int (xs (x4 + 5).toNatClampNeg), .long v1525, .int (xs (x4 + 2).toNatClampNeg), .int (xs (x4 + 1).toNatClampNeg), .ref xo])) (As := [.int (xs (x4 + 1).toNatClampNeg), .int (xs (x4 + 2).toNatClampNeg), .long v1525, .int (xs (x4 + 5).toNatClampNeg)]) (rest := []) ⟨hx, hb, hml, hown, hts⟩ (c_X9_turned l D cy (AC s mo a) G W' xo ((xs (x4 + 1).toNatClampNeg)) ((xs (x4 + 2).toNatClampNeg)) v1525 ((xs (x4 + 5).toNatClampNeg)) I.2.2.1 I.2.2.2.1 I.2.2.2.2.1) (cwV 4 hts gL_law_X9_turned rfl rfl rfl (by decide +kernel) ⟨Nat.le_of_ble_eq_true rfl, Nat.le_of_ble_eq_true rfl⟩) (l_preV I hK hV) rfl rfl hl.1 rfl (lv_room (Nat.le_of_ble_eq_true rfl)) dL_law_1532 ⟨by omega, by omega⟩) rfl (fun r1532 u H locs q1532 hX I => ?_)
  obtain ⟨G1, W1⟩ := u
  have I : LI D cy s xo mo ou a M G1 W1 f g r q H locs := I
  have hX : cX none (chs [1, 8]) G W' G1 W1 := hX
  refine lv_pop2_2 hx hb dL_law_1535 rfl ?_
  refine lv_aload_n hx hb dL_law_1536 rfl (lv_at hl 2 rfl) ?_
  refine lv_aload_n hx hb dL_law_1537 rfl (lv_at hl 0 rfl) ?_
  refine lv_iload hx hb dL_law_1538 (lv_at hl 4 rfl) ?_
  refine lv_iconst (v := 1) hx hb dL_law_1540 (by decide) ?_
  refine lv_iadd hx hb dL_law_1541 ?_
  refine va_sld hx hb hXs hbl hbA I.2.2.2.2.2.2.2.2.1 hn1 dL_law_1542 ?_
  refine lv_aload_n hx hb dL_law_1543 rfl (lv_at hl 0 rfl) ?_
  refine lv_iload hx hb dL_law_1544 (lv_at hl 4 rfl) ?_
  refine lv_iconst (v := 2) hx hb dL_law_1546 (by decide) ?_
  refine lv_iadd hx hb dL_law_1547 ?_
  refine va_sld hx hb hXs hbl hbA I.2.2.2.2.2.2.2.2.1 hn2 dL_law_1548 ?_
  refine lv_aload_n hx hb dL_law_1549 rfl (lv_at hl 0 rfl) ?_
  refine lv_iload hx hb dL_law_1550 (lv_at hl 4 rfl) ?_
  refine lv_iconst (v := 3) hx hb dL_law_1552 (by decide) ?_
  refine lv_iadd hx hb dL_law_1553 ?_
  refine va_sld hx hb hXs hbl hbA I.2.2.2.2.2.2.2.2.1 hn3 dL_law_1554 ?_
  refine lv_i2l (v := ((xs (x4 + 3).toNatClampNeg)).toInt64) hx hb dL_law_1555 rfl ?_
  refine lv_bipush (v := 32) hx hb dL_law_1556 (by decide) ?_
  refine lv_lshl (v := (((xs (x4 + 3).toNatClampNeg)).toInt64) <<< ((32 : Int32).toInt64 &&& 63)) hx hb dL_law_1558 rfl ?_
  refine lv_aload_n hx hb dL_law_1559 rfl (lv_at hl 0 rfl) ?_
  refine lv_iload hx hb dL_law_1560 (lv_at hl 4 rfl) ?_
  refine lv_iconst (v := 4) hx hb dL_law_1562 (by decide) ?_
  refine lv_iadd hx hb dL_law_1563 ?_
  refine va_sld hx hb hXs hbl hbA I.2.2.2.2.2.2.2.2.1 hn4 dL_law_1564 ?_
  refine lv_i2l (v := ((xs (x4 + 4).toNatClampNeg)).toInt64) hx hb dL_law_1565 rfl ?_
  refine lv_ldc2 hx hb hown (hts (.constantLong RL 45 (4294967295)) (by decide +kernel)) dL_law_1566 ?_
  refine lv_land hx hb dL_law_1569 ?_
  refine lv_topl (fun v1569 e1569 => ?_)
  refine lv_lor hx hb dL_law_1570 ?_
  refine lv_topl (fun v1570 e1570 => ?_)
  refine lv_aload_n hx hb dL_law_1571 rfl (lv_at hl 0 rfl) ?_
  refine lv_iload hx hb dL_law_1572 (lv_at hl 4 rfl) ?_
  refine lv_iconst (v := 5) hx hb dL_law_1574 (by decide) ?_
  refine lv_iadd hx hb dL_law_1575 ?_
  refine va_sld hx hb hXs hbl hbA I.2.2.2.2.2.2.2.2.1 hn5 dL_law_1576 ?_
  have hI := I.2.2.2.2.2.2.1
  refine lm_l (As := [.int (xs (x4 + 1).toNatClampNeg), .int (xs (x4 + 2).toNatClampNeg), .long v1570, .int (xs (x4 + 5).toNatClampNeg)]) (rest := []) I ⟨hx, hb, hml, hown, hts⟩ (c_X10_turned l D cy mo a f g r q ((xs (x4 + 1).toNatClampNeg)) ((xs (x4 + 2).toNatClampNeg)) v1570 ((xs (x4 + 5).toNatClampNeg)) hDM) (cwV 4 hts gL_law_X10_turned rfl rfl rfl (by decide +kernel) ⟨Nat.le_of_ble_eq_true rfl, Nat.le_of_ble_eq_true rfl⟩) hK hAM rfl hl.1 rfl (Nat.le_of_ble_eq_true rfl) dL_law_1577 ⟨by omega, by omega⟩ (fun _ _ h9 => by obtain ⟨rfl, h9⟩ := h9; exact hI) (fun r1577 u H locs q1577 I => ?_)
  have ef : u.1 1 = f 1 := by obtain ⟨rfl, -⟩ := q1577; rfl
  have e2_ : u.2.2.1 2 = r 2 := by obtain ⟨rfl, -⟩ := q1577; rfl
  have e3_ : u.2.2.1 3 = r 3 := by obtain ⟨rfl, -⟩ := q1577; rfl
  have e4_ : u.2.2.1 4 = r 4 := by obtain ⟨rfl, -⟩ := q1577; rfl
  have e5_ : u.2.2.1 5 = r 5 := by obtain ⟨rfl, -⟩ := q1577; rfl
  have e6_ : u.2.2.1 6 = r 6 := by obtain ⟨rfl, -⟩ := q1577; rfl
  have e7_ : u.2.2.1 7 = r 7 := by obtain ⟨rfl, -⟩ := q1577; rfl
  have e8_ : u.2.2.1 8 = r 8 := by obtain ⟨rfl, -⟩ := q1577; rfl
  obtain ⟨f1, g1, r1, q1⟩ := u
  have ef : f1 1 = f 1 := ef
  have e2_ : r1 2 = r 2 := e2_
  have e3_ : r1 3 = r 3 := e3_
  have e4_ : r1 4 = r 4 := e4_
  have e5_ : r1 5 = r 5 := e5_
  have e6_ : r1 6 = r 6 := e6_
  have e7_ : r1 7 = r 7 := e7_
  have e8_ : r1 8 = r 8 := e8_
  have I : LI D cy s xo mo ou a M G1 W1 f1 g1 r1 q1 H locs := I
  refine lv_pop2_2 hx hb dL_law_1580 rfl ?_
  refine lv_goto (tgt := 2327) hx hb dL_law_1581 (by decide) ?_
  have hR1 : RlJ cy xo G1 W1 f1 r1 := hR.keep I0.2.2.1 I0.2.2.2.1 I0.2.2.2.2.1 hX rfl rfl rfl rfl ef e2_ e3_ e4_ e5_ e6_ e7_ e8_
  refine W.widen (k := C + 7) (n := S + 588) (by omega) (by omega) ?_
  exact kk _ _ _ _ _ _ _ _ _ I hR1 (lv_sub hl [0, 1, 2, 3, 4] rfl)
set_option maxHeartbeats 4000000 in
set_option maxRecDepth 100000 in
theorem lcase_22 {p : Program} {l : Launch} {e : Env} {s : State} {m : MethodId} {below : List Frame} {meth : Method} {c : Code} {b L : Nat} {xs : Nat → Int32} {D : va_G} {cy : Nat → ClassId} {xo mo ou : Nat} {a : Nat → Nat} {M : Option Nat} {G : cG} {W' : va_W} {f : Nat → Int32} {g : Nat → Int64} {r : Nat → Nat → Int32} {q : Nat → Nat → Int64} {H : Heap} {locs : List Loc} {ls : Array Slot} {Q : State → Prop} {C S : Nat} (X : LX p l s m c b L xs D cy mo a) (I : LI D cy s xo mo ou a M G W' f g r q H locs) (hR : RlJ cy xo G W' f r) {x4 : Int32} (h4 : 0 ≤ x4.toInt ∧ x4.toInt + 8 ≤ (L : Int) ∧ L ≤ 4096) (hC : C + 7 ≤ 601024) (hSl : S + 53273 ≤ 7293034) (hl : lv_has ls 8 [(0, .ref b), (1, .ref xo), (2, .ref mo), (3, .ref ou), (4, .int x4)]) (kk : ∀ (G : cG) (W' : va_W) (f : Nat → Int32) (g : Nat → Int64) (r : Nat → Nat → Int32) (q : Nat → Nat → Int64) (H : Heap) (locs : List Loc) (ls : Array Slot), LI D cy s xo mo ou a M G W' f g r q H locs → RlJ cy xo G W' f r → lv_has ls 8 [(0, .ref b), (1, .ref xo), (2, .ref mo), (3, .ref ou), (4, .int x4)] → W p l e room_1 s m #[Value.ref b] below meth c H locs (C + 7) (S + 588) Q (F0 m 2327 ls [])) : W p l e room_1 s m #[Value.ref b] below meth c H locs C S Q (F0 m 1584 ls []) := by
  obtain ⟨⟨hx, hb, hml, hown, hts⟩, ⟨hXs, hbl⟩, ⟨hK, hV, hZ, hXT⟩, hst, hDM, hAM⟩ := id X
  have I0 := I
  have hbA : ¬ AL s b := Nat.not_le.mpr hbl
  have hRc : room_1.cells = 601024 := rfl
  have hRs : room_1.slots = 7293034 := rfl
  have hn1 : vp_in (x4 + 1) L := l_in (c := 1) h4 rfl (by decide)
  have hn2 : vp_in (x4 + 2) L := l_in (c := 2) h4 rfl (by decide)
  have hn3 : vp_in (x4 + 3) L := l_in (c := 3) h4 rfl (by decide)
  have hn4 : vp_in (x4 + 4) L := l_in (c := 4) h4 rfl (by decide)
  have hn5 : vp_in (x4 + 5) L := l_in (c := 5) h4 rfl (by decide)
  have hn6 : vp_in (x4 + 6) L := l_in (c := 6) h4 rfl (by decide)
  have hn7 : vp_in (x4 + 7) L := l_in (c := 7) h4 rfl (by decide)
  refine lv_aload_n hx hb dL_law_1584 rfl (lv_at hl 1 rfl) ?_
  refine lv_aload_n hx hb dL_law_1585 rfl (lv_at hl 0 rfl) ?_
  refine lv_iload hx hb dL_law_1586 (lv_at hl 4 rfl) ?_
  refine lv_iconst (v := 1) hx hb dL_law_1588 (by decide) ?_
  refine lv_iadd hx hb dL_law_1589 ?_
  refine va_sld hx hb hXs hbl hbA I.2.2.2.2.2.2.2.2.1 hn1 dL_law_1590 ?_
  refine lv_aload_n hx hb dL_law_1591 rfl (lv_at hl 0 rfl) ?_
  refine lv_iload hx hb dL_law_1592 (lv_at hl 4 rfl) ?_
  refine lv_iconst (v := 2) hx hb dL_law_1594 (by decide) ?_
  refine lv_iadd hx hb dL_law_1595 ?_
  refine va_sld hx hb hXs hbl hbA I.2.2.2.2.2.2.2.2.1 hn2 dL_law_1596 ?_
  refine lv_aload_n hx hb dL_law_1597 rfl (lv_at hl 0 rfl) ?_
  refine lv_iload hx hb dL_law_1598 (lv_at hl 4 rfl) ?_
  refine lv_iconst (v := 3) hx hb dL_law_1600 (by decide) ?_
  refine lv_iadd hx hb dL_law_1601 ?_
  refine va_sld hx hb hXs hbl hbA I.2.2.2.2.2.2.2.2.1 hn3 dL_law_1602 ?_
  refine lv_i2l (v := ((xs (x4 + 3).toNatClampNeg)).toInt64) hx hb dL_law_1603 rfl ?_
  refine lv_bipush (v := 32) hx hb dL_law_1604 (by decide) ?_
  refine lv_lshl (v := (((xs (x4 + 3).toNatClampNeg)).toInt64) <<< ((32 : Int32).toInt64 &&& 63)) hx hb dL_law_1606 rfl ?_
  refine lv_aload_n hx hb dL_law_1607 rfl (lv_at hl 0 rfl) ?_
  refine lv_iload hx hb dL_law_1608 (lv_at hl 4 rfl) ?_
  refine lv_iconst (v := 4) hx hb dL_law_1610 (by decide) ?_
  refine lv_iadd hx hb dL_law_1611 ?_
  refine va_sld hx hb hXs hbl hbA I.2.2.2.2.2.2.2.2.1 hn4 dL_law_1612 ?_
  refine lv_i2l (v := ((xs (x4 + 4).toNatClampNeg)).toInt64) hx hb dL_law_1613 rfl ?_
  refine lv_ldc2 hx hb hown (hts (.constantLong RL 45 (4294967295)) (by decide +kernel)) dL_law_1614 ?_
  refine lv_land hx hb dL_law_1617 ?_
  refine lv_topl (fun v1617 e1617 => ?_)
  refine lv_lor hx hb dL_law_1618 ?_
  refine lv_topl (fun v1618 e1618 => ?_)
  refine lv_aload_n hx hb dL_law_1619 rfl (lv_at hl 0 rfl) ?_
  refine lv_iload hx hb dL_law_1620 (lv_at hl 4 rfl) ?_
  refine lv_iconst (v := 5) hx hb dL_law_1622 (by decide) ?_
  refine lv_iadd hx hb dL_law_1623 ?_
  refine va_sld hx hb hXs hbl hbA I.2.2.2.2.2.2.2.2.1 hn5 dL_law_1624 ?_
  refine lv_i2l (v := ((xs (x4 + 5).toNatClampNeg)).toInt64) hx hb dL_law_1625 rfl ?_
  refine lv_bipush (v := 32) hx hb dL_law_1626 (by decide) ?_
  refine lv_lshl (v := (((xs (x4 + 5).toNatClampNeg)).toInt64) <<< ((32 : Int32).toInt64 &&& 63)) hx hb dL_law_1628 rfl ?_
  refine lv_aload_n hx hb dL_law_1629 rfl (lv_at hl 0 rfl) ?_
  refine lv_iload hx hb dL_law_1630 (lv_at hl 4 rfl) ?_
  refine lv_bipush (v := 6) hx hb dL_law_1632 (by decide) ?_
  refine lv_iadd hx hb dL_law_1634 ?_
  refine va_sld hx hb hXs hbl hbA I.2.2.2.2.2.2.2.2.1 hn6 dL_law_1635 ?_
  refine lv_i2l (v := ((xs (x4 + 6).toNatClampNeg)).toInt64) hx hb dL_law_1636 rfl ?_
  refine lv_ldc2 hx hb hown (hts (.constantLong RL 45 (4294967295)) (by decide +kernel)) dL_law_1637 ?_
  refine lv_land hx hb dL_law_1640 ?_
  refine lv_topl (fun v1640 e1640 => ?_)
  refine lv_lor hx hb dL_law_1641 ?_
  refine lv_topl (fun v1641 e1641 => ?_)
  refine lv_aload_n hx hb dL_law_1642 rfl (lv_at hl 0 rfl) ?_
  refine lv_iload hx hb dL_law_1643 (lv_at hl 4 rfl) ?_
  refine lv_bipush (v := 7) hx hb dL_law_1645 (by decide) ?_
  refine lv_iadd hx hb dL_law_1647 ?_
  refine va_sld hx hb hXs hbl hbA I.2.2.2.2.2.2.2.2.1 hn7 dL_law_1648 ?_
  refine lk3_i I (va_runV (g := F0 m 1649 ls ([.int (xs (x4 + 7).toNatClampNeg), .long v1641, .long v1618, .int (xs (x4 + 2).toNatClampNeg), .int (xs (x4 + 1).toNatClampNeg), .ref xo])) (As := [.int (xs (x4 + 1).toNatClampNeg), .int (xs (x4 + 2).toNatClampNeg), .long v1618, .long v1641, .int (xs (x4 + 7).toNatClampNeg)]) (rest := []) ⟨hx, hb, hml, hown, hts⟩ (c_X9_parts l D cy (AC s mo a) G W' xo ((xs (x4 + 1).toNatClampNeg)) ((xs (x4 + 2).toNatClampNeg)) v1618 v1641 ((xs (x4 + 7).toNatClampNeg)) I.2.2.1 I.2.2.2.1 I.2.2.2.2.1) (cwV 5 hts gL_law_X9_parts rfl rfl rfl (by decide +kernel) ⟨Nat.le_of_ble_eq_true rfl, Nat.le_of_ble_eq_true rfl⟩) (l_preV I hK hV) rfl rfl hl.1 rfl (lv_room (Nat.le_of_ble_eq_true rfl)) dL_law_1649 ⟨by omega, by omega⟩) rfl (fun r1649 u H locs q1649 hX I => ?_)
  obtain ⟨G1, W1⟩ := u
  have I : LI D cy s xo mo ou a M G1 W1 f g r q H locs := I
  have hX : cX none (chs [1, 8]) G W' G1 W1 := hX
  refine lv_pop hx hb dL_law_1652 rfl ?_
  refine lv_aload_n hx hb dL_law_1653 rfl (lv_at hl 2 rfl) ?_
  refine lv_aload_n hx hb dL_law_1654 rfl (lv_at hl 0 rfl) ?_
  refine lv_iload hx hb dL_law_1655 (lv_at hl 4 rfl) ?_
  refine lv_iconst (v := 1) hx hb dL_law_1657 (by decide) ?_
  refine lv_iadd hx hb dL_law_1658 ?_
  refine va_sld hx hb hXs hbl hbA I.2.2.2.2.2.2.2.2.1 hn1 dL_law_1659 ?_
  refine lv_aload_n hx hb dL_law_1660 rfl (lv_at hl 0 rfl) ?_
  refine lv_iload hx hb dL_law_1661 (lv_at hl 4 rfl) ?_
  refine lv_iconst (v := 2) hx hb dL_law_1663 (by decide) ?_
  refine lv_iadd hx hb dL_law_1664 ?_
  refine va_sld hx hb hXs hbl hbA I.2.2.2.2.2.2.2.2.1 hn2 dL_law_1665 ?_
  refine lv_aload_n hx hb dL_law_1666 rfl (lv_at hl 0 rfl) ?_
  refine lv_iload hx hb dL_law_1667 (lv_at hl 4 rfl) ?_
  refine lv_iconst (v := 3) hx hb dL_law_1669 (by decide) ?_
  refine lv_iadd hx hb dL_law_1670 ?_
  refine va_sld hx hb hXs hbl hbA I.2.2.2.2.2.2.2.2.1 hn3 dL_law_1671 ?_
  refine lv_i2l (v := ((xs (x4 + 3).toNatClampNeg)).toInt64) hx hb dL_law_1672 rfl ?_
  refine lv_bipush (v := 32) hx hb dL_law_1673 (by decide) ?_
  refine lv_lshl (v := (((xs (x4 + 3).toNatClampNeg)).toInt64) <<< ((32 : Int32).toInt64 &&& 63)) hx hb dL_law_1675 rfl ?_
  refine lv_aload_n hx hb dL_law_1676 rfl (lv_at hl 0 rfl) ?_
  refine lv_iload hx hb dL_law_1677 (lv_at hl 4 rfl) ?_
  refine lv_iconst (v := 4) hx hb dL_law_1679 (by decide) ?_
  refine lv_iadd hx hb dL_law_1680 ?_
  refine va_sld hx hb hXs hbl hbA I.2.2.2.2.2.2.2.2.1 hn4 dL_law_1681 ?_
  refine lv_i2l (v := ((xs (x4 + 4).toNatClampNeg)).toInt64) hx hb dL_law_1682 rfl ?_
  refine lv_ldc2 hx hb hown (hts (.constantLong RL 45 (4294967295)) (by decide +kernel)) dL_law_1683 ?_
  refine lv_land hx hb dL_law_1686 ?_
  refine lv_topl (fun v1686 e1686 => ?_)
  refine lv_lor hx hb dL_law_1687 ?_
  refine lv_topl (fun v1687 e1687 => ?_)
  refine lv_aload_n hx hb dL_law_1688 rfl (lv_at hl 0 rfl) ?_
  refine lv_iload hx hb dL_law_1689 (lv_at hl 4 rfl) ?_
  refine lv_iconst (v := 5) hx hb dL_law_1691 (by decide) ?_
  refine lv_iadd hx hb dL_law_1692 ?_
  refine va_sld hx hb hXs hbl hbA I.2.2.2.2.2.2.2.2.1 hn5 dL_law_1693 ?_
  refine lv_i2l (v := ((xs (x4 + 5).toNatClampNeg)).toInt64) hx hb dL_law_1694 rfl ?_
  refine lv_bipush (v := 32) hx hb dL_law_1695 (by decide) ?_
  refine lv_lshl (v := (((xs (x4 + 5).toNatClampNeg)).toInt64) <<< ((32 : Int32).toInt64 &&& 63)) hx hb dL_law_1697 rfl ?_
  refine lv_aload_n hx hb dL_law_1698 rfl (lv_at hl 0 rfl) ?_
  refine lv_iload hx hb dL_law_1699 (lv_at hl 4 rfl) ?_
  refine lv_bipush (v := 6) hx hb dL_law_1701 (by decide) ?_
  refine lv_iadd hx hb dL_law_1703 ?_
  refine va_sld hx hb hXs hbl hbA I.2.2.2.2.2.2.2.2.1 hn6 dL_law_1704 ?_
  refine lv_i2l (v := ((xs (x4 + 6).toNatClampNeg)).toInt64) hx hb dL_law_1705 rfl ?_
  refine lv_ldc2 hx hb hown (hts (.constantLong RL 45 (4294967295)) (by decide +kernel)) dL_law_1706 ?_
  refine lv_land hx hb dL_law_1709 ?_
  refine lv_topl (fun v1709 e1709 => ?_)
  refine lv_lor hx hb dL_law_1710 ?_
  refine lv_topl (fun v1710 e1710 => ?_)
  refine lv_aload_n hx hb dL_law_1711 rfl (lv_at hl 0 rfl) ?_
  refine lv_iload hx hb dL_law_1712 (lv_at hl 4 rfl) ?_
  refine lv_bipush (v := 7) hx hb dL_law_1714 (by decide) ?_
  refine lv_iadd hx hb dL_law_1716 ?_
  refine va_sld hx hb hXs hbl hbA I.2.2.2.2.2.2.2.2.1 hn7 dL_law_1717 ?_
  have hI := I.2.2.2.2.2.2.1
  refine lm_i (As := [.int (xs (x4 + 1).toNatClampNeg), .int (xs (x4 + 2).toNatClampNeg), .long v1687, .long v1710, .int (xs (x4 + 7).toNatClampNeg)]) (rest := []) I ⟨hx, hb, hml, hown, hts⟩ (c_X10_parts l D cy mo a f g r q ((xs (x4 + 1).toNatClampNeg)) ((xs (x4 + 2).toNatClampNeg)) v1687 v1710 ((xs (x4 + 7).toNatClampNeg)) hDM) (cwV 5 hts gL_law_X10_parts rfl rfl rfl (by decide +kernel) ⟨Nat.le_of_ble_eq_true rfl, Nat.le_of_ble_eq_true rfl⟩) hK hAM rfl hl.1 rfl (Nat.le_of_ble_eq_true rfl) dL_law_1718 ⟨by omega, by omega⟩ (fun _ _ h9 => by obtain ⟨rfl, h9⟩ := h9; exact hI) (fun r1718 u H locs q1718 I => ?_)
  have ef : u.1 1 = f 1 := by obtain ⟨rfl, -⟩ := q1718; rfl
  have e2_ : u.2.2.1 2 = r 2 := by obtain ⟨rfl, -⟩ := q1718; rfl
  have e3_ : u.2.2.1 3 = r 3 := by obtain ⟨rfl, -⟩ := q1718; rfl
  have e4_ : u.2.2.1 4 = r 4 := by obtain ⟨rfl, -⟩ := q1718; rfl
  have e5_ : u.2.2.1 5 = r 5 := by obtain ⟨rfl, -⟩ := q1718; rfl
  have e6_ : u.2.2.1 6 = r 6 := by obtain ⟨rfl, -⟩ := q1718; rfl
  have e7_ : u.2.2.1 7 = r 7 := by obtain ⟨rfl, -⟩ := q1718; rfl
  have e8_ : u.2.2.1 8 = r 8 := by obtain ⟨rfl, -⟩ := q1718; rfl
  obtain ⟨f1, g1, r1, q1⟩ := u
  have ef : f1 1 = f 1 := ef
  have e2_ : r1 2 = r 2 := e2_
  have e3_ : r1 3 = r 3 := e3_
  have e4_ : r1 4 = r 4 := e4_
  have e5_ : r1 5 = r 5 := e5_
  have e6_ : r1 6 = r 6 := e6_
  have e7_ : r1 7 = r 7 := e7_
  have e8_ : r1 8 = r 8 := e8_
  have I : LI D cy s xo mo ou a M G1 W1 f1 g1 r1 q1 H locs := I
  refine lv_pop hx hb dL_law_1721 rfl ?_
  refine lv_goto (tgt := 2327) hx hb dL_law_1722 (by decide) ?_
  have hR1 : RlJ cy xo G1 W1 f1 r1 := hR.keep I0.2.2.1 I0.2.2.2.1 I0.2.2.2.2.1 hX rfl rfl rfl rfl ef e2_ e3_ e4_ e5_ e6_ e7_ e8_
  refine W.widen (k := C + 7) (n := S + 588) (by omega) (by omega) ?_
  exact kk _ _ _ _ _ _ _ _ _ I hR1 (lv_sub hl [0, 1, 2, 3, 4] rfl)
set_option maxHeartbeats 4000000 in
set_option maxRecDepth 100000 in
theorem lcase_23 {p : Program} {l : Launch} {e : Env} {s : State} {m : MethodId} {below : List Frame} {meth : Method} {c : Code} {b L : Nat} {xs : Nat → Int32} {D : va_G} {cy : Nat → ClassId} {xo mo ou : Nat} {a : Nat → Nat} {M : Option Nat} {G : cG} {W' : va_W} {f : Nat → Int32} {g : Nat → Int64} {r : Nat → Nat → Int32} {q : Nat → Nat → Int64} {H : Heap} {locs : List Loc} {ls : Array Slot} {Q : State → Prop} {C S : Nat} (X : LX p l s m c b L xs D cy mo a) (I : LI D cy s xo mo ou a M G W' f g r q H locs) (hR : RlJ cy xo G W' f r) {x4 : Int32} (h4 : 0 ≤ x4.toInt ∧ x4.toInt + 8 ≤ (L : Int) ∧ L ≤ 4096) (hC : C + 7 ≤ 601024) (hSl : S + 53273 ≤ 7293034) (hl : lv_has ls 8 [(0, .ref b), (1, .ref xo), (2, .ref mo), (3, .ref ou), (4, .int x4)]) (kk : ∀ (G : cG) (W' : va_W) (f : Nat → Int32) (g : Nat → Int64) (r : Nat → Nat → Int32) (q : Nat → Nat → Int64) (H : Heap) (locs : List Loc) (ls : Array Slot), LI D cy s xo mo ou a M G W' f g r q H locs → RlJ cy xo G W' f r → lv_has ls 8 [(0, .ref b), (1, .ref xo), (2, .ref mo), (3, .ref ou), (4, .int x4)] → W p l e room_1 s m #[Value.ref b] below meth c H locs (C + 7) (S + 588) Q (F0 m 2327 ls [])) : W p l e room_1 s m #[Value.ref b] below meth c H locs C S Q (F0 m 1725 ls []) := by
  obtain ⟨⟨hx, hb, hml, hown, hts⟩, ⟨hXs, hbl⟩, ⟨hK, hV, hZ, hXT⟩, hst, hDM, hAM⟩ := id X
  have I0 := I
  have hbA : ¬ AL s b := Nat.not_le.mpr hbl
  have hRc : room_1.cells = 601024 := rfl
  have hRs : room_1.slots = 7293034 := rfl
  have hn1 : vp_in (x4 + 1) L := l_in (c := 1) h4 rfl (by decide)
  have hn2 : vp_in (x4 + 2) L := l_in (c := 2) h4 rfl (by decide)
  have hn3 : vp_in (x4 + 3) L := l_in (c := 3) h4 rfl (by decide)
  have hn4 : vp_in (x4 + 4) L := l_in (c := 4) h4 rfl (by decide)
  have hn5 : vp_in (x4 + 5) L := l_in (c := 5) h4 rfl (by decide)
  have hn6 : vp_in (x4 + 6) L := l_in (c := 6) h4 rfl (by decide)
  have hn7 : vp_in (x4 + 7) L := l_in (c := 7) h4 rfl (by decide)
  refine lv_aload_n hx hb dL_law_1725 rfl (lv_at hl 1 rfl) ?_
  refine lv_aload_n hx hb dL_law_1726 rfl (lv_at hl 0 rfl) ?_
  refine lv_iload hx hb dL_law_1727 (lv_at hl 4 rfl) ?_
  refine lv_iconst (v := 1) hx hb dL_law_1729 (by decide) ?_
  refine lv_iadd hx hb dL_law_1730 ?_
  refine va_sld hx hb hXs hbl hbA I.2.2.2.2.2.2.2.2.1 hn1 dL_law_1731 ?_
  refine lv_aload_n hx hb dL_law_1732 rfl (lv_at hl 0 rfl) ?_
  refine lv_iload hx hb dL_law_1733 (lv_at hl 4 rfl) ?_
  refine lv_iconst (v := 2) hx hb dL_law_1735 (by decide) ?_
  refine lv_iadd hx hb dL_law_1736 ?_
  refine va_sld hx hb hXs hbl hbA I.2.2.2.2.2.2.2.2.1 hn2 dL_law_1737 ?_
  refine lv_aload_n hx hb dL_law_1738 rfl (lv_at hl 0 rfl) ?_
  refine lv_iload hx hb dL_law_1739 (lv_at hl 4 rfl) ?_
  refine lv_iconst (v := 3) hx hb dL_law_1741 (by decide) ?_
  refine lv_iadd hx hb dL_law_1742 ?_
  refine va_sld hx hb hXs hbl hbA I.2.2.2.2.2.2.2.2.1 hn3 dL_law_1743 ?_
  refine lv_i2l (v := ((xs (x4 + 3).toNatClampNeg)).toInt64) hx hb dL_law_1744 rfl ?_
  refine lv_bipush (v := 32) hx hb dL_law_1745 (by decide) ?_
  refine lv_lshl (v := (((xs (x4 + 3).toNatClampNeg)).toInt64) <<< ((32 : Int32).toInt64 &&& 63)) hx hb dL_law_1747 rfl ?_
  refine lv_aload_n hx hb dL_law_1748 rfl (lv_at hl 0 rfl) ?_
  refine lv_iload hx hb dL_law_1749 (lv_at hl 4 rfl) ?_
  refine lv_iconst (v := 4) hx hb dL_law_1751 (by decide) ?_
  refine lv_iadd hx hb dL_law_1752 ?_
  refine va_sld hx hb hXs hbl hbA I.2.2.2.2.2.2.2.2.1 hn4 dL_law_1753 ?_
  refine lv_i2l (v := ((xs (x4 + 4).toNatClampNeg)).toInt64) hx hb dL_law_1754 rfl ?_
  refine lv_ldc2 hx hb hown (hts (.constantLong RL 45 (4294967295)) (by decide +kernel)) dL_law_1755 ?_
  refine lv_land hx hb dL_law_1758 ?_
  refine lv_topl (fun v1758 e1758 => ?_)
  refine lv_lor hx hb dL_law_1759 ?_
  refine lv_topl (fun v1759 e1759 => ?_)
  obtain ⟨bs, js, sh, wk, ll, jc, lc, lb, hM⟩ := I.2.2.2.2.2.2.2.1
  obtain ⟨hjc, fa, J, hfa, hJ⟩ := hR.at I.2.2.1 hM
  subst hjc
  refine lk3_s I (va_runV (g := F0 m 1760 ls ([.long v1759, .int (xs (x4 + 2).toNatClampNeg), .int (xs (x4 + 1).toNatClampNeg), .ref xo])) (As := [.int (xs (x4 + 1).toNatClampNeg), .int (xs (x4 + 2).toNatClampNeg), .long v1759]) (rest := []) ⟨hx, hb, hml, hown, hts⟩ (c_X9_list_k l D cy (AC s mo a) G W' xo ((xs (x4 + 1).toNatClampNeg)) ((xs (x4 + 2).toNatClampNeg)) v1759 I.2.2.1 I.2.2.2.1 I.2.2.2.2.1 hM) (cwV 3 hts gL_law_X9_list rfl rfl rfl (by decide +kernel) ⟨Nat.le_of_ble_eq_true rfl, Nat.le_of_ble_eq_true rfl⟩) (l_preV I hK hV) rfl rfl hl.1 rfl (lv_room (Nat.le_of_ble_eq_true rfl)) dL_law_1760 ⟨by omega, by omega⟩) (fun _ _ h9 => by obtain ⟨lc9, lb9, hm9⟩ := h9; exact ⟨_, _, _, _, _, _, lc9, lb9, hm9⟩) (fun r1760 u H locs q1760 hX I => ?_)
  obtain ⟨G1, W1⟩ := u
  have I : LI D cy s xo mo ou a M G1 W1 f g r q H locs := I
  have hX : cX none (chs [1, 7, 8, 17]) G W' G1 W1 := hX
  have qj := q1760
  refine lv_pop hx hb dL_law_1763 rfl ?_
  refine lv_aload_n hx hb dL_law_1764 rfl (lv_at hl 2 rfl) ?_
  refine lv_aload_n hx hb dL_law_1765 rfl (lv_at hl 0 rfl) ?_
  refine lv_iload hx hb dL_law_1766 (lv_at hl 4 rfl) ?_
  refine lv_iconst (v := 1) hx hb dL_law_1768 (by decide) ?_
  refine lv_iadd hx hb dL_law_1769 ?_
  refine va_sld hx hb hXs hbl hbA I.2.2.2.2.2.2.2.2.1 hn1 dL_law_1770 ?_
  refine lv_aload_n hx hb dL_law_1771 rfl (lv_at hl 0 rfl) ?_
  refine lv_iload hx hb dL_law_1772 (lv_at hl 4 rfl) ?_
  refine lv_iconst (v := 2) hx hb dL_law_1774 (by decide) ?_
  refine lv_iadd hx hb dL_law_1775 ?_
  refine va_sld hx hb hXs hbl hbA I.2.2.2.2.2.2.2.2.1 hn2 dL_law_1776 ?_
  refine lv_aload_n hx hb dL_law_1777 rfl (lv_at hl 0 rfl) ?_
  refine lv_iload hx hb dL_law_1778 (lv_at hl 4 rfl) ?_
  refine lv_iconst (v := 3) hx hb dL_law_1780 (by decide) ?_
  refine lv_iadd hx hb dL_law_1781 ?_
  refine va_sld hx hb hXs hbl hbA I.2.2.2.2.2.2.2.2.1 hn3 dL_law_1782 ?_
  refine lv_i2l (v := ((xs (x4 + 3).toNatClampNeg)).toInt64) hx hb dL_law_1783 rfl ?_
  refine lv_bipush (v := 32) hx hb dL_law_1784 (by decide) ?_
  refine lv_lshl (v := (((xs (x4 + 3).toNatClampNeg)).toInt64) <<< ((32 : Int32).toInt64 &&& 63)) hx hb dL_law_1786 rfl ?_
  refine lv_aload_n hx hb dL_law_1787 rfl (lv_at hl 0 rfl) ?_
  refine lv_iload hx hb dL_law_1788 (lv_at hl 4 rfl) ?_
  refine lv_iconst (v := 4) hx hb dL_law_1790 (by decide) ?_
  refine lv_iadd hx hb dL_law_1791 ?_
  refine va_sld hx hb hXs hbl hbA I.2.2.2.2.2.2.2.2.1 hn4 dL_law_1792 ?_
  refine lv_i2l (v := ((xs (x4 + 4).toNatClampNeg)).toInt64) hx hb dL_law_1793 rfl ?_
  refine lv_ldc2 hx hb hown (hts (.constantLong RL 45 (4294967295)) (by decide +kernel)) dL_law_1794 ?_
  refine lv_land hx hb dL_law_1797 ?_
  refine lv_topl (fun v1797 e1797 => ?_)
  refine lv_lor hx hb dL_law_1798 ?_
  refine lv_topl (fun v1798 e1798 => ?_)
  have hI := I.2.2.2.2.2.2.1
  refine lm_i (As := [.int (xs (x4 + 1).toNatClampNeg), .int (xs (x4 + 2).toNatClampNeg), .long v1798]) (rest := []) I ⟨hx, hb, hml, hown, hts⟩ (c_X10_list l D cy mo a f g r q ((xs (x4 + 1).toNatClampNeg)) ((xs (x4 + 2).toNatClampNeg)) v1798 hDM hI) (cwV 3 hts gL_law_X10_list rfl rfl rfl (by decide +kernel) ⟨Nat.le_of_ble_eq_true rfl, Nat.le_of_ble_eq_true rfl⟩) hK hAM rfl hl.1 rfl (Nat.le_of_ble_eq_true rfl) dL_law_1799 ⟨by omega, by omega⟩ (fun _ _ h9 => by obtain ⟨_, _, _, _, rfl, h9⟩ := h9; exact h9) (fun r1799 u H locs q1799 I => ?_)
  have ef : u.1 1 = f 1 := by obtain ⟨_, _, _, _, rfl, -⟩ := q1799; rfl
  have e2_ : u.2.2.1 2 = r 2 := by obtain ⟨_, _, _, _, rfl, -⟩ := q1799; rfl
  have e3_ : u.2.2.1 3 = r 3 := by obtain ⟨_, _, _, _, rfl, -⟩ := q1799; rfl
  have e4_ : u.2.2.1 4 = r 4 := by obtain ⟨_, _, _, _, rfl, -⟩ := q1799; rfl
  have e5_ : u.2.2.1 5 = r 5 := by obtain ⟨_, _, _, _, rfl, -⟩ := q1799; rfl
  have e6_ : u.2.2.1 6 = r 6 := by obtain ⟨_, _, _, _, rfl, -⟩ := q1799; rfl
  have e7_ : u.2.2.1 7 = r 7 := by obtain ⟨_, _, _, _, rfl, -⟩ := q1799; rfl
  have e8_ : u.2.2.1 8 = r 8 := by obtain ⟨_, _, _, _, rfl, -⟩ := q1799; rfl
  obtain ⟨f1, g1, r1, q1⟩ := u
  have ef : f1 1 = f 1 := ef
  have e2_ : r1 2 = r 2 := e2_
  have e3_ : r1 3 = r 3 := e3_
  have e4_ : r1 4 = r 4 := e4_
  have e5_ : r1 5 = r 5 := e5_
  have e6_ : r1 6 = r 6 := e6_
  have e7_ : r1 7 = r 7 := e7_
  have e8_ : r1 8 = r 8 := e8_
  have I : LI D cy s xo mo ou a M G1 W1 f1 g1 r1 q1 H locs := I
  refine lv_pop hx hb dL_law_1802 rfl ?_
  refine lv_goto (tgt := 2327) hx hb dL_law_1803 (by decide) ?_
  have hR1 : RlJ cy xo G1 W1 f1 r1 := by obtain ⟨lc9, lb9, hm9⟩ := qj; exact hR.shp I0.2.2.1 I0.2.2.2.1 I0.2.2.2.2.1 hX rfl rfl rfl hM hm9 ef e2_ e3_ e4_ e5_ e6_ e7_ e8_
  refine W.widen (k := C + 7) (n := S + 588) (by omega) (by omega) ?_
  exact kk _ _ _ _ _ _ _ _ _ I hR1 (lv_sub hl [0, 1, 2, 3, 4] rfl)
set_option maxHeartbeats 4000000 in
set_option maxRecDepth 100000 in
theorem lcase_24 {p : Program} {l : Launch} {e : Env} {s : State} {m : MethodId} {below : List Frame} {meth : Method} {c : Code} {b L : Nat} {xs : Nat → Int32} {D : va_G} {cy : Nat → ClassId} {xo mo ou : Nat} {a : Nat → Nat} {M : Option Nat} {G : cG} {W' : va_W} {f : Nat → Int32} {g : Nat → Int64} {r : Nat → Nat → Int32} {q : Nat → Nat → Int64} {H : Heap} {locs : List Loc} {ls : Array Slot} {Q : State → Prop} {C S : Nat} (X : LX p l s m c b L xs D cy mo a) (I : LI D cy s xo mo ou a M G W' f g r q H locs) (hR : RlJ cy xo G W' f r) {x4 : Int32} (h4 : 0 ≤ x4.toInt ∧ x4.toInt + 8 ≤ (L : Int) ∧ L ≤ 4096) (hC : C + 7 ≤ 601024) (hSl : S + 53273 ≤ 7293034) (hl : lv_has ls 8 [(0, .ref b), (1, .ref xo), (2, .ref mo), (3, .ref ou), (4, .int x4)]) (kk : ∀ (G : cG) (W' : va_W) (f : Nat → Int32) (g : Nat → Int64) (r : Nat → Nat → Int32) (q : Nat → Nat → Int64) (H : Heap) (locs : List Loc) (ls : Array Slot), LI D cy s xo mo ou a M G W' f g r q H locs → RlJ cy xo G W' f r → lv_has ls 8 [(0, .ref b), (1, .ref xo), (2, .ref mo), (3, .ref ou), (4, .int x4)] → W p l e room_1 s m #[Value.ref b] below meth c H locs (C + 7) (S + 588) Q (F0 m 2327 ls [])) : W p l e room_1 s m #[Value.ref b] below meth c H locs C S Q (F0 m 1806 ls []) := by
  obtain ⟨⟨hx, hb, hml, hown, hts⟩, ⟨hXs, hbl⟩, ⟨hK, hV, hZ, hXT⟩, hst, hDM, hAM⟩ := id X
  have I0 := I
  have hbA : ¬ AL s b := Nat.not_le.mpr hbl
  have hRc : room_1.cells = 601024 := rfl
  have hRs : room_1.slots = 7293034 := rfl
  have hn1 : vp_in (x4 + 1) L := l_in (c := 1) h4 rfl (by decide)
  have hn2 : vp_in (x4 + 2) L := l_in (c := 2) h4 rfl (by decide)
  have hn3 : vp_in (x4 + 3) L := l_in (c := 3) h4 rfl (by decide)
  have hn4 : vp_in (x4 + 4) L := l_in (c := 4) h4 rfl (by decide)
  have hn5 : vp_in (x4 + 5) L := l_in (c := 5) h4 rfl (by decide)
  have hn6 : vp_in (x4 + 6) L := l_in (c := 6) h4 rfl (by decide)
  have hn7 : vp_in (x4 + 7) L := l_in (c := 7) h4 rfl (by decide)
  refine lv_aload_n hx hb dL_law_1806 rfl (lv_at hl 1 rfl) ?_
  obtain ⟨bs, js, sh, wk, ll, jc, lc, lb, hM⟩ := I.2.2.2.2.2.2.2.1
  obtain ⟨hjc, fa, J, hfa, hJ⟩ := hR.at I.2.2.1 hM
  subst hjc
  refine lk3_s I (va_runV (g := F0 m 1807 ls ([.ref xo])) (As := []) (rest := []) ⟨hx, hb, hml, hown, hts⟩ (c_X9_clear_k l D cy (AC s mo a) G W' xo  I.2.2.1 I.2.2.2.1 I.2.2.2.2.1 hM) (cwV 0 hts gL_law_X9_clear rfl rfl rfl (by decide +kernel) ⟨Nat.le_of_ble_eq_true rfl, Nat.le_of_ble_eq_true rfl⟩) (l_preV I hK hV) rfl rfl hl.1 rfl (lv_room (Nat.le_of_ble_eq_true rfl)) dL_law_1807 ⟨by omega, by omega⟩) (fun _ _ h9 => by obtain ⟨lc9, lb9, hm9⟩ := h9; exact ⟨_, _, _, _, _, _, lc9, lb9, hm9⟩) (fun r1807 u H locs q1807 hX I => ?_)
  obtain ⟨G1, W1⟩ := u
  have I : LI D cy s xo mo ou a M G1 W1 f g r q H locs := I
  have hX : cX none (chs [7]) G W' G1 W1 := hX
  have qj := q1807
  refine lv_pop hx hb dL_law_1810 rfl ?_
  refine lv_aload_n hx hb dL_law_1811 rfl (lv_at hl 2 rfl) ?_
  have hI := I.2.2.2.2.2.2.1
  refine lm_i (As := []) (rest := []) I ⟨hx, hb, hml, hown, hts⟩ (c_X10_clear l D cy mo a f g r q  hDM hI) (cwV 0 hts gL_law_X10_clear rfl rfl rfl (by decide +kernel) ⟨Nat.le_of_ble_eq_true rfl, Nat.le_of_ble_eq_true rfl⟩) hK hAM rfl hl.1 rfl (Nat.le_of_ble_eq_true rfl) dL_law_1812 ⟨by omega, by omega⟩ (fun _ _ h9 => by obtain ⟨rfl, h9⟩ := h9; exact h9.2) (fun r1812 u H locs q1812 I => ?_)
  have ef : u.1 1 = f 1 := by obtain ⟨rfl, -⟩ := q1812; rfl
  have e2_ : u.2.2.1 2 = r 2 := by obtain ⟨rfl, -⟩ := q1812; rfl
  have e3_ : u.2.2.1 3 = r 3 := by obtain ⟨rfl, -⟩ := q1812; rfl
  have e4_ : u.2.2.1 4 = r 4 := by obtain ⟨rfl, -⟩ := q1812; rfl
  have e5_ : u.2.2.1 5 = r 5 := by obtain ⟨rfl, -⟩ := q1812; rfl
  have e6_ : u.2.2.1 6 = r 6 := by obtain ⟨rfl, -⟩ := q1812; rfl
  have e7_ : u.2.2.1 7 = r 7 := by obtain ⟨rfl, -⟩ := q1812; rfl
  have e8_ : u.2.2.1 8 = r 8 := by obtain ⟨rfl, -⟩ := q1812; rfl
  obtain ⟨f1, g1, r1, q1⟩ := u
  have ef : f1 1 = f 1 := ef
  have e2_ : r1 2 = r 2 := e2_
  have e3_ : r1 3 = r 3 := e3_
  have e4_ : r1 4 = r 4 := e4_
  have e5_ : r1 5 = r 5 := e5_
  have e6_ : r1 6 = r 6 := e6_
  have e7_ : r1 7 = r 7 := e7_
  have e8_ : r1 8 = r 8 := e8_
  have I : LI D cy s xo mo ou a M G1 W1 f1 g1 r1 q1 H locs := I
  refine lv_pop hx hb dL_law_1815 rfl ?_
  refine lv_goto (tgt := 2327) hx hb dL_law_1816 (by decide) ?_
  have hR1 : RlJ cy xo G1 W1 f1 r1 := by obtain ⟨lc9, lb9, hm9⟩ := qj; exact hR.shp I0.2.2.1 I0.2.2.2.1 I0.2.2.2.2.1 hX rfl rfl rfl hM hm9 ef e2_ e3_ e4_ e5_ e6_ e7_ e8_
  refine W.widen (k := C + 7) (n := S + 588) (by omega) (by omega) ?_
  exact kk _ _ _ _ _ _ _ _ _ I hR1 (lv_sub hl [0, 1, 2, 3, 4] rfl)
set_option maxHeartbeats 4000000 in
set_option maxRecDepth 100000 in
theorem lcase_25 {p : Program} {l : Launch} {e : Env} {s : State} {m : MethodId} {below : List Frame} {meth : Method} {c : Code} {b L : Nat} {xs : Nat → Int32} {D : va_G} {cy : Nat → ClassId} {xo mo ou : Nat} {a : Nat → Nat} {M : Option Nat} {G : cG} {W' : va_W} {f : Nat → Int32} {g : Nat → Int64} {r : Nat → Nat → Int32} {q : Nat → Nat → Int64} {H : Heap} {locs : List Loc} {ls : Array Slot} {Q : State → Prop} {C S : Nat} (X : LX p l s m c b L xs D cy mo a) (I : LI D cy s xo mo ou a M G W' f g r q H locs) (hR : RlJ cy xo G W' f r) {x4 : Int32} (h4 : 0 ≤ x4.toInt ∧ x4.toInt + 8 ≤ (L : Int) ∧ L ≤ 4096) (hC : C + 7 ≤ 601024) (hSl : S + 53273 ≤ 7293034) (hl : lv_has ls 8 [(0, .ref b), (1, .ref xo), (2, .ref mo), (3, .ref ou), (4, .int x4)]) (kk : ∀ (G : cG) (W' : va_W) (f : Nat → Int32) (g : Nat → Int64) (r : Nat → Nat → Int32) (q : Nat → Nat → Int64) (H : Heap) (locs : List Loc) (ls : Array Slot), LI D cy s xo mo ou a M G W' f g r q H locs → RlJ cy xo G W' f r → lv_has ls 8 [(0, .ref b), (1, .ref xo), (2, .ref mo), (3, .ref ou), (4, .int x4)] → W p l e room_1 s m #[Value.ref b] below meth c H locs (C + 7) (S + 588) Q (F0 m 2327 ls [])) : W p l e room_1 s m #[Value.ref b] below meth c H locs C S Q (F0 m 1819 ls []) := by
  obtain ⟨⟨hx, hb, hml, hown, hts⟩, ⟨hXs, hbl⟩, ⟨hK, hV, hZ, hXT⟩, hst, hDM, hAM⟩ := id X
  have I0 := I
  have hbA : ¬ AL s b := Nat.not_le.mpr hbl
  have hRc : room_1.cells = 601024 := rfl
  have hRs : room_1.slots = 7293034 := rfl
  have hn1 : vp_in (x4 + 1) L := l_in (c := 1) h4 rfl (by decide)
  have hn2 : vp_in (x4 + 2) L := l_in (c := 2) h4 rfl (by decide)
  have hn3 : vp_in (x4 + 3) L := l_in (c := 3) h4 rfl (by decide)
  have hn4 : vp_in (x4 + 4) L := l_in (c := 4) h4 rfl (by decide)
  have hn5 : vp_in (x4 + 5) L := l_in (c := 5) h4 rfl (by decide)
  have hn6 : vp_in (x4 + 6) L := l_in (c := 6) h4 rfl (by decide)
  have hn7 : vp_in (x4 + 7) L := l_in (c := 7) h4 rfl (by decide)
  refine lv_aload_n hx hb dL_law_1819 rfl (lv_at hl 1 rfl) ?_
  refine lk3_ri I (va_runV (g := F0 m 1820 ls ([.ref xo])) (As := []) (rest := []) ⟨hx, hb, hml, hown, hts⟩ (c_X9_ways l D cy (AC s mo a) G W' xo  I.2.2.1 I.2.2.2.1 I.2.2.2.2.1) (cwV 0 hts gL_law_X9_ways rfl rfl rfl (by decide +kernel) ⟨Nat.le_of_ble_eq_true rfl, Nat.le_of_ble_eq_true rfl⟩) (l_preV I hK hV) rfl rfl hl.1 rfl (lv_room (Nat.le_of_ble_eq_true rfl)) dL_law_1820 ⟨by omega, by omega⟩) (fun r1820 u H locs q1820 hX I => ?_)
  obtain ⟨G1, W1⟩ := u
  have I : LI D cy s xo mo ou a M G1 W1 f g r q H locs := I
  have hX : cX none (chs []) G W' G1 W1 := hX
  refine lv_pop hx hb dL_law_1823 rfl ?_
  refine lv_aload_n hx hb dL_law_1824 rfl (lv_at hl 2 rfl) ?_
  have hI := I.2.2.2.2.2.2.1
  refine lm_i (As := []) (rest := []) I ⟨hx, hb, hml, hown, hts⟩ (c_X10_ways l D cy mo a f g r q  hDM hI) (cwV 0 hts gL_law_X10_ways rfl rfl rfl (by decide +kernel) ⟨Nat.le_of_ble_eq_true rfl, Nat.le_of_ble_eq_true rfl⟩) hK hAM rfl hl.1 rfl (Nat.le_of_ble_eq_true rfl) dL_law_1825 ⟨by omega, by omega⟩ (fun _ _ h9 => by obtain ⟨rfl, h9⟩ := h9; exact hI) (fun r1825 u H locs q1825 I => ?_)
  have ef : u.1 1 = f 1 := by obtain ⟨rfl, -⟩ := q1825; rfl
  have e2_ : u.2.2.1 2 = r 2 := by obtain ⟨rfl, -⟩ := q1825; rfl
  have e3_ : u.2.2.1 3 = r 3 := by obtain ⟨rfl, -⟩ := q1825; rfl
  have e4_ : u.2.2.1 4 = r 4 := by obtain ⟨rfl, -⟩ := q1825; rfl
  have e5_ : u.2.2.1 5 = r 5 := by obtain ⟨rfl, -⟩ := q1825; rfl
  have e6_ : u.2.2.1 6 = r 6 := by obtain ⟨rfl, -⟩ := q1825; rfl
  have e7_ : u.2.2.1 7 = r 7 := by obtain ⟨rfl, -⟩ := q1825; rfl
  have e8_ : u.2.2.1 8 = r 8 := by obtain ⟨rfl, -⟩ := q1825; rfl
  obtain ⟨f1, g1, r1, q1⟩ := u
  have ef : f1 1 = f 1 := ef
  have e2_ : r1 2 = r 2 := e2_
  have e3_ : r1 3 = r 3 := e3_
  have e4_ : r1 4 = r 4 := e4_
  have e5_ : r1 5 = r 5 := e5_
  have e6_ : r1 6 = r 6 := e6_
  have e7_ : r1 7 = r 7 := e7_
  have e8_ : r1 8 = r 8 := e8_
  have I : LI D cy s xo mo ou a M G1 W1 f1 g1 r1 q1 H locs := I
  refine lv_pop hx hb dL_law_1828 rfl ?_
  refine lv_goto (tgt := 2327) hx hb dL_law_1829 (by decide) ?_
  have hR1 : RlJ cy xo G1 W1 f1 r1 := hR.keep I0.2.2.1 I0.2.2.2.1 I0.2.2.2.2.1 hX rfl rfl rfl rfl ef e2_ e3_ e4_ e5_ e6_ e7_ e8_
  refine W.widen (k := C + 7) (n := S + 588) (by omega) (by omega) ?_
  exact kk _ _ _ _ _ _ _ _ _ I hR1 (lv_sub hl [0, 1, 2, 3, 4] rfl)
set_option maxHeartbeats 4000000 in
set_option maxRecDepth 100000 in
theorem lcase_26 {p : Program} {l : Launch} {e : Env} {s : State} {m : MethodId} {below : List Frame} {meth : Method} {c : Code} {b L : Nat} {xs : Nat → Int32} {D : va_G} {cy : Nat → ClassId} {xo mo ou : Nat} {a : Nat → Nat} {M : Option Nat} {G : cG} {W' : va_W} {f : Nat → Int32} {g : Nat → Int64} {r : Nat → Nat → Int32} {q : Nat → Nat → Int64} {H : Heap} {locs : List Loc} {ls : Array Slot} {Q : State → Prop} {C S : Nat} (X : LX p l s m c b L xs D cy mo a) (I : LI D cy s xo mo ou a M G W' f g r q H locs) (hR : RlJ cy xo G W' f r) {x4 : Int32} (h4 : 0 ≤ x4.toInt ∧ x4.toInt + 8 ≤ (L : Int) ∧ L ≤ 4096) (hC : C + 7 ≤ 601024) (hSl : S + 53273 ≤ 7293034) (hl : lv_has ls 8 [(0, .ref b), (1, .ref xo), (2, .ref mo), (3, .ref ou), (4, .int x4)]) (kk : ∀ (G : cG) (W' : va_W) (f : Nat → Int32) (g : Nat → Int64) (r : Nat → Nat → Int32) (q : Nat → Nat → Int64) (H : Heap) (locs : List Loc) (ls : Array Slot), LI D cy s xo mo ou a M G W' f g r q H locs → RlJ cy xo G W' f r → lv_has ls 8 [(0, .ref b), (1, .ref xo), (2, .ref mo), (3, .ref ou), (4, .int x4)] → W p l e room_1 s m #[Value.ref b] below meth c H locs (C + 7) (S + 588) Q (F0 m 2327 ls [])) : W p l e room_1 s m #[Value.ref b] below meth c H locs C S Q (F0 m 1832 ls []) := by
  obtain ⟨⟨hx, hb, hml, hown, hts⟩, ⟨hXs, hbl⟩, ⟨hK, hV, hZ, hXT⟩, hst, hDM, hAM⟩ := id X
  have I0 := I
  have hbA : ¬ AL s b := Nat.not_le.mpr hbl
  have hRc : room_1.cells = 601024 := rfl
  have hRs : room_1.slots = 7293034 := rfl
  have hn1 : vp_in (x4 + 1) L := l_in (c := 1) h4 rfl (by decide)
  have hn2 : vp_in (x4 + 2) L := l_in (c := 2) h4 rfl (by decide)
  have hn3 : vp_in (x4 + 3) L := l_in (c := 3) h4 rfl (by decide)
  have hn4 : vp_in (x4 + 4) L := l_in (c := 4) h4 rfl (by decide)
  have hn5 : vp_in (x4 + 5) L := l_in (c := 5) h4 rfl (by decide)
  have hn6 : vp_in (x4 + 6) L := l_in (c := 6) h4 rfl (by decide)
  have hn7 : vp_in (x4 + 7) L := l_in (c := 7) h4 rfl (by decide)
  refine lv_aload_n hx hb dL_law_1832 rfl (lv_at hl 1 rfl) ?_
  refine lv_aload_n hx hb dL_law_1833 rfl (lv_at hl 0 rfl) ?_
  refine lv_iload hx hb dL_law_1834 (lv_at hl 4 rfl) ?_
  refine lv_iconst (v := 1) hx hb dL_law_1836 (by decide) ?_
  refine lv_iadd hx hb dL_law_1837 ?_
  refine va_sld hx hb hXs hbl hbA I.2.2.2.2.2.2.2.2.1 hn1 dL_law_1838 ?_
  refine lv_aload_n hx hb dL_law_1839 rfl (lv_at hl 0 rfl) ?_
  refine lv_iload hx hb dL_law_1840 (lv_at hl 4 rfl) ?_
  refine lv_iconst (v := 2) hx hb dL_law_1842 (by decide) ?_
  refine lv_iadd hx hb dL_law_1843 ?_
  refine va_sld hx hb hXs hbl hbA I.2.2.2.2.2.2.2.2.1 hn2 dL_law_1844 ?_
  refine lv_aload_n hx hb dL_law_1845 rfl (lv_at hl 0 rfl) ?_
  refine lv_iload hx hb dL_law_1846 (lv_at hl 4 rfl) ?_
  refine lv_iconst (v := 3) hx hb dL_law_1848 (by decide) ?_
  refine lv_iadd hx hb dL_law_1849 ?_
  refine va_sld hx hb hXs hbl hbA I.2.2.2.2.2.2.2.2.1 hn3 dL_law_1850 ?_
  refine lv_aload_n hx hb dL_law_1851 rfl (lv_at hl 3 rfl) ?_
  refine lk3_i I (vx_runSW (g := F0 m 1852 ls ([.ref ou, .int (xs (x4 + 3).toNatClampNeg), .int (xs (x4 + 2).toNatClampNeg), .int (xs (x4 + 1).toNatClampNeg), .ref xo])) (As := [.ref xo, .int (xs (x4 + 1).toNatClampNeg), .int (xs (x4 + 2).toNatClampNeg), .int (xs (x4 + 3).toNatClampNeg), .ref ou]) (rest := []) ⟨hx, hb, hml, hown, hts⟩ (c_L_ghost l hst D cy (AC s mo a) G W' xo ((xs (x4 + 1).toNatClampNeg)) ((xs (x4 + 2).toNatClampNeg)) ((xs (x4 + 3).toNatClampNeg)) ou I.2.2.1 I.2.2.2.1 I.2.2.2.2.1 I.2.2.2.2.2.1) (vx_cwSW 5 hts gL_law_L_ghost rfl rfl rfl (by decide +kernel) ⟨Nat.le_of_ble_eq_true rfl, Nat.le_of_ble_eq_true rfl⟩) (l_preS I hK hV hZ hXT) rfl rfl hl.1 rfl (lv_room (Nat.le_of_ble_eq_true rfl)) dL_law_1852 ⟨by omega, by omega⟩) rfl (fun r1852 u H locs q1852 hX I => ?_)
  obtain ⟨G1, W1⟩ := u
  have I : LI D cy s xo mo ou a M G1 W1 f g r q H locs := I
  have hX : cX none (chs [1]) G W' G1 W1 := hX
  refine lv_istore (lv' := [(5, .int r1852), (0, .ref b), (1, .ref xo), (2, .ref mo), (3, .ref ou), (4, .int x4)]) hx hb dL_law_1855 hl (by decide) rfl (fun ls hl => ?_)
  refine lv_aload_n hx hb dL_law_1857 rfl (lv_at hl 3 rfl) ?_
  refine lv_aload_n hx hb dL_law_1858 rfl (lv_at hl 1 rfl) ?_
  refine lv_iload hx hb dL_law_1859 (lv_at hl 5 rfl) ?_
  refine lv_iconst (v := 1) hx hb dL_law_1861 (by decide) ?_
  refine lv_iadd hx hb dL_law_1862 ?_
  refine va_sld hx hb hXs hbl hbA I.2.2.2.2.2.2.2.2.1 hn1 dL_law_1863 ?_
  refine lv_aload_n hx hb dL_law_1864 rfl (lv_at hl 1 rfl) ?_
  refine lv_iload hx hb dL_law_1865 (lv_at hl 5 rfl) ?_
  refine lv_iconst (v := 2) hx hb dL_law_1867 (by decide) ?_
  refine lv_iadd hx hb dL_law_1868 ?_
  refine va_sld hx hb hXs hbl hbA I.2.2.2.2.2.2.2.2.1 hn2 dL_law_1869 ?_
  refine lv_aload_n hx hb dL_law_1870 rfl (lv_at hl 1 rfl) ?_
  refine lv_iload hx hb dL_law_1871 (lv_at hl 5 rfl) ?_
  refine lv_iconst (v := 3) hx hb dL_law_1873 (by decide) ?_
  refine lv_iadd hx hb dL_law_1874 ?_
  refine va_sld hx hb hXs hbl hbA I.2.2.2.2.2.2.2.2.1 hn3 dL_law_1875 ?_
  have hI := I.2.2.2.2.2.2.1
  refine lm_i (As := [.int (xs (x4 + 1).toNatClampNeg), .int (xs (x4 + 2).toNatClampNeg), .int (xs (x4 + 3).toNatClampNeg)]) (rest := []) I ⟨hx, hb, hml, hown, hts⟩ (c_X10_ghost l D cy mo a f g r q ((xs (x4 + 1).toNatClampNeg)) ((xs (x4 + 2).toNatClampNeg)) ((xs (x4 + 3).toNatClampNeg)) hDM) (cwV 3 hts gL_law_X10_ghost rfl rfl rfl (by decide +kernel) ⟨Nat.le_of_ble_eq_true rfl, Nat.le_of_ble_eq_true rfl⟩) hK hAM rfl hl.1 rfl (Nat.le_of_ble_eq_true rfl) dL_law_1876 ⟨by omega, by omega⟩ (fun _ _ h9 => by obtain ⟨_, _, _, rfl, h9⟩ := h9; exact hI) (fun r1876 u H locs q1876 I => ?_)
  have ef : u.1 1 = f 1 := by obtain ⟨_, _, _, rfl, -⟩ := q1876; rfl
  have e2_ : u.2.2.1 2 = r 2 := by obtain ⟨_, _, _, rfl, -⟩ := q1876; rfl
  have e3_ : u.2.2.1 3 = r 3 := by obtain ⟨_, _, _, rfl, -⟩ := q1876; rfl
  have e4_ : u.2.2.1 4 = r 4 := by obtain ⟨_, _, _, rfl, -⟩ := q1876; rfl
  have e5_ : u.2.2.1 5 = r 5 := by obtain ⟨_, _, _, rfl, -⟩ := q1876; rfl
  have e6_ : u.2.2.1 6 = r 6 := by obtain ⟨_, _, _, rfl, -⟩ := q1876; rfl
  have e7_ : u.2.2.1 7 = r 7 := by obtain ⟨_, _, _, rfl, -⟩ := q1876; rfl
  have e8_ : u.2.2.1 8 = r 8 := by obtain ⟨_, _, _, rfl, -⟩ := q1876; rfl
  obtain ⟨f1, g1, r1, q1⟩ := u
  have ef : f1 1 = f 1 := ef
  have e2_ : r1 2 = r 2 := e2_
  have e3_ : r1 3 = r 3 := e3_
  have e4_ : r1 4 = r 4 := e4_
  have e5_ : r1 5 = r 5 := e5_
  have e6_ : r1 6 = r 6 := e6_
  have e7_ : r1 7 = r 7 := e7_
  have e8_ : r1 8 = r 8 := e8_
  have I : LI D cy s xo mo ou a M G1 W1 f1 g1 r1 q1 H locs := I
  refine lv_istore (lv' := [(6, .int r1876), (5, .int r1852), (0, .ref b), (1, .ref xo), (2, .ref mo), (3, .ref ou), (4, .int x4)]) hx hb dL_law_1879 hl (by decide) rfl (fun ls hl => ?_)
  refine lv_goto (tgt := 2327) hx hb dL_law_1881 (by decide) ?_
  have hR1 : RlJ cy xo G1 W1 f1 r1 := hR.keep I0.2.2.1 I0.2.2.2.1 I0.2.2.2.2.1 hX rfl rfl rfl rfl ef e2_ e3_ e4_ e5_ e6_ e7_ e8_
  refine W.widen (k := C + 7) (n := S + 588) (by omega) (by omega) ?_
  exact kk _ _ _ _ _ _ _ _ _ I hR1 (lv_sub hl [2, 3, 4, 5, 6] rfl)
set_option maxHeartbeats 4000000 in
set_option maxRecDepth 100000 in
theorem lcase_27 {p : Program} {l : Launch} {e : Env} {s : State} {m : MethodId} {below : List Frame} {meth : Method} {c : Code} {b L : Nat} {xs : Nat → Int32} {D : va_G} {cy : Nat → ClassId} {xo mo ou : Nat} {a : Nat → Nat} {M : Option Nat} {G : cG} {W' : va_W} {f : Nat → Int32} {g : Nat → Int64} {r : Nat → Nat → Int32} {q : Nat → Nat → Int64} {H : Heap} {locs : List Loc} {ls : Array Slot} {Q : State → Prop} {C S : Nat} (X : LX p l s m c b L xs D cy mo a) (I : LI D cy s xo mo ou a M G W' f g r q H locs) (hR : RlJ cy xo G W' f r) {x4 : Int32} (h4 : 0 ≤ x4.toInt ∧ x4.toInt + 8 ≤ (L : Int) ∧ L ≤ 4096) (hC : C + 7 ≤ 601024) (hSl : S + 53273 ≤ 7293034) (hl : lv_has ls 8 [(0, .ref b), (1, .ref xo), (2, .ref mo), (3, .ref ou), (4, .int x4)]) (kk : ∀ (G : cG) (W' : va_W) (f : Nat → Int32) (g : Nat → Int64) (r : Nat → Nat → Int32) (q : Nat → Nat → Int64) (H : Heap) (locs : List Loc) (ls : Array Slot), LI D cy s xo mo ou a M G W' f g r q H locs → RlJ cy xo G W' f r → lv_has ls 8 [(0, .ref b), (1, .ref xo), (2, .ref mo), (3, .ref ou), (4, .int x4)] → W p l e room_1 s m #[Value.ref b] below meth c H locs (C + 7) (S + 588) Q (F0 m 2327 ls [])) : W p l e room_1 s m #[Value.ref b] below meth c H locs C S Q (F0 m 1884 ls []) := by
  obtain ⟨⟨hx, hb, hml, hown, hts⟩, ⟨hXs, hbl⟩, ⟨hK, hV, hZ, hXT⟩, hst, hDM, hAM⟩ := id X
  have I0 := I
  have hbA : ¬ AL s b := Nat.not_le.mpr hbl
  have hRc : room_1.cells = 601024 := rfl
  have hRs : room_1.slots = 7293034 := rfl
  have hn1 : vp_in (x4 + 1) L := l_in (c := 1) h4 rfl (by decide)
  have hn2 : vp_in (x4 + 2) L := l_in (c := 2) h4 rfl (by decide)
  have hn3 : vp_in (x4 + 3) L := l_in (c := 3) h4 rfl (by decide)
  have hn4 : vp_in (x4 + 4) L := l_in (c := 4) h4 rfl (by decide)
  have hn5 : vp_in (x4 + 5) L := l_in (c := 5) h4 rfl (by decide)
  have hn6 : vp_in (x4 + 6) L := l_in (c := 6) h4 rfl (by decide)
  have hn7 : vp_in (x4 + 7) L := l_in (c := 7) h4 rfl (by decide)
  refine lv_aload_n hx hb dL_law_1884 rfl (lv_at hl 1 rfl) ?_
  refine lv_aload_n hx hb dL_law_1885 rfl (lv_at hl 0 rfl) ?_
  refine lv_iload hx hb dL_law_1886 (lv_at hl 4 rfl) ?_
  refine lv_iconst (v := 1) hx hb dL_law_1888 (by decide) ?_
  refine lv_iadd hx hb dL_law_1889 ?_
  refine va_sld hx hb hXs hbl hbA I.2.2.2.2.2.2.2.2.1 hn1 dL_law_1890 ?_
  refine lv_aload_n hx hb dL_law_1891 rfl (lv_at hl 0 rfl) ?_
  refine lv_iload hx hb dL_law_1892 (lv_at hl 4 rfl) ?_
  refine lv_iconst (v := 2) hx hb dL_law_1894 (by decide) ?_
  refine lv_iadd hx hb dL_law_1895 ?_
  refine va_sld hx hb hXs hbl hbA I.2.2.2.2.2.2.2.2.1 hn2 dL_law_1896 ?_
  refine lv_aload_n hx hb dL_law_1897 rfl (lv_at hl 0 rfl) ?_
  refine lv_iload hx hb dL_law_1898 (lv_at hl 4 rfl) ?_
  refine lv_iconst (v := 3) hx hb dL_law_1900 (by decide) ?_
  refine lv_iadd hx hb dL_law_1901 ?_
  refine va_sld hx hb hXs hbl hbA I.2.2.2.2.2.2.2.2.1 hn3 dL_law_1902 ?_
  refine lk3_i I (va_runV (g := F0 m 1903 ls ([.int (xs (x4 + 3).toNatClampNeg), .int (xs (x4 + 2).toNatClampNeg), .int (xs (x4 + 1).toNatClampNeg), .ref xo])) (As := [.int (xs (x4 + 1).toNatClampNeg), .int (xs (x4 + 2).toNatClampNeg), .int (xs (x4 + 3).toNatClampNeg)]) (rest := []) ⟨hx, hb, hml, hown, hts⟩ (c_X9_haunts l D cy (AC s mo a) G W' xo ((xs (x4 + 1).toNatClampNeg)) ((xs (x4 + 2).toNatClampNeg)) ((xs (x4 + 3).toNatClampNeg)) I.2.2.1 I.2.2.2.1 I.2.2.2.2.1) (cwV 3 hts gL_law_X9_haunts rfl rfl rfl (by decide +kernel) ⟨Nat.le_of_ble_eq_true rfl, Nat.le_of_ble_eq_true rfl⟩) (l_preE I hK hV hZ) rfl rfl hl.1 rfl (lv_room (Nat.le_of_ble_eq_true rfl)) dL_law_1903 ⟨by omega, by omega⟩) rfl (fun r1903 u H locs q1903 hX I => ?_)
  obtain ⟨G1, W1⟩ := u
  have I : LI D cy s xo mo ou a M G1 W1 f g r q H locs := I
  have hX : cX none (chs [1, 8]) G W' G1 W1 := hX
  refine lv_pop hx hb dL_law_1906 rfl ?_
  refine lv_aload_n hx hb dL_law_1907 rfl (lv_at hl 2 rfl) ?_
  refine lv_aload_n hx hb dL_law_1908 rfl (lv_at hl 0 rfl) ?_
  refine lv_iload hx hb dL_law_1909 (lv_at hl 4 rfl) ?_
  refine lv_iconst (v := 1) hx hb dL_law_1911 (by decide) ?_
  refine lv_iadd hx hb dL_law_1912 ?_
  refine va_sld hx hb hXs hbl hbA I.2.2.2.2.2.2.2.2.1 hn1 dL_law_1913 ?_
  refine lv_aload_n hx hb dL_law_1914 rfl (lv_at hl 0 rfl) ?_
  refine lv_iload hx hb dL_law_1915 (lv_at hl 4 rfl) ?_
  refine lv_iconst (v := 2) hx hb dL_law_1917 (by decide) ?_
  refine lv_iadd hx hb dL_law_1918 ?_
  refine va_sld hx hb hXs hbl hbA I.2.2.2.2.2.2.2.2.1 hn2 dL_law_1919 ?_
  refine lv_aload_n hx hb dL_law_1920 rfl (lv_at hl 0 rfl) ?_
  refine lv_iload hx hb dL_law_1921 (lv_at hl 4 rfl) ?_
  refine lv_iconst (v := 3) hx hb dL_law_1923 (by decide) ?_
  refine lv_iadd hx hb dL_law_1924 ?_
  refine va_sld hx hb hXs hbl hbA I.2.2.2.2.2.2.2.2.1 hn3 dL_law_1925 ?_
  have hI := I.2.2.2.2.2.2.1
  refine lm_i (As := [.int (xs (x4 + 1).toNatClampNeg), .int (xs (x4 + 2).toNatClampNeg), .int (xs (x4 + 3).toNatClampNeg)]) (rest := []) I ⟨hx, hb, hml, hown, hts⟩ (c_X10_haunts l D cy mo a f g r q ((xs (x4 + 1).toNatClampNeg)) ((xs (x4 + 2).toNatClampNeg)) ((xs (x4 + 3).toNatClampNeg)) hDM) (cwV 3 hts gL_law_X10_haunts rfl rfl rfl (by decide +kernel) ⟨Nat.le_of_ble_eq_true rfl, Nat.le_of_ble_eq_true rfl⟩) hK hAM rfl hl.1 rfl (Nat.le_of_ble_eq_true rfl) dL_law_1926 ⟨by omega, by omega⟩ (fun _ _ h9 => by obtain ⟨rfl, h9⟩ := h9; exact hI) (fun r1926 u H locs q1926 I => ?_)
  have ef : u.1 1 = f 1 := by obtain ⟨rfl, -⟩ := q1926; rfl
  have e2_ : u.2.2.1 2 = r 2 := by obtain ⟨rfl, -⟩ := q1926; rfl
  have e3_ : u.2.2.1 3 = r 3 := by obtain ⟨rfl, -⟩ := q1926; rfl
  have e4_ : u.2.2.1 4 = r 4 := by obtain ⟨rfl, -⟩ := q1926; rfl
  have e5_ : u.2.2.1 5 = r 5 := by obtain ⟨rfl, -⟩ := q1926; rfl
  have e6_ : u.2.2.1 6 = r 6 := by obtain ⟨rfl, -⟩ := q1926; rfl
  have e7_ : u.2.2.1 7 = r 7 := by obtain ⟨rfl, -⟩ := q1926; rfl
  have e8_ : u.2.2.1 8 = r 8 := by obtain ⟨rfl, -⟩ := q1926; rfl
  obtain ⟨f1, g1, r1, q1⟩ := u
  have ef : f1 1 = f 1 := ef
  have e2_ : r1 2 = r 2 := e2_
  have e3_ : r1 3 = r 3 := e3_
  have e4_ : r1 4 = r 4 := e4_
  have e5_ : r1 5 = r 5 := e5_
  have e6_ : r1 6 = r 6 := e6_
  have e7_ : r1 7 = r 7 := e7_
  have e8_ : r1 8 = r 8 := e8_
  have I : LI D cy s xo mo ou a M G1 W1 f1 g1 r1 q1 H locs := I
  refine lv_pop hx hb dL_law_1929 rfl ?_
  refine lv_goto (tgt := 2327) hx hb dL_law_1930 (by decide) ?_
  have hR1 : RlJ cy xo G1 W1 f1 r1 := hR.keep I0.2.2.1 I0.2.2.2.1 I0.2.2.2.2.1 hX rfl rfl rfl rfl ef e2_ e3_ e4_ e5_ e6_ e7_ e8_
  refine W.widen (k := C + 7) (n := S + 588) (by omega) (by omega) ?_
  exact kk _ _ _ _ _ _ _ _ _ I hR1 (lv_sub hl [0, 1, 2, 3, 4] rfl)
set_option maxHeartbeats 4000000 in
set_option maxRecDepth 100000 in
theorem lcase_28 {p : Program} {l : Launch} {e : Env} {s : State} {m : MethodId} {below : List Frame} {meth : Method} {c : Code} {b L : Nat} {xs : Nat → Int32} {D : va_G} {cy : Nat → ClassId} {xo mo ou : Nat} {a : Nat → Nat} {M : Option Nat} {G : cG} {W' : va_W} {f : Nat → Int32} {g : Nat → Int64} {r : Nat → Nat → Int32} {q : Nat → Nat → Int64} {H : Heap} {locs : List Loc} {ls : Array Slot} {Q : State → Prop} {C S : Nat} (X : LX p l s m c b L xs D cy mo a) (I : LI D cy s xo mo ou a M G W' f g r q H locs) (hR : RlJ cy xo G W' f r) {x4 : Int32} (h4 : 0 ≤ x4.toInt ∧ x4.toInt + 8 ≤ (L : Int) ∧ L ≤ 4096) (hC : C + 7 ≤ 601024) (hSl : S + 53273 ≤ 7293034) (hl : lv_has ls 8 [(0, .ref b), (1, .ref xo), (2, .ref mo), (3, .ref ou), (4, .int x4)]) (kk : ∀ (G : cG) (W' : va_W) (f : Nat → Int32) (g : Nat → Int64) (r : Nat → Nat → Int32) (q : Nat → Nat → Int64) (H : Heap) (locs : List Loc) (ls : Array Slot), LI D cy s xo mo ou a M G W' f g r q H locs → RlJ cy xo G W' f r → lv_has ls 8 [(0, .ref b), (1, .ref xo), (2, .ref mo), (3, .ref ou), (4, .int x4)] → W p l e room_1 s m #[Value.ref b] below meth c H locs (C + 7) (S + 588) Q (F0 m 2327 ls [])) : W p l e room_1 s m #[Value.ref b] below meth c H locs C S Q (F0 m 1933 ls []) := by
  obtain ⟨⟨hx, hb, hml, hown, hts⟩, ⟨hXs, hbl⟩, ⟨hK, hV, hZ, hXT⟩, hst, hDM, hAM⟩ := id X
  have I0 := I
  have hbA : ¬ AL s b := Nat.not_le.mpr hbl
  have hRc : room_1.cells = 601024 := rfl
  have hRs : room_1.slots = 7293034 := rfl
  have hn1 : vp_in (x4 + 1) L := l_in (c := 1) h4 rfl (by decide)
  have hn2 : vp_in (x4 + 2) L := l_in (c := 2) h4 rfl (by decide)
  have hn3 : vp_in (x4 + 3) L := l_in (c := 3) h4 rfl (by decide)
  have hn4 : vp_in (x4 + 4) L := l_in (c := 4) h4 rfl (by decide)
  have hn5 : vp_in (x4 + 5) L := l_in (c := 5) h4 rfl (by decide)
  have hn6 : vp_in (x4 + 6) L := l_in (c := 6) h4 rfl (by decide)
  have hn7 : vp_in (x4 + 7) L := l_in (c := 7) h4 rfl (by decide)
  refine lv_aload_n hx hb dL_law_1933 rfl (lv_at hl 1 rfl) ?_
  refine lv_aload_n hx hb dL_law_1934 rfl (lv_at hl 0 rfl) ?_
  refine lv_iload hx hb dL_law_1935 (lv_at hl 4 rfl) ?_
  refine lv_iconst (v := 1) hx hb dL_law_1937 (by decide) ?_
  refine lv_iadd hx hb dL_law_1938 ?_
  refine va_sld hx hb hXs hbl hbA I.2.2.2.2.2.2.2.2.1 hn1 dL_law_1939 ?_
  refine lv_aload_n hx hb dL_law_1940 rfl (lv_at hl 0 rfl) ?_
  refine lv_iload hx hb dL_law_1941 (lv_at hl 4 rfl) ?_
  refine lv_iconst (v := 2) hx hb dL_law_1943 (by decide) ?_
  refine lv_iadd hx hb dL_law_1944 ?_
  refine va_sld hx hb hXs hbl hbA I.2.2.2.2.2.2.2.2.1 hn2 dL_law_1945 ?_
  refine lv_aload_n hx hb dL_law_1946 rfl (lv_at hl 0 rfl) ?_
  refine lv_iload hx hb dL_law_1947 (lv_at hl 4 rfl) ?_
  refine lv_iconst (v := 3) hx hb dL_law_1949 (by decide) ?_
  refine lv_iadd hx hb dL_law_1950 ?_
  refine va_sld hx hb hXs hbl hbA I.2.2.2.2.2.2.2.2.1 hn3 dL_law_1951 ?_
  refine lk3_i I (va_runV (g := F0 m 1952 ls ([.int (xs (x4 + 3).toNatClampNeg), .int (xs (x4 + 2).toNatClampNeg), .int (xs (x4 + 1).toNatClampNeg), .ref xo])) (As := [.int (xs (x4 + 1).toNatClampNeg), .int (xs (x4 + 2).toNatClampNeg), .int (xs (x4 + 3).toNatClampNeg)]) (rest := []) ⟨hx, hb, hml, hown, hts⟩ (c_X9_ghosts l D cy (AC s mo a) G W' xo ((xs (x4 + 1).toNatClampNeg)) ((xs (x4 + 2).toNatClampNeg)) ((xs (x4 + 3).toNatClampNeg)) I.2.2.1 I.2.2.2.1 I.2.2.2.2.1) (cwV 3 hts gL_law_X9_ghosts rfl rfl rfl (by decide +kernel) ⟨Nat.le_of_ble_eq_true rfl, Nat.le_of_ble_eq_true rfl⟩) (l_preE I hK hV hZ) rfl rfl hl.1 rfl (lv_room (Nat.le_of_ble_eq_true rfl)) dL_law_1952 ⟨by omega, by omega⟩) rfl (fun r1952 u H locs q1952 hX I => ?_)
  obtain ⟨G1, W1⟩ := u
  have I : LI D cy s xo mo ou a M G1 W1 f g r q H locs := I
  have hX : cX none (chs [1, 8]) G W' G1 W1 := hX
  refine lv_pop hx hb dL_law_1955 rfl ?_
  refine lv_aload_n hx hb dL_law_1956 rfl (lv_at hl 2 rfl) ?_
  refine lv_aload_n hx hb dL_law_1957 rfl (lv_at hl 0 rfl) ?_
  refine lv_iload hx hb dL_law_1958 (lv_at hl 4 rfl) ?_
  refine lv_iconst (v := 1) hx hb dL_law_1960 (by decide) ?_
  refine lv_iadd hx hb dL_law_1961 ?_
  refine va_sld hx hb hXs hbl hbA I.2.2.2.2.2.2.2.2.1 hn1 dL_law_1962 ?_
  refine lv_aload_n hx hb dL_law_1963 rfl (lv_at hl 0 rfl) ?_
  refine lv_iload hx hb dL_law_1964 (lv_at hl 4 rfl) ?_
  refine lv_iconst (v := 2) hx hb dL_law_1966 (by decide) ?_
  refine lv_iadd hx hb dL_law_1967 ?_
  refine va_sld hx hb hXs hbl hbA I.2.2.2.2.2.2.2.2.1 hn2 dL_law_1968 ?_
  refine lv_aload_n hx hb dL_law_1969 rfl (lv_at hl 0 rfl) ?_
  refine lv_iload hx hb dL_law_1970 (lv_at hl 4 rfl) ?_
  refine lv_iconst (v := 3) hx hb dL_law_1972 (by decide) ?_
  refine lv_iadd hx hb dL_law_1973 ?_
  refine va_sld hx hb hXs hbl hbA I.2.2.2.2.2.2.2.2.1 hn3 dL_law_1974 ?_
  have hI := I.2.2.2.2.2.2.1
  refine lm_i (As := [.int (xs (x4 + 1).toNatClampNeg), .int (xs (x4 + 2).toNatClampNeg), .int (xs (x4 + 3).toNatClampNeg)]) (rest := []) I ⟨hx, hb, hml, hown, hts⟩ (c_X10_ghosts l D cy mo a f g r q ((xs (x4 + 1).toNatClampNeg)) ((xs (x4 + 2).toNatClampNeg)) ((xs (x4 + 3).toNatClampNeg)) hDM) (cwV 3 hts gL_law_X10_ghosts rfl rfl rfl (by decide +kernel) ⟨Nat.le_of_ble_eq_true rfl, Nat.le_of_ble_eq_true rfl⟩) hK hAM rfl hl.1 rfl (Nat.le_of_ble_eq_true rfl) dL_law_1975 ⟨by omega, by omega⟩ (fun _ _ h9 => by obtain ⟨rfl, h9⟩ := h9; exact hI) (fun r1975 u H locs q1975 I => ?_)
  have ef : u.1 1 = f 1 := by obtain ⟨rfl, -⟩ := q1975; rfl
  have e2_ : u.2.2.1 2 = r 2 := by obtain ⟨rfl, -⟩ := q1975; rfl
  have e3_ : u.2.2.1 3 = r 3 := by obtain ⟨rfl, -⟩ := q1975; rfl
  have e4_ : u.2.2.1 4 = r 4 := by obtain ⟨rfl, -⟩ := q1975; rfl
  have e5_ : u.2.2.1 5 = r 5 := by obtain ⟨rfl, -⟩ := q1975; rfl
  have e6_ : u.2.2.1 6 = r 6 := by obtain ⟨rfl, -⟩ := q1975; rfl
  have e7_ : u.2.2.1 7 = r 7 := by obtain ⟨rfl, -⟩ := q1975; rfl
  have e8_ : u.2.2.1 8 = r 8 := by obtain ⟨rfl, -⟩ := q1975; rfl
  obtain ⟨f1, g1, r1, q1⟩ := u
  have ef : f1 1 = f 1 := ef
  have e2_ : r1 2 = r 2 := e2_
  have e3_ : r1 3 = r 3 := e3_
  have e4_ : r1 4 = r 4 := e4_
  have e5_ : r1 5 = r 5 := e5_
  have e6_ : r1 6 = r 6 := e6_
  have e7_ : r1 7 = r 7 := e7_
  have e8_ : r1 8 = r 8 := e8_
  have I : LI D cy s xo mo ou a M G1 W1 f1 g1 r1 q1 H locs := I
  refine lv_pop hx hb dL_law_1978 rfl ?_
  refine lv_goto (tgt := 2327) hx hb dL_law_1979 (by decide) ?_
  have hR1 : RlJ cy xo G1 W1 f1 r1 := hR.keep I0.2.2.1 I0.2.2.2.1 I0.2.2.2.2.1 hX rfl rfl rfl rfl ef e2_ e3_ e4_ e5_ e6_ e7_ e8_
  refine W.widen (k := C + 7) (n := S + 588) (by omega) (by omega) ?_
  exact kk _ _ _ _ _ _ _ _ _ I hR1 (lv_sub hl [0, 1, 2, 3, 4] rfl)
set_option maxHeartbeats 4000000 in
set_option maxRecDepth 100000 in
theorem lcase_29 {p : Program} {l : Launch} {e : Env} {s : State} {m : MethodId} {below : List Frame} {meth : Method} {c : Code} {b L : Nat} {xs : Nat → Int32} {D : va_G} {cy : Nat → ClassId} {xo mo ou : Nat} {a : Nat → Nat} {M : Option Nat} {G : cG} {W' : va_W} {f : Nat → Int32} {g : Nat → Int64} {r : Nat → Nat → Int32} {q : Nat → Nat → Int64} {H : Heap} {locs : List Loc} {ls : Array Slot} {Q : State → Prop} {C S : Nat} (X : LX p l s m c b L xs D cy mo a) (I : LI D cy s xo mo ou a M G W' f g r q H locs) (hR : RlJ cy xo G W' f r) {x4 : Int32} (h4 : 0 ≤ x4.toInt ∧ x4.toInt + 8 ≤ (L : Int) ∧ L ≤ 4096) (hC : C + 7 ≤ 601024) (hSl : S + 53273 ≤ 7293034) (hl : lv_has ls 8 [(0, .ref b), (1, .ref xo), (2, .ref mo), (3, .ref ou), (4, .int x4)]) (kk : ∀ (G : cG) (W' : va_W) (f : Nat → Int32) (g : Nat → Int64) (r : Nat → Nat → Int32) (q : Nat → Nat → Int64) (H : Heap) (locs : List Loc) (ls : Array Slot), LI D cy s xo mo ou a M G W' f g r q H locs → RlJ cy xo G W' f r → lv_has ls 8 [(0, .ref b), (1, .ref xo), (2, .ref mo), (3, .ref ou), (4, .int x4)] → W p l e room_1 s m #[Value.ref b] below meth c H locs (C + 7) (S + 588) Q (F0 m 2327 ls [])) : W p l e room_1 s m #[Value.ref b] below meth c H locs C S Q (F0 m 1982 ls []) := by
  obtain ⟨⟨hx, hb, hml, hown, hts⟩, ⟨hXs, hbl⟩, ⟨hK, hV, hZ, hXT⟩, hst, hDM, hAM⟩ := id X
  have I0 := I
  have hbA : ¬ AL s b := Nat.not_le.mpr hbl
  have hRc : room_1.cells = 601024 := rfl
  have hRs : room_1.slots = 7293034 := rfl
  have hn1 : vp_in (x4 + 1) L := l_in (c := 1) h4 rfl (by decide)
  have hn2 : vp_in (x4 + 2) L := l_in (c := 2) h4 rfl (by decide)
  have hn3 : vp_in (x4 + 3) L := l_in (c := 3) h4 rfl (by decide)
  have hn4 : vp_in (x4 + 4) L := l_in (c := 4) h4 rfl (by decide)
  have hn5 : vp_in (x4 + 5) L := l_in (c := 5) h4 rfl (by decide)
  have hn6 : vp_in (x4 + 6) L := l_in (c := 6) h4 rfl (by decide)
  have hn7 : vp_in (x4 + 7) L := l_in (c := 7) h4 rfl (by decide)
  refine lv_aload_n hx hb dL_law_1982 rfl (lv_at hl 1 rfl) ?_
  refine lv_aload_n hx hb dL_law_1983 rfl (lv_at hl 0 rfl) ?_
  refine lv_iload hx hb dL_law_1984 (lv_at hl 4 rfl) ?_
  refine lv_iconst (v := 1) hx hb dL_law_1986 (by decide) ?_
  refine lv_iadd hx hb dL_law_1987 ?_
  refine va_sld hx hb hXs hbl hbA I.2.2.2.2.2.2.2.2.1 hn1 dL_law_1988 ?_
  refine lv_aload_n hx hb dL_law_1989 rfl (lv_at hl 0 rfl) ?_
  refine lv_iload hx hb dL_law_1990 (lv_at hl 4 rfl) ?_
  refine lv_iconst (v := 2) hx hb dL_law_1992 (by decide) ?_
  refine lv_iadd hx hb dL_law_1993 ?_
  refine va_sld hx hb hXs hbl hbA I.2.2.2.2.2.2.2.2.1 hn2 dL_law_1994 ?_
  refine lv_aload_n hx hb dL_law_1995 rfl (lv_at hl 0 rfl) ?_
  refine lv_iload hx hb dL_law_1996 (lv_at hl 4 rfl) ?_
  refine lv_iconst (v := 3) hx hb dL_law_1998 (by decide) ?_
  refine lv_iadd hx hb dL_law_1999 ?_
  refine va_sld hx hb hXs hbl hbA I.2.2.2.2.2.2.2.2.1 hn3 dL_law_2000 ?_
  refine lv_aload_n hx hb dL_law_2001 rfl (lv_at hl 0 rfl) ?_
  refine lv_iload hx hb dL_law_2002 (lv_at hl 4 rfl) ?_
  refine lv_iconst (v := 4) hx hb dL_law_2004 (by decide) ?_
  refine lv_iadd hx hb dL_law_2005 ?_
  refine va_sld hx hb hXs hbl hbA I.2.2.2.2.2.2.2.2.1 hn4 dL_law_2006 ?_
  refine lv_i2l (v := ((xs (x4 + 4).toNatClampNeg)).toInt64) hx hb dL_law_2007 rfl ?_
  refine lv_bipush (v := 32) hx hb dL_law_2008 (by decide) ?_
  refine lv_lshl (v := (((xs (x4 + 4).toNatClampNeg)).toInt64) <<< ((32 : Int32).toInt64 &&& 63)) hx hb dL_law_2010 rfl ?_
  refine lv_aload_n hx hb dL_law_2011 rfl (lv_at hl 0 rfl) ?_
  refine lv_iload hx hb dL_law_2012 (lv_at hl 4 rfl) ?_
  refine lv_iconst (v := 5) hx hb dL_law_2014 (by decide) ?_
  refine lv_iadd hx hb dL_law_2015 ?_
  refine va_sld hx hb hXs hbl hbA I.2.2.2.2.2.2.2.2.1 hn5 dL_law_2016 ?_
  refine lv_i2l (v := ((xs (x4 + 5).toNatClampNeg)).toInt64) hx hb dL_law_2017 rfl ?_
  refine lv_ldc2 hx hb hown (hts (.constantLong RL 45 (4294967295)) (by decide +kernel)) dL_law_2018 ?_
  refine lv_land hx hb dL_law_2021 ?_
  refine lv_topl (fun v2021 e2021 => ?_)
  refine lv_lor hx hb dL_law_2022 ?_
  refine lv_topl (fun v2022 e2022 => ?_)
  refine lk3_i I (va_runV (g := F0 m 2023 ls ([.long v2022, .int (xs (x4 + 3).toNatClampNeg), .int (xs (x4 + 2).toNatClampNeg), .int (xs (x4 + 1).toNatClampNeg), .ref xo])) (As := [.int (xs (x4 + 1).toNatClampNeg), .int (xs (x4 + 2).toNatClampNeg), .int (xs (x4 + 3).toNatClampNeg), .long v2022]) (rest := []) ⟨hx, hb, hml, hown, hts⟩ (c_X9_keep_w l D cy (AC s mo a) G W' xo ((xs (x4 + 1).toNatClampNeg)) ((xs (x4 + 2).toNatClampNeg)) ((xs (x4 + 3).toNatClampNeg)) v2022 I.2.2.1 I.2.2.2.1 I.2.2.2.2.1) (cwV 4 hts gL_law_X9_keep rfl rfl rfl (by decide +kernel) ⟨Nat.le_of_ble_eq_true rfl, Nat.le_of_ble_eq_true rfl⟩) (l_preV I hK hV) rfl rfl hl.1 rfl (lv_room (Nat.le_of_ble_eq_true rfl)) dL_law_2023 ⟨by omega, by omega⟩) rfl (fun r2023 u H locs q2023 hX I => ?_)
  obtain ⟨G1, W1⟩ := u
  have I : LI D cy s xo mo ou a M G1 W1 f g r q H locs := I
  have hX : cX none (chs [10, 16]) G W' G1 W1 := hX
  refine lv_pop hx hb dL_law_2026 rfl ?_
  refine lv_aload_n hx hb dL_law_2027 rfl (lv_at hl 2 rfl) ?_
  refine lv_aload_n hx hb dL_law_2028 rfl (lv_at hl 0 rfl) ?_
  refine lv_iload hx hb dL_law_2029 (lv_at hl 4 rfl) ?_
  refine lv_iconst (v := 1) hx hb dL_law_2031 (by decide) ?_
  refine lv_iadd hx hb dL_law_2032 ?_
  refine va_sld hx hb hXs hbl hbA I.2.2.2.2.2.2.2.2.1 hn1 dL_law_2033 ?_
  refine lv_aload_n hx hb dL_law_2034 rfl (lv_at hl 0 rfl) ?_
  refine lv_iload hx hb dL_law_2035 (lv_at hl 4 rfl) ?_
  refine lv_iconst (v := 2) hx hb dL_law_2037 (by decide) ?_
  refine lv_iadd hx hb dL_law_2038 ?_
  refine va_sld hx hb hXs hbl hbA I.2.2.2.2.2.2.2.2.1 hn2 dL_law_2039 ?_
  refine lv_aload_n hx hb dL_law_2040 rfl (lv_at hl 0 rfl) ?_
  refine lv_iload hx hb dL_law_2041 (lv_at hl 4 rfl) ?_
  refine lv_iconst (v := 3) hx hb dL_law_2043 (by decide) ?_
  refine lv_iadd hx hb dL_law_2044 ?_
  refine va_sld hx hb hXs hbl hbA I.2.2.2.2.2.2.2.2.1 hn3 dL_law_2045 ?_
  refine lv_aload_n hx hb dL_law_2046 rfl (lv_at hl 0 rfl) ?_
  refine lv_iload hx hb dL_law_2047 (lv_at hl 4 rfl) ?_
  refine lv_iconst (v := 4) hx hb dL_law_2049 (by decide) ?_
  refine lv_iadd hx hb dL_law_2050 ?_
  refine va_sld hx hb hXs hbl hbA I.2.2.2.2.2.2.2.2.1 hn4 dL_law_2051 ?_
  refine lv_i2l (v := ((xs (x4 + 4).toNatClampNeg)).toInt64) hx hb dL_law_2052 rfl ?_
  refine lv_bipush (v := 32) hx hb dL_law_2053 (by decide) ?_
  refine lv_lshl (v := (((xs (x4 + 4).toNatClampNeg)).toInt64) <<< ((32 : Int32).toInt64 &&& 63)) hx hb dL_law_2055 rfl ?_
  refine lv_aload_n hx hb dL_law_2056 rfl (lv_at hl 0 rfl) ?_
  refine lv_iload hx hb dL_law_2057 (lv_at hl 4 rfl) ?_
  refine lv_iconst (v := 5) hx hb dL_law_2059 (by decide) ?_
  refine lv_iadd hx hb dL_law_2060 ?_
  refine va_sld hx hb hXs hbl hbA I.2.2.2.2.2.2.2.2.1 hn5 dL_law_2061 ?_
  refine lv_i2l (v := ((xs (x4 + 5).toNatClampNeg)).toInt64) hx hb dL_law_2062 rfl ?_
  refine lv_ldc2 hx hb hown (hts (.constantLong RL 45 (4294967295)) (by decide +kernel)) dL_law_2063 ?_
  refine lv_land hx hb dL_law_2066 ?_
  refine lv_topl (fun v2066 e2066 => ?_)
  refine lv_lor hx hb dL_law_2067 ?_
  refine lv_topl (fun v2067 e2067 => ?_)
  have hI := I.2.2.2.2.2.2.1
  refine lm_i (As := [.int (xs (x4 + 1).toNatClampNeg), .int (xs (x4 + 2).toNatClampNeg), .int (xs (x4 + 3).toNatClampNeg), .long v2067]) (rest := []) I ⟨hx, hb, hml, hown, hts⟩ (c_X10_keep l D cy mo a f g r q ((xs (x4 + 1).toNatClampNeg)) ((xs (x4 + 2).toNatClampNeg)) ((xs (x4 + 3).toNatClampNeg)) v2067 hDM hI) (cwV 4 hts gL_law_X10_keep rfl rfl rfl (by decide +kernel) ⟨Nat.le_of_ble_eq_true rfl, Nat.le_of_ble_eq_true rfl⟩) hK hAM rfl hl.1 rfl (Nat.le_of_ble_eq_true rfl) dL_law_2068 ⟨by omega, by omega⟩ (fun _ _ h9 => by obtain ⟨_, _, _, _, _, rfl, h9⟩ := h9; exact h9) (fun r2068 u H locs q2068 I => ?_)
  have ef : u.1 1 = f 1 := by obtain ⟨_, _, _, _, _, rfl, -⟩ := q2068; rfl
  have e2_ : u.2.2.1 2 = r 2 := by obtain ⟨_, _, _, _, _, rfl, -⟩ := q2068; rfl
  have e3_ : u.2.2.1 3 = r 3 := by obtain ⟨_, _, _, _, _, rfl, -⟩ := q2068; rfl
  have e4_ : u.2.2.1 4 = r 4 := by obtain ⟨_, _, _, _, _, rfl, -⟩ := q2068; rfl
  have e5_ : u.2.2.1 5 = r 5 := by obtain ⟨_, _, _, _, _, rfl, -⟩ := q2068; rfl
  have e6_ : u.2.2.1 6 = r 6 := by obtain ⟨_, _, _, _, _, rfl, -⟩ := q2068; rfl
  have e7_ : u.2.2.1 7 = r 7 := by obtain ⟨_, _, _, _, _, rfl, -⟩ := q2068; rfl
  have e8_ : u.2.2.1 8 = r 8 := by obtain ⟨_, _, _, _, _, rfl, -⟩ := q2068; rfl
  obtain ⟨f1, g1, r1, q1⟩ := u
  have ef : f1 1 = f 1 := ef
  have e2_ : r1 2 = r 2 := e2_
  have e3_ : r1 3 = r 3 := e3_
  have e4_ : r1 4 = r 4 := e4_
  have e5_ : r1 5 = r 5 := e5_
  have e6_ : r1 6 = r 6 := e6_
  have e7_ : r1 7 = r 7 := e7_
  have e8_ : r1 8 = r 8 := e8_
  have I : LI D cy s xo mo ou a M G1 W1 f1 g1 r1 q1 H locs := I
  refine lv_pop hx hb dL_law_2071 rfl ?_
  refine lv_goto (tgt := 2327) hx hb dL_law_2072 (by decide) ?_
  have hR1 : RlJ cy xo G1 W1 f1 r1 := hR.keep I0.2.2.1 I0.2.2.2.1 I0.2.2.2.2.1 hX rfl rfl rfl rfl ef e2_ e3_ e4_ e5_ e6_ e7_ e8_
  refine W.widen (k := C + 7) (n := S + 588) (by omega) (by omega) ?_
  exact kk _ _ _ _ _ _ _ _ _ I hR1 (lv_sub hl [0, 1, 2, 3, 4] rfl)
set_option maxHeartbeats 4000000 in
set_option maxRecDepth 100000 in
theorem lcase_30 {p : Program} {l : Launch} {e : Env} {s : State} {m : MethodId} {below : List Frame} {meth : Method} {c : Code} {b L : Nat} {xs : Nat → Int32} {D : va_G} {cy : Nat → ClassId} {xo mo ou : Nat} {a : Nat → Nat} {M : Option Nat} {G : cG} {W' : va_W} {f : Nat → Int32} {g : Nat → Int64} {r : Nat → Nat → Int32} {q : Nat → Nat → Int64} {H : Heap} {locs : List Loc} {ls : Array Slot} {Q : State → Prop} {C S : Nat} (X : LX p l s m c b L xs D cy mo a) (I : LI D cy s xo mo ou a M G W' f g r q H locs) (hR : RlJ cy xo G W' f r) {x4 : Int32} (h4 : 0 ≤ x4.toInt ∧ x4.toInt + 8 ≤ (L : Int) ∧ L ≤ 4096) (hC : C + 7 ≤ 601024) (hSl : S + 53273 ≤ 7293034) (hl : lv_has ls 8 [(0, .ref b), (1, .ref xo), (2, .ref mo), (3, .ref ou), (4, .int x4)]) (kk : ∀ (G : cG) (W' : va_W) (f : Nat → Int32) (g : Nat → Int64) (r : Nat → Nat → Int32) (q : Nat → Nat → Int64) (H : Heap) (locs : List Loc) (ls : Array Slot), LI D cy s xo mo ou a M G W' f g r q H locs → RlJ cy xo G W' f r → lv_has ls 8 [(0, .ref b), (1, .ref xo), (2, .ref mo), (3, .ref ou), (4, .int x4)] → W p l e room_1 s m #[Value.ref b] below meth c H locs (C + 7) (S + 588) Q (F0 m 2327 ls [])) : W p l e room_1 s m #[Value.ref b] below meth c H locs C S Q (F0 m 2075 ls []) := by
  obtain ⟨⟨hx, hb, hml, hown, hts⟩, ⟨hXs, hbl⟩, ⟨hK, hV, hZ, hXT⟩, hst, hDM, hAM⟩ := id X
  have I0 := I
  have hbA : ¬ AL s b := Nat.not_le.mpr hbl
  have hRc : room_1.cells = 601024 := rfl
  have hRs : room_1.slots = 7293034 := rfl
  have hn1 : vp_in (x4 + 1) L := l_in (c := 1) h4 rfl (by decide)
  have hn2 : vp_in (x4 + 2) L := l_in (c := 2) h4 rfl (by decide)
  have hn3 : vp_in (x4 + 3) L := l_in (c := 3) h4 rfl (by decide)
  have hn4 : vp_in (x4 + 4) L := l_in (c := 4) h4 rfl (by decide)
  have hn5 : vp_in (x4 + 5) L := l_in (c := 5) h4 rfl (by decide)
  have hn6 : vp_in (x4 + 6) L := l_in (c := 6) h4 rfl (by decide)
  have hn7 : vp_in (x4 + 7) L := l_in (c := 7) h4 rfl (by decide)
  refine lv_aload_n hx hb dL_law_2075 rfl (lv_at hl 1 rfl) ?_
  refine lv_aload_n hx hb dL_law_2076 rfl (lv_at hl 0 rfl) ?_
  refine lv_iload hx hb dL_law_2077 (lv_at hl 4 rfl) ?_
  refine lv_iconst (v := 1) hx hb dL_law_2079 (by decide) ?_
  refine lv_iadd hx hb dL_law_2080 ?_
  refine va_sld hx hb hXs hbl hbA I.2.2.2.2.2.2.2.2.1 hn1 dL_law_2081 ?_
  refine lv_aload_n hx hb dL_law_2082 rfl (lv_at hl 0 rfl) ?_
  refine lv_iload hx hb dL_law_2083 (lv_at hl 4 rfl) ?_
  refine lv_iconst (v := 2) hx hb dL_law_2085 (by decide) ?_
  refine lv_iadd hx hb dL_law_2086 ?_
  refine va_sld hx hb hXs hbl hbA I.2.2.2.2.2.2.2.2.1 hn2 dL_law_2087 ?_
  refine lv_aload_n hx hb dL_law_2088 rfl (lv_at hl 0 rfl) ?_
  refine lv_iload hx hb dL_law_2089 (lv_at hl 4 rfl) ?_
  refine lv_iconst (v := 3) hx hb dL_law_2091 (by decide) ?_
  refine lv_iadd hx hb dL_law_2092 ?_
  refine va_sld hx hb hXs hbl hbA I.2.2.2.2.2.2.2.2.1 hn3 dL_law_2093 ?_
  refine lk3_i I (va_runV (g := F0 m 2094 ls ([.int (xs (x4 + 3).toNatClampNeg), .int (xs (x4 + 2).toNatClampNeg), .int (xs (x4 + 1).toNatClampNeg), .ref xo])) (As := [.int (xs (x4 + 1).toNatClampNeg), .int (xs (x4 + 2).toNatClampNeg), .int (xs (x4 + 3).toNatClampNeg)]) (rest := []) ⟨hx, hb, hml, hown, hts⟩ (c_X9_make l D cy (AC s mo a) G W' xo ((xs (x4 + 1).toNatClampNeg)) ((xs (x4 + 2).toNatClampNeg)) ((xs (x4 + 3).toNatClampNeg)) I.2.2.1 I.2.2.2.1 I.2.2.2.2.1) (cwV 3 hts gL_law_X9_make rfl rfl rfl (by decide +kernel) ⟨Nat.le_of_ble_eq_true rfl, Nat.le_of_ble_eq_true rfl⟩) (l_preV I hK hV) rfl rfl hl.1 rfl (lv_room (Nat.le_of_ble_eq_true rfl)) dL_law_2094 ⟨by omega, by omega⟩) rfl (fun r2094 u H locs q2094 hX I => ?_)
  obtain ⟨G1, W1⟩ := u
  have I : LI D cy s xo mo ou a M G1 W1 f g r q H locs := I
  have hX : cX none (chs [10]) G W' G1 W1 := hX
  refine lv_pop hx hb dL_law_2097 rfl ?_
  refine lv_aload_n hx hb dL_law_2098 rfl (lv_at hl 2 rfl) ?_
  refine lv_aload_n hx hb dL_law_2099 rfl (lv_at hl 0 rfl) ?_
  refine lv_iload hx hb dL_law_2100 (lv_at hl 4 rfl) ?_
  refine lv_iconst (v := 1) hx hb dL_law_2102 (by decide) ?_
  refine lv_iadd hx hb dL_law_2103 ?_
  refine va_sld hx hb hXs hbl hbA I.2.2.2.2.2.2.2.2.1 hn1 dL_law_2104 ?_
  refine lv_aload_n hx hb dL_law_2105 rfl (lv_at hl 0 rfl) ?_
  refine lv_iload hx hb dL_law_2106 (lv_at hl 4 rfl) ?_
  refine lv_iconst (v := 2) hx hb dL_law_2108 (by decide) ?_
  refine lv_iadd hx hb dL_law_2109 ?_
  refine va_sld hx hb hXs hbl hbA I.2.2.2.2.2.2.2.2.1 hn2 dL_law_2110 ?_
  refine lv_aload_n hx hb dL_law_2111 rfl (lv_at hl 0 rfl) ?_
  refine lv_iload hx hb dL_law_2112 (lv_at hl 4 rfl) ?_
  refine lv_iconst (v := 3) hx hb dL_law_2114 (by decide) ?_
  refine lv_iadd hx hb dL_law_2115 ?_
  refine va_sld hx hb hXs hbl hbA I.2.2.2.2.2.2.2.2.1 hn3 dL_law_2116 ?_
  have hI := I.2.2.2.2.2.2.1
  refine lm_i (As := [.int (xs (x4 + 1).toNatClampNeg), .int (xs (x4 + 2).toNatClampNeg), .int (xs (x4 + 3).toNatClampNeg)]) (rest := []) I ⟨hx, hb, hml, hown, hts⟩ (c_X10_make l D cy mo a f g r q ((xs (x4 + 1).toNatClampNeg)) ((xs (x4 + 2).toNatClampNeg)) ((xs (x4 + 3).toNatClampNeg)) hDM hI) (cwV 3 hts gL_law_X10_make rfl rfl rfl (by decide +kernel) ⟨Nat.le_of_ble_eq_true rfl, Nat.le_of_ble_eq_true rfl⟩) hK hAM rfl hl.1 rfl (Nat.le_of_ble_eq_true rfl) dL_law_2117 ⟨by omega, by omega⟩ (fun _ _ h9 => by obtain ⟨_, _, _, rfl, h9⟩ := h9; exact h9.2) (fun r2117 u H locs q2117 I => ?_)
  have ef : u.1 1 = f 1 := by obtain ⟨_, _, _, rfl, -⟩ := q2117; rfl
  have e2_ : u.2.2.1 2 = r 2 := by obtain ⟨_, _, _, rfl, -⟩ := q2117; rfl
  have e3_ : u.2.2.1 3 = r 3 := by obtain ⟨_, _, _, rfl, -⟩ := q2117; rfl
  have e4_ : u.2.2.1 4 = r 4 := by obtain ⟨_, _, _, rfl, -⟩ := q2117; rfl
  have e5_ : u.2.2.1 5 = r 5 := by obtain ⟨_, _, _, rfl, -⟩ := q2117; rfl
  have e6_ : u.2.2.1 6 = r 6 := by obtain ⟨_, _, _, rfl, -⟩ := q2117; rfl
  have e7_ : u.2.2.1 7 = r 7 := by obtain ⟨_, _, _, rfl, -⟩ := q2117; rfl
  have e8_ : u.2.2.1 8 = r 8 := by obtain ⟨_, _, _, rfl, -⟩ := q2117; rfl
  obtain ⟨f1, g1, r1, q1⟩ := u
  have ef : f1 1 = f 1 := ef
  have e2_ : r1 2 = r 2 := e2_
  have e3_ : r1 3 = r 3 := e3_
  have e4_ : r1 4 = r 4 := e4_
  have e5_ : r1 5 = r 5 := e5_
  have e6_ : r1 6 = r 6 := e6_
  have e7_ : r1 7 = r 7 := e7_
  have e8_ : r1 8 = r 8 := e8_
  have I : LI D cy s xo mo ou a M G1 W1 f1 g1 r1 q1 H locs := I
  refine lv_pop hx hb dL_law_2120 rfl ?_
  refine lv_goto (tgt := 2327) hx hb dL_law_2121 (by decide) ?_
  have hR1 : RlJ cy xo G1 W1 f1 r1 := hR.keep I0.2.2.1 I0.2.2.2.1 I0.2.2.2.2.1 hX rfl rfl rfl rfl ef e2_ e3_ e4_ e5_ e6_ e7_ e8_
  refine W.widen (k := C + 7) (n := S + 588) (by omega) (by omega) ?_
  exact kk _ _ _ _ _ _ _ _ _ I hR1 (lv_sub hl [0, 1, 2, 3, 4] rfl)
set_option maxHeartbeats 4000000 in
set_option maxRecDepth 100000 in
theorem lcase_31 {p : Program} {l : Launch} {e : Env} {s : State} {m : MethodId} {below : List Frame} {meth : Method} {c : Code} {b L : Nat} {xs : Nat → Int32} {D : va_G} {cy : Nat → ClassId} {xo mo ou : Nat} {a : Nat → Nat} {M : Option Nat} {G : cG} {W' : va_W} {f : Nat → Int32} {g : Nat → Int64} {r : Nat → Nat → Int32} {q : Nat → Nat → Int64} {H : Heap} {locs : List Loc} {ls : Array Slot} {Q : State → Prop} {C S : Nat} (X : LX p l s m c b L xs D cy mo a) (I : LI D cy s xo mo ou a M G W' f g r q H locs) (hR : RlJ cy xo G W' f r) {x4 : Int32} (h4 : 0 ≤ x4.toInt ∧ x4.toInt + 8 ≤ (L : Int) ∧ L ≤ 4096) (hC : C + 7 ≤ 601024) (hSl : S + 53273 ≤ 7293034) (hl : lv_has ls 8 [(0, .ref b), (1, .ref xo), (2, .ref mo), (3, .ref ou), (4, .int x4)]) (kk : ∀ (G : cG) (W' : va_W) (f : Nat → Int32) (g : Nat → Int64) (r : Nat → Nat → Int32) (q : Nat → Nat → Int64) (H : Heap) (locs : List Loc) (ls : Array Slot), LI D cy s xo mo ou a M G W' f g r q H locs → RlJ cy xo G W' f r → lv_has ls 8 [(0, .ref b), (1, .ref xo), (2, .ref mo), (3, .ref ou), (4, .int x4)] → W p l e room_1 s m #[Value.ref b] below meth c H locs (C + 7) (S + 588) Q (F0 m 2327 ls [])) : W p l e room_1 s m #[Value.ref b] below meth c H locs C S Q (F0 m 2124 ls []) := by
  obtain ⟨⟨hx, hb, hml, hown, hts⟩, ⟨hXs, hbl⟩, ⟨hK, hV, hZ, hXT⟩, hst, hDM, hAM⟩ := id X
  have I0 := I
  have hbA : ¬ AL s b := Nat.not_le.mpr hbl
  have hRc : room_1.cells = 601024 := rfl
  have hRs : room_1.slots = 7293034 := rfl
  have hn1 : vp_in (x4 + 1) L := l_in (c := 1) h4 rfl (by decide)
  have hn2 : vp_in (x4 + 2) L := l_in (c := 2) h4 rfl (by decide)
  have hn3 : vp_in (x4 + 3) L := l_in (c := 3) h4 rfl (by decide)
  have hn4 : vp_in (x4 + 4) L := l_in (c := 4) h4 rfl (by decide)
  have hn5 : vp_in (x4 + 5) L := l_in (c := 5) h4 rfl (by decide)
  have hn6 : vp_in (x4 + 6) L := l_in (c := 6) h4 rfl (by decide)
  have hn7 : vp_in (x4 + 7) L := l_in (c := 7) h4 rfl (by decide)
  refine lv_aload_n hx hb dL_law_2124 rfl (lv_at hl 1 rfl) ?_
  refine lv_aload_n hx hb dL_law_2125 rfl (lv_at hl 0 rfl) ?_
  refine lv_iload hx hb dL_law_2126 (lv_at hl 4 rfl) ?_
  refine lv_iconst (v := 1) hx hb dL_law_2128 (by decide) ?_
  refine lv_iadd hx hb dL_law_2129 ?_
  refine va_sld hx hb hXs hbl hbA I.2.2.2.2.2.2.2.2.1 hn1 dL_law_2130 ?_
  refine lv_aload_n hx hb dL_law_2131 rfl (lv_at hl 0 rfl) ?_
  refine lv_iload hx hb dL_law_2132 (lv_at hl 4 rfl) ?_
  refine lv_iconst (v := 2) hx hb dL_law_2134 (by decide) ?_
  refine lv_iadd hx hb dL_law_2135 ?_
  refine va_sld hx hb hXs hbl hbA I.2.2.2.2.2.2.2.2.1 hn2 dL_law_2136 ?_
  refine lv_aload_n hx hb dL_law_2137 rfl (lv_at hl 3 rfl) ?_
  refine lk3_i I (vx_runSW (g := F0 m 2138 ls ([.ref ou, .int (xs (x4 + 2).toNatClampNeg), .int (xs (x4 + 1).toNatClampNeg), .ref xo])) (As := [.ref xo, .int (xs (x4 + 1).toNatClampNeg), .int (xs (x4 + 2).toNatClampNeg), .ref ou]) (rest := []) ⟨hx, hb, hml, hown, hts⟩ (c_L_element l hst D cy (AC s mo a) G W' xo ((xs (x4 + 1).toNatClampNeg)) ((xs (x4 + 2).toNatClampNeg)) ou I.2.2.1 I.2.2.2.1 I.2.2.2.2.1 I.2.2.2.2.2.1) (vx_cwSW 4 hts gL_law_L_element rfl rfl rfl (by decide +kernel) ⟨Nat.le_of_ble_eq_true rfl, Nat.le_of_ble_eq_true rfl⟩) (l_preS I hK hV hZ hXT) rfl rfl hl.1 rfl (lv_room (Nat.le_of_ble_eq_true rfl)) dL_law_2138 ⟨by omega, by omega⟩) rfl (fun r2138 u H locs q2138 hX I => ?_)
  obtain ⟨G1, W1⟩ := u
  have I : LI D cy s xo mo ou a M G1 W1 f g r q H locs := I
  have hX : cX none (chs [1]) G W' G1 W1 := hX
  refine lv_istore (lv' := [(5, .int r2138), (0, .ref b), (1, .ref xo), (2, .ref mo), (3, .ref ou), (4, .int x4)]) hx hb dL_law_2141 hl (by decide) rfl (fun ls hl => ?_)
  refine lv_aload_n hx hb dL_law_2143 rfl (lv_at hl 3 rfl) ?_
  refine lv_aload_n hx hb dL_law_2144 rfl (lv_at hl 1 rfl) ?_
  refine lv_iload hx hb dL_law_2145 (lv_at hl 5 rfl) ?_
  refine lv_iconst (v := 1) hx hb dL_law_2147 (by decide) ?_
  refine lv_iadd hx hb dL_law_2148 ?_
  refine va_sld hx hb hXs hbl hbA I.2.2.2.2.2.2.2.2.1 hn1 dL_law_2149 ?_
  refine lv_aload_n hx hb dL_law_2150 rfl (lv_at hl 1 rfl) ?_
  refine lv_iload hx hb dL_law_2151 (lv_at hl 5 rfl) ?_
  refine lv_iconst (v := 2) hx hb dL_law_2153 (by decide) ?_
  refine lv_iadd hx hb dL_law_2154 ?_
  refine va_sld hx hb hXs hbl hbA I.2.2.2.2.2.2.2.2.1 hn2 dL_law_2155 ?_
  have hI := I.2.2.2.2.2.2.1
  refine lm_l (As := [.int (xs (x4 + 1).toNatClampNeg), .int (xs (x4 + 2).toNatClampNeg)]) (rest := []) I ⟨hx, hb, hml, hown, hts⟩ (c_X10_element l D cy mo a f g r q ((xs (x4 + 1).toNatClampNeg)) ((xs (x4 + 2).toNatClampNeg)) hDM hI) (cwV 2 hts gL_law_X10_element rfl rfl rfl (by decide +kernel) ⟨Nat.le_of_ble_eq_true rfl, Nat.le_of_ble_eq_true rfl⟩) hK hAM rfl hl.1 rfl (Nat.le_of_ble_eq_true rfl) dL_law_2156 ⟨by omega, by omega⟩ (fun _ _ h9 => by obtain ⟨_, rfl, h9⟩ := h9; exact hI) (fun r2156 u H locs q2156 I => ?_)
  have ef : u.1 1 = f 1 := by obtain ⟨_, rfl, -⟩ := q2156; rfl
  have e2_ : u.2.2.1 2 = r 2 := by obtain ⟨_, rfl, -⟩ := q2156; rfl
  have e3_ : u.2.2.1 3 = r 3 := by obtain ⟨_, rfl, -⟩ := q2156; rfl
  have e4_ : u.2.2.1 4 = r 4 := by obtain ⟨_, rfl, -⟩ := q2156; rfl
  have e5_ : u.2.2.1 5 = r 5 := by obtain ⟨_, rfl, -⟩ := q2156; rfl
  have e6_ : u.2.2.1 6 = r 6 := by obtain ⟨_, rfl, -⟩ := q2156; rfl
  have e7_ : u.2.2.1 7 = r 7 := by obtain ⟨_, rfl, -⟩ := q2156; rfl
  have e8_ : u.2.2.1 8 = r 8 := by obtain ⟨_, rfl, -⟩ := q2156; rfl
  obtain ⟨f1, g1, r1, q1⟩ := u
  have ef : f1 1 = f 1 := ef
  have e2_ : r1 2 = r 2 := e2_
  have e3_ : r1 3 = r 3 := e3_
  have e4_ : r1 4 = r 4 := e4_
  have e5_ : r1 5 = r 5 := e5_
  have e6_ : r1 6 = r 6 := e6_
  have e7_ : r1 7 = r 7 := e7_
  have e8_ : r1 8 = r 8 := e8_
  have I : LI D cy s xo mo ou a M G1 W1 f1 g1 r1 q1 H locs := I
  refine lv_lstore (lv' := [(6, .long r2156), (5, .int r2138), (0, .ref b), (1, .ref xo), (2, .ref mo), (3, .ref ou), (4, .int x4)]) hx hb dL_law_2159 hl (by decide) rfl (fun ls hl => ?_)
  refine lv_goto (tgt := 2327) hx hb dL_law_2161 (by decide) ?_
  have hR1 : RlJ cy xo G1 W1 f1 r1 := hR.keep I0.2.2.1 I0.2.2.2.1 I0.2.2.2.2.1 hX rfl rfl rfl rfl ef e2_ e3_ e4_ e5_ e6_ e7_ e8_
  refine W.widen (k := C + 7) (n := S + 588) (by omega) (by omega) ?_
  exact kk _ _ _ _ _ _ _ _ _ I hR1 (lv_sub hl [2, 3, 4, 5, 6] rfl)
set_option maxHeartbeats 4000000 in
set_option maxRecDepth 100000 in
theorem lcase_32 {p : Program} {l : Launch} {e : Env} {s : State} {m : MethodId} {below : List Frame} {meth : Method} {c : Code} {b L : Nat} {xs : Nat → Int32} {D : va_G} {cy : Nat → ClassId} {xo mo ou : Nat} {a : Nat → Nat} {M : Option Nat} {G : cG} {W' : va_W} {f : Nat → Int32} {g : Nat → Int64} {r : Nat → Nat → Int32} {q : Nat → Nat → Int64} {H : Heap} {locs : List Loc} {ls : Array Slot} {Q : State → Prop} {C S : Nat} (X : LX p l s m c b L xs D cy mo a) (I : LI D cy s xo mo ou a M G W' f g r q H locs) (hR : RlJ cy xo G W' f r) {x4 : Int32} (h4 : 0 ≤ x4.toInt ∧ x4.toInt + 8 ≤ (L : Int) ∧ L ≤ 4096) (hC : C + 7 ≤ 601024) (hSl : S + 53273 ≤ 7293034) (hl : lv_has ls 8 [(0, .ref b), (1, .ref xo), (2, .ref mo), (3, .ref ou), (4, .int x4)]) (kk : ∀ (G : cG) (W' : va_W) (f : Nat → Int32) (g : Nat → Int64) (r : Nat → Nat → Int32) (q : Nat → Nat → Int64) (H : Heap) (locs : List Loc) (ls : Array Slot), LI D cy s xo mo ou a M G W' f g r q H locs → RlJ cy xo G W' f r → lv_has ls 8 [(0, .ref b), (1, .ref xo), (2, .ref mo), (3, .ref ou), (4, .int x4)] → W p l e room_1 s m #[Value.ref b] below meth c H locs (C + 7) (S + 588) Q (F0 m 2327 ls [])) : W p l e room_1 s m #[Value.ref b] below meth c H locs C S Q (F0 m 2164 ls []) := by
  obtain ⟨⟨hx, hb, hml, hown, hts⟩, ⟨hXs, hbl⟩, ⟨hK, hV, hZ, hXT⟩, hst, hDM, hAM⟩ := id X
  have I0 := I
  have hbA : ¬ AL s b := Nat.not_le.mpr hbl
  have hRc : room_1.cells = 601024 := rfl
  have hRs : room_1.slots = 7293034 := rfl
  have hn1 : vp_in (x4 + 1) L := l_in (c := 1) h4 rfl (by decide)
  have hn2 : vp_in (x4 + 2) L := l_in (c := 2) h4 rfl (by decide)
  have hn3 : vp_in (x4 + 3) L := l_in (c := 3) h4 rfl (by decide)
  have hn4 : vp_in (x4 + 4) L := l_in (c := 4) h4 rfl (by decide)
  have hn5 : vp_in (x4 + 5) L := l_in (c := 5) h4 rfl (by decide)
  have hn6 : vp_in (x4 + 6) L := l_in (c := 6) h4 rfl (by decide)
  have hn7 : vp_in (x4 + 7) L := l_in (c := 7) h4 rfl (by decide)
  refine lv_aload_n hx hb dL_law_2164 rfl (lv_at hl 1 rfl) ?_
  refine lv_aload_n hx hb dL_law_2165 rfl (lv_at hl 0 rfl) ?_
  refine lv_iload hx hb dL_law_2166 (lv_at hl 4 rfl) ?_
  refine lv_iconst (v := 1) hx hb dL_law_2168 (by decide) ?_
  refine lv_iadd hx hb dL_law_2169 ?_
  refine va_sld hx hb hXs hbl hbA I.2.2.2.2.2.2.2.2.1 hn1 dL_law_2170 ?_
  refine lv_aload_n hx hb dL_law_2171 rfl (lv_at hl 0 rfl) ?_
  refine lv_iload hx hb dL_law_2172 (lv_at hl 4 rfl) ?_
  refine lv_iconst (v := 2) hx hb dL_law_2174 (by decide) ?_
  refine lv_iadd hx hb dL_law_2175 ?_
  refine va_sld hx hb hXs hbl hbA I.2.2.2.2.2.2.2.2.1 hn2 dL_law_2176 ?_
  refine lv_aload_n hx hb dL_law_2177 rfl (lv_at hl 0 rfl) ?_
  refine lv_iload hx hb dL_law_2178 (lv_at hl 4 rfl) ?_
  refine lv_iconst (v := 3) hx hb dL_law_2180 (by decide) ?_
  refine lv_iadd hx hb dL_law_2181 ?_
  refine va_sld hx hb hXs hbl hbA I.2.2.2.2.2.2.2.2.1 hn3 dL_law_2182 ?_
  refine lv_aload_n hx hb dL_law_2183 rfl (lv_at hl 0 rfl) ?_
  refine lv_iload hx hb dL_law_2184 (lv_at hl 4 rfl) ?_
  refine lv_iconst (v := 4) hx hb dL_law_2186 (by decide) ?_
  refine lv_iadd hx hb dL_law_2187 ?_
  refine va_sld hx hb hXs hbl hbA I.2.2.2.2.2.2.2.2.1 hn4 dL_law_2188 ?_
  refine lv_aload_n hx hb dL_law_2189 rfl (lv_at hl 0 rfl) ?_
  refine lv_iload hx hb dL_law_2190 (lv_at hl 4 rfl) ?_
  refine lv_iconst (v := 5) hx hb dL_law_2192 (by decide) ?_
  refine lv_iadd hx hb dL_law_2193 ?_
  refine va_sld hx hb hXs hbl hbA I.2.2.2.2.2.2.2.2.1 hn5 dL_law_2194 ?_
  refine lk3_i I (va_runV (g := F0 m 2195 ls ([.int (xs (x4 + 5).toNatClampNeg), .int (xs (x4 + 4).toNatClampNeg), .int (xs (x4 + 3).toNatClampNeg), .int (xs (x4 + 2).toNatClampNeg), .int (xs (x4 + 1).toNatClampNeg), .ref xo])) (As := [.int (xs (x4 + 1).toNatClampNeg), .int (xs (x4 + 2).toNatClampNeg), .int (xs (x4 + 3).toNatClampNeg), .int (xs (x4 + 4).toNatClampNeg), .int (xs (x4 + 5).toNatClampNeg)]) (rest := []) ⟨hx, hb, hml, hown, hts⟩ (c_X9_copy l D cy (AC s mo a) G W' xo ((xs (x4 + 1).toNatClampNeg)) ((xs (x4 + 2).toNatClampNeg)) ((xs (x4 + 3).toNatClampNeg)) ((xs (x4 + 4).toNatClampNeg)) ((xs (x4 + 5).toNatClampNeg)) I.2.2.1 I.2.2.2.1 I.2.2.2.2.1) (cwV 5 hts gL_law_X9_copy rfl rfl rfl (by decide +kernel) ⟨Nat.le_of_ble_eq_true rfl, Nat.le_of_ble_eq_true rfl⟩) (l_preV I hK hV) rfl rfl hl.1 rfl (lv_room (Nat.le_of_ble_eq_true rfl)) dL_law_2195 ⟨by omega, by omega⟩) rfl (fun r2195 u H locs q2195 hX I => ?_)
  obtain ⟨G1, W1⟩ := u
  have I : LI D cy s xo mo ou a M G1 W1 f g r q H locs := I
  have hX : cX none (chs [16]) G W' G1 W1 := hX
  refine lv_pop hx hb dL_law_2198 rfl ?_
  refine lv_aload_n hx hb dL_law_2199 rfl (lv_at hl 2 rfl) ?_
  refine lv_aload_n hx hb dL_law_2200 rfl (lv_at hl 0 rfl) ?_
  refine lv_iload hx hb dL_law_2201 (lv_at hl 4 rfl) ?_
  refine lv_iconst (v := 1) hx hb dL_law_2203 (by decide) ?_
  refine lv_iadd hx hb dL_law_2204 ?_
  refine va_sld hx hb hXs hbl hbA I.2.2.2.2.2.2.2.2.1 hn1 dL_law_2205 ?_
  refine lv_aload_n hx hb dL_law_2206 rfl (lv_at hl 0 rfl) ?_
  refine lv_iload hx hb dL_law_2207 (lv_at hl 4 rfl) ?_
  refine lv_iconst (v := 2) hx hb dL_law_2209 (by decide) ?_
  refine lv_iadd hx hb dL_law_2210 ?_
  refine va_sld hx hb hXs hbl hbA I.2.2.2.2.2.2.2.2.1 hn2 dL_law_2211 ?_
  refine lv_aload_n hx hb dL_law_2212 rfl (lv_at hl 0 rfl) ?_
  refine lv_iload hx hb dL_law_2213 (lv_at hl 4 rfl) ?_
  refine lv_iconst (v := 3) hx hb dL_law_2215 (by decide) ?_
  refine lv_iadd hx hb dL_law_2216 ?_
  refine va_sld hx hb hXs hbl hbA I.2.2.2.2.2.2.2.2.1 hn3 dL_law_2217 ?_
  refine lv_aload_n hx hb dL_law_2218 rfl (lv_at hl 0 rfl) ?_
  refine lv_iload hx hb dL_law_2219 (lv_at hl 4 rfl) ?_
  refine lv_iconst (v := 4) hx hb dL_law_2221 (by decide) ?_
  refine lv_iadd hx hb dL_law_2222 ?_
  refine va_sld hx hb hXs hbl hbA I.2.2.2.2.2.2.2.2.1 hn4 dL_law_2223 ?_
  refine lv_aload_n hx hb dL_law_2224 rfl (lv_at hl 0 rfl) ?_
  refine lv_iload hx hb dL_law_2225 (lv_at hl 4 rfl) ?_
  refine lv_iconst (v := 5) hx hb dL_law_2227 (by decide) ?_
  refine lv_iadd hx hb dL_law_2228 ?_
  refine va_sld hx hb hXs hbl hbA I.2.2.2.2.2.2.2.2.1 hn5 dL_law_2229 ?_
  have hI := I.2.2.2.2.2.2.1
  refine lm_i (As := [.int (xs (x4 + 1).toNatClampNeg), .int (xs (x4 + 2).toNatClampNeg), .int (xs (x4 + 3).toNatClampNeg), .int (xs (x4 + 4).toNatClampNeg), .int (xs (x4 + 5).toNatClampNeg)]) (rest := []) I ⟨hx, hb, hml, hown, hts⟩ (c_X10_copy l D cy mo a f g r q ((xs (x4 + 1).toNatClampNeg)) ((xs (x4 + 2).toNatClampNeg)) ((xs (x4 + 3).toNatClampNeg)) ((xs (x4 + 4).toNatClampNeg)) ((xs (x4 + 5).toNatClampNeg)) hDM hI) (cwV 5 hts gL_law_X10_copy rfl rfl rfl (by decide +kernel) ⟨Nat.le_of_ble_eq_true rfl, Nat.le_of_ble_eq_true rfl⟩) hK hAM rfl hl.1 rfl (Nat.le_of_ble_eq_true rfl) dL_law_2230 ⟨by omega, by omega⟩ (fun _ _ h9 => by obtain ⟨_, _, rfl, h9⟩ := h9; exact hI) (fun r2230 u H locs q2230 I => ?_)
  have ef : u.1 1 = f 1 := by obtain ⟨_, _, rfl, -⟩ := q2230; rfl
  have e2_ : u.2.2.1 2 = r 2 := by obtain ⟨_, _, rfl, -⟩ := q2230; rfl
  have e3_ : u.2.2.1 3 = r 3 := by obtain ⟨_, _, rfl, -⟩ := q2230; rfl
  have e4_ : u.2.2.1 4 = r 4 := by obtain ⟨_, _, rfl, -⟩ := q2230; rfl
  have e5_ : u.2.2.1 5 = r 5 := by obtain ⟨_, _, rfl, -⟩ := q2230; rfl
  have e6_ : u.2.2.1 6 = r 6 := by obtain ⟨_, _, rfl, -⟩ := q2230; rfl
  have e7_ : u.2.2.1 7 = r 7 := by obtain ⟨_, _, rfl, -⟩ := q2230; rfl
  have e8_ : u.2.2.1 8 = r 8 := by obtain ⟨_, _, rfl, -⟩ := q2230; rfl
  obtain ⟨f1, g1, r1, q1⟩ := u
  have ef : f1 1 = f 1 := ef
  have e2_ : r1 2 = r 2 := e2_
  have e3_ : r1 3 = r 3 := e3_
  have e4_ : r1 4 = r 4 := e4_
  have e5_ : r1 5 = r 5 := e5_
  have e6_ : r1 6 = r 6 := e6_
  have e7_ : r1 7 = r 7 := e7_
  have e8_ : r1 8 = r 8 := e8_
  have I : LI D cy s xo mo ou a M G1 W1 f1 g1 r1 q1 H locs := I
  refine lv_pop hx hb dL_law_2233 rfl ?_
  refine lv_goto (tgt := 2327) hx hb dL_law_2234 (by decide) ?_
  have hR1 : RlJ cy xo G1 W1 f1 r1 := hR.keep I0.2.2.1 I0.2.2.2.1 I0.2.2.2.2.1 hX rfl rfl rfl rfl ef e2_ e3_ e4_ e5_ e6_ e7_ e8_
  refine W.widen (k := C + 7) (n := S + 588) (by omega) (by omega) ?_
  exact kk _ _ _ _ _ _ _ _ _ I hR1 (lv_sub hl [0, 1, 2, 3, 4] rfl)
set_option maxHeartbeats 4000000 in
set_option maxRecDepth 100000 in
theorem lcase_33 {p : Program} {l : Launch} {e : Env} {s : State} {m : MethodId} {below : List Frame} {meth : Method} {c : Code} {b L : Nat} {xs : Nat → Int32} {D : va_G} {cy : Nat → ClassId} {xo mo ou : Nat} {a : Nat → Nat} {M : Option Nat} {G : cG} {W' : va_W} {f : Nat → Int32} {g : Nat → Int64} {r : Nat → Nat → Int32} {q : Nat → Nat → Int64} {H : Heap} {locs : List Loc} {ls : Array Slot} {Q : State → Prop} {C S : Nat} (X : LX p l s m c b L xs D cy mo a) (I : LI D cy s xo mo ou a M G W' f g r q H locs) (hR : RlJ cy xo G W' f r) {x4 : Int32} (h4 : 0 ≤ x4.toInt ∧ x4.toInt + 8 ≤ (L : Int) ∧ L ≤ 4096) (hC : C + 7 ≤ 601024) (hSl : S + 53273 ≤ 7293034) (hl : lv_has ls 8 [(0, .ref b), (1, .ref xo), (2, .ref mo), (3, .ref ou), (4, .int x4)]) (kk : ∀ (G : cG) (W' : va_W) (f : Nat → Int32) (g : Nat → Int64) (r : Nat → Nat → Int32) (q : Nat → Nat → Int64) (H : Heap) (locs : List Loc) (ls : Array Slot), LI D cy s xo mo ou a M G W' f g r q H locs → RlJ cy xo G W' f r → lv_has ls 8 [(0, .ref b), (1, .ref xo), (2, .ref mo), (3, .ref ou), (4, .int x4)] → W p l e room_1 s m #[Value.ref b] below meth c H locs (C + 7) (S + 588) Q (F0 m 2327 ls [])) : W p l e room_1 s m #[Value.ref b] below meth c H locs C S Q (F0 m 2237 ls []) := by
  obtain ⟨⟨hx, hb, hml, hown, hts⟩, ⟨hXs, hbl⟩, ⟨hK, hV, hZ, hXT⟩, hst, hDM, hAM⟩ := id X
  have I0 := I
  have hbA : ¬ AL s b := Nat.not_le.mpr hbl
  have hRc : room_1.cells = 601024 := rfl
  have hRs : room_1.slots = 7293034 := rfl
  have hn1 : vp_in (x4 + 1) L := l_in (c := 1) h4 rfl (by decide)
  have hn2 : vp_in (x4 + 2) L := l_in (c := 2) h4 rfl (by decide)
  have hn3 : vp_in (x4 + 3) L := l_in (c := 3) h4 rfl (by decide)
  have hn4 : vp_in (x4 + 4) L := l_in (c := 4) h4 rfl (by decide)
  have hn5 : vp_in (x4 + 5) L := l_in (c := 5) h4 rfl (by decide)
  have hn6 : vp_in (x4 + 6) L := l_in (c := 6) h4 rfl (by decide)
  have hn7 : vp_in (x4 + 7) L := l_in (c := 7) h4 rfl (by decide)
  refine lv_aload_n hx hb dL_law_2237 rfl (lv_at hl 1 rfl) ?_
  refine lv_aload_n hx hb dL_law_2238 rfl (lv_at hl 0 rfl) ?_
  refine lv_iload hx hb dL_law_2239 (lv_at hl 4 rfl) ?_
  refine lv_iconst (v := 1) hx hb dL_law_2241 (by decide) ?_
  refine lv_iadd hx hb dL_law_2242 ?_
  refine va_sld hx hb hXs hbl hbA I.2.2.2.2.2.2.2.2.1 hn1 dL_law_2243 ?_
  refine lv_aload_n hx hb dL_law_2244 rfl (lv_at hl 0 rfl) ?_
  refine lv_iload hx hb dL_law_2245 (lv_at hl 4 rfl) ?_
  refine lv_iconst (v := 2) hx hb dL_law_2247 (by decide) ?_
  refine lv_iadd hx hb dL_law_2248 ?_
  refine va_sld hx hb hXs hbl hbA I.2.2.2.2.2.2.2.2.1 hn2 dL_law_2249 ?_
  refine lk3_rl I (va_runV (g := F0 m 2250 ls ([.int (xs (x4 + 2).toNatClampNeg), .int (xs (x4 + 1).toNatClampNeg), .ref xo])) (As := [.int (xs (x4 + 1).toNatClampNeg), .int (xs (x4 + 2).toNatClampNeg)]) (rest := []) ⟨hx, hb, hml, hown, hts⟩ (c_X9_layer l D cy (AC s mo a) G W' xo ((xs (x4 + 1).toNatClampNeg)) ((xs (x4 + 2).toNatClampNeg)) I.2.2.1 I.2.2.2.1 I.2.2.2.2.1) (cwV 2 hts gL_law_X9_layer rfl rfl rfl (by decide +kernel) ⟨Nat.le_of_ble_eq_true rfl, Nat.le_of_ble_eq_true rfl⟩) (l_preV I hK hV) rfl rfl hl.1 rfl (lv_room (Nat.le_of_ble_eq_true rfl)) dL_law_2250 ⟨by omega, by omega⟩) (fun r2250 u H locs q2250 hX I => ?_)
  obtain ⟨G1, W1⟩ := u
  have I : LI D cy s xo mo ou a M G1 W1 f g r q H locs := I
  have hX : cX none (chs []) G W' G1 W1 := hX
  refine lv_pop2_2 hx hb dL_law_2253 rfl ?_
  refine lv_aload_n hx hb dL_law_2254 rfl (lv_at hl 2 rfl) ?_
  refine lv_aload_n hx hb dL_law_2255 rfl (lv_at hl 0 rfl) ?_
  refine lv_iload hx hb dL_law_2256 (lv_at hl 4 rfl) ?_
  refine lv_iconst (v := 1) hx hb dL_law_2258 (by decide) ?_
  refine lv_iadd hx hb dL_law_2259 ?_
  refine va_sld hx hb hXs hbl hbA I.2.2.2.2.2.2.2.2.1 hn1 dL_law_2260 ?_
  refine lv_aload_n hx hb dL_law_2261 rfl (lv_at hl 0 rfl) ?_
  refine lv_iload hx hb dL_law_2262 (lv_at hl 4 rfl) ?_
  refine lv_iconst (v := 2) hx hb dL_law_2264 (by decide) ?_
  refine lv_iadd hx hb dL_law_2265 ?_
  refine va_sld hx hb hXs hbl hbA I.2.2.2.2.2.2.2.2.1 hn2 dL_law_2266 ?_
  have hI := I.2.2.2.2.2.2.1
  refine lm_l (As := [.int (xs (x4 + 1).toNatClampNeg), .int (xs (x4 + 2).toNatClampNeg)]) (rest := []) I ⟨hx, hb, hml, hown, hts⟩ (c_X10_layer l D cy mo a f g r q ((xs (x4 + 1).toNatClampNeg)) ((xs (x4 + 2).toNatClampNeg)) hDM hI) (cwV 2 hts gL_law_X10_layer rfl rfl rfl (by decide +kernel) ⟨Nat.le_of_ble_eq_true rfl, Nat.le_of_ble_eq_true rfl⟩) hK hAM rfl hl.1 rfl (Nat.le_of_ble_eq_true rfl) dL_law_2267 ⟨by omega, by omega⟩ (fun _ _ h9 => by obtain ⟨rfl, h9⟩ := h9; exact hI) (fun r2267 u H locs q2267 I => ?_)
  have ef : u.1 1 = f 1 := by obtain ⟨rfl, -⟩ := q2267; rfl
  have e2_ : u.2.2.1 2 = r 2 := by obtain ⟨rfl, -⟩ := q2267; rfl
  have e3_ : u.2.2.1 3 = r 3 := by obtain ⟨rfl, -⟩ := q2267; rfl
  have e4_ : u.2.2.1 4 = r 4 := by obtain ⟨rfl, -⟩ := q2267; rfl
  have e5_ : u.2.2.1 5 = r 5 := by obtain ⟨rfl, -⟩ := q2267; rfl
  have e6_ : u.2.2.1 6 = r 6 := by obtain ⟨rfl, -⟩ := q2267; rfl
  have e7_ : u.2.2.1 7 = r 7 := by obtain ⟨rfl, -⟩ := q2267; rfl
  have e8_ : u.2.2.1 8 = r 8 := by obtain ⟨rfl, -⟩ := q2267; rfl
  obtain ⟨f1, g1, r1, q1⟩ := u
  have ef : f1 1 = f 1 := ef
  have e2_ : r1 2 = r 2 := e2_
  have e3_ : r1 3 = r 3 := e3_
  have e4_ : r1 4 = r 4 := e4_
  have e5_ : r1 5 = r 5 := e5_
  have e6_ : r1 6 = r 6 := e6_
  have e7_ : r1 7 = r 7 := e7_
  have e8_ : r1 8 = r 8 := e8_
  have I : LI D cy s xo mo ou a M G1 W1 f1 g1 r1 q1 H locs := I
  refine lv_pop2_2 hx hb dL_law_2270 rfl ?_
  refine lv_goto (tgt := 2327) hx hb dL_law_2271 (by decide) ?_
  have hR1 : RlJ cy xo G1 W1 f1 r1 := hR.keep I0.2.2.1 I0.2.2.2.1 I0.2.2.2.2.1 hX rfl rfl rfl rfl ef e2_ e3_ e4_ e5_ e6_ e7_ e8_
  refine W.widen (k := C + 7) (n := S + 588) (by omega) (by omega) ?_
  exact kk _ _ _ _ _ _ _ _ _ I hR1 (lv_sub hl [0, 1, 2, 3, 4] rfl)
set_option maxHeartbeats 4000000 in
set_option maxRecDepth 100000 in
theorem lcase_34 {p : Program} {l : Launch} {e : Env} {s : State} {m : MethodId} {below : List Frame} {meth : Method} {c : Code} {b L : Nat} {xs : Nat → Int32} {D : va_G} {cy : Nat → ClassId} {xo mo ou : Nat} {a : Nat → Nat} {M : Option Nat} {G : cG} {W' : va_W} {f : Nat → Int32} {g : Nat → Int64} {r : Nat → Nat → Int32} {q : Nat → Nat → Int64} {H : Heap} {locs : List Loc} {ls : Array Slot} {Q : State → Prop} {C S : Nat} (X : LX p l s m c b L xs D cy mo a) (I : LI D cy s xo mo ou a M G W' f g r q H locs) (hR : RlJ cy xo G W' f r) {x4 : Int32} (h4 : 0 ≤ x4.toInt ∧ x4.toInt + 8 ≤ (L : Int) ∧ L ≤ 4096) (hC : C + 7 ≤ 601024) (hSl : S + 53273 ≤ 7293034) (hl : lv_has ls 8 [(0, .ref b), (1, .ref xo), (2, .ref mo), (3, .ref ou), (4, .int x4)]) (kk : ∀ (G : cG) (W' : va_W) (f : Nat → Int32) (g : Nat → Int64) (r : Nat → Nat → Int32) (q : Nat → Nat → Int64) (H : Heap) (locs : List Loc) (ls : Array Slot), LI D cy s xo mo ou a M G W' f g r q H locs → RlJ cy xo G W' f r → lv_has ls 8 [(0, .ref b), (1, .ref xo), (2, .ref mo), (3, .ref ou), (4, .int x4)] → W p l e room_1 s m #[Value.ref b] below meth c H locs (C + 7) (S + 588) Q (F0 m 2327 ls [])) : W p l e room_1 s m #[Value.ref b] below meth c H locs C S Q (F0 m 2274 ls []) := by
  obtain ⟨⟨hx, hb, hml, hown, hts⟩, ⟨hXs, hbl⟩, ⟨hK, hV, hZ, hXT⟩, hst, hDM, hAM⟩ := id X
  have I0 := I
  have hbA : ¬ AL s b := Nat.not_le.mpr hbl
  have hRc : room_1.cells = 601024 := rfl
  have hRs : room_1.slots = 7293034 := rfl
  have hn1 : vp_in (x4 + 1) L := l_in (c := 1) h4 rfl (by decide)
  have hn2 : vp_in (x4 + 2) L := l_in (c := 2) h4 rfl (by decide)
  have hn3 : vp_in (x4 + 3) L := l_in (c := 3) h4 rfl (by decide)
  have hn4 : vp_in (x4 + 4) L := l_in (c := 4) h4 rfl (by decide)
  have hn5 : vp_in (x4 + 5) L := l_in (c := 5) h4 rfl (by decide)
  have hn6 : vp_in (x4 + 6) L := l_in (c := 6) h4 rfl (by decide)
  have hn7 : vp_in (x4 + 7) L := l_in (c := 7) h4 rfl (by decide)
  refine lv_aload_n hx hb dL_law_2274 rfl (lv_at hl 1 rfl) ?_
  refine lv_aload_n hx hb dL_law_2275 rfl (lv_at hl 0 rfl) ?_
  refine lv_iload hx hb dL_law_2276 (lv_at hl 4 rfl) ?_
  refine lv_iconst (v := 1) hx hb dL_law_2278 (by decide) ?_
  refine lv_iadd hx hb dL_law_2279 ?_
  refine va_sld hx hb hXs hbl hbA I.2.2.2.2.2.2.2.2.1 hn1 dL_law_2280 ?_
  refine lv_aload_n hx hb dL_law_2281 rfl (lv_at hl 3 rfl) ?_
  refine lk3_i I (vx_runSW (g := F0 m 2282 ls ([.ref ou, .int (xs (x4 + 1).toNatClampNeg), .ref xo])) (As := [.ref xo, .int (xs (x4 + 1).toNatClampNeg), .ref ou]) (rest := []) ⟨hx, hb, hml, hown, hts⟩ (c_L_weight l hst D cy (AC s mo a) G W' xo ((xs (x4 + 1).toNatClampNeg)) ou I.2.2.1 I.2.2.2.1 I.2.2.2.2.1 I.2.2.2.2.2.1) (vx_cwSW 3 hts gL_law_L_weight rfl rfl rfl (by decide +kernel) ⟨Nat.le_of_ble_eq_true rfl, Nat.le_of_ble_eq_true rfl⟩) (l_preS I hK hV hZ hXT) rfl rfl hl.1 rfl (lv_room (Nat.le_of_ble_eq_true rfl)) dL_law_2282 ⟨by omega, by omega⟩) rfl (fun r2282 u H locs q2282 hX I => ?_)
  obtain ⟨G1, W1⟩ := u
  have I : LI D cy s xo mo ou a M G1 W1 f g r q H locs := I
  have hX : cX none (chs [1]) G W' G1 W1 := hX
  refine lv_istore (lv' := [(5, .int r2282), (0, .ref b), (1, .ref xo), (2, .ref mo), (3, .ref ou), (4, .int x4)]) hx hb dL_law_2285 hl (by decide) rfl (fun ls hl => ?_)
  refine lv_aload_n hx hb dL_law_2287 rfl (lv_at hl 3 rfl) ?_
  refine lv_aload_n hx hb dL_law_2288 rfl (lv_at hl 1 rfl) ?_
  refine lv_iload hx hb dL_law_2289 (lv_at hl 5 rfl) ?_
  refine lv_iconst (v := 1) hx hb dL_law_2291 (by decide) ?_
  refine lv_iadd hx hb dL_law_2292 ?_
  refine va_sld hx hb hXs hbl hbA I.2.2.2.2.2.2.2.2.1 hn1 dL_law_2293 ?_
  have hI := I.2.2.2.2.2.2.1
  refine lm_i (As := [.int (xs (x4 + 1).toNatClampNeg)]) (rest := []) I ⟨hx, hb, hml, hown, hts⟩ (c_X10_weight l D cy mo a f g r q ((xs (x4 + 1).toNatClampNeg)) hDM) (cwV 1 hts gL_law_X10_weight rfl rfl rfl (by decide +kernel) ⟨Nat.le_of_ble_eq_true rfl, Nat.le_of_ble_eq_true rfl⟩) hK hAM rfl hl.1 rfl (Nat.le_of_ble_eq_true rfl) dL_law_2294 ⟨by omega, by omega⟩ (fun _ _ h9 => by obtain ⟨_, rfl, h9⟩ := h9; exact hI) (fun r2294 u H locs q2294 I => ?_)
  have ef : u.1 1 = f 1 := by obtain ⟨_, rfl, -⟩ := q2294; rfl
  have e2_ : u.2.2.1 2 = r 2 := by obtain ⟨_, rfl, -⟩ := q2294; rfl
  have e3_ : u.2.2.1 3 = r 3 := by obtain ⟨_, rfl, -⟩ := q2294; rfl
  have e4_ : u.2.2.1 4 = r 4 := by obtain ⟨_, rfl, -⟩ := q2294; rfl
  have e5_ : u.2.2.1 5 = r 5 := by obtain ⟨_, rfl, -⟩ := q2294; rfl
  have e6_ : u.2.2.1 6 = r 6 := by obtain ⟨_, rfl, -⟩ := q2294; rfl
  have e7_ : u.2.2.1 7 = r 7 := by obtain ⟨_, rfl, -⟩ := q2294; rfl
  have e8_ : u.2.2.1 8 = r 8 := by obtain ⟨_, rfl, -⟩ := q2294; rfl
  obtain ⟨f1, g1, r1, q1⟩ := u
  have ef : f1 1 = f 1 := ef
  have e2_ : r1 2 = r 2 := e2_
  have e3_ : r1 3 = r 3 := e3_
  have e4_ : r1 4 = r 4 := e4_
  have e5_ : r1 5 = r 5 := e5_
  have e6_ : r1 6 = r 6 := e6_
  have e7_ : r1 7 = r 7 := e7_
  have e8_ : r1 8 = r 8 := e8_
  have I : LI D cy s xo mo ou a M G1 W1 f1 g1 r1 q1 H locs := I
  refine lv_istore (lv' := [(6, .int r2294), (5, .int r2282), (0, .ref b), (1, .ref xo), (2, .ref mo), (3, .ref ou), (4, .int x4)]) hx hb dL_law_2297 hl (by decide) rfl (fun ls hl => ?_)
  refine lv_goto (tgt := 2327) hx hb dL_law_2299 (by decide) ?_
  have hR1 : RlJ cy xo G1 W1 f1 r1 := hR.keep I0.2.2.1 I0.2.2.2.1 I0.2.2.2.2.1 hX rfl rfl rfl rfl ef e2_ e3_ e4_ e5_ e6_ e7_ e8_
  refine W.widen (k := C + 7) (n := S + 588) (by omega) (by omega) ?_
  exact kk _ _ _ _ _ _ _ _ _ I hR1 (lv_sub hl [2, 3, 4, 5, 6] rfl)
set_option maxHeartbeats 4000000 in
set_option maxRecDepth 100000 in
theorem lcase_35 {p : Program} {l : Launch} {e : Env} {s : State} {m : MethodId} {below : List Frame} {meth : Method} {c : Code} {b L : Nat} {xs : Nat → Int32} {D : va_G} {cy : Nat → ClassId} {xo mo ou : Nat} {a : Nat → Nat} {M : Option Nat} {G : cG} {W' : va_W} {f : Nat → Int32} {g : Nat → Int64} {r : Nat → Nat → Int32} {q : Nat → Nat → Int64} {H : Heap} {locs : List Loc} {ls : Array Slot} {Q : State → Prop} {C S : Nat} (X : LX p l s m c b L xs D cy mo a) (I : LI D cy s xo mo ou a M G W' f g r q H locs) (hR : RlJ cy xo G W' f r) {x4 : Int32} (h4 : 0 ≤ x4.toInt ∧ x4.toInt + 8 ≤ (L : Int) ∧ L ≤ 4096) (hC : C + 7 ≤ 601024) (hSl : S + 53273 ≤ 7293034) (hl : lv_has ls 8 [(0, .ref b), (1, .ref xo), (2, .ref mo), (3, .ref ou), (4, .int x4)]) (kk : ∀ (G : cG) (W' : va_W) (f : Nat → Int32) (g : Nat → Int64) (r : Nat → Nat → Int32) (q : Nat → Nat → Int64) (H : Heap) (locs : List Loc) (ls : Array Slot), LI D cy s xo mo ou a M G W' f g r q H locs → RlJ cy xo G W' f r → lv_has ls 8 [(0, .ref b), (1, .ref xo), (2, .ref mo), (3, .ref ou), (4, .int x4)] → W p l e room_1 s m #[Value.ref b] below meth c H locs (C + 7) (S + 588) Q (F0 m 2327 ls [])) : W p l e room_1 s m #[Value.ref b] below meth c H locs C S Q (F0 m 2302 ls []) := by
  obtain ⟨⟨hx, hb, hml, hown, hts⟩, ⟨hXs, hbl⟩, ⟨hK, hV, hZ, hXT⟩, hst, hDM, hAM⟩ := id X
  have I0 := I
  have hbA : ¬ AL s b := Nat.not_le.mpr hbl
  have hRc : room_1.cells = 601024 := rfl
  have hRs : room_1.slots = 7293034 := rfl
  have hn1 : vp_in (x4 + 1) L := l_in (c := 1) h4 rfl (by decide)
  have hn2 : vp_in (x4 + 2) L := l_in (c := 2) h4 rfl (by decide)
  have hn3 : vp_in (x4 + 3) L := l_in (c := 3) h4 rfl (by decide)
  have hn4 : vp_in (x4 + 4) L := l_in (c := 4) h4 rfl (by decide)
  have hn5 : vp_in (x4 + 5) L := l_in (c := 5) h4 rfl (by decide)
  have hn6 : vp_in (x4 + 6) L := l_in (c := 6) h4 rfl (by decide)
  have hn7 : vp_in (x4 + 7) L := l_in (c := 7) h4 rfl (by decide)
  refine lv_aload_n hx hb dL_law_2302 rfl (lv_at hl 1 rfl) ?_
  refine lv_aload_n hx hb dL_law_2303 rfl (lv_at hl 0 rfl) ?_
  refine lv_iload hx hb dL_law_2304 (lv_at hl 4 rfl) ?_
  refine lv_iconst (v := 1) hx hb dL_law_2306 (by decide) ?_
  refine lv_iadd hx hb dL_law_2307 ?_
  refine va_sld hx hb hXs hbl hbA I.2.2.2.2.2.2.2.2.1 hn1 dL_law_2308 ?_
  refine lk3_ri I (va_runV (g := F0 m 2309 ls ([.int (xs (x4 + 1).toNatClampNeg), .ref xo])) (As := [.int (xs (x4 + 1).toNatClampNeg)]) (rest := []) ⟨hx, hb, hml, hown, hts⟩ (c_X9_toss l hst D cy (AC s mo a) G W' xo ((xs (x4 + 1).toNatClampNeg)) I.2.2.1 I.2.2.2.1 I.2.2.2.2.1) (cwV 1 hts gL_law_X9_toss rfl rfl rfl (by decide +kernel) ⟨Nat.le_of_ble_eq_true rfl, Nat.le_of_ble_eq_true rfl⟩) (l_preX I hK hV hZ hXT) rfl rfl hl.1 rfl (lv_room (Nat.le_of_ble_eq_true rfl)) dL_law_2309 ⟨by omega, by omega⟩) (fun r2309 u H locs q2309 hX I => ?_)
  obtain ⟨G1, W1⟩ := u
  have I : LI D cy s xo mo ou a M G1 W1 f g r q H locs := I
  have hX : cX none (chs []) G W' G1 W1 := hX
  refine lv_pop hx hb dL_law_2312 rfl ?_
  refine lv_aload_n hx hb dL_law_2313 rfl (lv_at hl 2 rfl) ?_
  refine lv_aload_n hx hb dL_law_2314 rfl (lv_at hl 0 rfl) ?_
  refine lv_iload hx hb dL_law_2315 (lv_at hl 4 rfl) ?_
  refine lv_iconst (v := 1) hx hb dL_law_2317 (by decide) ?_
  refine lv_iadd hx hb dL_law_2318 ?_
  refine va_sld hx hb hXs hbl hbA I.2.2.2.2.2.2.2.2.1 hn1 dL_law_2319 ?_
  have hI := I.2.2.2.2.2.2.1
  refine lm_i (As := [.int (xs (x4 + 1).toNatClampNeg)]) (rest := []) I ⟨hx, hb, hml, hown, hts⟩ (c_X10_toss l D cy mo a f g r q ((xs (x4 + 1).toNatClampNeg)) hDM) (cwV 1 hts gL_law_X10_toss rfl rfl rfl (by decide +kernel) ⟨Nat.le_of_ble_eq_true rfl, Nat.le_of_ble_eq_true rfl⟩) hK hAM rfl hl.1 rfl (Nat.le_of_ble_eq_true rfl) dL_law_2320 ⟨by omega, by omega⟩ (fun _ _ h9 => by obtain ⟨rfl, h9⟩ := h9; exact hI) (fun r2320 u H locs q2320 I => ?_)
  have ef : u.1 1 = f 1 := by obtain ⟨rfl, -⟩ := q2320; rfl
  have e2_ : u.2.2.1 2 = r 2 := by obtain ⟨rfl, -⟩ := q2320; rfl
  have e3_ : u.2.2.1 3 = r 3 := by obtain ⟨rfl, -⟩ := q2320; rfl
  have e4_ : u.2.2.1 4 = r 4 := by obtain ⟨rfl, -⟩ := q2320; rfl
  have e5_ : u.2.2.1 5 = r 5 := by obtain ⟨rfl, -⟩ := q2320; rfl
  have e6_ : u.2.2.1 6 = r 6 := by obtain ⟨rfl, -⟩ := q2320; rfl
  have e7_ : u.2.2.1 7 = r 7 := by obtain ⟨rfl, -⟩ := q2320; rfl
  have e8_ : u.2.2.1 8 = r 8 := by obtain ⟨rfl, -⟩ := q2320; rfl
  obtain ⟨f1, g1, r1, q1⟩ := u
  have ef : f1 1 = f 1 := ef
  have e2_ : r1 2 = r 2 := e2_
  have e3_ : r1 3 = r 3 := e3_
  have e4_ : r1 4 = r 4 := e4_
  have e5_ : r1 5 = r 5 := e5_
  have e6_ : r1 6 = r 6 := e6_
  have e7_ : r1 7 = r 7 := e7_
  have e8_ : r1 8 = r 8 := e8_
  have I : LI D cy s xo mo ou a M G1 W1 f1 g1 r1 q1 H locs := I
  refine lv_pop hx hb dL_law_2323 rfl ?_
  refine lv_goto (tgt := 2327) hx hb dL_law_2324 (by decide) ?_
  have hR1 : RlJ cy xo G1 W1 f1 r1 := hR.keep I0.2.2.1 I0.2.2.2.1 I0.2.2.2.2.1 hX rfl rfl rfl rfl ef e2_ e3_ e4_ e5_ e6_ e7_ e8_
  refine W.widen (k := C + 7) (n := S + 588) (by omega) (by omega) ?_
  exact kk _ _ _ _ _ _ _ _ _ I hR1 (lv_sub hl [0, 1, 2, 3, 4] rfl)
