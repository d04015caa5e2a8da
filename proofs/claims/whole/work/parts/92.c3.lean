theorem lc_times : LC 1184 := by
  intro p l e s m below meth c b L xs D t sa sv nm Q a am wc wm H locs ls i cells slots cx hX hbl hL hi hI hw hl hc1 hc2 kk
  have hx := cx.1
  have hb := cx.2.1
  obtain ⟨f0, g0⟩ := hI.c0
  obtain ⟨f1, g1⟩ := hI.m0
  obtain ⟨r, wm2, Qv, m1, m2, h9⟩ := si_times (l := l) (D := D) hI (xs (i + 1)) (xs (i + 2))
  refine lv_aload_n hx hb dL_1184 rfl (lv_at hl 1 rfl) ?_
  refine pushA (j := 1) cx hX hbl (Nat.not_le.mpr hbl) hw.2.2 hl hL (by omega) (by decide) (by decide) dL_1185 dL_1186 dL_1187 dL_1188 dL_1189 ?_
  refine pushA (j := 2) cx hX hbl (Nat.not_le.mpr hbl) hw.2.2 hl hL (by omega) (by decide) (by decide) dL_1190 dL_1191 dL_1192 dL_1193 dL_1194 ?_
  refine calL (As := [.int (xs (i + 1)), .int (xs (i + 2))]) (rest := []) cx hw hl.1 m1 nE0 (fun _ _ _ => trivial) q_886 k_X11_times rfl g0 rfl dL_1195 rfl (Nat.le_of_ble_eq_true rfl) ⟨(Nat.le_of_ble_eq_true rfl), (Nat.le_of_ble_eq_true rfl)⟩ ⟨by show cells + 0 ≤ 629818; omega, by show slots + 0 ≤ 7212793; omega⟩ (fun v wc2 H locs hq hw => ?_)
  obtain ⟨rfl, hI2⟩ := h9 v wc2 hq
  refine lv_aload_n hx hb dL_1198 rfl (lv_at hl 2 rfl) ?_
  refine pushA (j := 1) cx hX hbl (Nat.not_le.mpr hbl) hw.2.2 hl hL (by omega) (by decide) (by decide) dL_1199 dL_1200 dL_1201 dL_1202 dL_1203 ?_
  refine pushA (j := 2) cx hX hbl (Nat.not_le.mpr hbl) hw.2.2 hl hL (by omega) (by decide) (by decide) dL_1204 dL_1205 dL_1206 dL_1207 dL_1208 ?_
  refine calR (As := [.int (xs (i + 1)), .int (xs (i + 2))]) (rest := [.int r]) cx hw hl.1 m2 q_1601 k_X12_times rfl g1 rfl dL_1209 rfl (Nat.le_of_ble_eq_true rfl) ⟨(Nat.le_of_ble_eq_true rfl), (Nat.le_of_ble_eq_true rfl)⟩ ⟨by show cells + 0 ≤ 629818; omega, by show slots + 0 ≤ 7212793; omega⟩ (fun H locs hw => ?_)
  refine lv_icmp_eq (tgt := 1735) hx hb dL_1212 (by decide +kernel) (fun hc => ?_) (fun hc => absurd rfl hc)
  refine W.widen (k := cells + 6) (n := slots + 247) (by omega) (by omega) ?_
  exact kk _ _ H locs hI2 hw
theorem lc_prove : LC 1217 := by
  intro p l e s m below meth c b L xs D t sa sv nm Q a am wc wm H locs ls i cells slots cx hX hbl hL hi hI hw hl hc1 hc2 kk
  have hx := cx.1
  have hb := cx.2.1
  obtain ⟨f0, g0⟩ := hI.c0
  obtain ⟨f1, g1⟩ := hI.m0
  obtain ⟨r, wm2, Qv, m1, m2, h9⟩ := si_prove (l := l) (D := D) hI (xs (i + 1))
  refine lv_aload_n hx hb dL_1217 rfl (lv_at hl 1 rfl) ?_
  refine pushA (j := 1) cx hX hbl (Nat.not_le.mpr hbl) hw.2.2 hl hL (by omega) (by decide) (by decide) dL_1218 dL_1219 dL_1220 dL_1221 dL_1222 ?_
  refine calL (As := [.int (xs (i + 1))]) (rest := []) cx hw hl.1 m1 nE0 (fun _ _ _ => trivial) q_890 k_X11_prove rfl g0 rfl dL_1223 rfl (Nat.le_of_ble_eq_true rfl) ⟨(Nat.le_of_ble_eq_true rfl), (Nat.le_of_ble_eq_true rfl)⟩ ⟨by show cells + 0 ≤ 629818; omega, by show slots + 0 ≤ 7212793; omega⟩ (fun v wc2 H locs hq hw => ?_)
  obtain ⟨rfl, hI2⟩ := h9 v wc2 hq
  refine lv_aload_n hx hb dL_1226 rfl (lv_at hl 2 rfl) ?_
  refine pushA (j := 1) cx hX hbl (Nat.not_le.mpr hbl) hw.2.2 hl hL (by omega) (by decide) (by decide) dL_1227 dL_1228 dL_1229 dL_1230 dL_1231 ?_
  refine calR (As := [.int (xs (i + 1))]) (rest := [.int r]) cx hw hl.1 m2 q_1605 k_X12_prove rfl g1 rfl dL_1232 rfl (Nat.le_of_ble_eq_true rfl) ⟨(Nat.le_of_ble_eq_true rfl), (Nat.le_of_ble_eq_true rfl)⟩ ⟨by show cells + 0 ≤ 629818; omega, by show slots + 0 ≤ 7212793; omega⟩ (fun H locs hw => ?_)
  refine lv_icmp_eq (tgt := 1735) hx hb dL_1235 (by decide +kernel) (fun hc => ?_) (fun hc => absurd rfl hc)
  refine W.widen (k := cells + 6) (n := slots + 247) (by omega) (by omega) ?_
  exact kk _ _ H locs hI2 hw
theorem lc_row : LC 1240 := by
  intro p l e s m below meth c b L xs D t sa sv nm Q a am wc wm H locs ls i cells slots cx hX hbl hL hi hI hw hl hc1 hc2 kk
  have hx := cx.1
  have hb := cx.2.1
  obtain ⟨f0, g0⟩ := hI.c0
  obtain ⟨f1, g1⟩ := hI.m0
  obtain ⟨r, wm2, Qv, m1, m2, h9⟩ := si_row (l := l) (D := D) hI (xs (i + 1)) (xs (i + 2))
  refine lv_aload_n hx hb dL_1240 rfl (lv_at hl 1 rfl) ?_
  refine pushA (j := 1) cx hX hbl (Nat.not_le.mpr hbl) hw.2.2 hl hL (by omega) (by decide) (by decide) dL_1241 dL_1242 dL_1243 dL_1244 dL_1245 ?_
  refine pushA (j := 2) cx hX hbl (Nat.not_le.mpr hbl) hw.2.2 hl hL (by omega) (by decide) (by decide) dL_1246 dL_1247 dL_1248 dL_1249 dL_1250 ?_
  refine calL (As := [.int (xs (i + 1)), .int (xs (i + 2))]) (rest := []) cx hw hl.1 m1 nE0 (fun _ _ _ => trivial) q_898 k_X11_row rfl g0 rfl dL_1251 rfl (Nat.le_of_ble_eq_true rfl) ⟨(Nat.le_of_ble_eq_true rfl), (Nat.le_of_ble_eq_true rfl)⟩ ⟨by show cells + 0 ≤ 629818; omega, by show slots + 0 ≤ 7212793; omega⟩ (fun v wc2 H locs hq hw => ?_)
  obtain ⟨rfl, hI2⟩ := h9 v wc2 hq
  refine lv_aload_n hx hb dL_1254 rfl (lv_at hl 2 rfl) ?_
  refine pushA (j := 1) cx hX hbl (Nat.not_le.mpr hbl) hw.2.2 hl hL (by omega) (by decide) (by decide) dL_1255 dL_1256 dL_1257 dL_1258 dL_1259 ?_
  refine pushA (j := 2) cx hX hbl (Nat.not_le.mpr hbl) hw.2.2 hl hL (by omega) (by decide) (by decide) dL_1260 dL_1261 dL_1262 dL_1263 dL_1264 ?_
  refine calR (As := [.int (xs (i + 1)), .int (xs (i + 2))]) (rest := [.int r]) cx hw hl.1 m2 q_1609 k_X12_row rfl g1 rfl dL_1265 rfl (Nat.le_of_ble_eq_true rfl) ⟨(Nat.le_of_ble_eq_true rfl), (Nat.le_of_ble_eq_true rfl)⟩ ⟨by show cells + 0 ≤ 629818; omega, by show slots + 0 ≤ 7212793; omega⟩ (fun H locs hw => ?_)
  refine lv_icmp_eq (tgt := 1735) hx hb dL_1268 (by decide +kernel) (fun hc => ?_) (fun hc => absurd rfl hc)
  refine W.widen (k := cells + 6) (n := slots + 247) (by omega) (by omega) ?_
  exact kk _ _ H locs hI2 hw
theorem lc_alterRow : LC 1273 := by
  intro p l e s m below meth c b L xs D t sa sv nm Q a am wc wm H locs ls i cells slots cx hX hbl hL hi hI hw hl hc1 hc2 kk
  have hx := cx.1
  have hb := cx.2.1
  obtain ⟨f0, g0⟩ := hI.c0
  obtain ⟨f1, g1⟩ := hI.m0
  obtain ⟨r, wm2, Qv, m1, m2, h9⟩ := si_alterRow (l := l) (D := D) hI (xs (i + 1)) (xs (i + 2)) (xs (i + 3))
  refine lv_aload_n hx hb dL_1273 rfl (lv_at hl 1 rfl) ?_
  refine pushA (j := 1) cx hX hbl (Nat.not_le.mpr hbl) hw.2.2 hl hL (by omega) (by decide) (by decide) dL_1274 dL_1275 dL_1276 dL_1277 dL_1278 ?_
  refine pushA (j := 2) cx hX hbl (Nat.not_le.mpr hbl) hw.2.2 hl hL (by omega) (by decide) (by decide) dL_1279 dL_1280 dL_1281 dL_1282 dL_1283 ?_
  refine pushA (j := 3) cx hX hbl (Nat.not_le.mpr hbl) hw.2.2 hl hL (by omega) (by decide) (by decide) dL_1284 dL_1285 dL_1286 dL_1287 dL_1288 ?_
  refine calL (As := [.int (xs (i + 1)), .int (xs (i + 2)), .int (xs (i + 3))]) (rest := []) cx hw hl.1 m1 nE0 (fun _ _ _ => trivial) q_906 k_X11_alterRow rfl g0 rfl dL_1289 rfl (Nat.le_of_ble_eq_true rfl) ⟨(Nat.le_of_ble_eq_true rfl), (Nat.le_of_ble_eq_true rfl)⟩ ⟨by show cells + 0 ≤ 629818; omega, by show slots + 0 ≤ 7212793; omega⟩ (fun v wc2 H locs hq hw => ?_)
  obtain ⟨rfl, hI2⟩ := h9 v wc2 hq
  refine lv_aload_n hx hb dL_1292 rfl (lv_at hl 2 rfl) ?_
  refine pushA (j := 1) cx hX hbl (Nat.not_le.mpr hbl) hw.2.2 hl hL (by omega) (by decide) (by decide) dL_1293 dL_1294 dL_1295 dL_1296 dL_1297 ?_
  refine pushA (j := 2) cx hX hbl (Nat.not_le.mpr hbl) hw.2.2 hl hL (by omega) (by decide) (by decide) dL_1298 dL_1299 dL_1300 dL_1301 dL_1302 ?_
  refine pushA (j := 3) cx hX hbl (Nat.not_le.mpr hbl) hw.2.2 hl hL (by omega) (by decide) (by decide) dL_1303 dL_1304 dL_1305 dL_1306 dL_1307 ?_
  refine calR (As := [.int (xs (i + 1)), .int (xs (i + 2)), .int (xs (i + 3))]) (rest := [.int r]) cx hw hl.1 m2 q_1617 k_X12_alterRow rfl g1 rfl dL_1308 rfl (Nat.le_of_ble_eq_true rfl) ⟨(Nat.le_of_ble_eq_true rfl), (Nat.le_of_ble_eq_true rfl)⟩ ⟨by show cells + 0 ≤ 629818; omega, by show slots + 0 ≤ 7212793; omega⟩ (fun H locs hw => ?_)
  refine lv_icmp_eq (tgt := 1735) hx hb dL_1311 (by decide +kernel) (fun hc => ?_) (fun hc => absurd rfl hc)
  refine W.widen (k := cells + 6) (n := slots + 247) (by omega) (by omega) ?_
  exact kk _ _ H locs hI2 hw
theorem lc_judge : LC 1316 := by
  intro p l e s m below meth c b L xs D t sa sv nm Q a am wc wm H locs ls i cells slots cx hX hbl hL hi hI hw hl hc1 hc2 kk
  have hx := cx.1
  have hb := cx.2.1
  obtain ⟨f0, g0⟩ := hI.c0
  obtain ⟨f1, g1⟩ := hI.m0
  obtain ⟨r, wm2, Qv, m1, m2, h9⟩ := si_judge (l := l) (D := D) hI
  refine lv_aload_n hx hb dL_1316 rfl (lv_at hl 1 rfl) ?_
  refine calL (As := []) (rest := []) cx hw hl.1 m1 nE0 (fun _ _ _ => trivial) q_910 k_X11_judge rfl g0 rfl dL_1317 rfl (Nat.le_of_ble_eq_true rfl) ⟨(Nat.le_of_ble_eq_true rfl), (Nat.le_of_ble_eq_true rfl)⟩ ⟨by show cells + 0 ≤ 629818; omega, by show slots + 0 ≤ 7212793; omega⟩ (fun v wc2 H locs hq hw => ?_)
  obtain ⟨rfl, hI2⟩ := h9 v wc2 hq
  refine lv_aload_n hx hb dL_1320 rfl (lv_at hl 2 rfl) ?_
  refine calR (As := []) (rest := [.int r]) cx hw hl.1 m2 q_1621 k_X12_judge rfl g1 rfl dL_1321 rfl (Nat.le_of_ble_eq_true rfl) ⟨(Nat.le_of_ble_eq_true rfl), (Nat.le_of_ble_eq_true rfl)⟩ ⟨by show cells + 0 ≤ 629818; omega, by show slots + 0 ≤ 7212793; omega⟩ (fun H locs hw => ?_)
  refine lv_icmp_eq (tgt := 1735) hx hb dL_1324 (by decide +kernel) (fun hc => ?_) (fun hc => absurd rfl hc)
  refine W.widen (k := cells + 6) (n := slots + 247) (by omega) (by omega) ?_
  exact kk _ _ H locs hI2 hw
theorem lc_sheet : LC 1329 := by
  intro p l e s m below meth c b L xs D t sa sv nm Q a am wc wm H locs ls i cells slots cx hX hbl hL hi hI hw hl hc1 hc2 kk
  have hx := cx.1
  have hb := cx.2.1
  obtain ⟨f0, g0⟩ := hI.c0
  obtain ⟨f1, g1⟩ := hI.m0
  obtain ⟨r, wm2, Qv, m1, m2, h9⟩ := si_sheet (l := l) (D := D) hI (xs (i + 1)) (xs (i + 2)) (xs (i + 3))
  refine lv_aload_n hx hb dL_1329 rfl (lv_at hl 1 rfl) ?_
  refine pushA (j := 1) cx hX hbl (Nat.not_le.mpr hbl) hw.2.2 hl hL (by omega) (by decide) (by decide) dL_1330 dL_1331 dL_1332 dL_1333 dL_1334 ?_
  refine pushA (j := 2) cx hX hbl (Nat.not_le.mpr hbl) hw.2.2 hl hL (by omega) (by decide) (by decide) dL_1335 dL_1336 dL_1337 dL_1338 dL_1339 ?_
  refine pushA (j := 3) cx hX hbl (Nat.not_le.mpr hbl) hw.2.2 hl hL (by omega) (by decide) (by decide) dL_1340 dL_1341 dL_1342 dL_1343 dL_1344 ?_
  refine calL (As := [.int (xs (i + 1)), .int (xs (i + 2)), .int (xs (i + 3))]) (rest := []) cx hw hl.1 m1 nE0 (fun _ _ _ => trivial) q_922 k_X11_sheet rfl g0 rfl dL_1345 rfl (Nat.le_of_ble_eq_true rfl) ⟨(Nat.le_of_ble_eq_true rfl), (Nat.le_of_ble_eq_true rfl)⟩ ⟨by show cells + 0 ≤ 629818; omega, by show slots + 0 ≤ 7212793; omega⟩ (fun v wc2 H locs hq hw => ?_)
  obtain ⟨rfl, hI2⟩ := h9 v wc2 hq
  refine lv_aload_n hx hb dL_1348 rfl (lv_at hl 2 rfl) ?_
  refine pushA (j := 1) cx hX hbl (Nat.not_le.mpr hbl) hw.2.2 hl hL (by omega) (by decide) (by decide) dL_1349 dL_1350 dL_1351 dL_1352 dL_1353 ?_
  refine pushA (j := 2) cx hX hbl (Nat.not_le.mpr hbl) hw.2.2 hl hL (by omega) (by decide) (by decide) dL_1354 dL_1355 dL_1356 dL_1357 dL_1358 ?_
  refine pushA (j := 3) cx hX hbl (Nat.not_le.mpr hbl) hw.2.2 hl hL (by omega) (by decide) (by decide) dL_1359 dL_1360 dL_1361 dL_1362 dL_1363 ?_
  refine calR (As := [.int (xs (i + 1)), .int (xs (i + 2)), .int (xs (i + 3))]) (rest := [.int r]) cx hw hl.1 m2 q_1629 k_X12_sheet rfl g1 rfl dL_1364 rfl (Nat.le_of_ble_eq_true rfl) ⟨(Nat.le_of_ble_eq_true rfl), (Nat.le_of_ble_eq_true rfl)⟩ ⟨by show cells + 0 ≤ 629818; omega, by show slots + 0 ≤ 7212793; omega⟩ (fun H locs hw => ?_)
  refine lv_icmp_eq (tgt := 1735) hx hb dL_1367 (by decide +kernel) (fun hc => ?_) (fun hc => absurd rfl hc)
  refine W.widen (k := cells + 6) (n := slots + 247) (by omega) (by omega) ?_
  exact kk _ _ H locs hI2 hw
theorem lc_write : LC 1372 := by
  intro p l e s m below meth c b L xs D t sa sv nm Q a am wc wm H locs ls i cells slots cx hX hbl hL hi hI hw hl hc1 hc2 kk
  have hx := cx.1
  have hb := cx.2.1
  obtain ⟨f0, g0⟩ := hI.c0
  obtain ⟨f1, g1⟩ := hI.m0
  obtain ⟨r, wm2, Qv, m1, m2, h9⟩ := si_write (l := l) (D := D) hI (xs (i + 1)) (xs (i + 2)) (xs (i + 3))
  refine lv_aload_n hx hb dL_1372 rfl (lv_at hl 1 rfl) ?_
  refine pushA (j := 1) cx hX hbl (Nat.not_le.mpr hbl) hw.2.2 hl hL (by omega) (by decide) (by decide) dL_1373 dL_1374 dL_1375 dL_1376 dL_1377 ?_
  refine pushA (j := 2) cx hX hbl (Nat.not_le.mpr hbl) hw.2.2 hl hL (by omega) (by decide) (by decide) dL_1378 dL_1379 dL_1380 dL_1381 dL_1382 ?_
  refine pushA (j := 3) cx hX hbl (Nat.not_le.mpr hbl) hw.2.2 hl hL (by omega) (by decide) (by decide) dL_1383 dL_1384 dL_1385 dL_1386 dL_1387 ?_
  refine calL (As := [.int (xs (i + 1)), .int (xs (i + 2)), .int (xs (i + 3))]) (rest := []) cx hw hl.1 m1 nE0 (fun _ _ _ => trivial) q_934 k_X11_write rfl g0 rfl dL_1388 rfl (Nat.le_of_ble_eq_true rfl) ⟨(Nat.le_of_ble_eq_true rfl), (Nat.le_of_ble_eq_true rfl)⟩ ⟨by show cells + 0 ≤ 629818; omega, by show slots + 0 ≤ 7212793; omega⟩ (fun v wc2 H locs hq hw => ?_)
  obtain ⟨rfl, hI2⟩ := h9 v wc2 hq
  refine lv_aload_n hx hb dL_1391 rfl (lv_at hl 2 rfl) ?_
  refine pushA (j := 1) cx hX hbl (Nat.not_le.mpr hbl) hw.2.2 hl hL (by omega) (by decide) (by decide) dL_1392 dL_1393 dL_1394 dL_1395 dL_1396 ?_
  refine pushA (j := 2) cx hX hbl (Nat.not_le.mpr hbl) hw.2.2 hl hL (by omega) (by decide) (by decide) dL_1397 dL_1398 dL_1399 dL_1400 dL_1401 ?_
  refine pushA (j := 3) cx hX hbl (Nat.not_le.mpr hbl) hw.2.2 hl hL (by omega) (by decide) (by decide) dL_1402 dL_1403 dL_1404 dL_1405 dL_1406 ?_
  refine calR (As := [.int (xs (i + 1)), .int (xs (i + 2)), .int (xs (i + 3))]) (rest := [.int r]) cx hw hl.1 m2 q_1636 k_X12_write rfl g1 rfl dL_1407 rfl (Nat.le_of_ble_eq_true rfl) ⟨(Nat.le_of_ble_eq_true rfl), (Nat.le_of_ble_eq_true rfl)⟩ ⟨by show cells + 0 ≤ 629818; omega, by show slots + 0 ≤ 7212793; omega⟩ (fun H locs hw => ?_)
  refine lv_icmp_eq (tgt := 1735) hx hb dL_1410 (by decide +kernel) (fun hc => ?_) (fun hc => absurd rfl hc)
  refine W.widen (k := cells + 6) (n := slots + 247) (by omega) (by omega) ?_
  exact kk _ _ H locs hI2 hw
theorem lc_item : LC 1415 := by
  intro p l e s m below meth c b L xs D t sa sv nm Q a am wc wm H locs ls i cells slots cx hX hbl hL hi hI hw hl hc1 hc2 kk
  have hx := cx.1
  have hb := cx.2.1
  obtain ⟨f0, g0⟩ := hI.c0
  obtain ⟨f1, g1⟩ := hI.m0
  obtain ⟨r, wm2, Qv, m1, m2, h9⟩ := si_item (l := l) (D := D) hI (xs (i + 1)) (xs (i + 2)) (xs (i + 3))
  refine lv_aload_n hx hb dL_1415 rfl (lv_at hl 1 rfl) ?_
  refine pushA (j := 1) cx hX hbl (Nat.not_le.mpr hbl) hw.2.2 hl hL (by omega) (by decide) (by decide) dL_1416 dL_1417 dL_1418 dL_1419 dL_1420 ?_
  refine pushA (j := 2) cx hX hbl (Nat.not_le.mpr hbl) hw.2.2 hl hL (by omega) (by decide) (by decide) dL_1421 dL_1422 dL_1423 dL_1424 dL_1425 ?_
  refine pushA (j := 3) cx hX hbl (Nat.not_le.mpr hbl) hw.2.2 hl hL (by omega) (by decide) (by decide) dL_1426 dL_1427 dL_1428 dL_1429 dL_1430 ?_
  refine calL (As := [.int (xs (i + 1)), .int (xs (i + 2)), .int (xs (i + 3))]) (rest := []) cx hw hl.1 m1 nE0 (fun _ _ _ => trivial) q_945 k_X11_item rfl g0 rfl dL_1431 rfl (Nat.le_of_ble_eq_true rfl) ⟨(Nat.le_of_ble_eq_true rfl), (Nat.le_of_ble_eq_true rfl)⟩ ⟨by show cells + 0 ≤ 629818; omega, by show slots + 0 ≤ 7212793; omega⟩ (fun v wc2 H locs hq hw => ?_)
  obtain ⟨rfl, hI2⟩ := h9 v wc2 hq
  refine lv_aload_n hx hb dL_1434 rfl (lv_at hl 2 rfl) ?_
  refine pushA (j := 1) cx hX hbl (Nat.not_le.mpr hbl) hw.2.2 hl hL (by omega) (by decide) (by decide) dL_1435 dL_1436 dL_1437 dL_1438 dL_1439 ?_
  refine pushA (j := 2) cx hX hbl (Nat.not_le.mpr hbl) hw.2.2 hl hL (by omega) (by decide) (by decide) dL_1440 dL_1441 dL_1442 dL_1443 dL_1444 ?_
  refine pushA (j := 3) cx hX hbl (Nat.not_le.mpr hbl) hw.2.2 hl hL (by omega) (by decide) (by decide) dL_1445 dL_1446 dL_1447 dL_1448 dL_1449 ?_
  refine calR (As := [.int (xs (i + 1)), .int (xs (i + 2)), .int (xs (i + 3))]) (rest := [.int r]) cx hw hl.1 m2 q_1643 k_X12_item rfl g1 rfl dL_1450 rfl (Nat.le_of_ble_eq_true rfl) ⟨(Nat.le_of_ble_eq_true rfl), (Nat.le_of_ble_eq_true rfl)⟩ ⟨by show cells + 0 ≤ 629818; omega, by show slots + 0 ≤ 7212793; omega⟩ (fun H locs hw => ?_)
  refine lv_icmp_eq (tgt := 1735) hx hb dL_1453 (by decide +kernel) (fun hc => ?_) (fun hc => absurd rfl hc)
  refine W.widen (k := cells + 6) (n := slots + 247) (by omega) (by omega) ?_
  exact kk _ _ H locs hI2 hw
theorem lc_goAll : LC 1458 := by
  intro p l e s m below meth c b L xs D t sa sv nm Q a am wc wm H locs ls i cells slots cx hX hbl hL hi hI hw hl hc1 hc2 kk
  have hx := cx.1
  have hb := cx.2.1
  obtain ⟨f0, g0⟩ := hI.c0
  obtain ⟨f1, g1⟩ := hI.m0
  obtain ⟨r, wm2, Qv, m1, m2, h9⟩ := si_goAll (l := l) (D := D) hI (xs (i + 1)) (xs (i + 2)) (xs (i + 3))
  refine lv_aload_n hx hb dL_1458 rfl (lv_at hl 1 rfl) ?_
  refine pushA (j := 1) cx hX hbl (Nat.not_le.mpr hbl) hw.2.2 hl hL (by omega) (by decide) (by decide) dL_1459 dL_1460 dL_1461 dL_1462 dL_1463 ?_
  refine pushA (j := 2) cx hX hbl (Nat.not_le.mpr hbl) hw.2.2 hl hL (by omega) (by decide) (by decide) dL_1464 dL_1465 dL_1466 dL_1467 dL_1468 ?_
  refine pushA (j := 3) cx hX hbl (Nat.not_le.mpr hbl) hw.2.2 hl hL (by omega) (by decide) (by decide) dL_1469 dL_1470 dL_1471 dL_1472 dL_1473 ?_
  refine calL (As := [.int (xs (i + 1)), .int (xs (i + 2)), .int (xs (i + 3))]) (rest := []) cx hw hl.1 m1 nE0 (fun _ _ _ => trivial) q_953 k_X11_goAll rfl g0 rfl dL_1474 rfl (Nat.le_of_ble_eq_true rfl) ⟨(Nat.le_of_ble_eq_true rfl), (Nat.le_of_ble_eq_true rfl)⟩ ⟨by show cells + 0 ≤ 629818; omega, by show slots + 0 ≤ 7212793; omega⟩ (fun v wc2 H locs hq hw => ?_)
  obtain ⟨rfl, hI2⟩ := h9 v wc2 hq
  refine lv_aload_n hx hb dL_1477 rfl (lv_at hl 2 rfl) ?_
  refine pushA (j := 1) cx hX hbl (Nat.not_le.mpr hbl) hw.2.2 hl hL (by omega) (by decide) (by decide) dL_1478 dL_1479 dL_1480 dL_1481 dL_1482 ?_
  refine pushA (j := 2) cx hX hbl (Nat.not_le.mpr hbl) hw.2.2 hl hL (by omega) (by decide) (by decide) dL_1483 dL_1484 dL_1485 dL_1486 dL_1487 ?_
  refine pushA (j := 3) cx hX hbl (Nat.not_le.mpr hbl) hw.2.2 hl hL (by omega) (by decide) (by decide) dL_1488 dL_1489 dL_1490 dL_1491 dL_1492 ?_
  refine calR (As := [.int (xs (i + 1)), .int (xs (i + 2)), .int (xs (i + 3))]) (rest := [.int r]) cx hw hl.1 m2 q_1651 k_X12_goAll rfl g1 rfl dL_1493 rfl (Nat.le_of_ble_eq_true rfl) ⟨(Nat.le_of_ble_eq_true rfl), (Nat.le_of_ble_eq_true rfl)⟩ ⟨by show cells + 0 ≤ 629818; omega, by show slots + 0 ≤ 7212793; omega⟩ (fun H locs hw => ?_)
  refine lv_icmp_eq (tgt := 1735) hx hb dL_1496 (by decide +kernel) (fun hc => ?_) (fun hc => absurd rfl hc)
  refine W.widen (k := cells + 6) (n := slots + 247) (by omega) (by omega) ?_
  exact kk _ _ H locs hI2 hw
theorem lc_wouldBe : LC 1501 := by
  intro p l e s m below meth c b L xs D t sa sv nm Q a am wc wm H locs ls i cells slots cx hX hbl hL hi hI hw hl hc1 hc2 kk
  have hx := cx.1
  have hb := cx.2.1
  obtain ⟨f0, g0⟩ := hI.c0
  obtain ⟨f1, g1⟩ := hI.m0
  obtain ⟨r, wm2, Qv, m1, m2, h9⟩ := si_wouldBe (l := l) (D := D) hI (xs (i + 1)) (xs (i + 2)) (xs (i + 3))
  refine lv_aload_n hx hb dL_1501 rfl (lv_at hl 1 rfl) ?_
  refine pushA (j := 1) cx hX hbl (Nat.not_le.mpr hbl) hw.2.2 hl hL (by omega) (by decide) (by decide) dL_1502 dL_1503 dL_1504 dL_1505 dL_1506 ?_
  refine pushA (j := 2) cx hX hbl (Nat.not_le.mpr hbl) hw.2.2 hl hL (by omega) (by decide) (by decide) dL_1507 dL_1508 dL_1509 dL_1510 dL_1511 ?_
  refine pushA (j := 3) cx hX hbl (Nat.not_le.mpr hbl) hw.2.2 hl hL (by omega) (by decide) (by decide) dL_1512 dL_1513 dL_1514 dL_1515 dL_1516 ?_
  refine calL (As := [.int (xs (i + 1)), .int (xs (i + 2)), .int (xs (i + 3))]) (rest := []) cx hw hl.1 m1 nE0 (fun _ _ _ => trivial) q_959 k_X11_wouldBe rfl g0 rfl dL_1517 rfl (Nat.le_of_ble_eq_true rfl) ⟨(Nat.le_of_ble_eq_true rfl), (Nat.le_of_ble_eq_true rfl)⟩ ⟨by show cells + 0 ≤ 629818; omega, by show slots + 0 ≤ 7212793; omega⟩ (fun v wc2 H locs hq hw => ?_)
  obtain ⟨rfl, hI2⟩ := h9 v wc2 hq
  refine lv_aload_n hx hb dL_1520 rfl (lv_at hl 2 rfl) ?_
  refine pushA (j := 1) cx hX hbl (Nat.not_le.mpr hbl) hw.2.2 hl hL (by omega) (by decide) (by decide) dL_1521 dL_1522 dL_1523 dL_1524 dL_1525 ?_
  refine pushA (j := 2) cx hX hbl (Nat.not_le.mpr hbl) hw.2.2 hl hL (by omega) (by decide) (by decide) dL_1526 dL_1527 dL_1528 dL_1529 dL_1530 ?_
  refine pushA (j := 3) cx hX hbl (Nat.not_le.mpr hbl) hw.2.2 hl hL (by omega) (by decide) (by decide) dL_1531 dL_1532 dL_1533 dL_1534 dL_1535 ?_
  refine calR (As := [.int (xs (i + 1)), .int (xs (i + 2)), .int (xs (i + 3))]) (rest := [.int r]) cx hw hl.1 m2 q_1659 k_X12_wouldBe rfl g1 rfl dL_1536 rfl (Nat.le_of_ble_eq_true rfl) ⟨(Nat.le_of_ble_eq_true rfl), (Nat.le_of_ble_eq_true rfl)⟩ ⟨by show cells + 0 ≤ 629818; omega, by show slots + 0 ≤ 7212793; omega⟩ (fun H locs hw => ?_)
  refine lv_icmp_eq (tgt := 1735) hx hb dL_1539 (by decide +kernel) (fun hc => ?_) (fun hc => absurd rfl hc)
  refine W.widen (k := cells + 6) (n := slots + 247) (by omega) (by omega) ?_
  exact kk _ _ H locs hI2 hw
theorem lc_shelf : LC 1544 := by
  intro p l e s m below meth c b L xs D t sa sv nm Q a am wc wm H locs ls i cells slots cx hX hbl hL hi hI hw hl hc1 hc2 kk
  have hx := cx.1
  have hb := cx.2.1
  obtain ⟨f0, g0⟩ := hI.c0
  obtain ⟨f1, g1⟩ := hI.m0
  obtain ⟨r, wm2, Qv, m1, m2, h9⟩ := si_shelf (l := l) (D := D) hI (xs (i + 1)) (xs (i + 2)) (xs (i + 3))
  refine lv_aload_n hx hb dL_1544 rfl (lv_at hl 1 rfl) ?_
  refine pushA (j := 1) cx hX hbl (Nat.not_le.mpr hbl) hw.2.2 hl hL (by omega) (by decide) (by decide) dL_1545 dL_1546 dL_1547 dL_1548 dL_1549 ?_
  refine pushA (j := 2) cx hX hbl (Nat.not_le.mpr hbl) hw.2.2 hl hL (by omega) (by decide) (by decide) dL_1550 dL_1551 dL_1552 dL_1553 dL_1554 ?_
  refine pushA (j := 3) cx hX hbl (Nat.not_le.mpr hbl) hw.2.2 hl hL (by omega) (by decide) (by decide) dL_1555 dL_1556 dL_1557 dL_1558 dL_1559 ?_
  refine calL (As := [.int (xs (i + 1)), .int (xs (i + 2)), .int (xs (i + 3))]) (rest := []) cx hw hl.1 m1 nE0 (fun _ _ _ => trivial) q_963 k_X11_shelf rfl g0 rfl dL_1560 rfl (Nat.le_of_ble_eq_true rfl) ⟨(Nat.le_of_ble_eq_true rfl), (Nat.le_of_ble_eq_true rfl)⟩ ⟨by show cells + 0 ≤ 629818; omega, by show slots + 0 ≤ 7212793; omega⟩ (fun v wc2 H locs hq hw => ?_)
  obtain ⟨rfl, hI2⟩ := h9 v wc2 hq
  refine lv_aload_n hx hb dL_1563 rfl (lv_at hl 2 rfl) ?_
  refine pushA (j := 1) cx hX hbl (Nat.not_le.mpr hbl) hw.2.2 hl hL (by omega) (by decide) (by decide) dL_1564 dL_1565 dL_1566 dL_1567 dL_1568 ?_
  refine pushA (j := 2) cx hX hbl (Nat.not_le.mpr hbl) hw.2.2 hl hL (by omega) (by decide) (by decide) dL_1569 dL_1570 dL_1571 dL_1572 dL_1573 ?_
  refine pushA (j := 3) cx hX hbl (Nat.not_le.mpr hbl) hw.2.2 hl hL (by omega) (by decide) (by decide) dL_1574 dL_1575 dL_1576 dL_1577 dL_1578 ?_
  refine calR (As := [.int (xs (i + 1)), .int (xs (i + 2)), .int (xs (i + 3))]) (rest := [.int r]) cx hw hl.1 m2 q_1663 k_X12_shelf rfl g1 rfl dL_1579 rfl (Nat.le_of_ble_eq_true rfl) ⟨(Nat.le_of_ble_eq_true rfl), (Nat.le_of_ble_eq_true rfl)⟩ ⟨by show cells + 0 ≤ 629818; omega, by show slots + 0 ≤ 7212793; omega⟩ (fun H locs hw => ?_)
  refine lv_icmp_eq (tgt := 1735) hx hb dL_1582 (by decide +kernel) (fun hc => ?_) (fun hc => absurd rfl hc)
  refine W.widen (k := cells + 6) (n := slots + 247) (by omega) (by omega) ?_
  exact kk _ _ H locs hI2 hw
theorem lc_taken : LC 1587 := by
  intro p l e s m below meth c b L xs D t sa sv nm Q a am wc wm H locs ls i cells slots cx hX hbl hL hi hI hw hl hc1 hc2 kk
  have hx := cx.1
  have hb := cx.2.1
  obtain ⟨f0, g0⟩ := hI.c0
  obtain ⟨f1, g1⟩ := hI.m0
  obtain ⟨r, wm2, Qv, m1, m2, h9⟩ := si_taken (l := l) (D := D) hI (xs (i + 1)) (xs (i + 2))
  refine lv_aload_n hx hb dL_1587 rfl (lv_at hl 1 rfl) ?_
  refine pushA (j := 1) cx hX hbl (Nat.not_le.mpr hbl) hw.2.2 hl hL (by omega) (by decide) (by decide) dL_1588 dL_1589 dL_1590 dL_1591 dL_1592 ?_
  refine pushA (j := 2) cx hX hbl (Nat.not_le.mpr hbl) hw.2.2 hl hL (by omega) (by decide) (by decide) dL_1593 dL_1594 dL_1595 dL_1596 dL_1597 ?_
  refine calL (As := [.int (xs (i + 1)), .int (xs (i + 2))]) (rest := []) cx hw hl.1 m1 nE0 (fun _ _ _ => trivial) q_971 k_X11_taken rfl g0 rfl dL_1598 rfl (Nat.le_of_ble_eq_true rfl) ⟨(Nat.le_of_ble_eq_true rfl), (Nat.le_of_ble_eq_true rfl)⟩ ⟨by show cells + 0 ≤ 629818; omega, by show slots + 0 ≤ 7212793; omega⟩ (fun v wc2 H locs hq hw => ?_)
  obtain ⟨rfl, hI2⟩ := h9 v wc2 hq
  refine lv_aload_n hx hb dL_1601 rfl (lv_at hl 2 rfl) ?_
  refine pushA (j := 1) cx hX hbl (Nat.not_le.mpr hbl) hw.2.2 hl hL (by omega) (by decide) (by decide) dL_1602 dL_1603 dL_1604 dL_1605 dL_1606 ?_
  refine pushA (j := 2) cx hX hbl (Nat.not_le.mpr hbl) hw.2.2 hl hL (by omega) (by decide) (by decide) dL_1607 dL_1608 dL_1609 dL_1610 dL_1611 ?_
  refine calR (As := [.int (xs (i + 1)), .int (xs (i + 2))]) (rest := [.int r]) cx hw hl.1 m2 q_1667 k_X12_taken rfl g1 rfl dL_1612 rfl (Nat.le_of_ble_eq_true rfl) ⟨(Nat.le_of_ble_eq_true rfl), (Nat.le_of_ble_eq_true rfl)⟩ ⟨by show cells + 0 ≤ 629818; omega, by show slots + 0 ≤ 7212793; omega⟩ (fun H locs hw => ?_)
  refine lv_icmp_eq (tgt := 1735) hx hb dL_1615 (by decide +kernel) (fun hc => ?_) (fun hc => absurd rfl hc)
  refine W.widen (k := cells + 6) (n := slots + 247) (by omega) (by omega) ?_
  exact kk _ _ H locs hI2 hw
theorem lc_act : LC 1620 := by
  intro p l e s m below meth c b L xs D t sa sv nm Q a am wc wm H locs ls i cells slots cx hX hbl hL hi hI hw hl hc1 hc2 kk
  have hx := cx.1
  have hb := cx.2.1
  obtain ⟨f0, g0⟩ := hI.c0
  obtain ⟨f1, g1⟩ := hI.m0
  obtain ⟨r, wm2, Qv, m1, m2, h9⟩ := si_act (l := l) (D := D) hI (xs (i + 1)) (xs (i + 2)) (xs (i + 3))
  refine lv_aload_n hx hb dL_1620 rfl (lv_at hl 1 rfl) ?_
  refine pushA (j := 1) cx hX hbl (Nat.not_le.mpr hbl) hw.2.2 hl hL (by omega) (by decide) (by decide) dL_1621 dL_1622 dL_1623 dL_1624 dL_1625 ?_
  refine pushA (j := 2) cx hX hbl (Nat.not_le.mpr hbl) hw.2.2 hl hL (by omega) (by decide) (by decide) dL_1626 dL_1627 dL_1628 dL_1629 dL_1630 ?_
  refine pushA (j := 3) cx hX hbl (Nat.not_le.mpr hbl) hw.2.2 hl hL (by omega) (by decide) (by decide) dL_1631 dL_1632 dL_1633 dL_1634 dL_1635 ?_
  refine calL (As := [.int (xs (i + 1)), .int (xs (i + 2)), .int (xs (i + 3))]) (rest := []) cx hw hl.1 m1 nE0 (fun _ _ _ => trivial) q_980 k_X11_act rfl g0 rfl dL_1636 rfl (Nat.le_of_ble_eq_true rfl) ⟨(Nat.le_of_ble_eq_true rfl), (Nat.le_of_ble_eq_true rfl)⟩ ⟨by show cells + 0 ≤ 629818; omega, by show slots + 0 ≤ 7212793; omega⟩ (fun v wc2 H locs hq hw => ?_)
  obtain ⟨rfl, hI2⟩ := h9 v wc2 hq
  refine lv_aload_n hx hb dL_1639 rfl (lv_at hl 2 rfl) ?_
  refine pushA (j := 1) cx hX hbl (Nat.not_le.mpr hbl) hw.2.2 hl hL (by omega) (by decide) (by decide) dL_1640 dL_1641 dL_1642 dL_1643 dL_1644 ?_
  refine pushA (j := 2) cx hX hbl (Nat.not_le.mpr hbl) hw.2.2 hl hL (by omega) (by decide) (by decide) dL_1645 dL_1646 dL_1647 dL_1648 dL_1649 ?_
  refine pushA (j := 3) cx hX hbl (Nat.not_le.mpr hbl) hw.2.2 hl hL (by omega) (by decide) (by decide) dL_1650 dL_1651 dL_1652 dL_1653 dL_1654 ?_
  refine calR (As := [.int (xs (i + 1)), .int (xs (i + 2)), .int (xs (i + 3))]) (rest := [.int r]) cx hw hl.1 m2 q_1675 k_X12_act rfl g1 rfl dL_1655 rfl (Nat.le_of_ble_eq_true rfl) ⟨(Nat.le_of_ble_eq_true rfl), (Nat.le_of_ble_eq_true rfl)⟩ ⟨by show cells + 0 ≤ 629818; omega, by show slots + 0 ≤ 7212793; omega⟩ (fun H locs hw => ?_)
  refine lv_icmp_eq (tgt := 1735) hx hb dL_1658 (by decide +kernel) (fun hc => ?_) (fun hc => absurd rfl hc)
  refine W.widen (k := cells + 6) (n := slots + 247) (by omega) (by omega) ?_
  exact kk _ _ H locs hI2 hw
theorem lc_trace : LC 1663 := by
  intro p l e s m below meth c b L xs D t sa sv nm Q a am wc wm H locs ls i cells slots cx hX hbl hL hi hI hw hl hc1 hc2 kk
  have hx := cx.1
  have hb := cx.2.1
  obtain ⟨f0, g0⟩ := hI.c0
  obtain ⟨f1, g1⟩ := hI.m0
  obtain ⟨r, wm2, Qv, m1, m2, h9⟩ := si_trace (l := l) (D := D) hI (xs (i + 1))
  refine lv_aload_n hx hb dL_1663 rfl (lv_at hl 1 rfl) ?_
  refine pushA (j := 1) cx hX hbl (Nat.not_le.mpr hbl) hw.2.2 hl hL (by omega) (by decide) (by decide) dL_1664 dL_1665 dL_1666 dL_1667 dL_1668 ?_
  refine calL (As := [.int (xs (i + 1))]) (rest := []) cx hw hl.1 m1 nE0 (fun _ _ _ => trivial) q_1075 k_X11_trace rfl g0 rfl dL_1669 rfl (Nat.le_of_ble_eq_true rfl) ⟨(Nat.le_of_ble_eq_true rfl), (Nat.le_of_ble_eq_true rfl)⟩ ⟨by show cells + 0 ≤ 629818; omega, by show slots + 0 ≤ 7212793; omega⟩ (fun v wc2 H locs hq hw => ?_)
  obtain ⟨rfl, hI2⟩ := h9 v wc2 hq
  refine lv_aload_n hx hb dL_1672 rfl (lv_at hl 2 rfl) ?_
  refine pushA (j := 1) cx hX hbl (Nat.not_le.mpr hbl) hw.2.2 hl hL (by omega) (by decide) (by decide) dL_1673 dL_1674 dL_1675 dL_1676 dL_1677 ?_
  refine calR (As := [.int (xs (i + 1))]) (rest := [.int r]) cx hw hl.1 m2 q_1699 k_X12_trace rfl g1 rfl dL_1678 rfl (Nat.le_of_ble_eq_true rfl) ⟨(Nat.le_of_ble_eq_true rfl), (Nat.le_of_ble_eq_true rfl)⟩ ⟨by show cells + 0 ≤ 629818; omega, by show slots + 0 ≤ 7212793; omega⟩ (fun H locs hw => ?_)
  refine lv_icmp_eq (tgt := 1735) hx hb dL_1681 (by decide +kernel) (fun hc => ?_) (fun hc => absurd rfl hc)
  refine W.widen (k := cells + 6) (n := slots + 247) (by omega) (by omega) ?_
  exact kk _ _ H locs hI2 hw
theorem lc_many : LC 1686 := by
  intro p l e s m below meth c b L xs D t sa sv nm Q a am wc wm H locs ls i cells slots cx hX hbl hL hi hI hw hl hc1 hc2 kk
  have hx := cx.1
  have hb := cx.2.1
  obtain ⟨f0, g0⟩ := hI.c0
  obtain ⟨f1, g1⟩ := hI.m0
  obtain ⟨r, wm2, Qv, m1, m2, h9⟩ := si_many (l := l) (D := D) hI (xs (i + 1))
  refine lv_aload_n hx hb dL_1686 rfl (lv_at hl 1 rfl) ?_
  refine pushA (j := 1) cx hX hbl (Nat.not_le.mpr hbl) hw.2.2 hl hL (by omega) (by decide) (by decide) dL_1687 dL_1688 dL_1689 dL_1690 dL_1691 ?_
  refine calL (As := [.int (xs (i + 1))]) (rest := []) cx hw hl.1 m1 nE0 (fun _ _ _ => trivial) q_1079 k_X11_many rfl g0 rfl dL_1692 rfl (Nat.le_of_ble_eq_true rfl) ⟨(Nat.le_of_ble_eq_true rfl), (Nat.le_of_ble_eq_true rfl)⟩ ⟨by show cells + 0 ≤ 629818; omega, by show slots + 0 ≤ 7212793; omega⟩ (fun v wc2 H locs hq hw => ?_)
  obtain ⟨rfl, hI2⟩ := h9 v wc2 hq
  refine lv_aload_n hx hb dL_1695 rfl (lv_at hl 2 rfl) ?_
  refine pushA (j := 1) cx hX hbl (Nat.not_le.mpr hbl) hw.2.2 hl hL (by omega) (by decide) (by decide) dL_1696 dL_1697 dL_1698 dL_1699 dL_1700 ?_
  refine calR (As := [.int (xs (i + 1))]) (rest := [.int r]) cx hw hl.1 m2 q_1703 k_X12_many rfl g1 rfl dL_1701 rfl (Nat.le_of_ble_eq_true rfl) ⟨(Nat.le_of_ble_eq_true rfl), (Nat.le_of_ble_eq_true rfl)⟩ ⟨by show cells + 0 ≤ 629818; omega, by show slots + 0 ≤ 7212793; omega⟩ (fun H locs hw => ?_)
  refine lv_icmp_eq (tgt := 1735) hx hb dL_1704 (by decide +kernel) (fun hc => ?_) (fun hc => absurd rfl hc)
  refine W.widen (k := cells + 6) (n := slots + 247) (by omega) (by omega) ?_
  exact kk _ _ H locs hI2 hw
theorem lc_keep : LC 1709 := by
  intro p l e s m below meth c b L xs D t sa sv nm Q a am wc wm H locs ls i cells slots cx hX hbl hL hi hI hw hl hc1 hc2 kk
  have hx := cx.1
  have hb := cx.2.1
  obtain ⟨f0, g0⟩ := hI.c0
  obtain ⟨f1, g1⟩ := hI.m0
  obtain ⟨r, wm2, Qv, m1, m2, h9⟩ := si_keep (l := l) (D := D) hI
  refine lv_aload_n hx hb dL_1709 rfl (lv_at hl 1 rfl) ?_
  refine calL (As := []) (rest := []) cx hw hl.1 m1 nE0 (fun _ _ _ => trivial) q_1083 k_X11_keep rfl g0 rfl dL_1710 rfl (Nat.le_of_ble_eq_true rfl) ⟨(Nat.le_of_ble_eq_true rfl), (Nat.le_of_ble_eq_true rfl)⟩ ⟨by show cells + 0 ≤ 629818; omega, by show slots + 0 ≤ 7212793; omega⟩ (fun v wc2 H locs hq hw => ?_)
  obtain ⟨rfl, hI2⟩ := h9 v wc2 hq
  refine lv_aload_n hx hb dL_1713 rfl (lv_at hl 2 rfl) ?_
  refine calR (As := []) (rest := [.int r]) cx hw hl.1 m2 q_1710 k_X12_keep rfl g1 rfl dL_1714 rfl (Nat.le_of_ble_eq_true rfl) ⟨(Nat.le_of_ble_eq_true rfl), (Nat.le_of_ble_eq_true rfl)⟩ ⟨by show cells + 0 ≤ 629818; omega, by show slots + 0 ≤ 7212793; omega⟩ (fun H locs hw => ?_)
  refine lv_icmp_eq (tgt := 1735) hx hb dL_1717 (by decide +kernel) (fun hc => ?_) (fun hc => absurd rfl hc)
  refine W.widen (k := cells + 6) (n := slots + 247) (by omega) (by omega) ?_
  exact kk _ _ H locs hI2 hw
theorem lc_again : LC 1722 := by
  intro p l e s m below meth c b L xs D t sa sv nm Q a am wc wm H locs ls i cells slots cx hX hbl hL hi hI hw hl hc1 hc2 kk
  have hx := cx.1
  have hb := cx.2.1
  obtain ⟨f0, g0⟩ := hI.c0
  obtain ⟨f1, g1⟩ := hI.m0
  obtain ⟨r, wm2, Qv, m1, m2, h9⟩ := si_again (l := l) (D := D) hI
  refine lv_aload_n hx hb dL_1722 rfl (lv_at hl 1 rfl) ?_
  refine calL (As := []) (rest := []) cx hw hl.1 m1 nE0 (fun _ _ _ => trivial) q_1087 k_X11_again rfl g0 rfl dL_1723 rfl (Nat.le_of_ble_eq_true rfl) ⟨(Nat.le_of_ble_eq_true rfl), (Nat.le_of_ble_eq_true rfl)⟩ ⟨by show cells + 0 ≤ 629818; omega, by show slots + 0 ≤ 7212793; omega⟩ (fun v wc2 H locs hq hw => ?_)
  obtain ⟨rfl, hI2⟩ := h9 v wc2 hq
  refine lv_aload_n hx hb dL_1726 rfl (lv_at hl 2 rfl) ?_
  refine calR (As := []) (rest := [.int r]) cx hw hl.1 m2 q_1714 k_X12_again rfl g1 rfl dL_1727 rfl (Nat.le_of_ble_eq_true rfl) ⟨(Nat.le_of_ble_eq_true rfl), (Nat.le_of_ble_eq_true rfl)⟩ ⟨by show cells + 0 ≤ 629818; omega, by show slots + 0 ≤ 7212793; omega⟩ (fun H locs hw => ?_)
  refine lv_icmp_eq (tgt := 1735) hx hb dL_1730 (by decide +kernel) (fun hc => ?_) (fun hc => absurd rfl hc)
  refine W.widen (k := cells + 6) (n := slots + 247) (by omega) (by omega) ?_
  exact kk _ _ H locs hI2 hw
