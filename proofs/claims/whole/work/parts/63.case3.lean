/-! the law's cases 16 to 24 -/
section LC
variable {p : Program} {l : Launch} {e : Env} {s : State} {m : MethodId} {args : Array Value} {below : List Frame} {meth : Method} {c : Code} {H : Heap} {locs : List Loc} {cells slots : Nat} {Q : State → Prop}
variable {ret : Option FieldType} {γ : kG} {A : Nat → Prop} {ls : Array Slot}
set_option maxHeartbeats 4000000 in
set_option maxRecDepth 100000 in
theorem L_case_16 (hfl : l.stackTraces = false) (hM : kM p s m args meth c cL_law 7 ret "InvoicebridgeLaw") (hE : kE γ A s) {b N : Nat} {xs : Nat → Int32} (hS : lX b N xs A s) {o om q nd i : Nat} {adm : Nat → Nat} (h : Lw γ A s o om q adm nd H locs) (hnd : nd < 512) (hi : i + 6 ≤ N) (hc : cells + 30 ≤ 601024) (hs : slots + 4000 ≤ 7293034) (hl : lv_has ls 7 [(0, .ref b), (1, .ref o), (2, .ref om), (3, .ref q), (4, .int (nI i))]) (kk : ∀ (H1 : Heap) (locs1 : List Loc) (ls1 : Array Slot), Lw γ A s o om q adm (nd + 1) H1 locs1 → lv_has ls1 7 [(0, .ref b), (1, .ref o), (2, .ref om), (3, .ref q), (4, .int (nI i))] → W p l e room_1 s m args below meth c H1 locs1 (cells + 30) (slots + 4000) Q (F0 m 1735 ls1 [])) : W p l e room_1 s m args below meth c H locs cells slots Q (F0 m 1226 ls []) := by
  obtain ⟨Lc, Lr, F, ad, tg, M, D, nd0, f, hX, hR, hI, hn0, hRm, hq⟩ := h
  have hx := hM.1
  have hb := hM.2.1
  refine lv_aload_n hx hb dL_law_1226 rfl (lv_at hl 1 rfl) ?_
  refine L_arg (j := 1) hM hS hX (by decide) (by omega) (lv_at hl 0 rfl) (lv_at hl 4 rfl) dL_law_1227 dL_law_1228 dL_law_1230 dL_law_1231 dL_law_1232 ?_
  refine L_arg (j := 2) hM hS hX (by decide) (by omega) (lv_at hl 0 rfl) (lv_at hl 4 rfl) dL_law_1233 dL_law_1234 dL_law_1236 dL_law_1237 dL_law_1238 ?_
  refine L_arg (j := 3) hM hS hX (by decide) (by omega) (lv_at hl 0 rfl) (lv_at hl 4 rfl) dL_law_1239 dL_law_1240 dL_law_1242 dL_law_1243 dL_law_1244 ?_
  refine lv_aload_n hx hb dL_law_1245 rfl (lv_at hl 3 rfl) ?_
  refine L_wrap (MC := lineOfM M (xs (i + 1)) (xs (i + 2)) (xs (i + 3))) (k_SW (n := 5) (As := [.ref o, .int (xs (i + 1)), .int (xs (i + 2)), .int (xs (i + 3)), .ref q]) (rest := []) hM hE (kX_left (kX_w hX)) hl (c_L_lineOf l hfl γ Lc F o q ad tg M nd0 D f hR hI (by omega) hq (xs (i + 1)) (xs (i + 2)) (xs (i + 3))) k_965 k_966 k_0 k_967 ⟨by decide, by decide, by decide +kernel⟩ ⟨Nat.le_of_ble_eq_true rfl, Nat.le_of_ble_eq_true rfl⟩ rfl rfl (Nat.le_of_ble_eq_true rfl) dL_law_1246 ⟨by show cells + 3 ≤ 601024; omega, by show slots + 18 ≤ 7293034; omega⟩) hE hX hRm (fun k Lc F1 H1 locs1 ad tg nd1 D1 f1 hX1 hR1 hI1 hn1 hk hq1 hf hRm1 => ?_)
  refine W.widen (k := cells + 30) (n := slots + 4000) (by show cells + 3 ≤ _; omega) (by show slots + 18 ≤ _; omega) ?_
  refine lv_istore (lv' := [(5, .int k), (0, .ref b), (1, .ref o), (2, .ref om), (3, .ref q), (4, .int (nI i))]) hx hb dL_law_1249 hl (by decide) rfl (fun ls hl => ?_)
  refine lv_aload_n hx hb dL_law_1251 rfl (lv_at hl 3 rfl) ?_
  refine L_arg (j := 1) hM hS hX1 (by decide) (by omega) (lv_at hl 1 rfl) (lv_at hl 5 rfl) dL_law_1252 dL_law_1253 dL_law_1255 dL_law_1256 dL_law_1257 ?_
  refine L_arg (j := 2) hM hS hX1 (by decide) (by omega) (lv_at hl 1 rfl) (lv_at hl 5 rfl) dL_law_1258 dL_law_1259 dL_law_1261 dL_law_1262 dL_law_1263 ?_
  refine L_arg (j := 3) hM hS hX1 (by decide) (by omega) (lv_at hl 1 rfl) (lv_at hl 5 rfl) dL_law_1264 dL_law_1265 dL_law_1267 dL_law_1268 dL_law_1269 ?_
  refine L_ref (MC := lineOfM M (xs (i + 1)) (xs (i + 2)) (xs (i + 3))) (k_V (n := 3) (As := [.int (xs (i + 1)), .int (xs (i + 2)), .int (xs (i + 3))]) (rest := []) hM hE (kX_left (kX_r hX1)) hl (c_X5_lineOf l γ Lr F1 om adm M hRm1 (xs (i + 1)) (xs (i + 2)) (xs (i + 3)) hI.1 hI.2.1) hRm1.1 hRm1.2.1 rfl k_1268 k_1269 k_1270 k_9 k_1271 ⟨rfl, by decide, by decide, by decide +kernel⟩ ⟨Nat.le_of_ble_eq_true rfl, Nat.le_of_ble_eq_true rfl⟩ rfl rfl (Nat.le_of_ble_eq_true rfl) dL_law_1270 ⟨by show cells + 30 ≤ 601024; omega, by show slots + 4000 ≤ 7293034; omega⟩) hE hX1 hR1 hq1 (fun F2 H2 locs2 hX2 hR2 hq2 hRm2 => ?_)
  refine W.widen (k := cells + 30) (n := slots + 4000) (Nat.le_refl _) (Nat.le_refl _) ?_
  refine lv_istore (lv' := [(6, .int (lineOfM M (xs (i + 1)) (xs (i + 2)) (xs (i + 3))).1), (5, .int k), (0, .ref b), (1, .ref o), (2, .ref om), (3, .ref q), (4, .int (nI i))]) hx hb dL_law_1273 hl (by decide) rfl (fun ls hl => ?_)
  exact L_tail hM rfl hE hX2 hRm2 hq2 hk hf hl ⟨by omega, by omega⟩ dL_law_1275 dL_law_1276 dL_law_1279 dL_law_1281 dL_law_1286 dL_law_1288 dL_law_1291 dL_law_1292 dL_law_1293 dL_law_1294 dL_law_1296 dL_law_1297 dL_law_1298 dL_law_1303 (by decide) (fun H3 locs3 hX3 => kk H3 locs3 ls ⟨Lc, Lr, F2, ad, tg, _, D1, nd1, f1, hX3, hR2, hI1, by omega, hRm2, hq2⟩ (lv_sub hl [2, 3, 4, 5, 6] rfl))
set_option maxHeartbeats 4000000 in
set_option maxRecDepth 100000 in
theorem L_case_17 (hfl : l.stackTraces = false) (hM : kM p s m args meth c cL_law 7 ret "InvoicebridgeLaw") (hE : kE γ A s) {b N : Nat} {xs : Nat → Int32} (hS : lX b N xs A s) {o om q nd i : Nat} {adm : Nat → Nat} (h : Lw γ A s o om q adm nd H locs) (hnd : nd < 512) (hi : i + 6 ≤ N) (hc : cells + 30 ≤ 601024) (hs : slots + 4000 ≤ 7293034) (hl : lv_has ls 7 [(0, .ref b), (1, .ref o), (2, .ref om), (3, .ref q), (4, .int (nI i))]) (kk : ∀ (H1 : Heap) (locs1 : List Loc) (ls1 : Array Slot), Lw γ A s o om q adm (nd + 1) H1 locs1 → lv_has ls1 7 [(0, .ref b), (1, .ref o), (2, .ref om), (3, .ref q), (4, .int (nI i))] → W p l e room_1 s m args below meth c H1 locs1 (cells + 30) (slots + 4000) Q (F0 m 1735 ls1 [])) : W p l e room_1 s m args below meth c H locs cells slots Q (F0 m 1306 ls []) := by
  obtain ⟨Lc, Lr, F, ad, tg, M, D, nd0, f, hX, hR, hI, hn0, hRm, hq⟩ := h
  have hx := hM.1
  have hb := hM.2.1
  refine lv_aload_n hx hb dL_law_1306 rfl (lv_at hl 1 rfl) ?_
  refine L_arg (j := 1) hM hS hX (by decide) (by omega) (lv_at hl 0 rfl) (lv_at hl 4 rfl) dL_law_1307 dL_law_1308 dL_law_1310 dL_law_1311 dL_law_1312 ?_
  refine lv_aload_n hx hb dL_law_1313 rfl (lv_at hl 3 rfl) ?_
  refine L_wrap (MC := cashM M (xs (i + 1))) (k_SW (n := 3) (As := [.ref o, .int (xs (i + 1)), .ref q]) (rest := []) hM hE (kX_left (kX_w hX)) hl (c_L_cash l hfl γ Lc F o q ad tg M nd0 D f hR hI (by omega) hq (xs (i + 1))) k_972 k_973 k_0 k_974 ⟨by decide, by decide, by decide +kernel⟩ ⟨Nat.le_of_ble_eq_true rfl, Nat.le_of_ble_eq_true rfl⟩ rfl rfl (Nat.le_of_ble_eq_true rfl) dL_law_1314 ⟨by show cells + 1 ≤ 601024; omega, by show slots + 6 ≤ 7293034; omega⟩) hE hX hRm (fun k Lc F1 H1 locs1 ad tg nd1 D1 f1 hX1 hR1 hI1 hn1 hk hq1 hf hRm1 => ?_)
  refine W.widen (k := cells + 30) (n := slots + 4000) (by show cells + 1 ≤ _; omega) (by show slots + 6 ≤ _; omega) ?_
  refine lv_istore (lv' := [(5, .int k), (0, .ref b), (1, .ref o), (2, .ref om), (3, .ref q), (4, .int (nI i))]) hx hb dL_law_1317 hl (by decide) rfl (fun ls hl => ?_)
  refine lv_aload_n hx hb dL_law_1319 rfl (lv_at hl 3 rfl) ?_
  refine L_arg (j := 1) hM hS hX1 (by decide) (by omega) (lv_at hl 1 rfl) (lv_at hl 5 rfl) dL_law_1320 dL_law_1321 dL_law_1323 dL_law_1324 dL_law_1325 ?_
  refine L_ref (MC := cashM M (xs (i + 1))) (k_V (n := 1) (As := [.int (xs (i + 1))]) (rest := []) hM hE (kX_left (kX_r hX1)) hl (c_X5_cash l γ Lr F1 om adm M hRm1 (xs (i + 1))) hRm1.1 hRm1.2.1 rfl k_1272 k_1273 k_1274 k_9 k_1275 ⟨rfl, by decide, by decide, by decide +kernel⟩ ⟨Nat.le_of_ble_eq_true rfl, Nat.le_of_ble_eq_true rfl⟩ rfl rfl (Nat.le_of_ble_eq_true rfl) dL_law_1326 ⟨by show cells + 30 ≤ 601024; omega, by show slots + 4000 ≤ 7293034; omega⟩) hE hX1 hR1 hq1 (fun F2 H2 locs2 hX2 hR2 hq2 hRm2 => ?_)
  refine W.widen (k := cells + 30) (n := slots + 4000) (Nat.le_refl _) (Nat.le_refl _) ?_
  refine lv_istore (lv' := [(6, .int (cashM M (xs (i + 1))).1), (5, .int k), (0, .ref b), (1, .ref o), (2, .ref om), (3, .ref q), (4, .int (nI i))]) hx hb dL_law_1329 hl (by decide) rfl (fun ls hl => ?_)
  exact L_tail hM rfl hE hX2 hRm2 hq2 hk hf hl ⟨by omega, by omega⟩ dL_law_1331 dL_law_1332 dL_law_1335 dL_law_1337 dL_law_1342 dL_law_1344 dL_law_1347 dL_law_1348 dL_law_1349 dL_law_1350 dL_law_1352 dL_law_1353 dL_law_1354 dL_law_1359 (by decide) (fun H3 locs3 hX3 => kk H3 locs3 ls ⟨Lc, Lr, F2, ad, tg, _, D1, nd1, f1, hX3, hR2, hI1, by omega, hRm2, hq2⟩ (lv_sub hl [2, 3, 4, 5, 6] rfl))
set_option maxHeartbeats 4000000 in
set_option maxRecDepth 100000 in
theorem L_case_18 (hfl : l.stackTraces = false) (hM : kM p s m args meth c cL_law 7 ret "InvoicebridgeLaw") (hE : kE γ A s) {b N : Nat} {xs : Nat → Int32} (hS : lX b N xs A s) {o om q nd i : Nat} {adm : Nat → Nat} (h : Lw γ A s o om q adm nd H locs) (hnd : nd < 512) (hi : i + 6 ≤ N) (hc : cells + 30 ≤ 601024) (hs : slots + 4000 ≤ 7293034) (hl : lv_has ls 7 [(0, .ref b), (1, .ref o), (2, .ref om), (3, .ref q), (4, .int (nI i))]) (kk : ∀ (H1 : Heap) (locs1 : List Loc) (ls1 : Array Slot), Lw γ A s o om q adm (nd + 1) H1 locs1 → lv_has ls1 7 [(0, .ref b), (1, .ref o), (2, .ref om), (3, .ref q), (4, .int (nI i))] → W p l e room_1 s m args below meth c H1 locs1 (cells + 30) (slots + 4000) Q (F0 m 1735 ls1 [])) : W p l e room_1 s m args below meth c H locs cells slots Q (F0 m 1362 ls []) := by
  obtain ⟨Lc, Lr, F, ad, tg, M, D, nd0, f, hX, hR, hI, hn0, hRm, hq⟩ := h
  have hx := hM.1
  have hb := hM.2.1
  refine lv_aload_n hx hb dL_law_1362 rfl (lv_at hl 1 rfl) ?_
  refine L_arg (j := 1) hM hS hX (by decide) (by omega) (lv_at hl 0 rfl) (lv_at hl 4 rfl) dL_law_1363 dL_law_1364 dL_law_1366 dL_law_1367 dL_law_1368 ?_
  refine lv_aload_n hx hb dL_law_1369 rfl (lv_at hl 3 rfl) ?_
  refine L_wrap (MC := cashAnewM M (xs (i + 1))) (k_SW (n := 3) (As := [.ref o, .int (xs (i + 1)), .ref q]) (rest := []) hM hE (kX_left (kX_w hX)) hl (c_L_cashAnew l hfl γ Lc F o q ad tg M nd0 D f hR hI (by omega) hq (xs (i + 1))) k_979 k_980 k_0 k_981 ⟨by decide, by decide, by decide +kernel⟩ ⟨Nat.le_of_ble_eq_true rfl, Nat.le_of_ble_eq_true rfl⟩ rfl rfl (Nat.le_of_ble_eq_true rfl) dL_law_1370 ⟨by show cells + 1 ≤ 601024; omega, by show slots + 6 ≤ 7293034; omega⟩) hE hX hRm (fun k Lc F1 H1 locs1 ad tg nd1 D1 f1 hX1 hR1 hI1 hn1 hk hq1 hf hRm1 => ?_)
  refine W.widen (k := cells + 30) (n := slots + 4000) (by show cells + 1 ≤ _; omega) (by show slots + 6 ≤ _; omega) ?_
  refine lv_istore (lv' := [(5, .int k), (0, .ref b), (1, .ref o), (2, .ref om), (3, .ref q), (4, .int (nI i))]) hx hb dL_law_1373 hl (by decide) rfl (fun ls hl => ?_)
  refine lv_aload_n hx hb dL_law_1375 rfl (lv_at hl 3 rfl) ?_
  refine L_arg (j := 1) hM hS hX1 (by decide) (by omega) (lv_at hl 1 rfl) (lv_at hl 5 rfl) dL_law_1376 dL_law_1377 dL_law_1379 dL_law_1380 dL_law_1381 ?_
  refine L_ref (MC := cashAnewM M (xs (i + 1))) (k_V (n := 1) (As := [.int (xs (i + 1))]) (rest := []) hM hE (kX_left (kX_r hX1)) hl (c_X5_cashAnew l γ Lr F1 om adm M hRm1 (xs (i + 1))) hRm1.1 hRm1.2.1 rfl k_1276 k_1277 k_1278 k_9 k_1279 ⟨rfl, by decide, by decide, by decide +kernel⟩ ⟨Nat.le_of_ble_eq_true rfl, Nat.le_of_ble_eq_true rfl⟩ rfl rfl (Nat.le_of_ble_eq_true rfl) dL_law_1382 ⟨by show cells + 30 ≤ 601024; omega, by show slots + 4000 ≤ 7293034; omega⟩) hE hX1 hR1 hq1 (fun F2 H2 locs2 hX2 hR2 hq2 hRm2 => ?_)
  refine W.widen (k := cells + 30) (n := slots + 4000) (Nat.le_refl _) (Nat.le_refl _) ?_
  refine lv_istore (lv' := [(6, .int (cashAnewM M (xs (i + 1))).1), (5, .int k), (0, .ref b), (1, .ref o), (2, .ref om), (3, .ref q), (4, .int (nI i))]) hx hb dL_law_1385 hl (by decide) rfl (fun ls hl => ?_)
  exact L_tail hM rfl hE hX2 hRm2 hq2 hk hf hl ⟨by omega, by omega⟩ dL_law_1387 dL_law_1388 dL_law_1391 dL_law_1393 dL_law_1398 dL_law_1400 dL_law_1403 dL_law_1404 dL_law_1405 dL_law_1406 dL_law_1408 dL_law_1409 dL_law_1410 dL_law_1415 (by decide) (fun H3 locs3 hX3 => kk H3 locs3 ls ⟨Lc, Lr, F2, ad, tg, _, D1, nd1, f1, hX3, hR2, hI1, by omega, hRm2, hq2⟩ (lv_sub hl [2, 3, 4, 5, 6] rfl))
set_option maxHeartbeats 4000000 in
set_option maxRecDepth 100000 in
theorem L_case_19 (hfl : l.stackTraces = false) (hM : kM p s m args meth c cL_law 7 ret "InvoicebridgeLaw") (hE : kE γ A s) {b N : Nat} {xs : Nat → Int32} (hS : lX b N xs A s) {o om q nd i : Nat} {adm : Nat → Nat} (h : Lw γ A s o om q adm nd H locs) (hnd : nd < 512) (hi : i + 6 ≤ N) (hc : cells + 30 ≤ 601024) (hs : slots + 4000 ≤ 7293034) (hl : lv_has ls 7 [(0, .ref b), (1, .ref o), (2, .ref om), (3, .ref q), (4, .int (nI i))]) (kk : ∀ (H1 : Heap) (locs1 : List Loc) (ls1 : Array Slot), Lw γ A s o om q adm (nd + 1) H1 locs1 → lv_has ls1 7 [(0, .ref b), (1, .ref o), (2, .ref om), (3, .ref q), (4, .int (nI i))] → W p l e room_1 s m args below meth c H1 locs1 (cells + 30) (slots + 4000) Q (F0 m 1735 ls1 [])) : W p l e room_1 s m args below meth c H locs cells slots Q (F0 m 1418 ls []) := by
  obtain ⟨Lc, Lr, F, ad, tg, M, D, nd0, f, hX, hR, hI, hn0, hRm, hq⟩ := h
  have hx := hM.1
  have hb := hM.2.1
  refine lv_aload_n hx hb dL_law_1418 rfl (lv_at hl 1 rfl) ?_
  refine L_arg (j := 1) hM hS hX (by decide) (by omega) (lv_at hl 0 rfl) (lv_at hl 4 rfl) dL_law_1419 dL_law_1420 dL_law_1422 dL_law_1423 dL_law_1424 ?_
  refine lv_aload_n hx hb dL_law_1425 rfl (lv_at hl 3 rfl) ?_
  refine L_wrap (MC := owedToM M (xs (i + 1))) (k_SW (n := 3) (As := [.ref o, .int (xs (i + 1)), .ref q]) (rest := []) hM hE (kX_left (kX_w hX)) hl (c_L_owedTo l hfl γ Lc F o q ad tg M nd0 D f hR hI (by omega) hq (xs (i + 1))) k_986 k_987 k_0 k_988 ⟨by decide, by decide, by decide +kernel⟩ ⟨Nat.le_of_ble_eq_true rfl, Nat.le_of_ble_eq_true rfl⟩ rfl rfl (Nat.le_of_ble_eq_true rfl) dL_law_1426 ⟨by show cells + 1 ≤ 601024; omega, by show slots + 6 ≤ 7293034; omega⟩) hE hX hRm (fun k Lc F1 H1 locs1 ad tg nd1 D1 f1 hX1 hR1 hI1 hn1 hk hq1 hf hRm1 => ?_)
  refine W.widen (k := cells + 30) (n := slots + 4000) (by show cells + 1 ≤ _; omega) (by show slots + 6 ≤ _; omega) ?_
  refine lv_istore (lv' := [(5, .int k), (0, .ref b), (1, .ref o), (2, .ref om), (3, .ref q), (4, .int (nI i))]) hx hb dL_law_1429 hl (by decide) rfl (fun ls hl => ?_)
  refine lv_aload_n hx hb dL_law_1431 rfl (lv_at hl 3 rfl) ?_
  refine L_arg (j := 1) hM hS hX1 (by decide) (by omega) (lv_at hl 1 rfl) (lv_at hl 5 rfl) dL_law_1432 dL_law_1433 dL_law_1435 dL_law_1436 dL_law_1437 ?_
  refine L_ref (MC := owedToM M (xs (i + 1))) (k_V (n := 1) (As := [.int (xs (i + 1))]) (rest := []) hM hE (kX_left (kX_r hX1)) hl (c_X5_owedTo l γ Lr F1 om adm M hRm1 (xs (i + 1)) hI.1 hI.2.1) hRm1.1 hRm1.2.1 rfl k_1280 k_1281 k_1282 k_9 k_1283 ⟨rfl, by decide, by decide, by decide +kernel⟩ ⟨Nat.le_of_ble_eq_true rfl, Nat.le_of_ble_eq_true rfl⟩ rfl rfl (Nat.le_of_ble_eq_true rfl) dL_law_1438 ⟨by show cells + 30 ≤ 601024; omega, by show slots + 4000 ≤ 7293034; omega⟩) hE hX1 hR1 hq1 (fun F2 H2 locs2 hX2 hR2 hq2 hRm2 => ?_)
  refine W.widen (k := cells + 30) (n := slots + 4000) (Nat.le_refl _) (Nat.le_refl _) ?_
  refine lv_istore (lv' := [(6, .int (owedToM M (xs (i + 1))).1), (5, .int k), (0, .ref b), (1, .ref o), (2, .ref om), (3, .ref q), (4, .int (nI i))]) hx hb dL_law_1441 hl (by decide) rfl (fun ls hl => ?_)
  exact L_tail hM rfl hE hX2 hRm2 hq2 hk hf hl ⟨by omega, by omega⟩ dL_law_1443 dL_law_1444 dL_law_1447 dL_law_1449 dL_law_1454 dL_law_1456 dL_law_1459 dL_law_1460 dL_law_1461 dL_law_1462 dL_law_1464 dL_law_1465 dL_law_1466 dL_law_1471 (by decide) (fun H3 locs3 hX3 => kk H3 locs3 ls ⟨Lc, Lr, F2, ad, tg, _, D1, nd1, f1, hX3, hR2, hI1, by omega, hRm2, hq2⟩ (lv_sub hl [2, 3, 4, 5, 6] rfl))
set_option maxHeartbeats 4000000 in
set_option maxRecDepth 100000 in
theorem L_case_20 (hfl : l.stackTraces = false) (hM : kM p s m args meth c cL_law 7 ret "InvoicebridgeLaw") (hE : kE γ A s) {b N : Nat} {xs : Nat → Int32} (hS : lX b N xs A s) {o om q nd i : Nat} {adm : Nat → Nat} (h : Lw γ A s o om q adm nd H locs) (hnd : nd < 512) (hi : i + 6 ≤ N) (hc : cells + 30 ≤ 601024) (hs : slots + 4000 ≤ 7293034) (hl : lv_has ls 7 [(0, .ref b), (1, .ref o), (2, .ref om), (3, .ref q), (4, .int (nI i))]) (kk : ∀ (H1 : Heap) (locs1 : List Loc) (ls1 : Array Slot), Lw γ A s o om q adm (nd + 1) H1 locs1 → lv_has ls1 7 [(0, .ref b), (1, .ref o), (2, .ref om), (3, .ref q), (4, .int (nI i))] → W p l e room_1 s m args below meth c H1 locs1 (cells + 30) (slots + 4000) Q (F0 m 1735 ls1 [])) : W p l e room_1 s m args below meth c H locs cells slots Q (F0 m 1474 ls []) := by
  obtain ⟨Lc, Lr, F, ad, tg, M, D, nd0, f, hX, hR, hI, hn0, hRm, hq⟩ := h
  have hx := hM.1
  have hb := hM.2.1
  refine lv_aload_n hx hb dL_law_1474 rfl (lv_at hl 1 rfl) ?_
  refine L_arg (j := 1) hM hS hX (by decide) (by omega) (lv_at hl 0 rfl) (lv_at hl 4 rfl) dL_law_1475 dL_law_1476 dL_law_1478 dL_law_1479 dL_law_1480 ?_
  refine lv_aload_n hx hb dL_law_1481 rfl (lv_at hl 3 rfl) ?_
  refine L_wrap (MC := owesM M (xs (i + 1))) (k_SW (n := 3) (As := [.ref o, .int (xs (i + 1)), .ref q]) (rest := []) hM hE (kX_left (kX_w hX)) hl (c_L_owes l hfl γ Lc F o q ad tg M nd0 D f hR hI (by omega) hq (xs (i + 1))) k_993 k_994 k_0 k_995 ⟨by decide, by decide, by decide +kernel⟩ ⟨Nat.le_of_ble_eq_true rfl, Nat.le_of_ble_eq_true rfl⟩ rfl rfl (Nat.le_of_ble_eq_true rfl) dL_law_1482 ⟨by show cells + 1 ≤ 601024; omega, by show slots + 6 ≤ 7293034; omega⟩) hE hX hRm (fun k Lc F1 H1 locs1 ad tg nd1 D1 f1 hX1 hR1 hI1 hn1 hk hq1 hf hRm1 => ?_)
  refine W.widen (k := cells + 30) (n := slots + 4000) (by show cells + 1 ≤ _; omega) (by show slots + 6 ≤ _; omega) ?_
  refine lv_istore (lv' := [(5, .int k), (0, .ref b), (1, .ref o), (2, .ref om), (3, .ref q), (4, .int (nI i))]) hx hb dL_law_1485 hl (by decide) rfl (fun ls hl => ?_)
  refine lv_aload_n hx hb dL_law_1487 rfl (lv_at hl 3 rfl) ?_
  refine L_arg (j := 1) hM hS hX1 (by decide) (by omega) (lv_at hl 1 rfl) (lv_at hl 5 rfl) dL_law_1488 dL_law_1489 dL_law_1491 dL_law_1492 dL_law_1493 ?_
  refine L_ref (MC := owesM M (xs (i + 1))) (k_V (n := 1) (As := [.int (xs (i + 1))]) (rest := []) hM hE (kX_left (kX_r hX1)) hl (c_X5_owes l γ Lr F1 om adm M hRm1 (xs (i + 1)) hI.1 hI.2.1) hRm1.1 hRm1.2.1 rfl k_1288 k_1289 k_1290 k_9 k_1291 ⟨rfl, by decide, by decide, by decide +kernel⟩ ⟨Nat.le_of_ble_eq_true rfl, Nat.le_of_ble_eq_true rfl⟩ rfl rfl (Nat.le_of_ble_eq_true rfl) dL_law_1494 ⟨by show cells + 30 ≤ 601024; omega, by show slots + 4000 ≤ 7293034; omega⟩) hE hX1 hR1 hq1 (fun F2 H2 locs2 hX2 hR2 hq2 hRm2 => ?_)
  refine W.widen (k := cells + 30) (n := slots + 4000) (Nat.le_refl _) (Nat.le_refl _) ?_
  refine lv_istore (lv' := [(6, .int (owesM M (xs (i + 1))).1), (5, .int k), (0, .ref b), (1, .ref o), (2, .ref om), (3, .ref q), (4, .int (nI i))]) hx hb dL_law_1497 hl (by decide) rfl (fun ls hl => ?_)
  exact L_tail hM rfl hE hX2 hRm2 hq2 hk hf hl ⟨by omega, by omega⟩ dL_law_1499 dL_law_1500 dL_law_1503 dL_law_1505 dL_law_1510 dL_law_1512 dL_law_1515 dL_law_1516 dL_law_1517 dL_law_1518 dL_law_1520 dL_law_1521 dL_law_1522 dL_law_1527 (by decide) (fun H3 locs3 hX3 => kk H3 locs3 ls ⟨Lc, Lr, F2, ad, tg, _, D1, nd1, f1, hX3, hR2, hI1, by omega, hRm2, hq2⟩ (lv_sub hl [2, 3, 4, 5, 6] rfl))
set_option maxHeartbeats 4000000 in
set_option maxRecDepth 100000 in
theorem L_case_21 (hfl : l.stackTraces = false) (hM : kM p s m args meth c cL_law 7 ret "InvoicebridgeLaw") (hE : kE γ A s) {b N : Nat} {xs : Nat → Int32} (hS : lX b N xs A s) {o om q nd i : Nat} {adm : Nat → Nat} (h : Lw γ A s o om q adm nd H locs) (hnd : nd < 512) (hi : i + 6 ≤ N) (hc : cells + 30 ≤ 601024) (hs : slots + 4000 ≤ 7293034) (hl : lv_has ls 7 [(0, .ref b), (1, .ref o), (2, .ref om), (3, .ref q), (4, .int (nI i))]) (kk : ∀ (H1 : Heap) (locs1 : List Loc) (ls1 : Array Slot), Lw γ A s o om q adm (nd + 1) H1 locs1 → lv_has ls1 7 [(0, .ref b), (1, .ref o), (2, .ref om), (3, .ref q), (4, .int (nI i))] → W p l e room_1 s m args below meth c H1 locs1 (cells + 30) (slots + 4000) Q (F0 m 1735 ls1 [])) : W p l e room_1 s m args below meth c H locs cells slots Q (F0 m 1530 ls []) := by
  obtain ⟨Lc, Lr, F, ad, tg, M, D, nd0, f, hX, hR, hI, hn0, hRm, hq⟩ := h
  have hx := hM.1
  have hb := hM.2.1
  refine lv_aload_n hx hb dL_law_1530 rfl (lv_at hl 1 rfl) ?_
  refine L_arg (j := 1) hM hS hX (by decide) (by omega) (lv_at hl 0 rfl) (lv_at hl 4 rfl) dL_law_1531 dL_law_1532 dL_law_1534 dL_law_1535 dL_law_1536 ?_
  refine L_arg (j := 2) hM hS hX (by decide) (by omega) (lv_at hl 0 rfl) (lv_at hl 4 rfl) dL_law_1537 dL_law_1538 dL_law_1540 dL_law_1541 dL_law_1542 ?_
  refine lv_aload_n hx hb dL_law_1543 rfl (lv_at hl 3 rfl) ?_
  refine L_wrap (MC := taxM M (xs (i + 1)) (xs (i + 2))) (k_SW (n := 4) (As := [.ref o, .int (xs (i + 1)), .int (xs (i + 2)), .ref q]) (rest := []) hM hE (kX_left (kX_w hX)) hl (c_L_tax l hfl γ Lc F o q ad tg M nd0 D f hR hI (by omega) hq (xs (i + 1)) (xs (i + 2))) k_1000 k_1001 k_0 k_1002 ⟨by decide, by decide, by decide +kernel⟩ ⟨Nat.le_of_ble_eq_true rfl, Nat.le_of_ble_eq_true rfl⟩ rfl rfl (Nat.le_of_ble_eq_true rfl) dL_law_1544 ⟨by show cells + 3 ≤ 601024; omega, by show slots + 18 ≤ 7293034; omega⟩) hE hX hRm (fun k Lc F1 H1 locs1 ad tg nd1 D1 f1 hX1 hR1 hI1 hn1 hk hq1 hf hRm1 => ?_)
  refine W.widen (k := cells + 30) (n := slots + 4000) (by show cells + 3 ≤ _; omega) (by show slots + 18 ≤ _; omega) ?_
  refine lv_istore (lv' := [(5, .int k), (0, .ref b), (1, .ref o), (2, .ref om), (3, .ref q), (4, .int (nI i))]) hx hb dL_law_1547 hl (by decide) rfl (fun ls hl => ?_)
  refine lv_aload_n hx hb dL_law_1549 rfl (lv_at hl 3 rfl) ?_
  refine L_arg (j := 1) hM hS hX1 (by decide) (by omega) (lv_at hl 1 rfl) (lv_at hl 5 rfl) dL_law_1550 dL_law_1551 dL_law_1553 dL_law_1554 dL_law_1555 ?_
  refine L_arg (j := 2) hM hS hX1 (by decide) (by omega) (lv_at hl 1 rfl) (lv_at hl 5 rfl) dL_law_1556 dL_law_1557 dL_law_1559 dL_law_1560 dL_law_1561 ?_
  refine L_ref (MC := taxM M (xs (i + 1)) (xs (i + 2))) (k_V (n := 2) (As := [.int (xs (i + 1)), .int (xs (i + 2))]) (rest := []) hM hE (kX_left (kX_r hX1)) hl (c_X5_tax l γ Lr F1 om adm M hRm1 (xs (i + 1)) (xs (i + 2)) hI.1 hI.2.1 hI.2.2.1 hI.xci hI.2.2.2.2.2.2.1) hRm1.1 hRm1.2.1 rfl k_1292 k_1293 k_1294 k_9 k_1295 ⟨rfl, by decide, by decide, by decide +kernel⟩ ⟨Nat.le_of_ble_eq_true rfl, Nat.le_of_ble_eq_true rfl⟩ rfl rfl (Nat.le_of_ble_eq_true rfl) dL_law_1562 ⟨by show cells + 30 ≤ 601024; omega, by show slots + 4000 ≤ 7293034; omega⟩) hE hX1 hR1 hq1 (fun F2 H2 locs2 hX2 hR2 hq2 hRm2 => ?_)
  refine W.widen (k := cells + 30) (n := slots + 4000) (Nat.le_refl _) (Nat.le_refl _) ?_
  refine lv_istore (lv' := [(6, .int (taxM M (xs (i + 1)) (xs (i + 2))).1), (5, .int k), (0, .ref b), (1, .ref o), (2, .ref om), (3, .ref q), (4, .int (nI i))]) hx hb dL_law_1565 hl (by decide) rfl (fun ls hl => ?_)
  exact L_tail hM rfl hE hX2 hRm2 hq2 hk hf hl ⟨by omega, by omega⟩ dL_law_1567 dL_law_1568 dL_law_1571 dL_law_1573 dL_law_1578 dL_law_1580 dL_law_1583 dL_law_1584 dL_law_1585 dL_law_1586 dL_law_1588 dL_law_1589 dL_law_1590 dL_law_1595 (by decide) (fun H3 locs3 hX3 => kk H3 locs3 ls ⟨Lc, Lr, F2, ad, tg, _, D1, nd1, f1, hX3, hR2, hI1, by omega, hRm2, hq2⟩ (lv_sub hl [2, 3, 4, 5, 6] rfl))
set_option maxHeartbeats 4000000 in
set_option maxRecDepth 100000 in
theorem L_case_22 (hfl : l.stackTraces = false) (hM : kM p s m args meth c cL_law 7 ret "InvoicebridgeLaw") (hE : kE γ A s) {b N : Nat} {xs : Nat → Int32} (hS : lX b N xs A s) {o om q nd i : Nat} {adm : Nat → Nat} (h : Lw γ A s o om q adm nd H locs) (hnd : nd < 512) (hi : i + 6 ≤ N) (hc : cells + 30 ≤ 601024) (hs : slots + 4000 ≤ 7293034) (hl : lv_has ls 7 [(0, .ref b), (1, .ref o), (2, .ref om), (3, .ref q), (4, .int (nI i))]) (kk : ∀ (H1 : Heap) (locs1 : List Loc) (ls1 : Array Slot), Lw γ A s o om q adm (nd + 1) H1 locs1 → lv_has ls1 7 [(0, .ref b), (1, .ref o), (2, .ref om), (3, .ref q), (4, .int (nI i))] → W p l e room_1 s m args below meth c H1 locs1 (cells + 30) (slots + 4000) Q (F0 m 1735 ls1 [])) : W p l e room_1 s m args below meth c H locs cells slots Q (F0 m 1598 ls []) := by
  obtain ⟨Lc, Lr, F, ad, tg, M, D, nd0, f, hX, hR, hI, hn0, hRm, hq⟩ := h
  have hx := hM.1
  have hb := hM.2.1
  refine lv_aload_n hx hb dL_law_1598 rfl (lv_at hl 1 rfl) ?_
  refine L_arg (j := 1) hM hS hX (by decide) (by omega) (lv_at hl 0 rfl) (lv_at hl 4 rfl) dL_law_1599 dL_law_1600 dL_law_1602 dL_law_1603 dL_law_1604 ?_
  refine L_arg (j := 2) hM hS hX (by decide) (by omega) (lv_at hl 0 rfl) (lv_at hl 4 rfl) dL_law_1605 dL_law_1606 dL_law_1608 dL_law_1609 dL_law_1610 ?_
  refine lv_aload_n hx hb dL_law_1611 rfl (lv_at hl 3 rfl) ?_
  refine L_wrap (MC := carriedM M (xs (i + 1)) (xs (i + 2))) (k_SW (n := 4) (As := [.ref o, .int (xs (i + 1)), .int (xs (i + 2)), .ref q]) (rest := []) hM hE (kX_left (kX_w hX)) hl (c_L_carried l hfl γ Lc F o q ad tg M nd0 D f hR hI (by omega) hq (xs (i + 1)) (xs (i + 2))) k_1039 k_1040 k_0 k_1041 ⟨by decide, by decide, by decide +kernel⟩ ⟨Nat.le_of_ble_eq_true rfl, Nat.le_of_ble_eq_true rfl⟩ rfl rfl (Nat.le_of_ble_eq_true rfl) dL_law_1612 ⟨by show cells + 3 ≤ 601024; omega, by show slots + 18 ≤ 7293034; omega⟩) hE hX hRm (fun k Lc F1 H1 locs1 ad tg nd1 D1 f1 hX1 hR1 hI1 hn1 hk hq1 hf hRm1 => ?_)
  refine W.widen (k := cells + 30) (n := slots + 4000) (by show cells + 3 ≤ _; omega) (by show slots + 18 ≤ _; omega) ?_
  refine lv_istore (lv' := [(5, .int k), (0, .ref b), (1, .ref o), (2, .ref om), (3, .ref q), (4, .int (nI i))]) hx hb dL_law_1615 hl (by decide) rfl (fun ls hl => ?_)
  refine lv_aload_n hx hb dL_law_1617 rfl (lv_at hl 3 rfl) ?_
  refine L_arg (j := 1) hM hS hX1 (by decide) (by omega) (lv_at hl 1 rfl) (lv_at hl 5 rfl) dL_law_1618 dL_law_1619 dL_law_1621 dL_law_1622 dL_law_1623 ?_
  refine L_arg (j := 2) hM hS hX1 (by decide) (by omega) (lv_at hl 1 rfl) (lv_at hl 5 rfl) dL_law_1624 dL_law_1625 dL_law_1627 dL_law_1628 dL_law_1629 ?_
  refine L_ref (MC := carriedM M (xs (i + 1)) (xs (i + 2))) (k_V (n := 2) (As := [.int (xs (i + 1)), .int (xs (i + 2))]) (rest := []) hM hE (kX_left (kX_r hX1)) hl (c_X5_carried l γ Lr F1 om adm M hRm1 (xs (i + 1)) (xs (i + 2)) hI.1 hI.2.1 hI.2.2.1 hI.xci hI.2.2.2.2.2.2.1) hRm1.1 hRm1.2.1 rfl k_1308 k_1309 k_1310 k_9 k_1311 ⟨rfl, by decide, by decide, by decide +kernel⟩ ⟨Nat.le_of_ble_eq_true rfl, Nat.le_of_ble_eq_true rfl⟩ rfl rfl (Nat.le_of_ble_eq_true rfl) dL_law_1630 ⟨by show cells + 30 ≤ 601024; omega, by show slots + 4000 ≤ 7293034; omega⟩) hE hX1 hR1 hq1 (fun F2 H2 locs2 hX2 hR2 hq2 hRm2 => ?_)
  refine W.widen (k := cells + 30) (n := slots + 4000) (Nat.le_refl _) (Nat.le_refl _) ?_
  refine lv_istore (lv' := [(6, .int (carriedM M (xs (i + 1)) (xs (i + 2))).1), (5, .int k), (0, .ref b), (1, .ref o), (2, .ref om), (3, .ref q), (4, .int (nI i))]) hx hb dL_law_1633 hl (by decide) rfl (fun ls hl => ?_)
  exact L_tail hM rfl hE hX2 hRm2 hq2 hk hf hl ⟨by omega, by omega⟩ dL_law_1635 dL_law_1636 dL_law_1639 dL_law_1641 dL_law_1646 dL_law_1648 dL_law_1651 dL_law_1652 dL_law_1653 dL_law_1654 dL_law_1656 dL_law_1657 dL_law_1658 dL_law_1663 (by decide) (fun H3 locs3 hX3 => kk H3 locs3 ls ⟨Lc, Lr, F2, ad, tg, _, D1, nd1, f1, hX3, hR2, hI1, by omega, hRm2, hq2⟩ (lv_sub hl [2, 3, 4, 5, 6] rfl))
set_option maxHeartbeats 4000000 in
set_option maxRecDepth 100000 in
theorem L_case_23 (hfl : l.stackTraces = false) (hM : kM p s m args meth c cL_law 7 ret "InvoicebridgeLaw") (hE : kE γ A s) {b N : Nat} {xs : Nat → Int32} (hS : lX b N xs A s) {o om q nd i : Nat} {adm : Nat → Nat} (h : Lw γ A s o om q adm nd H locs) (hnd : nd < 512) (hi : i + 6 ≤ N) (hc : cells + 30 ≤ 601024) (hs : slots + 4000 ≤ 7293034) (hl : lv_has ls 7 [(0, .ref b), (1, .ref o), (2, .ref om), (3, .ref q), (4, .int (nI i))]) (kk : ∀ (H1 : Heap) (locs1 : List Loc) (ls1 : Array Slot), Lw γ A s o om q adm (nd + 1) H1 locs1 → lv_has ls1 7 [(0, .ref b), (1, .ref o), (2, .ref om), (3, .ref q), (4, .int (nI i))] → W p l e room_1 s m args below meth c H1 locs1 (cells + 30) (slots + 4000) Q (F0 m 1735 ls1 [])) : W p l e room_1 s m args below meth c H locs cells slots Q (F0 m 1666 ls []) := by
  obtain ⟨Lc, Lr, F, ad, tg, M, D, nd0, f, hX, hR, hI, hn0, hRm, hq⟩ := h
  have hx := hM.1
  have hb := hM.2.1
  refine lv_aload_n hx hb dL_law_1666 rfl (lv_at hl 1 rfl) ?_
  refine L_arg (j := 1) hM hS hX (by decide) (by omega) (lv_at hl 0 rfl) (lv_at hl 4 rfl) dL_law_1667 dL_law_1668 dL_law_1670 dL_law_1671 dL_law_1672 ?_
  refine lv_aload_n hx hb dL_law_1673 rfl (lv_at hl 3 rfl) ?_
  refine L_wrap (MC := chainM M (xs (i + 1))) (k_SW (n := 3) (As := [.ref o, .int (xs (i + 1)), .ref q]) (rest := []) hM hE (kX_left (kX_w hX)) hl (c_L_chain l hfl γ Lc F o q ad tg M nd0 D f hR hI (by omega) hq (xs (i + 1))) k_1046 k_1047 k_0 k_1048 ⟨by decide, by decide, by decide +kernel⟩ ⟨Nat.le_of_ble_eq_true rfl, Nat.le_of_ble_eq_true rfl⟩ rfl rfl (Nat.le_of_ble_eq_true rfl) dL_law_1674 ⟨by show cells + 1 ≤ 601024; omega, by show slots + 6 ≤ 7293034; omega⟩) hE hX hRm (fun k Lc F1 H1 locs1 ad tg nd1 D1 f1 hX1 hR1 hI1 hn1 hk hq1 hf hRm1 => ?_)
  refine W.widen (k := cells + 30) (n := slots + 4000) (by show cells + 1 ≤ _; omega) (by show slots + 6 ≤ _; omega) ?_
  refine lv_istore (lv' := [(5, .int k), (0, .ref b), (1, .ref o), (2, .ref om), (3, .ref q), (4, .int (nI i))]) hx hb dL_law_1677 hl (by decide) rfl (fun ls hl => ?_)
  refine lv_aload_n hx hb dL_law_1679 rfl (lv_at hl 3 rfl) ?_
  refine L_arg (j := 1) hM hS hX1 (by decide) (by omega) (lv_at hl 1 rfl) (lv_at hl 5 rfl) dL_law_1680 dL_law_1681 dL_law_1683 dL_law_1684 dL_law_1685 ?_
  refine L_ref (MC := chainM M (xs (i + 1))) (k_V (n := 1) (As := [.int (xs (i + 1))]) (rest := []) hM hE (kX_left (kX_r hX1)) hl (c_X5_chain l γ Lr F1 om adm M hRm1 (xs (i + 1)) hI.1 hI.2.1) hRm1.1 hRm1.2.1 rfl k_1312 k_1313 k_1314 k_9 k_1315 ⟨rfl, by decide, by decide, by decide +kernel⟩ ⟨Nat.le_of_ble_eq_true rfl, Nat.le_of_ble_eq_true rfl⟩ rfl rfl (Nat.le_of_ble_eq_true rfl) dL_law_1686 ⟨by show cells + 30 ≤ 601024; omega, by show slots + 4000 ≤ 7293034; omega⟩) hE hX1 hR1 hq1 (fun F2 H2 locs2 hX2 hR2 hq2 hRm2 => ?_)
  refine W.widen (k := cells + 30) (n := slots + 4000) (Nat.le_refl _) (Nat.le_refl _) ?_
  refine lv_istore (lv' := [(6, .int (chainM M (xs (i + 1))).1), (5, .int k), (0, .ref b), (1, .ref o), (2, .ref om), (3, .ref q), (4, .int (nI i))]) hx hb dL_law_1689 hl (by decide) rfl (fun ls hl => ?_)
  exact L_tail hM rfl hE hX2 hRm2 hq2 hk hf hl ⟨by omega, by omega⟩ dL_law_1691 dL_law_1692 dL_law_1695 dL_law_1697 dL_law_1702 dL_law_1704 dL_law_1707 dL_law_1708 dL_law_1709 dL_law_1710 dL_law_1712 dL_law_1713 dL_law_1714 dL_law_1719 (by decide) (fun H3 locs3 hX3 => kk H3 locs3 ls ⟨Lc, Lr, F2, ad, tg, _, D1, nd1, f1, hX3, hR2, hI1, by omega, hRm2, hq2⟩ (lv_sub hl [2, 3, 4, 5, 6] rfl))
set_option maxHeartbeats 4000000 in
set_option maxRecDepth 100000 in
theorem L_case_24 (hfl : l.stackTraces = false) (hM : kM p s m args meth c cL_law 7 ret "InvoicebridgeLaw") (hE : kE γ A s) {b N : Nat} {xs : Nat → Int32} (hS : lX b N xs A s) {o om q nd i : Nat} {adm : Nat → Nat} (h : Lw γ A s o om q adm nd H locs) (hnd : nd < 512) (hi : i + 6 ≤ N) (hc : cells + 30 ≤ 601024) (hs : slots + 4000 ≤ 7293034) (hl : lv_has ls 7 [(0, .ref b), (1, .ref o), (2, .ref om), (3, .ref q), (4, .int (nI i))]) (kk : ∀ (H1 : Heap) (locs1 : List Loc) (ls1 : Array Slot), Lw γ A s o om q adm (nd + 1) H1 locs1 → lv_has ls1 7 [(0, .ref b), (1, .ref o), (2, .ref om), (3, .ref q), (4, .int (nI i))] → W p l e room_1 s m args below meth c H1 locs1 (cells + 30) (slots + 4000) Q (F0 m 1735 ls1 [])) : W p l e room_1 s m args below meth c H locs cells slots Q (F0 m 1722 ls []) := by
  obtain ⟨Lc, Lr, F, ad, tg, M, D, nd0, f, hX, hR, hI, hn0, hRm, hq⟩ := h
  have hx := hM.1
  have hb := hM.2.1
  refine lv_aload_n hx hb dL_law_1722 rfl (lv_at hl 1 rfl) ?_
  refine L_cls (MC := dayM M) (k_V (n := 0) (As := []) (rest := []) hM hE (kX_left hX) hl (c_X4_day l γ Lc F o ad tg M nd0 D hR hI) hR.1.1 hR.1.2.2 rfl k_492 k_493 k_494 k_1 k_495 ⟨rfl, by decide, by decide, by decide +kernel⟩ ⟨Nat.le_of_ble_eq_true rfl, Nat.le_of_ble_eq_true rfl⟩ rfl rfl (Nat.le_of_ble_eq_true rfl) dL_law_1723 ⟨by show cells + 0 ≤ 601024; omega, by show slots + 0 ≤ 7293034; omega⟩) hE hX (fun _ _ _ hp => After.rd hR hI hp) hRm hq (fun Lc F1 H1 locs1 ad tg nd1 D1 hX1 hR1 hI1 hn1 hq1 hRm1 => ?_)
  refine W.widen (k := cells + 30) (n := slots + 4000) (by show cells + 0 ≤ _; omega) (by show slots + 0 ≤ _; omega) ?_
  refine lv_aload_n hx hb dL_law_1726 rfl (lv_at hl 2 rfl) ?_
  refine L_ref (MC := dayM M) (k_V (n := 0) (As := []) (rest := [.int (dayM M).1]) hM hE (kX_left (kX_r hX1)) hl (c_X5_day l γ Lr F1 om adm M hRm1) hRm1.1 hRm1.2.1 rfl k_1316 k_1317 k_1318 k_9 k_1319 ⟨rfl, by decide, by decide, by decide +kernel⟩ ⟨Nat.le_of_ble_eq_true rfl, Nat.le_of_ble_eq_true rfl⟩ rfl rfl (Nat.le_of_ble_eq_true rfl) dL_law_1727 ⟨by show cells + 30 ≤ 601024; omega, by show slots + 4000 ≤ 7293034; omega⟩) hE hX1 hR1 hq1 (fun F2 H2 locs2 hX2 hR2 hq2 hRm2 => ?_)
  refine W.widen (k := cells + 30) (n := slots + 4000) (Nat.le_refl _) (Nat.le_refl _) ?_
  refine lv_icmp_eq (tgt := 1735) hx hb dL_law_1730 (by decide) (fun _ => ?_) (fun h9 => absurd rfl h9)
  exact kk H2 locs2 ls ⟨Lc, Lr, F2, ad, tg, _, D1, nd1, f, hX2, hR2, hI1, by omega, hRm2, hq2⟩ hl
end LC
