section Case3
variable {p : Program} {l : Launch} {e : Env} {s : State} {m : MethodId} {args : Array Value} {below : List Frame} {meth : Method} {c : Code} {H : Heap} {locs : List Loc} {cl sl : Nat} {Q0 : State → Prop} {ls : Array Slot} {D : va_G} {lo : Nat} {Γ : GT} {b Ln i o : Nat} {xs : Nat → Int32} {Z : WS}
set_option maxRecDepth 100000 in
set_option maxHeartbeats 4000000 in
theorem kc_depthOf (X : LF p l s m args c D lo Γ b Ln xs) (hH : Hp D lo Γ Z H) (hL : LI Γ o Z) (hS : va_S (lA lo) s.heap H locs) (hl : lv_has ls 9 (LV Γ o b i)) (hi : i + 3 < Ln) (hcl : cl + 48 ≤ 659995) (hsl : sl + 288 ≤ 7116119)
    (kk : ∀ (H1 : Heap) (locs1 : List Loc) (ls1 : Array Slot) (Z1 : WS), Hp D lo Γ Z1 H1 → LI Γ o Z1 → va_S (lA lo) s.heap H1 locs1 → lv_has ls1 9 (LV Γ o b i) → W p l e room_1 s m args below meth c H1 locs1 (cl + 48) (sl + 288) Q0 (F0 m 2211 ls1 [])) : W p l e room_1 s m args below meth c H locs cl sl Q0 (F0 m 1229 ls []) := by
  have X0 := X
  obtain ⟨S, hK, hX, hx8, hbl, hbA, hst, hLn⟩ := X0
  have hx := S.1
  have hb := S.2.1
  have hts := S.2.2.2.2
  obtain ⟨T, sz, bi, tu, th, mn, kt, Q, zs, be, kp, φ, V, ⟨L, K, si, P, rfl, hc⟩, hR⟩ := hL
  refine lv_aload_n hx hb dL_law_1229 rfl (lv_at hl 4 rfl) ?_
  refine ldS (k := 1) X hS (lv_at hl 5 rfl) (lv_at hl 0 rfl) (by omega) (by decide) dL_law_1230 dL_law_1231 dL_law_1233 dL_law_1234 dL_law_1235 ?_
  refine ldS (k := 2) X hS (lv_at hl 5 rfl) (lv_at hl 0 rfl) (by omega) (by decide) dL_law_1236 dL_law_1237 dL_law_1239 dL_law_1240 dL_law_1241 ?_
  refine lv_aload_n hx hb dL_law_1242 rfl (lv_at hl 2 rfl) ?_
  refine cLw S (w_depthOf ⟨hc.1.1.1, hc.1.1.2⟩ (c_X2_depthOf (l := l) (D := D) (lo := lo) (Γ := Γ) (L := L) (K := K) (sz := sz) (si := si) (P := P) (bi := bi) (tu := tu) (M := (th, mn, tu, kt, Q, zs, be, kp)) (V := V) (row := (xs (i + 1))) (x := (xs (i + 2))) hst hc) pq_v px_2) (vx_cwSW 4 hts gL_law_L_depthOf rfl rfl rfl (by decide +kernel) ⟨Nat.le_of_ble_eq_true rfl, Nat.le_of_ble_eq_true rfl⟩) hK hH hX hS rfl hl.1 rfl (by simp [Value.category]) dL_law_1243 ⟨Nat.le_trans (Nat.add_le_add_left (Nat.le_of_ble_eq_true rfl) cl) hcl, Nat.le_trans (Nat.add_le_add_left (Nat.le_of_ble_eq_true rfl) sl) hsl⟩ (fun v Z1 H locs hpost hH hS => ?_)
  obtain ⟨C1, V1, rfl, rfl, hcs, hv⟩ := qw1 (cc_2 ka_c) hpost
  refine W.widen (k := cl + 48) (n := sl + 288) (Nat.add_le_add_left (Nat.le_of_ble_eq_true rfl) cl) (Nat.add_le_add_left (Nat.le_of_ble_eq_true rfl) sl) ?_
  refine lv_istore (lv' := (6, .int (nI _)) :: LV Γ o b i) hx hb dL_law_1246 hl (by decide) rfl (fun ls hl => ?_)
  obtain ⟨h3a, h3k, -⟩ := gmo hH (j := 3) (by simp)
  refine lv_aload_n hx hb dL_law_1248 rfl (lv_at hl 4 rfl) ?_
  refine ldS (k := 1) X hS (lv_at hl 6 rfl) (lv_at hl 1 rfl) (by omega) (by decide) dL_law_1249 dL_law_1250 dL_law_1252 dL_law_1253 dL_law_1254 ?_
  refine ldS (k := 2) X hS (lv_at hl 6 rfl) (lv_at hl 1 rfl) (by omega) (by decide) dL_law_1255 dL_law_1256 dL_law_1258 dL_law_1259 dL_law_1260 ?_
  refine cV S (c_X3_depthOf (l := l) (D := D) (lo := lo) (Γ := Γ) (C := C1) (V := V1) (th := th) (mn := mn) (tm := tu) (kt := kt) (Q := Q) (zs := zs) (be := be) (kp := kp) (row := (xs (i + 1))) (x := (xs (i + 2))) hR.1) (cwV 2 hts gL_law_X3_depthOf rfl rfl rfl (by decide +kernel) ⟨Nat.le_of_ble_eq_true rfl, Nat.le_of_ble_eq_true rfl⟩) hK hH (Hp_recv hK hH h3a h3k rfl) hS rfl hl.1 rfl (by simp [Value.category]) dL_law_1261 ⟨hcl, hsl⟩ (fun v Z1 H locs hpost hH hS => ?_)
  obtain ⟨rfl, rfl⟩ := hpost
  refine W.widen (k := cl + 48) (n := sl + 288) (Nat.le_refl _) (Nat.le_refl _) ?_
  exact tlI X hH hS hl (congrArg Prod.fst (RI_depthOf hR)) (lt4_2 ka_c) (fun h0 => (hv h0).trans (congrArg (fun q => q.2.toInt64) (RI_depthOf hR).symm)) hcl hsl dL_law_1264 dL_law_1266 dL_law_1267 dL_law_1270 dL_law_1272 dL_law_1277 dL_law_1279 dL_law_1282 dL_law_1283 dL_law_1284 dL_law_1285 dL_law_1287 dL_law_1288 dL_law_1289 dL_law_1294 (by decide) (fun H locs ls hH hS hl => kk _ _ _ _ hH ⟨T, sz, bi, tu, _, mn, _, Q, zs, be, _, φ, V1, CSW_M hcs, hR⟩ hS hl)
set_option maxRecDepth 100000 in
set_option maxHeartbeats 4000000 in
theorem kc_above (X : LF p l s m args c D lo Γ b Ln xs) (hH : Hp D lo Γ Z H) (hL : LI Γ o Z) (hS : va_S (lA lo) s.heap H locs) (hl : lv_has ls 9 (LV Γ o b i)) (hi : i + 3 < Ln) (hcl : cl + 48 ≤ 659995) (hsl : sl + 288 ≤ 7116119)
    (kk : ∀ (H1 : Heap) (locs1 : List Loc) (ls1 : Array Slot) (Z1 : WS), Hp D lo Γ Z1 H1 → LI Γ o Z1 → va_S (lA lo) s.heap H1 locs1 → lv_has ls1 9 (LV Γ o b i) → W p l e room_1 s m args below meth c H1 locs1 (cl + 48) (sl + 288) Q0 (F0 m 2211 ls1 [])) : W p l e room_1 s m args below meth c H locs cl sl Q0 (F0 m 1297 ls []) := by
  have X0 := X
  obtain ⟨S, hK, hX, hx8, hbl, hbA, hst, hLn⟩ := X0
  have hx := S.1
  have hb := S.2.1
  have hts := S.2.2.2.2
  obtain ⟨T, sz, bi, tu, th, mn, kt, Q, zs, be, kp, φ, V, ⟨L, K, si, P, rfl, hc⟩, hR⟩ := hL
  refine lv_aload_n hx hb dL_law_1297 rfl (lv_at hl 4 rfl) ?_
  refine ldS (k := 1) X hS (lv_at hl 5 rfl) (lv_at hl 0 rfl) (by omega) (by decide) dL_law_1298 dL_law_1299 dL_law_1301 dL_law_1302 dL_law_1303 ?_
  refine ldS (k := 2) X hS (lv_at hl 5 rfl) (lv_at hl 0 rfl) (by omega) (by decide) dL_law_1304 dL_law_1305 dL_law_1307 dL_law_1308 dL_law_1309 ?_
  refine lv_aload_n hx hb dL_law_1310 rfl (lv_at hl 2 rfl) ?_
  refine cLw S (w_above ⟨hc.1.1.1, hc.1.1.2⟩ (c_X2_above (l := l) (D := D) (lo := lo) (Γ := Γ) (L := L) (K := K) (sz := sz) (si := si) (P := P) (bi := bi) (tu := tu) (M := (th, mn, tu, kt, Q, zs, be, kp)) (V := V) (row := (xs (i + 1))) (x := (xs (i + 2))) hst hc) pq_v px_2) (vx_cwSW 4 hts gL_law_L_above rfl rfl rfl (by decide +kernel) ⟨Nat.le_of_ble_eq_true rfl, Nat.le_of_ble_eq_true rfl⟩) hK hH hX hS rfl hl.1 rfl (by simp [Value.category]) dL_law_1311 ⟨Nat.le_trans (Nat.add_le_add_left (Nat.le_of_ble_eq_true rfl) cl) hcl, Nat.le_trans (Nat.add_le_add_left (Nat.le_of_ble_eq_true rfl) sl) hsl⟩ (fun v Z1 H locs hpost hH hS => ?_)
  obtain ⟨C1, V1, rfl, rfl, hcs, hv⟩ := qw1 (cc_2 ka_c) hpost
  refine W.widen (k := cl + 48) (n := sl + 288) (Nat.add_le_add_left (Nat.le_of_ble_eq_true rfl) cl) (Nat.add_le_add_left (Nat.le_of_ble_eq_true rfl) sl) ?_
  refine lv_istore (lv' := (6, .int (nI _)) :: LV Γ o b i) hx hb dL_law_1314 hl (by decide) rfl (fun ls hl => ?_)
  obtain ⟨h3a, h3k, -⟩ := gmo hH (j := 3) (by simp)
  refine lv_aload_n hx hb dL_law_1316 rfl (lv_at hl 4 rfl) ?_
  refine ldS (k := 1) X hS (lv_at hl 6 rfl) (lv_at hl 1 rfl) (by omega) (by decide) dL_law_1317 dL_law_1318 dL_law_1320 dL_law_1321 dL_law_1322 ?_
  refine ldS (k := 2) X hS (lv_at hl 6 rfl) (lv_at hl 1 rfl) (by omega) (by decide) dL_law_1323 dL_law_1324 dL_law_1326 dL_law_1327 dL_law_1328 ?_
  refine cV S (c_X3_above (l := l) (D := D) (lo := lo) (Γ := Γ) (C := C1) (V := V1) (th := th) (mn := mn) (tm := tu) (kt := kt) (Q := Q) (zs := zs) (be := be) (kp := kp) (row := (xs (i + 1))) (x := (xs (i + 2))) hR.1) (cwV 2 hts gL_law_X3_above rfl rfl rfl (by decide +kernel) ⟨Nat.le_of_ble_eq_true rfl, Nat.le_of_ble_eq_true rfl⟩) hK hH (Hp_recv hK hH h3a h3k rfl) hS rfl hl.1 rfl (by simp [Value.category]) dL_law_1329 ⟨hcl, hsl⟩ (fun v Z1 H locs hpost hH hS => ?_)
  obtain ⟨rfl, rfl⟩ := hpost
  refine W.widen (k := cl + 48) (n := sl + 288) (Nat.le_refl _) (Nat.le_refl _) ?_
  exact tlI X hH hS hl (congrArg Prod.fst (RI_above hR)) (lt4_2 ka_c) (fun h0 => (hv h0).trans (congrArg (fun q => q.2.toInt64) (RI_above hR).symm)) hcl hsl dL_law_1332 dL_law_1334 dL_law_1335 dL_law_1338 dL_law_1340 dL_law_1345 dL_law_1347 dL_law_1350 dL_law_1351 dL_law_1352 dL_law_1353 dL_law_1355 dL_law_1356 dL_law_1357 dL_law_1362 (by decide) (fun H locs ls hH hS hl => kk _ _ _ _ hH ⟨T, sz, bi, tu, _, mn, _, Q, zs, be, _, φ, V1, CSW_M hcs, hR⟩ hS hl)
set_option maxRecDepth 100000 in
set_option maxHeartbeats 4000000 in
theorem kc_leftOf (X : LF p l s m args c D lo Γ b Ln xs) (hH : Hp D lo Γ Z H) (hL : LI Γ o Z) (hS : va_S (lA lo) s.heap H locs) (hl : lv_has ls 9 (LV Γ o b i)) (hi : i + 3 < Ln) (hcl : cl + 48 ≤ 659995) (hsl : sl + 288 ≤ 7116119)
    (kk : ∀ (H1 : Heap) (locs1 : List Loc) (ls1 : Array Slot) (Z1 : WS), Hp D lo Γ Z1 H1 → LI Γ o Z1 → va_S (lA lo) s.heap H1 locs1 → lv_has ls1 9 (LV Γ o b i) → W p l e room_1 s m args below meth c H1 locs1 (cl + 48) (sl + 288) Q0 (F0 m 2211 ls1 [])) : W p l e room_1 s m args below meth c H locs cl sl Q0 (F0 m 1365 ls []) := by
  have X0 := X
  obtain ⟨S, hK, hX, hx8, hbl, hbA, hst, hLn⟩ := X0
  have hx := S.1
  have hb := S.2.1
  have hts := S.2.2.2.2
  obtain ⟨T, sz, bi, tu, th, mn, kt, Q, zs, be, kp, φ, V, ⟨L, K, si, P, rfl, hc⟩, hR⟩ := hL
  refine lv_aload_n hx hb dL_law_1365 rfl (lv_at hl 4 rfl) ?_
  refine ldS (k := 1) X hS (lv_at hl 5 rfl) (lv_at hl 0 rfl) (by omega) (by decide) dL_law_1366 dL_law_1367 dL_law_1369 dL_law_1370 dL_law_1371 ?_
  refine ldS (k := 2) X hS (lv_at hl 5 rfl) (lv_at hl 0 rfl) (by omega) (by decide) dL_law_1372 dL_law_1373 dL_law_1375 dL_law_1376 dL_law_1377 ?_
  refine lv_aload_n hx hb dL_law_1378 rfl (lv_at hl 2 rfl) ?_
  refine cLw S (w_leftOf ⟨hc.1.1.1, hc.1.1.2⟩ (c_X2_leftOf (l := l) (D := D) (lo := lo) (Γ := Γ) (L := L) (K := K) (sz := sz) (si := si) (P := P) (bi := bi) (tu := tu) (M := (th, mn, tu, kt, Q, zs, be, kp)) (V := V) (row := (xs (i + 1))) (x := (xs (i + 2))) hst hc) pq_v px_2) (vx_cwSW 4 hts gL_law_L_leftOf rfl rfl rfl (by decide +kernel) ⟨Nat.le_of_ble_eq_true rfl, Nat.le_of_ble_eq_true rfl⟩) hK hH hX hS rfl hl.1 rfl (by simp [Value.category]) dL_law_1379 ⟨Nat.le_trans (Nat.add_le_add_left (Nat.le_of_ble_eq_true rfl) cl) hcl, Nat.le_trans (Nat.add_le_add_left (Nat.le_of_ble_eq_true rfl) sl) hsl⟩ (fun v Z1 H locs hpost hH hS => ?_)
  obtain ⟨C1, V1, rfl, rfl, hcs, hv⟩ := qw1 (cc_2 ka_c) hpost
  refine W.widen (k := cl + 48) (n := sl + 288) (Nat.add_le_add_left (Nat.le_of_ble_eq_true rfl) cl) (Nat.add_le_add_left (Nat.le_of_ble_eq_true rfl) sl) ?_
  refine lv_istore (lv' := (6, .int (nI _)) :: LV Γ o b i) hx hb dL_law_1382 hl (by decide) rfl (fun ls hl => ?_)
  obtain ⟨h3a, h3k, -⟩ := gmo hH (j := 3) (by simp)
  refine lv_aload_n hx hb dL_law_1384 rfl (lv_at hl 4 rfl) ?_
  refine ldS (k := 1) X hS (lv_at hl 6 rfl) (lv_at hl 1 rfl) (by omega) (by decide) dL_law_1385 dL_law_1386 dL_law_1388 dL_law_1389 dL_law_1390 ?_
  refine ldS (k := 2) X hS (lv_at hl 6 rfl) (lv_at hl 1 rfl) (by omega) (by decide) dL_law_1391 dL_law_1392 dL_law_1394 dL_law_1395 dL_law_1396 ?_
  refine cV S (c_X3_leftOf (l := l) (D := D) (lo := lo) (Γ := Γ) (C := C1) (V := V1) (th := th) (mn := mn) (tm := tu) (kt := kt) (Q := Q) (zs := zs) (be := be) (kp := kp) (row := (xs (i + 1))) (x := (xs (i + 2))) hR.1) (cwV 2 hts gL_law_X3_leftOf rfl rfl rfl (by decide +kernel) ⟨Nat.le_of_ble_eq_true rfl, Nat.le_of_ble_eq_true rfl⟩) hK hH (Hp_recv hK hH h3a h3k rfl) hS rfl hl.1 rfl (by simp [Value.category]) dL_law_1397 ⟨hcl, hsl⟩ (fun v Z1 H locs hpost hH hS => ?_)
  obtain ⟨rfl, rfl⟩ := hpost
  refine W.widen (k := cl + 48) (n := sl + 288) (Nat.le_refl _) (Nat.le_refl _) ?_
  exact tlI X hH hS hl (congrArg Prod.fst (RI_leftOf hR)) (lt4_2 ka_c) (fun h0 => (hv h0).trans (congrArg (fun q => q.2.toInt64) (RI_leftOf hR).symm)) hcl hsl dL_law_1400 dL_law_1402 dL_law_1403 dL_law_1406 dL_law_1408 dL_law_1413 dL_law_1415 dL_law_1418 dL_law_1419 dL_law_1420 dL_law_1421 dL_law_1423 dL_law_1424 dL_law_1425 dL_law_1430 (by decide) (fun H locs ls hH hS hl => kk _ _ _ _ hH ⟨T, sz, bi, tu, _, mn, _, Q, zs, be, _, φ, V1, CSW_M hcs, hR⟩ hS hl)
set_option maxRecDepth 100000 in
set_option maxHeartbeats 4000000 in
theorem kc_rightOf (X : LF p l s m args c D lo Γ b Ln xs) (hH : Hp D lo Γ Z H) (hL : LI Γ o Z) (hS : va_S (lA lo) s.heap H locs) (hl : lv_has ls 9 (LV Γ o b i)) (hi : i + 3 < Ln) (hcl : cl + 48 ≤ 659995) (hsl : sl + 288 ≤ 7116119)
    (kk : ∀ (H1 : Heap) (locs1 : List Loc) (ls1 : Array Slot) (Z1 : WS), Hp D lo Γ Z1 H1 → LI Γ o Z1 → va_S (lA lo) s.heap H1 locs1 → lv_has ls1 9 (LV Γ o b i) → W p l e room_1 s m args below meth c H1 locs1 (cl + 48) (sl + 288) Q0 (F0 m 2211 ls1 [])) : W p l e room_1 s m args below meth c H locs cl sl Q0 (F0 m 1433 ls []) := by
  have X0 := X
  obtain ⟨S, hK, hX, hx8, hbl, hbA, hst, hLn⟩ := X0
  have hx := S.1
  have hb := S.2.1
  have hts := S.2.2.2.2
  obtain ⟨T, sz, bi, tu, th, mn, kt, Q, zs, be, kp, φ, V, ⟨L, K, si, P, rfl, hc⟩, hR⟩ := hL
  refine lv_aload_n hx hb dL_law_1433 rfl (lv_at hl 4 rfl) ?_
  refine ldS (k := 1) X hS (lv_at hl 5 rfl) (lv_at hl 0 rfl) (by omega) (by decide) dL_law_1434 dL_law_1435 dL_law_1437 dL_law_1438 dL_law_1439 ?_
  refine ldS (k := 2) X hS (lv_at hl 5 rfl) (lv_at hl 0 rfl) (by omega) (by decide) dL_law_1440 dL_law_1441 dL_law_1443 dL_law_1444 dL_law_1445 ?_
  refine lv_aload_n hx hb dL_law_1446 rfl (lv_at hl 2 rfl) ?_
  refine cLw S (w_rightOf ⟨hc.1.1.1, hc.1.1.2⟩ (c_X2_rightOf (l := l) (D := D) (lo := lo) (Γ := Γ) (L := L) (K := K) (sz := sz) (si := si) (P := P) (bi := bi) (tu := tu) (M := (th, mn, tu, kt, Q, zs, be, kp)) (V := V) (row := (xs (i + 1))) (x := (xs (i + 2))) hst hc) pq_v px_2) (vx_cwSW 4 hts gL_law_L_rightOf rfl rfl rfl (by decide +kernel) ⟨Nat.le_of_ble_eq_true rfl, Nat.le_of_ble_eq_true rfl⟩) hK hH hX hS rfl hl.1 rfl (by simp [Value.category]) dL_law_1447 ⟨Nat.le_trans (Nat.add_le_add_left (Nat.le_of_ble_eq_true rfl) cl) hcl, Nat.le_trans (Nat.add_le_add_left (Nat.le_of_ble_eq_true rfl) sl) hsl⟩ (fun v Z1 H locs hpost hH hS => ?_)
  obtain ⟨C1, V1, rfl, rfl, hcs, hv⟩ := qw1 (cc_2 ka_c) hpost
  refine W.widen (k := cl + 48) (n := sl + 288) (Nat.add_le_add_left (Nat.le_of_ble_eq_true rfl) cl) (Nat.add_le_add_left (Nat.le_of_ble_eq_true rfl) sl) ?_
  refine lv_istore (lv' := (6, .int (nI _)) :: LV Γ o b i) hx hb dL_law_1450 hl (by decide) rfl (fun ls hl => ?_)
  obtain ⟨h3a, h3k, -⟩ := gmo hH (j := 3) (by simp)
  refine lv_aload_n hx hb dL_law_1452 rfl (lv_at hl 4 rfl) ?_
  refine ldS (k := 1) X hS (lv_at hl 6 rfl) (lv_at hl 1 rfl) (by omega) (by decide) dL_law_1453 dL_law_1454 dL_law_1456 dL_law_1457 dL_law_1458 ?_
  refine ldS (k := 2) X hS (lv_at hl 6 rfl) (lv_at hl 1 rfl) (by omega) (by decide) dL_law_1459 dL_law_1460 dL_law_1462 dL_law_1463 dL_law_1464 ?_
  refine cV S (c_X3_rightOf (l := l) (D := D) (lo := lo) (Γ := Γ) (C := C1) (V := V1) (th := th) (mn := mn) (tm := tu) (kt := kt) (Q := Q) (zs := zs) (be := be) (kp := kp) (row := (xs (i + 1))) (x := (xs (i + 2))) hR.1) (cwV 2 hts gL_law_X3_rightOf rfl rfl rfl (by decide +kernel) ⟨Nat.le_of_ble_eq_true rfl, Nat.le_of_ble_eq_true rfl⟩) hK hH (Hp_recv hK hH h3a h3k rfl) hS rfl hl.1 rfl (by simp [Value.category]) dL_law_1465 ⟨hcl, hsl⟩ (fun v Z1 H locs hpost hH hS => ?_)
  obtain ⟨rfl, rfl⟩ := hpost
  refine W.widen (k := cl + 48) (n := sl + 288) (Nat.le_refl _) (Nat.le_refl _) ?_
  exact tlI X hH hS hl (congrArg Prod.fst (RI_rightOf hR)) (lt4_2 ka_c) (fun h0 => (hv h0).trans (congrArg (fun q => q.2.toInt64) (RI_rightOf hR).symm)) hcl hsl dL_law_1468 dL_law_1470 dL_law_1471 dL_law_1474 dL_law_1476 dL_law_1481 dL_law_1483 dL_law_1486 dL_law_1487 dL_law_1488 dL_law_1489 dL_law_1491 dL_law_1492 dL_law_1493 dL_law_1498 (by decide) (fun H locs ls hH hS hl => kk _ _ _ _ hH ⟨T, sz, bi, tu, _, mn, _, Q, zs, be, _, φ, V1, CSW_M hcs, hR⟩ hS hl)
set_option maxRecDepth 100000 in
set_option maxHeartbeats 4000000 in
theorem kc_below (X : LF p l s m args c D lo Γ b Ln xs) (hH : Hp D lo Γ Z H) (hL : LI Γ o Z) (hS : va_S (lA lo) s.heap H locs) (hl : lv_has ls 9 (LV Γ o b i)) (hi : i + 3 < Ln) (hcl : cl + 48 ≤ 659995) (hsl : sl + 288 ≤ 7116119)
    (kk : ∀ (H1 : Heap) (locs1 : List Loc) (ls1 : Array Slot) (Z1 : WS), Hp D lo Γ Z1 H1 → LI Γ o Z1 → va_S (lA lo) s.heap H1 locs1 → lv_has ls1 9 (LV Γ o b i) → W p l e room_1 s m args below meth c H1 locs1 (cl + 48) (sl + 288) Q0 (F0 m 2211 ls1 [])) : W p l e room_1 s m args below meth c H locs cl sl Q0 (F0 m 1501 ls []) := by
  have X0 := X
  obtain ⟨S, hK, hX, hx8, hbl, hbA, hst, hLn⟩ := X0
  have hx := S.1
  have hb := S.2.1
  have hts := S.2.2.2.2
  obtain ⟨T, sz, bi, tu, th, mn, kt, Q, zs, be, kp, φ, V, ⟨L, K, si, P, rfl, hc⟩, hR⟩ := hL
  refine lv_aload_n hx hb dL_law_1501 rfl (lv_at hl 4 rfl) ?_
  refine ldS (k := 1) X hS (lv_at hl 5 rfl) (lv_at hl 0 rfl) (by omega) (by decide) dL_law_1502 dL_law_1503 dL_law_1505 dL_law_1506 dL_law_1507 ?_
  refine ldS (k := 2) X hS (lv_at hl 5 rfl) (lv_at hl 0 rfl) (by omega) (by decide) dL_law_1508 dL_law_1509 dL_law_1511 dL_law_1512 dL_law_1513 ?_
  refine lv_aload_n hx hb dL_law_1514 rfl (lv_at hl 2 rfl) ?_
  refine cLw S (w_below ⟨hc.1.1.1, hc.1.1.2⟩ (c_X2_below (l := l) (D := D) (lo := lo) (Γ := Γ) (L := L) (K := K) (sz := sz) (si := si) (P := P) (bi := bi) (tu := tu) (M := (th, mn, tu, kt, Q, zs, be, kp)) (V := V) (row := (xs (i + 1))) (x := (xs (i + 2))) hst hc) pq_v px_2) (vx_cwSW 4 hts gL_law_L_below rfl rfl rfl (by decide +kernel) ⟨Nat.le_of_ble_eq_true rfl, Nat.le_of_ble_eq_true rfl⟩) hK hH hX hS rfl hl.1 rfl (by simp [Value.category]) dL_law_1515 ⟨Nat.le_trans (Nat.add_le_add_left (Nat.le_of_ble_eq_true rfl) cl) hcl, Nat.le_trans (Nat.add_le_add_left (Nat.le_of_ble_eq_true rfl) sl) hsl⟩ (fun v Z1 H locs hpost hH hS => ?_)
  obtain ⟨C1, V1, rfl, rfl, hcs, hv⟩ := qw1 (cc_2 ka_c) hpost
  refine W.widen (k := cl + 48) (n := sl + 288) (Nat.add_le_add_left (Nat.le_of_ble_eq_true rfl) cl) (Nat.add_le_add_left (Nat.le_of_ble_eq_true rfl) sl) ?_
  refine lv_istore (lv' := (6, .int (nI _)) :: LV Γ o b i) hx hb dL_law_1518 hl (by decide) rfl (fun ls hl => ?_)
  obtain ⟨h3a, h3k, -⟩ := gmo hH (j := 3) (by simp)
  refine lv_aload_n hx hb dL_law_1520 rfl (lv_at hl 4 rfl) ?_
  refine ldS (k := 1) X hS (lv_at hl 6 rfl) (lv_at hl 1 rfl) (by omega) (by decide) dL_law_1521 dL_law_1522 dL_law_1524 dL_law_1525 dL_law_1526 ?_
  refine ldS (k := 2) X hS (lv_at hl 6 rfl) (lv_at hl 1 rfl) (by omega) (by decide) dL_law_1527 dL_law_1528 dL_law_1530 dL_law_1531 dL_law_1532 ?_
  refine cV S (c_X3_below (l := l) (D := D) (lo := lo) (Γ := Γ) (C := C1) (V := V1) (th := th) (mn := mn) (tm := tu) (kt := kt) (Q := Q) (zs := zs) (be := be) (kp := kp) (row := (xs (i + 1))) (x := (xs (i + 2))) hR.1) (cwV 2 hts gL_law_X3_below rfl rfl rfl (by decide +kernel) ⟨Nat.le_of_ble_eq_true rfl, Nat.le_of_ble_eq_true rfl⟩) hK hH (Hp_recv hK hH h3a h3k rfl) hS rfl hl.1 rfl (by simp [Value.category]) dL_law_1533 ⟨hcl, hsl⟩ (fun v Z1 H locs hpost hH hS => ?_)
  obtain ⟨rfl, rfl⟩ := hpost
  refine W.widen (k := cl + 48) (n := sl + 288) (Nat.le_refl _) (Nat.le_refl _) ?_
  exact tlI X hH hS hl (congrArg Prod.fst (RI_below hR)) (lt4_2 ka_c) (fun h0 => (hv h0).trans (congrArg (fun q => q.2.toInt64) (RI_below hR).symm)) hcl hsl dL_law_1536 dL_law_1538 dL_law_1539 dL_law_1542 dL_law_1544 dL_law_1549 dL_law_1551 dL_law_1554 dL_law_1555 dL_law_1556 dL_law_1557 dL_law_1559 dL_law_1560 dL_law_1561 dL_law_1566 (by decide) (fun H locs ls hH hS hl => kk _ _ _ _ hH ⟨T, sz, bi, tu, _, mn, _, Q, zs, be, _, φ, V1, CSW_M hcs, hR⟩ hS hl)
set_option maxRecDepth 100000 in
set_option maxHeartbeats 4000000 in
theorem kc_eaten (X : LF p l s m args c D lo Γ b Ln xs) (hH : Hp D lo Γ Z H) (hL : LI Γ o Z) (hS : va_S (lA lo) s.heap H locs) (hl : lv_has ls 9 (LV Γ o b i)) (hi : i + 3 < Ln) (hcl : cl + 48 ≤ 659995) (hsl : sl + 288 ≤ 7116119)
    (kk : ∀ (H1 : Heap) (locs1 : List Loc) (ls1 : Array Slot) (Z1 : WS), Hp D lo Γ Z1 H1 → LI Γ o Z1 → va_S (lA lo) s.heap H1 locs1 → lv_has ls1 9 (LV Γ o b i) → W p l e room_1 s m args below meth c H1 locs1 (cl + 48) (sl + 288) Q0 (F0 m 2211 ls1 [])) : W p l e room_1 s m args below meth c H locs cl sl Q0 (F0 m 1569 ls []) := by
  have X0 := X
  obtain ⟨S, hK, hX, hx8, hbl, hbA, hst, hLn⟩ := X0
  have hx := S.1
  have hb := S.2.1
  have hts := S.2.2.2.2
  obtain ⟨T, sz, bi, tu, th, mn, kt, Q, zs, be, kp, φ, V, ⟨L, K, si, P, rfl, hc⟩, hR⟩ := hL
  refine lv_aload_n hx hb dL_law_1569 rfl (lv_at hl 4 rfl) ?_
  refine ldS (k := 1) X hS (lv_at hl 5 rfl) (lv_at hl 0 rfl) (by omega) (by decide) dL_law_1570 dL_law_1571 dL_law_1573 dL_law_1574 dL_law_1575 ?_
  refine ldS (k := 2) X hS (lv_at hl 5 rfl) (lv_at hl 0 rfl) (by omega) (by decide) dL_law_1576 dL_law_1577 dL_law_1579 dL_law_1580 dL_law_1581 ?_
  refine lv_aload_n hx hb dL_law_1582 rfl (lv_at hl 2 rfl) ?_
  refine cLw S (w_eaten ⟨hc.1.1.1, hc.1.1.2⟩ (c_X2_eaten (l := l) (D := D) (lo := lo) (Γ := Γ) (L := L) (K := K) (sz := sz) (si := si) (P := P) (bi := bi) (tu := tu) (M := (th, mn, tu, kt, Q, zs, be, kp)) (V := V) (row := (xs (i + 1))) (x := (xs (i + 2))) hst hc) pq_v px_2) (vx_cwSW 4 hts gL_law_L_eaten rfl rfl rfl (by decide +kernel) ⟨Nat.le_of_ble_eq_true rfl, Nat.le_of_ble_eq_true rfl⟩) hK hH hX hS rfl hl.1 rfl (by simp [Value.category]) dL_law_1583 ⟨Nat.le_trans (Nat.add_le_add_left (Nat.le_of_ble_eq_true rfl) cl) hcl, Nat.le_trans (Nat.add_le_add_left (Nat.le_of_ble_eq_true rfl) sl) hsl⟩ (fun v Z1 H locs hpost hH hS => ?_)
  obtain ⟨C1, V1, rfl, rfl, hcs, hv⟩ := qw1 (cc_2 ka_c) hpost
  refine W.widen (k := cl + 48) (n := sl + 288) (Nat.add_le_add_left (Nat.le_of_ble_eq_true rfl) cl) (Nat.add_le_add_left (Nat.le_of_ble_eq_true rfl) sl) ?_
  refine lv_istore (lv' := (6, .int (nI _)) :: LV Γ o b i) hx hb dL_law_1586 hl (by decide) rfl (fun ls hl => ?_)
  obtain ⟨h3a, h3k, -⟩ := gmo hH (j := 3) (by simp)
  refine lv_aload_n hx hb dL_law_1588 rfl (lv_at hl 4 rfl) ?_
  refine ldS (k := 1) X hS (lv_at hl 6 rfl) (lv_at hl 1 rfl) (by omega) (by decide) dL_law_1589 dL_law_1590 dL_law_1592 dL_law_1593 dL_law_1594 ?_
  refine ldS (k := 2) X hS (lv_at hl 6 rfl) (lv_at hl 1 rfl) (by omega) (by decide) dL_law_1595 dL_law_1596 dL_law_1598 dL_law_1599 dL_law_1600 ?_
  refine cV S (c_X3_eaten (l := l) (D := D) (lo := lo) (Γ := Γ) (C := C1) (V := V1) (th := th) (mn := mn) (tm := tu) (kt := kt) (Q := Q) (zs := zs) (be := be) (kp := kp) (row := (xs (i + 1))) (x := (xs (i + 2))) hR.1) (cwV 2 hts gL_law_X3_eaten rfl rfl rfl (by decide +kernel) ⟨Nat.le_of_ble_eq_true rfl, Nat.le_of_ble_eq_true rfl⟩) hK hH (Hp_recv hK hH h3a h3k rfl) hS rfl hl.1 rfl (by simp [Value.category]) dL_law_1601 ⟨hcl, hsl⟩ (fun v Z1 H locs hpost hH hS => ?_)
  obtain ⟨rfl, rfl⟩ := hpost
  refine W.widen (k := cl + 48) (n := sl + 288) (Nat.le_refl _) (Nat.le_refl _) ?_
  exact tlI X hH hS hl (congrArg Prod.fst (RI_eaten hR)) (lt4_2 ka_c) (fun h0 => (hv h0).trans (congrArg (fun q => q.2.toInt64) (RI_eaten hR).symm)) hcl hsl dL_law_1604 dL_law_1606 dL_law_1607 dL_law_1610 dL_law_1612 dL_law_1617 dL_law_1619 dL_law_1622 dL_law_1623 dL_law_1624 dL_law_1625 dL_law_1627 dL_law_1628 dL_law_1629 dL_law_1634 (by decide) (fun H locs ls hH hS hl => kk _ _ _ _ hH ⟨T, sz, bi, tu, _, mn, _, Q, zs, be, _, φ, V1, CSW_M hcs, hR⟩ hS hl)
end Case3
