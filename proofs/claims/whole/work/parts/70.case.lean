section Case0
variable {p : Program} {l : Launch} {e : Env} {s : State} {m : MethodId} {args : Array Value} {below : List Frame} {meth : Method} {c : Code} {H : Heap} {locs : List Loc} {cl sl : Nat} {Q0 : State → Prop} {ls : Array Slot} {D : va_G} {lo : Nat} {Γ : GT} {b Ln i o : Nat} {xs : Nat → Int32} {Z : WS}
set_option maxRecDepth 100000 in
set_option maxHeartbeats 4000000 in
theorem kc_plant (X : LF p l s m args c D lo Γ b Ln xs) (hH : Hp D lo Γ Z H) (hL : LI Γ o Z) (hS : va_S (lA lo) s.heap H locs) (hl : lv_has ls 9 (LV Γ o b i)) (hi : i + 3 < Ln) (hcl : cl + 48 ≤ 659995) (hsl : sl + 288 ≤ 7116119)
    (kk : ∀ (H1 : Heap) (locs1 : List Loc) (ls1 : Array Slot) (Z1 : WS), Hp D lo Γ Z1 H1 → LI Γ o Z1 → va_S (lA lo) s.heap H1 locs1 → lv_has ls1 9 (LV Γ o b i) → W p l e room_1 s m args below meth c H1 locs1 (cl + 48) (sl + 288) Q0 (F0 m 2211 ls1 [])) : W p l e room_1 s m args below meth c H locs cl sl Q0 (F0 m 192 ls []) := by
  have X0 := X
  obtain ⟨S, hK, hX, hx8, hbl, hbA, hst, hLn⟩ := X0
  have hx := S.1
  have hb := S.2.1
  have hts := S.2.2.2.2
  obtain ⟨T, sz, bi, tu, th, mn, kt, Q, zs, be, kp, φ, V, ⟨L, K, si, P, rfl, hc⟩, hR⟩ := hL
  refine lv_aload_n hx hb dL_law_192 rfl (lv_at hl 4 rfl) ?_
  refine ldS (k := 1) X hS (lv_at hl 5 rfl) (lv_at hl 0 rfl) (by omega) (by decide) dL_law_193 dL_law_194 dL_law_196 dL_law_197 dL_law_198 ?_
  refine ldS (k := 2) X hS (lv_at hl 5 rfl) (lv_at hl 0 rfl) (by omega) (by decide) dL_law_199 dL_law_200 dL_law_202 dL_law_203 dL_law_204 ?_
  refine lv_aload_n hx hb dL_law_205 rfl (lv_at hl 2 rfl) ?_
  refine cLw S (w_plant ⟨hc.1.1.1, hc.1.1.2⟩ (c_X2_plant (l := l) (D := D) (lo := lo) (Γ := Γ) (L := L) (K := K) (sz := sz) (si := si) (P := P) (bi := bi) (tu := tu) (M := (th, mn, tu, kt, Q, zs, be, kp)) (V := V) (row := (xs (i + 1))) (x := (xs (i + 2))) hst hc) hp_plant hx_plant) (vx_cwSW 4 hts gL_law_L_plant rfl rfl rfl (by decide +kernel) ⟨Nat.le_of_ble_eq_true rfl, Nat.le_of_ble_eq_true rfl⟩) hK hH hX hS rfl hl.1 rfl (by simp [Value.category]) dL_law_206 ⟨Nat.le_trans (Nat.add_le_add_left (Nat.le_of_ble_eq_true rfl) cl) hcl, Nat.le_trans (Nat.add_le_add_left (Nat.le_of_ble_eq_true rfl) sl) hsl⟩ (fun v Z1 H locs hpost hH hS => ?_)
  obtain ⟨C1, V1, k9, rfl, rfl, hk9, hnx⟩ := bo_plant rfl hc hR hpost
  refine W.widen (k := cl + 48) (n := sl + 288) (Nat.add_le_add_left (Nat.le_of_ble_eq_true rfl) cl) (Nat.add_le_add_left (Nat.le_of_ble_eq_true rfl) sl) ?_
  refine lv_istore (lv' := (6, .int (nI _)) :: LV Γ o b i) hx hb dL_law_209 hl (by decide) rfl (fun ls hl => ?_)
  obtain ⟨h3a, h3k, -⟩ := gmo hH (j := 3) (by simp)
  refine lv_aload_n hx hb dL_law_211 rfl (lv_at hl 4 rfl) ?_
  refine ldS (k := 1) X hS (lv_at hl 6 rfl) (lv_at hl 1 rfl) (by omega) (by decide) dL_law_212 dL_law_213 dL_law_215 dL_law_216 dL_law_217 ?_
  refine ldS (k := 2) X hS (lv_at hl 6 rfl) (lv_at hl 1 rfl) (by omega) (by decide) dL_law_218 dL_law_219 dL_law_221 dL_law_222 dL_law_223 ?_
  refine cV S (c_X3_plant (l := l) (D := D) (lo := lo) (Γ := Γ) (C := C1) (V := V1) (th := th) (mn := mn) (tm := tu) (kt := kt) (Q := Q) (zs := zs) (be := be) (kp := kp) (row := (xs (i + 1))) (x := (xs (i + 2))) hR.1) (cwV 2 hts gL_law_X3_plant rfl rfl rfl (by decide +kernel) ⟨Nat.le_of_ble_eq_true rfl, Nat.le_of_ble_eq_true rfl⟩) hK hH (Hp_recv hK hH h3a h3k rfl) hS rfl hl.1 rfl (by simp [Value.category]) dL_law_224 ⟨hcl, hsl⟩ (fun v Z1 H locs hpost hH hS => ?_)
  obtain ⟨w, M2, rfl, rfl, hth, hw, hL2⟩ := hnx _ _ hpost
  refine W.widen (k := cl + 48) (n := sl + 288) (Nat.le_refl _) (Nat.le_refl _) ?_
  exact tlI X hH hS hl hth hk9 hw hcl hsl dL_law_227 dL_law_229 dL_law_230 dL_law_233 dL_law_235 dL_law_240 dL_law_242 dL_law_245 dL_law_246 dL_law_247 dL_law_248 dL_law_250 dL_law_251 dL_law_252 dL_law_257 (by decide) (fun H locs ls hH hS hl => kk _ _ _ _ hH hL2 hS hl)
set_option maxRecDepth 100000 in
set_option maxHeartbeats 4000000 in
theorem kc_eat (X : LF p l s m args c D lo Γ b Ln xs) (hH : Hp D lo Γ Z H) (hL : LI Γ o Z) (hS : va_S (lA lo) s.heap H locs) (hl : lv_has ls 9 (LV Γ o b i)) (hi : i + 3 < Ln) (hcl : cl + 48 ≤ 659995) (hsl : sl + 288 ≤ 7116119)
    (kk : ∀ (H1 : Heap) (locs1 : List Loc) (ls1 : Array Slot) (Z1 : WS), Hp D lo Γ Z1 H1 → LI Γ o Z1 → va_S (lA lo) s.heap H1 locs1 → lv_has ls1 9 (LV Γ o b i) → W p l e room_1 s m args below meth c H1 locs1 (cl + 48) (sl + 288) Q0 (F0 m 2211 ls1 [])) : W p l e room_1 s m args below meth c H locs cl sl Q0 (F0 m 260 ls []) := by
  have X0 := X
  obtain ⟨S, hK, hX, hx8, hbl, hbA, hst, hLn⟩ := X0
  have hx := S.1
  have hb := S.2.1
  have hts := S.2.2.2.2
  obtain ⟨T, sz, bi, tu, th, mn, kt, Q, zs, be, kp, φ, V, ⟨L, K, si, P, rfl, hc⟩, hR⟩ := hL
  refine lv_aload_n hx hb dL_law_260 rfl (lv_at hl 4 rfl) ?_
  refine ldS (k := 1) X hS (lv_at hl 5 rfl) (lv_at hl 0 rfl) (by omega) (by decide) dL_law_261 dL_law_262 dL_law_264 dL_law_265 dL_law_266 ?_
  refine ldS (k := 2) X hS (lv_at hl 5 rfl) (lv_at hl 0 rfl) (by omega) (by decide) dL_law_267 dL_law_268 dL_law_270 dL_law_271 dL_law_272 ?_
  refine lv_aload_n hx hb dL_law_273 rfl (lv_at hl 2 rfl) ?_
  refine cLw S (w_eat ⟨hc.1.1.1, hc.1.1.2⟩ (c_X2_eat (l := l) (D := D) (lo := lo) (Γ := Γ) (L := L) (K := K) (sz := sz) (si := si) (P := P) (bi := bi) (tu := tu) (M := (th, mn, tu, kt, Q, zs, be, kp)) (V := V) (row := (xs (i + 1))) (x := (xs (i + 2))) hst hc) hp_eat hx_eat) (vx_cwSW 4 hts gL_law_L_eat rfl rfl rfl (by decide +kernel) ⟨Nat.le_of_ble_eq_true rfl, Nat.le_of_ble_eq_true rfl⟩) hK hH hX hS rfl hl.1 rfl (by simp [Value.category]) dL_law_274 ⟨Nat.le_trans (Nat.add_le_add_left (Nat.le_of_ble_eq_true rfl) cl) hcl, Nat.le_trans (Nat.add_le_add_left (Nat.le_of_ble_eq_true rfl) sl) hsl⟩ (fun v Z1 H locs hpost hH hS => ?_)
  obtain ⟨C1, V1, k9, rfl, rfl, hk9, hnx⟩ := bo_eat rfl hc hR hpost
  refine W.widen (k := cl + 48) (n := sl + 288) (Nat.add_le_add_left (Nat.le_of_ble_eq_true rfl) cl) (Nat.add_le_add_left (Nat.le_of_ble_eq_true rfl) sl) ?_
  refine lv_istore (lv' := (6, .int (nI _)) :: LV Γ o b i) hx hb dL_law_277 hl (by decide) rfl (fun ls hl => ?_)
  obtain ⟨h3a, h3k, -⟩ := gmo hH (j := 3) (by simp)
  refine lv_aload_n hx hb dL_law_279 rfl (lv_at hl 4 rfl) ?_
  refine ldS (k := 1) X hS (lv_at hl 6 rfl) (lv_at hl 1 rfl) (by omega) (by decide) dL_law_280 dL_law_281 dL_law_283 dL_law_284 dL_law_285 ?_
  refine ldS (k := 2) X hS (lv_at hl 6 rfl) (lv_at hl 1 rfl) (by omega) (by decide) dL_law_286 dL_law_287 dL_law_289 dL_law_290 dL_law_291 ?_
  refine cV S (c_X3_eat (l := l) (D := D) (lo := lo) (Γ := Γ) (C := C1) (V := V1) (th := th) (mn := mn) (tm := tu) (kt := kt) (Q := Q) (zs := zs) (be := be) (kp := kp) (row := (xs (i + 1))) (x := (xs (i + 2))) hR.1) (cwV 2 hts gL_law_X3_eat rfl rfl rfl (by decide +kernel) ⟨Nat.le_of_ble_eq_true rfl, Nat.le_of_ble_eq_true rfl⟩) hK hH (Hp_recv hK hH h3a h3k rfl) hS rfl hl.1 rfl (by simp [Value.category]) dL_law_292 ⟨hcl, hsl⟩ (fun v Z1 H locs hpost hH hS => ?_)
  obtain ⟨w, M2, rfl, rfl, hth, hw, hL2⟩ := hnx _ _ hpost
  refine W.widen (k := cl + 48) (n := sl + 288) (Nat.le_refl _) (Nat.le_refl _) ?_
  exact tlI X hH hS hl hth hk9 hw hcl hsl dL_law_295 dL_law_297 dL_law_298 dL_law_301 dL_law_303 dL_law_308 dL_law_310 dL_law_313 dL_law_314 dL_law_315 dL_law_316 dL_law_318 dL_law_319 dL_law_320 dL_law_325 (by decide) (fun H locs ls hH hS hl => kk _ _ _ _ hH hL2 hS hl)
set_option maxRecDepth 100000 in
set_option maxHeartbeats 4000000 in
theorem kc_pick (X : LF p l s m args c D lo Γ b Ln xs) (hH : Hp D lo Γ Z H) (hL : LI Γ o Z) (hS : va_S (lA lo) s.heap H locs) (hl : lv_has ls 9 (LV Γ o b i)) (hi : i + 3 < Ln) (hcl : cl + 48 ≤ 659995) (hsl : sl + 288 ≤ 7116119)
    (kk : ∀ (H1 : Heap) (locs1 : List Loc) (ls1 : Array Slot) (Z1 : WS), Hp D lo Γ Z1 H1 → LI Γ o Z1 → va_S (lA lo) s.heap H1 locs1 → lv_has ls1 9 (LV Γ o b i) → W p l e room_1 s m args below meth c H1 locs1 (cl + 48) (sl + 288) Q0 (F0 m 2211 ls1 [])) : W p l e room_1 s m args below meth c H locs cl sl Q0 (F0 m 328 ls []) := by
  have X0 := X
  obtain ⟨S, hK, hX, hx8, hbl, hbA, hst, hLn⟩ := X0
  have hx := S.1
  have hb := S.2.1
  have hts := S.2.2.2.2
  obtain ⟨T, sz, bi, tu, th, mn, kt, Q, zs, be, kp, φ, V, ⟨L, K, si, P, rfl, hc⟩, hR⟩ := hL
  refine lv_aload_n hx hb dL_law_328 rfl (lv_at hl 4 rfl) ?_
  refine ldS (k := 1) X hS (lv_at hl 5 rfl) (lv_at hl 0 rfl) (by omega) (by decide) dL_law_329 dL_law_330 dL_law_332 dL_law_333 dL_law_334 ?_
  refine ldS (k := 2) X hS (lv_at hl 5 rfl) (lv_at hl 0 rfl) (by omega) (by decide) dL_law_335 dL_law_336 dL_law_338 dL_law_339 dL_law_340 ?_
  refine lv_aload_n hx hb dL_law_341 rfl (lv_at hl 2 rfl) ?_
  refine cLw S (w_pick ⟨hc.1.1.1, hc.1.1.2⟩ (c_X2_pick (l := l) (D := D) (lo := lo) (Γ := Γ) (L := L) (K := K) (sz := sz) (si := si) (P := P) (bi := bi) (tu := tu) (M := (th, mn, tu, kt, Q, zs, be, kp)) (V := V) (row := (xs (i + 1))) (x := (xs (i + 2))) hst hc) hp_pick hx_pick) (vx_cwSW 4 hts gL_law_L_pick rfl rfl rfl (by decide +kernel) ⟨Nat.le_of_ble_eq_true rfl, Nat.le_of_ble_eq_true rfl⟩) hK hH hX hS rfl hl.1 rfl (by simp [Value.category]) dL_law_342 ⟨Nat.le_trans (Nat.add_le_add_left (Nat.le_of_ble_eq_true rfl) cl) hcl, Nat.le_trans (Nat.add_le_add_left (Nat.le_of_ble_eq_true rfl) sl) hsl⟩ (fun v Z1 H locs hpost hH hS => ?_)
  obtain ⟨C1, V1, k9, rfl, rfl, hk9, hnx⟩ := bo_pick rfl hc hR hpost
  refine W.widen (k := cl + 48) (n := sl + 288) (Nat.add_le_add_left (Nat.le_of_ble_eq_true rfl) cl) (Nat.add_le_add_left (Nat.le_of_ble_eq_true rfl) sl) ?_
  refine lv_istore (lv' := (6, .int (nI _)) :: LV Γ o b i) hx hb dL_law_345 hl (by decide) rfl (fun ls hl => ?_)
  obtain ⟨h3a, h3k, -⟩ := gmo hH (j := 3) (by simp)
  refine lv_aload_n hx hb dL_law_347 rfl (lv_at hl 4 rfl) ?_
  refine ldS (k := 1) X hS (lv_at hl 6 rfl) (lv_at hl 1 rfl) (by omega) (by decide) dL_law_348 dL_law_349 dL_law_351 dL_law_352 dL_law_353 ?_
  refine ldS (k := 2) X hS (lv_at hl 6 rfl) (lv_at hl 1 rfl) (by omega) (by decide) dL_law_354 dL_law_355 dL_law_357 dL_law_358 dL_law_359 ?_
  refine cV S (c_X3_pick (l := l) (D := D) (lo := lo) (Γ := Γ) (C := C1) (V := V1) (th := th) (mn := mn) (tm := tu) (kt := kt) (Q := Q) (zs := zs) (be := be) (kp := kp) (row := (xs (i + 1))) (x := (xs (i + 2))) hR.1) (cwV 2 hts gL_law_X3_pick rfl rfl rfl (by decide +kernel) ⟨Nat.le_of_ble_eq_true rfl, Nat.le_of_ble_eq_true rfl⟩) hK hH (Hp_recv hK hH h3a h3k rfl) hS rfl hl.1 rfl (by simp [Value.category]) dL_law_360 ⟨hcl, hsl⟩ (fun v Z1 H locs hpost hH hS => ?_)
  obtain ⟨w, M2, rfl, rfl, hth, hw, hL2⟩ := hnx _ _ hpost
  refine W.widen (k := cl + 48) (n := sl + 288) (Nat.le_refl _) (Nat.le_refl _) ?_
  exact tlI X hH hS hl hth hk9 hw hcl hsl dL_law_363 dL_law_365 dL_law_366 dL_law_369 dL_law_371 dL_law_376 dL_law_378 dL_law_381 dL_law_382 dL_law_383 dL_law_384 dL_law_386 dL_law_387 dL_law_388 dL_law_393 (by decide) (fun H locs ls hH hS hl => kk _ _ _ _ hH hL2 hS hl)
set_option maxRecDepth 100000 in
set_option maxHeartbeats 4000000 in
theorem kc_split (X : LF p l s m args c D lo Γ b Ln xs) (hH : Hp D lo Γ Z H) (hL : LI Γ o Z) (hS : va_S (lA lo) s.heap H locs) (hl : lv_has ls 9 (LV Γ o b i)) (hi : i + 3 < Ln) (hcl : cl + 48 ≤ 659995) (hsl : sl + 288 ≤ 7116119)
    (kk : ∀ (H1 : Heap) (locs1 : List Loc) (ls1 : Array Slot) (Z1 : WS), Hp D lo Γ Z1 H1 → LI Γ o Z1 → va_S (lA lo) s.heap H1 locs1 → lv_has ls1 9 (LV Γ o b i) → W p l e room_1 s m args below meth c H1 locs1 (cl + 48) (sl + 288) Q0 (F0 m 2211 ls1 [])) : W p l e room_1 s m args below meth c H locs cl sl Q0 (F0 m 396 ls []) := by
  have X0 := X
  obtain ⟨S, hK, hX, hx8, hbl, hbA, hst, hLn⟩ := X0
  have hx := S.1
  have hb := S.2.1
  have hts := S.2.2.2.2
  obtain ⟨T, sz, bi, tu, th, mn, kt, Q, zs, be, kp, φ, V, ⟨L, K, si, P, rfl, hc⟩, hR⟩ := hL
  refine lv_aload_n hx hb dL_law_396 rfl (lv_at hl 4 rfl) ?_
  refine ldS (k := 1) X hS (lv_at hl 5 rfl) (lv_at hl 0 rfl) (by omega) (by decide) dL_law_397 dL_law_398 dL_law_400 dL_law_401 dL_law_402 ?_
  refine ldS (k := 2) X hS (lv_at hl 5 rfl) (lv_at hl 0 rfl) (by omega) (by decide) dL_law_403 dL_law_404 dL_law_406 dL_law_407 dL_law_408 ?_
  refine ldS (k := 3) X hS (lv_at hl 5 rfl) (lv_at hl 0 rfl) (by omega) (by decide) dL_law_409 dL_law_410 dL_law_412 dL_law_413 dL_law_414 ?_
  refine lv_aload_n hx hb dL_law_415 rfl (lv_at hl 2 rfl) ?_
  refine cLw S (w_split ⟨hc.1.1.1, hc.1.1.2⟩ (c_X2_split (l := l) (D := D) (lo := lo) (Γ := Γ) (L := L) (K := K) (sz := sz) (si := si) (P := P) (bi := bi) (tu := tu) (M := (th, mn, tu, kt, Q, zs, be, kp)) (V := V) (row := (xs (i + 1))) (x := (xs (i + 2))) (y := (xs (i + 3))) hst hc) hp_split hx_split) (vx_cwSW 5 hts gL_law_L_split rfl rfl rfl (by decide +kernel) ⟨Nat.le_of_ble_eq_true rfl, Nat.le_of_ble_eq_true rfl⟩) hK hH hX hS rfl hl.1 rfl (by simp [Value.category]) dL_law_416 ⟨Nat.le_trans (Nat.add_le_add_left (Nat.le_of_ble_eq_true rfl) cl) hcl, Nat.le_trans (Nat.add_le_add_left (Nat.le_of_ble_eq_true rfl) sl) hsl⟩ (fun v Z1 H locs hpost hH hS => ?_)
  obtain ⟨C1, V1, k9, rfl, rfl, hk9, hnx⟩ := bo_split rfl hc hR hpost
  refine W.widen (k := cl + 48) (n := sl + 288) (Nat.add_le_add_left (Nat.le_of_ble_eq_true rfl) cl) (Nat.add_le_add_left (Nat.le_of_ble_eq_true rfl) sl) ?_
  refine lv_istore (lv' := (6, .int (nI _)) :: LV Γ o b i) hx hb dL_law_419 hl (by decide) rfl (fun ls hl => ?_)
  obtain ⟨h3a, h3k, -⟩ := gmo hH (j := 3) (by simp)
  refine lv_aload_n hx hb dL_law_421 rfl (lv_at hl 4 rfl) ?_
  refine ldS (k := 1) X hS (lv_at hl 6 rfl) (lv_at hl 1 rfl) (by omega) (by decide) dL_law_422 dL_law_423 dL_law_425 dL_law_426 dL_law_427 ?_
  refine ldS (k := 2) X hS (lv_at hl 6 rfl) (lv_at hl 1 rfl) (by omega) (by decide) dL_law_428 dL_law_429 dL_law_431 dL_law_432 dL_law_433 ?_
  refine ldS (k := 3) X hS (lv_at hl 6 rfl) (lv_at hl 1 rfl) (by omega) (by decide) dL_law_434 dL_law_435 dL_law_437 dL_law_438 dL_law_439 ?_
  refine cV S (c_X3_split (l := l) (D := D) (lo := lo) (Γ := Γ) (C := C1) (V := V1) (th := th) (mn := mn) (tm := tu) (kt := kt) (Q := Q) (zs := zs) (be := be) (kp := kp) (row := (xs (i + 1))) (x := (xs (i + 2))) (y := (xs (i + 3))) hR.1) (cwV 3 hts gL_law_X3_split rfl rfl rfl (by decide +kernel) ⟨Nat.le_of_ble_eq_true rfl, Nat.le_of_ble_eq_true rfl⟩) hK hH (Hp_recv hK hH h3a h3k rfl) hS rfl hl.1 rfl (by simp [Value.category]) dL_law_440 ⟨hcl, hsl⟩ (fun v Z1 H locs hpost hH hS => ?_)
  obtain ⟨w, M2, rfl, rfl, hth, hw, hL2⟩ := hnx _ _ hpost
  refine W.widen (k := cl + 48) (n := sl + 288) (Nat.le_refl _) (Nat.le_refl _) ?_
  exact tlI X hH hS hl hth hk9 hw hcl hsl dL_law_443 dL_law_445 dL_law_446 dL_law_449 dL_law_451 dL_law_456 dL_law_458 dL_law_461 dL_law_462 dL_law_463 dL_law_464 dL_law_466 dL_law_467 dL_law_468 dL_law_473 (by decide) (fun H locs ls hH hS hl => kk _ _ _ _ hH hL2 hS hl)
set_option maxRecDepth 100000 in
set_option maxHeartbeats 4000000 in
theorem kc_join (X : LF p l s m args c D lo Γ b Ln xs) (hH : Hp D lo Γ Z H) (hL : LI Γ o Z) (hS : va_S (lA lo) s.heap H locs) (hl : lv_has ls 9 (LV Γ o b i)) (hi : i + 3 < Ln) (hcl : cl + 48 ≤ 659995) (hsl : sl + 288 ≤ 7116119)
    (kk : ∀ (H1 : Heap) (locs1 : List Loc) (ls1 : Array Slot) (Z1 : WS), Hp D lo Γ Z1 H1 → LI Γ o Z1 → va_S (lA lo) s.heap H1 locs1 → lv_has ls1 9 (LV Γ o b i) → W p l e room_1 s m args below meth c H1 locs1 (cl + 48) (sl + 288) Q0 (F0 m 2211 ls1 [])) : W p l e room_1 s m args below meth c H locs cl sl Q0 (F0 m 476 ls []) := by
  have X0 := X
  obtain ⟨S, hK, hX, hx8, hbl, hbA, hst, hLn⟩ := X0
  have hx := S.1
  have hb := S.2.1
  have hts := S.2.2.2.2
  obtain ⟨T, sz, bi, tu, th, mn, kt, Q, zs, be, kp, φ, V, ⟨L, K, si, P, rfl, hc⟩, hR⟩ := hL
  refine lv_aload_n hx hb dL_law_476 rfl (lv_at hl 4 rfl) ?_
  refine ldS (k := 1) X hS (lv_at hl 5 rfl) (lv_at hl 0 rfl) (by omega) (by decide) dL_law_477 dL_law_478 dL_law_480 dL_law_481 dL_law_482 ?_
  refine ldS (k := 2) X hS (lv_at hl 5 rfl) (lv_at hl 0 rfl) (by omega) (by decide) dL_law_483 dL_law_484 dL_law_486 dL_law_487 dL_law_488 ?_
  refine lv_aload_n hx hb dL_law_489 rfl (lv_at hl 2 rfl) ?_
  refine cLw S (w_join ⟨hc.1.1.1, hc.1.1.2⟩ (c_X2_join (l := l) (D := D) (lo := lo) (Γ := Γ) (L := L) (K := K) (sz := sz) (si := si) (P := P) (bi := bi) (tu := tu) (M := (th, mn, tu, kt, Q, zs, be, kp)) (V := V) (row := (xs (i + 1))) (x := (xs (i + 2))) hst hc) hp_join hx_join) (vx_cwSW 4 hts gL_law_L_join rfl rfl rfl (by decide +kernel) ⟨Nat.le_of_ble_eq_true rfl, Nat.le_of_ble_eq_true rfl⟩) hK hH hX hS rfl hl.1 rfl (by simp [Value.category]) dL_law_490 ⟨Nat.le_trans (Nat.add_le_add_left (Nat.le_of_ble_eq_true rfl) cl) hcl, Nat.le_trans (Nat.add_le_add_left (Nat.le_of_ble_eq_true rfl) sl) hsl⟩ (fun v Z1 H locs hpost hH hS => ?_)
  obtain ⟨C1, V1, k9, rfl, rfl, hk9, hnx⟩ := bo_join rfl hc hR hpost
  refine W.widen (k := cl + 48) (n := sl + 288) (Nat.add_le_add_left (Nat.le_of_ble_eq_true rfl) cl) (Nat.add_le_add_left (Nat.le_of_ble_eq_true rfl) sl) ?_
  refine lv_istore (lv' := (6, .int (nI _)) :: LV Γ o b i) hx hb dL_law_493 hl (by decide) rfl (fun ls hl => ?_)
  obtain ⟨h3a, h3k, -⟩ := gmo hH (j := 3) (by simp)
  refine lv_aload_n hx hb dL_law_495 rfl (lv_at hl 4 rfl) ?_
  refine ldS (k := 1) X hS (lv_at hl 6 rfl) (lv_at hl 1 rfl) (by omega) (by decide) dL_law_496 dL_law_497 dL_law_499 dL_law_500 dL_law_501 ?_
  refine ldS (k := 2) X hS (lv_at hl 6 rfl) (lv_at hl 1 rfl) (by omega) (by decide) dL_law_502 dL_law_503 dL_law_505 dL_law_506 dL_law_507 ?_
  refine cV S (c_X3_join (l := l) (D := D) (lo := lo) (Γ := Γ) (C := C1) (V := V1) (th := th) (mn := mn) (tm := tu) (kt := kt) (Q := Q) (zs := zs) (be := be) (kp := kp) (row := (xs (i + 1))) (x := (xs (i + 2))) hR.1) (cwV 2 hts gL_law_X3_join rfl rfl rfl (by decide +kernel) ⟨Nat.le_of_ble_eq_true rfl, Nat.le_of_ble_eq_true rfl⟩) hK hH (Hp_recv hK hH h3a h3k rfl) hS rfl hl.1 rfl (by simp [Value.category]) dL_law_508 ⟨hcl, hsl⟩ (fun v Z1 H locs hpost hH hS => ?_)
  obtain ⟨w, M2, rfl, rfl, hth, hw, hL2⟩ := hnx _ _ hpost
  refine W.widen (k := cl + 48) (n := sl + 288) (Nat.le_refl _) (Nat.le_refl _) ?_
  exact tlI X hH hS hl hth hk9 hw hcl hsl dL_law_511 dL_law_513 dL_law_514 dL_law_517 dL_law_519 dL_law_524 dL_law_526 dL_law_529 dL_law_530 dL_law_531 dL_law_532 dL_law_534 dL_law_535 dL_law_536 dL_law_541 (by decide) (fun H locs ls hH hS hl => kk _ _ _ _ hH hL2 hS hl)
end Case0
