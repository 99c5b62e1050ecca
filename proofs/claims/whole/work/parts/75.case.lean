section Case5
variable {p : Program} {l : Launch} {e : Env} {s : State} {m : MethodId} {args : Array Value} {below : List Frame} {meth : Method} {c : Code} {H : Heap} {locs : List Loc} {cl sl : Nat} {Q0 : State → Prop} {ls : Array Slot} {D : va_G} {lo : Nat} {Γ : GT} {b Ln i o : Nat} {xs : Nat → Int32} {Z : WS}
set_option maxRecDepth 100000 in
set_option maxHeartbeats 4000000 in
theorem kc_canJoin (X : LF p l s m args c D lo Γ b Ln xs) (hH : Hp D lo Γ Z H) (hL : LI Γ o Z) (hS : va_S (lA lo) s.heap H locs) (hl : lv_has ls 9 (LV Γ o b i)) (hi : i + 3 < Ln) (hcl : cl + 48 ≤ 659995) (hsl : sl + 288 ≤ 7116119)
    (kk : ∀ (H1 : Heap) (locs1 : List Loc) (ls1 : Array Slot) (Z1 : WS), Hp D lo Γ Z1 H1 → LI Γ o Z1 → va_S (lA lo) s.heap H1 locs1 → lv_has ls1 9 (LV Γ o b i) → W p l e room_1 s m args below meth c H1 locs1 (cl + 48) (sl + 288) Q0 (F0 m 2211 ls1 [])) : W p l e room_1 s m args below meth c H locs cl sl Q0 (F0 m 2045 ls []) := by
  have X0 := X
  obtain ⟨S, hK, hX, hx8, hbl, hbA, hst, hLn⟩ := X0
  have hx := S.1
  have hb := S.2.1
  have hts := S.2.2.2.2
  obtain ⟨T, sz, bi, tu, th, mn, kt, Q, zs, be, kp, φ, V, ⟨L, K, si, P, rfl, hc⟩, hR⟩ := hL
  refine lv_aload_n hx hb dL_law_2045 rfl (lv_at hl 4 rfl) ?_
  refine ldS (k := 1) X hS (lv_at hl 5 rfl) (lv_at hl 0 rfl) (by omega) (by decide) dL_law_2046 dL_law_2047 dL_law_2049 dL_law_2050 dL_law_2051 ?_
  refine ldS (k := 2) X hS (lv_at hl 5 rfl) (lv_at hl 0 rfl) (by omega) (by decide) dL_law_2052 dL_law_2053 dL_law_2055 dL_law_2056 dL_law_2057 ?_
  refine lv_aload_n hx hb dL_law_2058 rfl (lv_at hl 2 rfl) ?_
  refine cLw S (w_canJoin ⟨hc.1.1.1, hc.1.1.2⟩ (c_X2_canJoin (l := l) (D := D) (lo := lo) (Γ := Γ) (L := L) (K := K) (sz := sz) (si := si) (P := P) (bi := bi) (tu := tu) (M := (th, mn, tu, kt, Q, zs, be, kp)) (V := V) (row := (xs (i + 1))) (x := (xs (i + 2))) hst hc) (pq_z kj_z) (px_1 kj_c)) (vx_cwSW 4 hts gL_law_L_canJoin rfl rfl rfl (by decide +kernel) ⟨Nat.le_of_ble_eq_true rfl, Nat.le_of_ble_eq_true rfl⟩) hK hH hX hS rfl hl.1 rfl (by simp [Value.category]) dL_law_2059 ⟨Nat.le_trans (Nat.add_le_add_left (Nat.le_of_ble_eq_true rfl) cl) hcl, Nat.le_trans (Nat.add_le_add_left (Nat.le_of_ble_eq_true rfl) sl) hsl⟩ (fun v Z1 H locs hpost hH hS => ?_)
  obtain ⟨C1, V1, rfl, rfl, hcs, hv⟩ := qw1 (cc_1 kj_c) hpost
  refine W.widen (k := cl + 48) (n := sl + 288) (Nat.add_le_add_left (Nat.le_of_ble_eq_true rfl) cl) (Nat.add_le_add_left (Nat.le_of_ble_eq_true rfl) sl) ?_
  refine lv_istore (lv' := (6, .int (nI _)) :: LV Γ o b i) hx hb dL_law_2062 hl (by decide) rfl (fun ls hl => ?_)
  obtain ⟨h3a, h3k, -⟩ := gmo hH (j := 3) (by simp)
  refine lv_aload_n hx hb dL_law_2064 rfl (lv_at hl 4 rfl) ?_
  refine ldS (k := 1) X hS (lv_at hl 6 rfl) (lv_at hl 1 rfl) (by omega) (by decide) dL_law_2065 dL_law_2066 dL_law_2068 dL_law_2069 dL_law_2070 ?_
  refine ldS (k := 2) X hS (lv_at hl 6 rfl) (lv_at hl 1 rfl) (by omega) (by decide) dL_law_2071 dL_law_2072 dL_law_2074 dL_law_2075 dL_law_2076 ?_
  refine cV S (c_X3_canJoin (l := l) (D := D) (lo := lo) (Γ := Γ) (C := C1) (V := V1) (th := th) (mn := mn) (tm := tu) (kt := kt) (Q := Q) (zs := zs) (be := be) (kp := kp) (row := (xs (i + 1))) (x := (xs (i + 2))) hR.1) (cwV 2 hts gL_law_X3_canJoin rfl rfl rfl (by decide +kernel) ⟨Nat.le_of_ble_eq_true rfl, Nat.le_of_ble_eq_true rfl⟩) hK hH (Hp_recv hK hH h3a h3k rfl) hS rfl hl.1 rfl (by simp [Value.category]) dL_law_2077 ⟨hcl, hsl⟩ (fun v Z1 H locs hpost hH hS => ?_)
  obtain ⟨rfl, rfl⟩ := hpost
  refine W.widen (k := cl + 48) (n := sl + 288) (Nat.le_refl _) (Nat.le_refl _) ?_
  exact tlZ X hH hS hl (congrArg Prod.fst (RI_canJoin hR)) (lt4_1 kj_c) (kj_z) (fun h0 => (hv h0).trans (congrArg (fun q => q.2.toInt64) (RI_canJoin hR).symm)) hcl hsl dL_law_2080 dL_law_2082 dL_law_2083 dL_law_2086 dL_law_2088 dL_law_2093 dL_law_2095 dL_law_2098 dL_law_2099 dL_law_2100 dL_law_2101 dL_law_2103 dL_law_2106 dL_law_2107 dL_law_2110 dL_law_2111 dL_law_2112 dL_law_2117 (by decide) (fun H locs ls hH hS hl => kk _ _ _ _ hH ⟨T, sz, bi, tu, _, mn, _, Q, zs, be, _, φ, V1, CSW_M hcs, hR⟩ hS hl)
set_option maxRecDepth 100000 in
set_option maxHeartbeats 4000000 in
theorem kc_meanDepth (X : LF p l s m args c D lo Γ b Ln xs) (hH : Hp D lo Γ Z H) (hL : LI Γ o Z) (hS : va_S (lA lo) s.heap H locs) (hl : lv_has ls 9 (LV Γ o b i)) (hi : i + 3 < Ln) (hcl : cl + 48 ≤ 659995) (hsl : sl + 288 ≤ 7116119)
    (kk : ∀ (H1 : Heap) (locs1 : List Loc) (ls1 : Array Slot) (Z1 : WS), Hp D lo Γ Z1 H1 → LI Γ o Z1 → va_S (lA lo) s.heap H1 locs1 → lv_has ls1 9 (LV Γ o b i) → W p l e room_1 s m args below meth c H1 locs1 (cl + 48) (sl + 288) Q0 (F0 m 2211 ls1 [])) : W p l e room_1 s m args below meth c H locs cl sl Q0 (F0 m 2120 ls []) := by
  have X0 := X
  obtain ⟨S, hK, hX, hx8, hbl, hbA, hst, hLn⟩ := X0
  have hx := S.1
  have hb := S.2.1
  have hts := S.2.2.2.2
  obtain ⟨T, sz, bi, tu, th, mn, kt, Q, zs, be, kp, φ, V, ⟨L, K, si, P, rfl, hc⟩, hR⟩ := hL
  refine lv_aload_n hx hb dL_law_2120 rfl (lv_at hl 4 rfl) ?_
  refine ldS (k := 1) X hS (lv_at hl 5 rfl) (lv_at hl 0 rfl) (by omega) (by decide) dL_law_2121 dL_law_2122 dL_law_2124 dL_law_2125 dL_law_2126 ?_
  refine lv_aload hx hb dL_law_2127 (lv_at hl 1 rfl) ?_
  refine cLw S (w_meanDepth ⟨hc.1.1.1, hc.1.1.2⟩ (c_X2_meanDepth (l := l) (D := D) (lo := lo) (Γ := Γ) (L := L) (K := K) (sz := sz) (si := si) (P := P) (bi := bi) (tu := tu) (M := (th, mn, tu, kt, Q, zs, be, kp)) (V := V) (row := (xs (i + 1))) hst hc) hp_md hx_md) (vx_cwSW 3 hts gL_law_L_meanDepth rfl rfl rfl (by decide +kernel) ⟨Nat.le_of_ble_eq_true rfl, Nat.le_of_ble_eq_true rfl⟩) hK hH hX hS rfl hl.1 rfl (by simp [Value.category]) dL_law_2129 ⟨Nat.le_trans (Nat.add_le_add_left (Nat.le_of_ble_eq_true rfl) cl) hcl, Nat.le_trans (Nat.add_le_add_left (Nat.le_of_ble_eq_true rfl) sl) hsl⟩ (fun v Z1 H locs hpost hH hS => ?_)
  obtain ⟨C1, V1, rfl, rfl, hcs, hv⟩ := qw_md hc hpost
  refine W.widen (k := cl + 48) (n := sl + 288) (Nat.add_le_add_left (Nat.le_of_ble_eq_true rfl) cl) (Nat.add_le_add_left (Nat.le_of_ble_eq_true rfl) sl) ?_
  refine lv_istore (lv' := (6, .int (nI _)) :: LV Γ o b i) hx hb dL_law_2132 hl (by decide) rfl (fun ls hl => ?_)
  obtain ⟨h3a, h3k, -⟩ := gmo hH (j := 3) (by simp)
  refine lv_aload_n hx hb dL_law_2134 rfl (lv_at hl 4 rfl) ?_
  refine ldS (k := 1) X hS (lv_at hl 6 rfl) (lv_at hl 1 rfl) (by omega) (by decide) dL_law_2135 dL_law_2136 dL_law_2138 dL_law_2139 dL_law_2140 ?_
  refine cV S (c_X3_meanDepth (l := l) (D := D) (lo := lo) (Γ := Γ) (C := C1) (V := V1) (th := th) (mn := mn) (tm := tu) (kt := kt) (Q := Q) (zs := zs) (be := be) (kp := kp) (row := (xs (i + 1))) hR.1) (cwV 1 hts gL_law_X3_meanDepth rfl rfl rfl (by decide +kernel) ⟨Nat.le_of_ble_eq_true rfl, Nat.le_of_ble_eq_true rfl⟩) hK hH (Hp_recv hK hH h3a h3k rfl) hS rfl hl.1 rfl (by simp [Value.category]) dL_law_2141 ⟨hcl, hsl⟩ (fun v Z1 H locs hpost hH hS => ?_)
  obtain ⟨rfl, rfl⟩ := hpost
  refine W.widen (k := cl + 48) (n := sl + 288) (Nat.le_refl _) (Nat.le_refl _) ?_
  exact tlD X hH hS hl (congrArg Prod.fst (RI_md hR)) (lt4_1 km9_c) (fun h0 => (hv h0).trans (congrArg Prod.snd (RI_md hR)).symm) hcl hsl (fun H locs ls hH hS hl => kk _ _ _ _ hH ⟨T, sz, bi, tu, _, mn, _, Q, zs, be, _, φ, V1, CSW_M hcs, hR⟩ hS hl)
set_option maxRecDepth 100000 in
set_option maxHeartbeats 4000000 in
theorem kc_digest (X : LF p l s m args c D lo Γ b Ln xs) (hH : Hp D lo Γ Z H) (hL : LI Γ o Z) (hS : va_S (lA lo) s.heap H locs) (hl : lv_has ls 9 (LV Γ o b i)) (hi : i + 3 < Ln) (hcl : cl + 48 ≤ 659995) (hsl : sl + 288 ≤ 7116119)
    (kk : ∀ (H1 : Heap) (locs1 : List Loc) (ls1 : Array Slot) (Z1 : WS), Hp D lo Γ Z1 H1 → LI Γ o Z1 → va_S (lA lo) s.heap H1 locs1 → lv_has ls1 9 (LV Γ o b i) → W p l e room_1 s m args below meth c H1 locs1 (cl + 48) (sl + 288) Q0 (F0 m 2211 ls1 [])) : W p l e room_1 s m args below meth c H locs cl sl Q0 (F0 m 2197 ls []) := by
  have X0 := X
  obtain ⟨S, hK, hX, hx8, hbl, hbA, hst, hLn⟩ := X0
  have hx := S.1
  have hb := S.2.1
  have hts := S.2.2.2.2
  obtain ⟨T, sz, bi, tu, th, mn, kt, Q, zs, be, kp, φ, V, ⟨L, K, si, P, rfl, hc⟩, hR⟩ := hL
  refine lv_aload_n hx hb dL_law_2197 rfl (lv_at hl 4 rfl) ?_
  refine cVx S (c_X2_digest (l := l) (D := D) (lo := lo) (Γ := Γ) (L := L) (K := K) (sz := sz) (si := si) (P := P) (bi := bi) (tu := tu) (M := (th, mn, tu, kt, Q, zs, be, kp)) (V := V) hst hc) (cwV 0 hts gL_law_X2_digest rfl rfl rfl (by decide +kernel) ⟨Nat.le_of_ble_eq_true rfl, Nat.le_of_ble_eq_true rfl⟩) hK hH hX.1 (Hp_recv hK hH hc.1.1.1 hc.1.1.2 rfl) hS rfl hl.1 rfl (by simp [Value.category]) dL_law_2198 ⟨Nat.le_trans (Nat.add_le_add_left (Nat.le_of_ble_eq_true rfl) cl) hcl, Nat.le_trans (Nat.add_le_add_left (Nat.le_of_ble_eq_true rfl) sl) hsl⟩ (fun E Z1 H locs ce q9 hpx hH hS hce hcv hcl => hpx.elim) (fun v Z1 H locs hpost hH hS => ?_)
  obtain ⟨rfl, hcs⟩ := hpost
  obtain ⟨C1, rfl⟩ := CSW_o hcs
  refine W.widen (k := cl + 48) (n := sl + 288) (Nat.add_le_add_left (Nat.le_of_ble_eq_true rfl) cl) (Nat.add_le_add_left (Nat.le_of_ble_eq_true rfl) sl) ?_
  obtain ⟨h3a, h3k, -⟩ := gmo hH (j := 3) (by simp)
  refine lv_aload_n hx hb dL_law_2201 rfl (lv_at hl 3 rfl) ?_
  refine cV S (c_X3_digest (l := l) (D := D) (lo := lo) (Γ := Γ) (C := C1) (V := V) (th := th) (mn := mn) (tm := tu) (kt := kt) (Q := Q) (zs := zs) (be := be) (kp := kp) hR.1) (cwV 0 hts gL_law_X3_digest rfl rfl rfl (by decide +kernel) ⟨Nat.le_of_ble_eq_true rfl, Nat.le_of_ble_eq_true rfl⟩) hK hH (Hp_recv hK hH h3a h3k rfl) hS rfl hl.1 rfl (by simp [Value.category]) dL_law_2202 ⟨hcl, hsl⟩ (fun v Z1 H locs hpost hH hS => ?_)
  obtain ⟨rfl, kt9, kp9, rfl⟩ := hpost
  refine W.widen (k := cl + 48) (n := sl + 288) (Nat.le_refl _) (Nat.le_refl _) ?_
  refine W.lcmp hx hb dL_law_2205 ?_
  refine lv_if_eq hx hb dL_law_2206 (tgt := 2211) rfl (fun _ => ?_) (fun h => absurd ((lg_cmp_eq _ _).mpr (RI_dgV hR tu).symm) h)
  exact kk _ _ _ _ hH ⟨T, sz, bi, tu, 0, mn, kt9, Q, zs, be, kp9, φ, V, CSW_M hcs, hR⟩ hS hl
end Case5
