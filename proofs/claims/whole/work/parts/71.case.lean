section Case1
variable {p : Program} {l : Launch} {e : Env} {s : State} {m : MethodId} {args : Array Value} {below : List Frame} {meth : Method} {c : Code} {H : Heap} {locs : List Loc} {cl sl : Nat} {Q0 : State → Prop} {ls : Array Slot} {D : va_G} {lo : Nat} {Γ : GT} {b Ln i o : Nat} {xs : Nat → Int32} {Z : WS}
set_option maxRecDepth 100000 in
set_option maxHeartbeats 4000000 in
theorem kc_apples (X : LF p l s m args c D lo Γ b Ln xs) (hH : Hp D lo Γ Z H) (hL : LI Γ o Z) (hS : va_S (lA lo) s.heap H locs) (hl : lv_has ls 9 (LV Γ o b i)) (hi : i + 3 < Ln) (hcl : cl + 48 ≤ 659995) (hsl : sl + 288 ≤ 7116119)
    (kk : ∀ (H1 : Heap) (locs1 : List Loc) (ls1 : Array Slot) (Z1 : WS), Hp D lo Γ Z1 H1 → LI Γ o Z1 → va_S (lA lo) s.heap H1 locs1 → lv_has ls1 9 (LV Γ o b i) → W p l e room_1 s m args below meth c H1 locs1 (cl + 48) (sl + 288) Q0 (F0 m 2211 ls1 [])) : W p l e room_1 s m args below meth c H locs cl sl Q0 (F0 m 544 ls []) := by
  have X0 := X
  obtain ⟨S, hK, hX, hx8, hbl, hbA, hst, hLn⟩ := X0
  have hx := S.1
  have hb := S.2.1
  have hts := S.2.2.2.2
  obtain ⟨T, sz, bi, tu, th, mn, kt, Q, zs, be, kp, φ, V, ⟨L, K, si, P, rfl, hc⟩, hR⟩ := hL
  refine lv_aload_n hx hb dL_law_544 rfl (lv_at hl 4 rfl) ?_
  refine cV S (c_X2_apples (l := l) (D := D) (lo := lo) (Γ := Γ) (L := L) (K := K) (sz := sz) (si := si) (P := P) (bi := bi) (tu := tu) (M := (th, mn, tu, kt, Q, zs, be, kp)) (V := V) hc) (cwV 0 hts gL_law_X2_apples rfl rfl rfl (by decide +kernel) ⟨Nat.le_of_ble_eq_true rfl, Nat.le_of_ble_eq_true rfl⟩) hK hH (Hp_recv hK hH hc.1.1.1 hc.1.1.2 rfl) hS rfl hl.1 rfl (by simp [Value.category]) dL_law_545 ⟨Nat.le_trans (Nat.add_le_add_left (Nat.le_of_ble_eq_true rfl) cl) hcl, Nat.le_trans (Nat.add_le_add_left (Nat.le_of_ble_eq_true rfl) sl) hsl⟩ (fun v Z1 H locs hpost hH hS => ?_)
  obtain ⟨rfl, rfl⟩ := hpost
  refine W.widen (k := cl + 48) (n := sl + 288) (Nat.add_le_add_left (Nat.le_of_ble_eq_true rfl) cl) (Nat.add_le_add_left (Nat.le_of_ble_eq_true rfl) sl) ?_
  obtain ⟨h3a, h3k, -⟩ := gmo hH (j := 3) (by simp)
  refine lv_aload_n hx hb dL_law_548 rfl (lv_at hl 3 rfl) ?_
  refine cV S (c_X3_apples (l := l) (D := D) (lo := lo) (Γ := Γ) (C := (L, K, sz, si, P, bi, tu)) (V := V) (th := th) (mn := mn) (tm := tu) (kt := kt) (Q := Q) (zs := zs) (be := be) (kp := kp)) (cwV 0 hts gL_law_X3_apples rfl rfl rfl (by decide +kernel) ⟨Nat.le_of_ble_eq_true rfl, Nat.le_of_ble_eq_true rfl⟩) hK hH (Hp_recv hK hH h3a h3k rfl) hS rfl hl.1 rfl (by simp [Value.category]) dL_law_549 ⟨hcl, hsl⟩ (fun v Z1 H locs hpost hH hS => ?_)
  obtain ⟨rfl, rfl⟩ := hpost
  refine W.widen (k := cl + 48) (n := sl + 288) (Nat.le_refl _) (Nat.le_refl _) ?_
  refine lv_icmp_eq hx hb dL_law_552 (tgt := 2211) rfl (fun _ => ?_) (fun h => absurd (by rw [RI_mn hR]) h)
  exact kk _ _ _ _ hH ⟨T, sz, bi, tu, 0, mn, kt, Q, zs, be, kp, φ, V, ⟨L, K, si, P, rfl, hc⟩, hR⟩ hS hl
set_option maxRecDepth 100000 in
set_option maxHeartbeats 4000000 in
theorem kc_turnings (X : LF p l s m args c D lo Γ b Ln xs) (hH : Hp D lo Γ Z H) (hL : LI Γ o Z) (hS : va_S (lA lo) s.heap H locs) (hl : lv_has ls 9 (LV Γ o b i)) (hi : i + 3 < Ln) (hcl : cl + 48 ≤ 659995) (hsl : sl + 288 ≤ 7116119)
    (kk : ∀ (H1 : Heap) (locs1 : List Loc) (ls1 : Array Slot) (Z1 : WS), Hp D lo Γ Z1 H1 → LI Γ o Z1 → va_S (lA lo) s.heap H1 locs1 → lv_has ls1 9 (LV Γ o b i) → W p l e room_1 s m args below meth c H1 locs1 (cl + 48) (sl + 288) Q0 (F0 m 2211 ls1 [])) : W p l e room_1 s m args below meth c H locs cl sl Q0 (F0 m 557 ls []) := by
  have X0 := X
  obtain ⟨S, hK, hX, hx8, hbl, hbA, hst, hLn⟩ := X0
  have hx := S.1
  have hb := S.2.1
  have hts := S.2.2.2.2
  obtain ⟨T, sz, bi, tu, th, mn, kt, Q, zs, be, kp, φ, V, ⟨L, K, si, P, rfl, hc⟩, hR⟩ := hL
  refine lv_aload_n hx hb dL_law_557 rfl (lv_at hl 4 rfl) ?_
  refine cV S (c_X2_turnings (l := l) (D := D) (lo := lo) (Γ := Γ) (L := L) (K := K) (sz := sz) (si := si) (P := P) (bi := bi) (tu := tu) (M := (th, mn, tu, kt, Q, zs, be, kp)) (V := V) ⟨hc.1.1.1, hc.1.1.2⟩) (cwV 0 hts gL_law_X2_turnings rfl rfl rfl (by decide +kernel) ⟨Nat.le_of_ble_eq_true rfl, Nat.le_of_ble_eq_true rfl⟩) hK hH (Hp_recv hK hH hc.1.1.1 hc.1.1.2 rfl) hS rfl hl.1 rfl (by simp [Value.category]) dL_law_558 ⟨Nat.le_trans (Nat.add_le_add_left (Nat.le_of_ble_eq_true rfl) cl) hcl, Nat.le_trans (Nat.add_le_add_left (Nat.le_of_ble_eq_true rfl) sl) hsl⟩ (fun v Z1 H locs hpost hH hS => ?_)
  obtain ⟨rfl, rfl⟩ := hpost
  refine W.widen (k := cl + 48) (n := sl + 288) (Nat.add_le_add_left (Nat.le_of_ble_eq_true rfl) cl) (Nat.add_le_add_left (Nat.le_of_ble_eq_true rfl) sl) ?_
  obtain ⟨h3a, h3k, -⟩ := gmo hH (j := 3) (by simp)
  refine lv_aload_n hx hb dL_law_561 rfl (lv_at hl 3 rfl) ?_
  refine cV S (c_X3_turnings (l := l) (D := D) (lo := lo) (Γ := Γ) (C := (L, K, sz, si, P, bi, tu)) (V := V) (th := th) (mn := mn) (tm := tu) (kt := kt) (Q := Q) (zs := zs) (be := be) (kp := kp)) (cwV 0 hts gL_law_X3_turnings rfl rfl rfl (by decide +kernel) ⟨Nat.le_of_ble_eq_true rfl, Nat.le_of_ble_eq_true rfl⟩) hK hH (Hp_recv hK hH h3a h3k rfl) hS rfl hl.1 rfl (by simp [Value.category]) dL_law_562 ⟨hcl, hsl⟩ (fun v Z1 H locs hpost hH hS => ?_)
  obtain ⟨rfl, rfl⟩ := hpost
  refine W.widen (k := cl + 48) (n := sl + 288) (Nat.le_refl _) (Nat.le_refl _) ?_
  refine lv_icmp_eq hx hb dL_law_565 (tgt := 2211) rfl (fun _ => ?_) (fun h => absurd rfl h)
  exact kk _ _ _ _ hH ⟨T, sz, bi, tu, 0, mn, kt, Q, zs, be, kp, φ, V, ⟨L, K, si, P, rfl, hc⟩, hR⟩ hS hl
set_option maxRecDepth 100000 in
set_option maxHeartbeats 4000000 in
theorem kc_sizeOf (X : LF p l s m args c D lo Γ b Ln xs) (hH : Hp D lo Γ Z H) (hL : LI Γ o Z) (hS : va_S (lA lo) s.heap H locs) (hl : lv_has ls 9 (LV Γ o b i)) (hi : i + 3 < Ln) (hcl : cl + 48 ≤ 659995) (hsl : sl + 288 ≤ 7116119)
    (kk : ∀ (H1 : Heap) (locs1 : List Loc) (ls1 : Array Slot) (Z1 : WS), Hp D lo Γ Z1 H1 → LI Γ o Z1 → va_S (lA lo) s.heap H1 locs1 → lv_has ls1 9 (LV Γ o b i) → W p l e room_1 s m args below meth c H1 locs1 (cl + 48) (sl + 288) Q0 (F0 m 2211 ls1 [])) : W p l e room_1 s m args below meth c H locs cl sl Q0 (F0 m 570 ls []) := by
  have X0 := X
  obtain ⟨S, hK, hX, hx8, hbl, hbA, hst, hLn⟩ := X0
  have hx := S.1
  have hb := S.2.1
  have hts := S.2.2.2.2
  obtain ⟨T, sz, bi, tu, th, mn, kt, Q, zs, be, kp, φ, V, ⟨L, K, si, P, rfl, hc⟩, hR⟩ := hL
  refine lv_aload_n hx hb dL_law_570 rfl (lv_at hl 4 rfl) ?_
  refine ldS (k := 1) X hS (lv_at hl 5 rfl) (lv_at hl 0 rfl) (by omega) (by decide) dL_law_571 dL_law_572 dL_law_574 dL_law_575 dL_law_576 ?_
  refine lv_aload_n hx hb dL_law_577 rfl (lv_at hl 2 rfl) ?_
  refine cLw S (w_sizeOf ⟨hc.1.1.1, hc.1.1.2⟩ (c_X2_sizeOf (l := l) (D := D) (lo := lo) (Γ := Γ) (L := L) (K := K) (sz := sz) (si := si) (P := P) (bi := bi) (tu := tu) (M := (th, mn, tu, kt, Q, zs, be, kp)) (V := V) (row := (xs (i + 1))) hst hc) pq_v (px_1 kr_c)) (vx_cwSW 3 hts gL_law_L_sizeOf rfl rfl rfl (by decide +kernel) ⟨Nat.le_of_ble_eq_true rfl, Nat.le_of_ble_eq_true rfl⟩) hK hH hX hS rfl hl.1 rfl (by simp [Value.category]) dL_law_578 ⟨Nat.le_trans (Nat.add_le_add_left (Nat.le_of_ble_eq_true rfl) cl) hcl, Nat.le_trans (Nat.add_le_add_left (Nat.le_of_ble_eq_true rfl) sl) hsl⟩ (fun v Z1 H locs hpost hH hS => ?_)
  obtain ⟨C1, V1, rfl, rfl, hcs, hv⟩ := qw1 (cc_1 kr_c) hpost
  refine W.widen (k := cl + 48) (n := sl + 288) (Nat.add_le_add_left (Nat.le_of_ble_eq_true rfl) cl) (Nat.add_le_add_left (Nat.le_of_ble_eq_true rfl) sl) ?_
  refine lv_istore (lv' := (6, .int (nI _)) :: LV Γ o b i) hx hb dL_law_581 hl (by decide) rfl (fun ls hl => ?_)
  obtain ⟨h3a, h3k, -⟩ := gmo hH (j := 3) (by simp)
  refine lv_aload_n hx hb dL_law_583 rfl (lv_at hl 4 rfl) ?_
  refine ldS (k := 1) X hS (lv_at hl 6 rfl) (lv_at hl 1 rfl) (by omega) (by decide) dL_law_584 dL_law_585 dL_law_587 dL_law_588 dL_law_589 ?_
  refine cV S (c_X3_sizeOf (l := l) (D := D) (lo := lo) (Γ := Γ) (C := C1) (V := V1) (th := th) (mn := mn) (tm := tu) (kt := kt) (Q := Q) (zs := zs) (be := be) (kp := kp) (row := (xs (i + 1))) hR.1) (cwV 1 hts gL_law_X3_sizeOf rfl rfl rfl (by decide +kernel) ⟨Nat.le_of_ble_eq_true rfl, Nat.le_of_ble_eq_true rfl⟩) hK hH (Hp_recv hK hH h3a h3k rfl) hS rfl hl.1 rfl (by simp [Value.category]) dL_law_590 ⟨hcl, hsl⟩ (fun v Z1 H locs hpost hH hS => ?_)
  obtain ⟨rfl, rfl⟩ := hpost
  refine W.widen (k := cl + 48) (n := sl + 288) (Nat.le_refl _) (Nat.le_refl _) ?_
  exact tlI X hH hS hl (congrArg Prod.fst (RI_sizeOf (T := T) (φ := φ))) (lt4_1 kr_c) (fun h0 => (hv h0).trans (congrArg (fun q => q.2.toInt64) (RI_sizeOf (T := T) (φ := φ)).symm)) hcl hsl dL_law_593 dL_law_595 dL_law_596 dL_law_599 dL_law_601 dL_law_606 dL_law_608 dL_law_611 dL_law_612 dL_law_613 dL_law_614 dL_law_616 dL_law_617 dL_law_618 dL_law_623 (by decide) (fun H locs ls hH hS hl => kk _ _ _ _ hH ⟨T, sz, bi, tu, _, mn, _, Q, zs, be, _, φ, V1, CSW_M hcs, hR⟩ hS hl)
set_option maxRecDepth 100000 in
set_option maxHeartbeats 4000000 in
theorem kc_top (X : LF p l s m args c D lo Γ b Ln xs) (hH : Hp D lo Γ Z H) (hL : LI Γ o Z) (hS : va_S (lA lo) s.heap H locs) (hl : lv_has ls 9 (LV Γ o b i)) (hi : i + 3 < Ln) (hcl : cl + 48 ≤ 659995) (hsl : sl + 288 ≤ 7116119)
    (kk : ∀ (H1 : Heap) (locs1 : List Loc) (ls1 : Array Slot) (Z1 : WS), Hp D lo Γ Z1 H1 → LI Γ o Z1 → va_S (lA lo) s.heap H1 locs1 → lv_has ls1 9 (LV Γ o b i) → W p l e room_1 s m args below meth c H1 locs1 (cl + 48) (sl + 288) Q0 (F0 m 2211 ls1 [])) : W p l e room_1 s m args below meth c H locs cl sl Q0 (F0 m 626 ls []) := by
  have X0 := X
  obtain ⟨S, hK, hX, hx8, hbl, hbA, hst, hLn⟩ := X0
  have hx := S.1
  have hb := S.2.1
  have hts := S.2.2.2.2
  obtain ⟨T, sz, bi, tu, th, mn, kt, Q, zs, be, kp, φ, V, ⟨L, K, si, P, rfl, hc⟩, hR⟩ := hL
  refine lv_aload_n hx hb dL_law_626 rfl (lv_at hl 4 rfl) ?_
  refine ldS (k := 1) X hS (lv_at hl 5 rfl) (lv_at hl 0 rfl) (by omega) (by decide) dL_law_627 dL_law_628 dL_law_630 dL_law_631 dL_law_632 ?_
  refine lv_aload_n hx hb dL_law_633 rfl (lv_at hl 2 rfl) ?_
  refine cLw S (w_top ⟨hc.1.1.1, hc.1.1.2⟩ (c_X2_top (l := l) (D := D) (lo := lo) (Γ := Γ) (L := L) (K := K) (sz := sz) (si := si) (P := P) (bi := bi) (tu := tu) (M := (th, mn, tu, kt, Q, zs, be, kp)) (V := V) (row := (xs (i + 1))) hst hc) pq_v (px_1 kr_c)) (vx_cwSW 3 hts gL_law_L_top rfl rfl rfl (by decide +kernel) ⟨Nat.le_of_ble_eq_true rfl, Nat.le_of_ble_eq_true rfl⟩) hK hH hX hS rfl hl.1 rfl (by simp [Value.category]) dL_law_634 ⟨Nat.le_trans (Nat.add_le_add_left (Nat.le_of_ble_eq_true rfl) cl) hcl, Nat.le_trans (Nat.add_le_add_left (Nat.le_of_ble_eq_true rfl) sl) hsl⟩ (fun v Z1 H locs hpost hH hS => ?_)
  obtain ⟨C1, V1, rfl, rfl, hcs, hv⟩ := qw1 (cc_1 kr_c) hpost
  refine W.widen (k := cl + 48) (n := sl + 288) (Nat.add_le_add_left (Nat.le_of_ble_eq_true rfl) cl) (Nat.add_le_add_left (Nat.le_of_ble_eq_true rfl) sl) ?_
  refine lv_istore (lv' := (6, .int (nI _)) :: LV Γ o b i) hx hb dL_law_637 hl (by decide) rfl (fun ls hl => ?_)
  obtain ⟨h3a, h3k, -⟩ := gmo hH (j := 3) (by simp)
  refine lv_aload_n hx hb dL_law_639 rfl (lv_at hl 4 rfl) ?_
  refine ldS (k := 1) X hS (lv_at hl 6 rfl) (lv_at hl 1 rfl) (by omega) (by decide) dL_law_640 dL_law_641 dL_law_643 dL_law_644 dL_law_645 ?_
  refine cV S (c_X3_top (l := l) (D := D) (lo := lo) (Γ := Γ) (C := C1) (V := V1) (th := th) (mn := mn) (tm := tu) (kt := kt) (Q := Q) (zs := zs) (be := be) (kp := kp) (row := (xs (i + 1))) hR.1) (cwV 1 hts gL_law_X3_top rfl rfl rfl (by decide +kernel) ⟨Nat.le_of_ble_eq_true rfl, Nat.le_of_ble_eq_true rfl⟩) hK hH (Hp_recv hK hH h3a h3k rfl) hS rfl hl.1 rfl (by simp [Value.category]) dL_law_646 ⟨hcl, hsl⟩ (fun v Z1 H locs hpost hH hS => ?_)
  obtain ⟨rfl, rfl⟩ := hpost
  refine W.widen (k := cl + 48) (n := sl + 288) (Nat.le_refl _) (Nat.le_refl _) ?_
  exact tlI X hH hS hl (congrArg Prod.fst (RI_top hR)) (lt4_1 kr_c) (fun h0 => (hv h0).trans (congrArg (fun q => q.2.toInt64) (RI_top hR).symm)) hcl hsl dL_law_649 dL_law_651 dL_law_652 dL_law_655 dL_law_657 dL_law_662 dL_law_664 dL_law_667 dL_law_668 dL_law_669 dL_law_670 dL_law_672 dL_law_673 dL_law_674 dL_law_679 (by decide) (fun H locs ls hH hS hl => kk _ _ _ _ hH ⟨T, sz, bi, tu, _, mn, _, Q, zs, be, _, φ, V1, CSW_M hcs, hR⟩ hS hl)
set_option maxRecDepth 100000 in
set_option maxHeartbeats 4000000 in
theorem kc_height (X : LF p l s m args c D lo Γ b Ln xs) (hH : Hp D lo Γ Z H) (hL : LI Γ o Z) (hS : va_S (lA lo) s.heap H locs) (hl : lv_has ls 9 (LV Γ o b i)) (hi : i + 3 < Ln) (hcl : cl + 48 ≤ 659995) (hsl : sl + 288 ≤ 7116119)
    (kk : ∀ (H1 : Heap) (locs1 : List Loc) (ls1 : Array Slot) (Z1 : WS), Hp D lo Γ Z1 H1 → LI Γ o Z1 → va_S (lA lo) s.heap H1 locs1 → lv_has ls1 9 (LV Γ o b i) → W p l e room_1 s m args below meth c H1 locs1 (cl + 48) (sl + 288) Q0 (F0 m 2211 ls1 [])) : W p l e room_1 s m args below meth c H locs cl sl Q0 (F0 m 682 ls []) := by
  have X0 := X
  obtain ⟨S, hK, hX, hx8, hbl, hbA, hst, hLn⟩ := X0
  have hx := S.1
  have hb := S.2.1
  have hts := S.2.2.2.2
  obtain ⟨T, sz, bi, tu, th, mn, kt, Q, zs, be, kp, φ, V, ⟨L, K, si, P, rfl, hc⟩, hR⟩ := hL
  refine lv_aload_n hx hb dL_law_682 rfl (lv_at hl 4 rfl) ?_
  refine ldS (k := 1) X hS (lv_at hl 5 rfl) (lv_at hl 0 rfl) (by omega) (by decide) dL_law_683 dL_law_684 dL_law_686 dL_law_687 dL_law_688 ?_
  refine lv_aload_n hx hb dL_law_689 rfl (lv_at hl 2 rfl) ?_
  refine cLw S (w_height ⟨hc.1.1.1, hc.1.1.2⟩ (c_X2_height (l := l) (D := D) (lo := lo) (Γ := Γ) (L := L) (K := K) (sz := sz) (si := si) (P := P) (bi := bi) (tu := tu) (M := (th, mn, tu, kt, Q, zs, be, kp)) (V := V) (row := (xs (i + 1))) hst hc) pq_v (px_1 kr_c)) (vx_cwSW 3 hts gL_law_L_height rfl rfl rfl (by decide +kernel) ⟨Nat.le_of_ble_eq_true rfl, Nat.le_of_ble_eq_true rfl⟩) hK hH hX hS rfl hl.1 rfl (by simp [Value.category]) dL_law_690 ⟨Nat.le_trans (Nat.add_le_add_left (Nat.le_of_ble_eq_true rfl) cl) hcl, Nat.le_trans (Nat.add_le_add_left (Nat.le_of_ble_eq_true rfl) sl) hsl⟩ (fun v Z1 H locs hpost hH hS => ?_)
  obtain ⟨C1, V1, rfl, rfl, hcs, hv⟩ := qw1 (cc_1 kr_c) hpost
  refine W.widen (k := cl + 48) (n := sl + 288) (Nat.add_le_add_left (Nat.le_of_ble_eq_true rfl) cl) (Nat.add_le_add_left (Nat.le_of_ble_eq_true rfl) sl) ?_
  refine lv_istore (lv' := (6, .int (nI _)) :: LV Γ o b i) hx hb dL_law_693 hl (by decide) rfl (fun ls hl => ?_)
  obtain ⟨h3a, h3k, -⟩ := gmo hH (j := 3) (by simp)
  refine lv_aload_n hx hb dL_law_695 rfl (lv_at hl 4 rfl) ?_
  refine ldS (k := 1) X hS (lv_at hl 6 rfl) (lv_at hl 1 rfl) (by omega) (by decide) dL_law_696 dL_law_697 dL_law_699 dL_law_700 dL_law_701 ?_
  refine cV S (c_X3_height (l := l) (D := D) (lo := lo) (Γ := Γ) (C := C1) (V := V1) (th := th) (mn := mn) (tm := tu) (kt := kt) (Q := Q) (zs := zs) (be := be) (kp := kp) (row := (xs (i + 1))) hR.1) (cwV 1 hts gL_law_X3_height rfl rfl rfl (by decide +kernel) ⟨Nat.le_of_ble_eq_true rfl, Nat.le_of_ble_eq_true rfl⟩) hK hH (Hp_recv hK hH h3a h3k rfl) hS rfl hl.1 rfl (by simp [Value.category]) dL_law_702 ⟨hcl, hsl⟩ (fun v Z1 H locs hpost hH hS => ?_)
  obtain ⟨rfl, rfl⟩ := hpost
  refine W.widen (k := cl + 48) (n := sl + 288) (Nat.le_refl _) (Nat.le_refl _) ?_
  exact tlI X hH hS hl (congrArg Prod.fst (RI_height (T := T) (φ := φ))) (lt4_1 kr_c) (fun h0 => (hv h0).trans (congrArg (fun q => q.2.toInt64) (RI_height (T := T) (φ := φ)).symm)) hcl hsl dL_law_705 dL_law_707 dL_law_708 dL_law_711 dL_law_713 dL_law_718 dL_law_720 dL_law_723 dL_law_724 dL_law_725 dL_law_726 dL_law_728 dL_law_729 dL_law_730 dL_law_735 (by decide) (fun H locs ls hH hS hl => kk _ _ _ _ hH ⟨T, sz, bi, tu, _, mn, _, Q, zs, be, _, φ, V1, CSW_M hcs, hR⟩ hS hl)
set_option maxRecDepth 100000 in
set_option maxHeartbeats 4000000 in
theorem kc_leastHeight (X : LF p l s m args c D lo Γ b Ln xs) (hH : Hp D lo Γ Z H) (hL : LI Γ o Z) (hS : va_S (lA lo) s.heap H locs) (hl : lv_has ls 9 (LV Γ o b i)) (hi : i + 3 < Ln) (hcl : cl + 48 ≤ 659995) (hsl : sl + 288 ≤ 7116119)
    (kk : ∀ (H1 : Heap) (locs1 : List Loc) (ls1 : Array Slot) (Z1 : WS), Hp D lo Γ Z1 H1 → LI Γ o Z1 → va_S (lA lo) s.heap H1 locs1 → lv_has ls1 9 (LV Γ o b i) → W p l e room_1 s m args below meth c H1 locs1 (cl + 48) (sl + 288) Q0 (F0 m 2211 ls1 [])) : W p l e room_1 s m args below meth c H locs cl sl Q0 (F0 m 738 ls []) := by
  have X0 := X
  obtain ⟨S, hK, hX, hx8, hbl, hbA, hst, hLn⟩ := X0
  have hx := S.1
  have hb := S.2.1
  have hts := S.2.2.2.2
  obtain ⟨T, sz, bi, tu, th, mn, kt, Q, zs, be, kp, φ, V, ⟨L, K, si, P, rfl, hc⟩, hR⟩ := hL
  refine lv_aload_n hx hb dL_law_738 rfl (lv_at hl 4 rfl) ?_
  refine ldS (k := 1) X hS (lv_at hl 5 rfl) (lv_at hl 0 rfl) (by omega) (by decide) dL_law_739 dL_law_740 dL_law_742 dL_law_743 dL_law_744 ?_
  refine lv_aload_n hx hb dL_law_745 rfl (lv_at hl 2 rfl) ?_
  refine cLw S (w_leastHeight ⟨hc.1.1.1, hc.1.1.2⟩ (c_X2_leastHeight (l := l) (D := D) (lo := lo) (Γ := Γ) (L := L) (K := K) (sz := sz) (si := si) (P := P) (bi := bi) (tu := tu) (M := (th, mn, tu, kt, Q, zs, be, kp)) (V := V) (row := (xs (i + 1))) hst hc) pq_v (px_1 kr_c)) (vx_cwSW 3 hts gL_law_L_leastHeight rfl rfl rfl (by decide +kernel) ⟨Nat.le_of_ble_eq_true rfl, Nat.le_of_ble_eq_true rfl⟩) hK hH hX hS rfl hl.1 rfl (by simp [Value.category]) dL_law_746 ⟨Nat.le_trans (Nat.add_le_add_left (Nat.le_of_ble_eq_true rfl) cl) hcl, Nat.le_trans (Nat.add_le_add_left (Nat.le_of_ble_eq_true rfl) sl) hsl⟩ (fun v Z1 H locs hpost hH hS => ?_)
  obtain ⟨C1, V1, rfl, rfl, hcs, hv⟩ := qw1 (cc_1 kr_c) hpost
  refine W.widen (k := cl + 48) (n := sl + 288) (Nat.add_le_add_left (Nat.le_of_ble_eq_true rfl) cl) (Nat.add_le_add_left (Nat.le_of_ble_eq_true rfl) sl) ?_
  refine lv_istore (lv' := (6, .int (nI _)) :: LV Γ o b i) hx hb dL_law_749 hl (by decide) rfl (fun ls hl => ?_)
  obtain ⟨h3a, h3k, -⟩ := gmo hH (j := 3) (by simp)
  refine lv_aload_n hx hb dL_law_751 rfl (lv_at hl 4 rfl) ?_
  refine ldS (k := 1) X hS (lv_at hl 6 rfl) (lv_at hl 1 rfl) (by omega) (by decide) dL_law_752 dL_law_753 dL_law_755 dL_law_756 dL_law_757 ?_
  refine cV S (c_X3_leastHeight (l := l) (D := D) (lo := lo) (Γ := Γ) (C := C1) (V := V1) (th := th) (mn := mn) (tm := tu) (kt := kt) (Q := Q) (zs := zs) (be := be) (kp := kp) (row := (xs (i + 1))) hR.1) (cwV 1 hts gL_law_X3_leastHeight rfl rfl rfl (by decide +kernel) ⟨Nat.le_of_ble_eq_true rfl, Nat.le_of_ble_eq_true rfl⟩) hK hH (Hp_recv hK hH h3a h3k rfl) hS rfl hl.1 rfl (by simp [Value.category]) dL_law_758 ⟨hcl, hsl⟩ (fun v Z1 H locs hpost hH hS => ?_)
  obtain ⟨rfl, rfl⟩ := hpost
  refine W.widen (k := cl + 48) (n := sl + 288) (Nat.le_refl _) (Nat.le_refl _) ?_
  exact tlI X hH hS hl (congrArg Prod.fst (RI_leastHeight (T := T) (φ := φ))) (lt4_1 kr_c) (fun h0 => (hv h0).trans (congrArg (fun q => q.2.toInt64) (RI_leastHeight (T := T) (φ := φ)).symm)) hcl hsl dL_law_761 dL_law_763 dL_law_764 dL_law_767 dL_law_769 dL_law_774 dL_law_776 dL_law_779 dL_law_780 dL_law_781 dL_law_782 dL_law_784 dL_law_785 dL_law_786 dL_law_791 (by decide) (fun H locs ls hH hS hl => kk _ _ _ _ hH ⟨T, sz, bi, tu, _, mn, _, Q, zs, be, _, φ, V1, CSW_M hcs, hR⟩ hS hl)
set_option maxRecDepth 100000 in
set_option maxHeartbeats 4000000 in
theorem kc_depths (X : LF p l s m args c D lo Γ b Ln xs) (hH : Hp D lo Γ Z H) (hL : LI Γ o Z) (hS : va_S (lA lo) s.heap H locs) (hl : lv_has ls 9 (LV Γ o b i)) (hi : i + 3 < Ln) (hcl : cl + 48 ≤ 659995) (hsl : sl + 288 ≤ 7116119)
    (kk : ∀ (H1 : Heap) (locs1 : List Loc) (ls1 : Array Slot) (Z1 : WS), Hp D lo Γ Z1 H1 → LI Γ o Z1 → va_S (lA lo) s.heap H1 locs1 → lv_has ls1 9 (LV Γ o b i) → W p l e room_1 s m args below meth c H1 locs1 (cl + 48) (sl + 288) Q0 (F0 m 2211 ls1 [])) : W p l e room_1 s m args below meth c H locs cl sl Q0 (F0 m 794 ls []) := by
  have X0 := X
  obtain ⟨S, hK, hX, hx8, hbl, hbA, hst, hLn⟩ := X0
  have hx := S.1
  have hb := S.2.1
  have hts := S.2.2.2.2
  obtain ⟨T, sz, bi, tu, th, mn, kt, Q, zs, be, kp, φ, V, ⟨L, K, si, P, rfl, hc⟩, hR⟩ := hL
  refine lv_aload_n hx hb dL_law_794 rfl (lv_at hl 4 rfl) ?_
  refine ldS (k := 1) X hS (lv_at hl 5 rfl) (lv_at hl 0 rfl) (by omega) (by decide) dL_law_795 dL_law_796 dL_law_798 dL_law_799 dL_law_800 ?_
  refine lv_aload_n hx hb dL_law_801 rfl (lv_at hl 2 rfl) ?_
  refine cLw S (w_depths ⟨hc.1.1.1, hc.1.1.2⟩ (c_X2_depths (l := l) (D := D) (lo := lo) (Γ := Γ) (L := L) (K := K) (sz := sz) (si := si) (P := P) (bi := bi) (tu := tu) (M := (th, mn, tu, kt, Q, zs, be, kp)) (V := V) (row := (xs (i + 1))) hst hc) pq_v (px_1 kr_c)) (vx_cwSW 3 hts gL_law_L_depths rfl rfl rfl (by decide +kernel) ⟨Nat.le_of_ble_eq_true rfl, Nat.le_of_ble_eq_true rfl⟩) hK hH hX hS rfl hl.1 rfl (by simp [Value.category]) dL_law_802 ⟨Nat.le_trans (Nat.add_le_add_left (Nat.le_of_ble_eq_true rfl) cl) hcl, Nat.le_trans (Nat.add_le_add_left (Nat.le_of_ble_eq_true rfl) sl) hsl⟩ (fun v Z1 H locs hpost hH hS => ?_)
  obtain ⟨C1, V1, rfl, rfl, hcs, hv⟩ := qw1 (cc_1 kr_c) hpost
  refine W.widen (k := cl + 48) (n := sl + 288) (Nat.add_le_add_left (Nat.le_of_ble_eq_true rfl) cl) (Nat.add_le_add_left (Nat.le_of_ble_eq_true rfl) sl) ?_
  refine lv_istore (lv' := (6, .int (nI _)) :: LV Γ o b i) hx hb dL_law_805 hl (by decide) rfl (fun ls hl => ?_)
  obtain ⟨h3a, h3k, -⟩ := gmo hH (j := 3) (by simp)
  refine lv_aload_n hx hb dL_law_807 rfl (lv_at hl 4 rfl) ?_
  refine ldS (k := 1) X hS (lv_at hl 6 rfl) (lv_at hl 1 rfl) (by omega) (by decide) dL_law_808 dL_law_809 dL_law_811 dL_law_812 dL_law_813 ?_
  refine cV S (c_X3_depths (l := l) (D := D) (lo := lo) (Γ := Γ) (C := C1) (V := V1) (th := th) (mn := mn) (tm := tu) (kt := kt) (Q := Q) (zs := zs) (be := be) (kp := kp) (row := (xs (i + 1))) hR.1) (cwV 1 hts gL_law_X3_depths rfl rfl rfl (by decide +kernel) ⟨Nat.le_of_ble_eq_true rfl, Nat.le_of_ble_eq_true rfl⟩) hK hH (Hp_recv hK hH h3a h3k rfl) hS rfl hl.1 rfl (by simp [Value.category]) dL_law_814 ⟨hcl, hsl⟩ (fun v Z1 H locs hpost hH hS => ?_)
  obtain ⟨rfl, rfl⟩ := hpost
  refine W.widen (k := cl + 48) (n := sl + 288) (Nat.le_refl _) (Nat.le_refl _) ?_
  exact tlI X hH hS hl (congrArg Prod.fst (RI_depths (T := T) (φ := φ))) (lt4_1 kr_c) (fun h0 => (hv h0).trans (congrArg (fun q => q.2.toInt64) (RI_depths (T := T) (φ := φ)).symm)) hcl hsl dL_law_817 dL_law_819 dL_law_820 dL_law_823 dL_law_825 dL_law_830 dL_law_832 dL_law_835 dL_law_836 dL_law_837 dL_law_838 dL_law_840 dL_law_841 dL_law_842 dL_law_847 (by decide) (fun H locs ls hH hS hl => kk _ _ _ _ hH ⟨T, sz, bi, tu, _, mn, _, Q, zs, be, _, φ, V1, CSW_M hcs, hR⟩ hS hl)
end Case1
