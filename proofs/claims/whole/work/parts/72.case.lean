section Case2
variable {p : Program} {l : Launch} {e : Env} {s : State} {m : MethodId} {args : Array Value} {below : List Frame} {meth : Method} {c : Code} {H : Heap} {locs : List Loc} {cl sl : Nat} {Q0 : State → Prop} {ls : Array Slot} {D : va_G} {lo : Nat} {Γ : GT} {b Ln i o : Nat} {xs : Nat → Int32} {Z : WS}
set_option maxRecDepth 100000 in
set_option maxHeartbeats 4000000 in
theorem kc_smallest (X : LF p l s m args c D lo Γ b Ln xs) (hH : Hp D lo Γ Z H) (hL : LI Γ o Z) (hS : va_S (lA lo) s.heap H locs) (hl : lv_has ls 9 (LV Γ o b i)) (hi : i + 3 < Ln) (hcl : cl + 48 ≤ 659995) (hsl : sl + 288 ≤ 7116119)
    (kk : ∀ (H1 : Heap) (locs1 : List Loc) (ls1 : Array Slot) (Z1 : WS), Hp D lo Γ Z1 H1 → LI Γ o Z1 → va_S (lA lo) s.heap H1 locs1 → lv_has ls1 9 (LV Γ o b i) → W p l e room_1 s m args below meth c H1 locs1 (cl + 48) (sl + 288) Q0 (F0 m 2211 ls1 [])) : W p l e room_1 s m args below meth c H locs cl sl Q0 (F0 m 850 ls []) := by
  have X0 := X
  obtain ⟨S, hK, hX, hx8, hbl, hbA, hst, hLn⟩ := X0
  have hx := S.1
  have hb := S.2.1
  have hts := S.2.2.2.2
  obtain ⟨T, sz, bi, tu, th, mn, kt, Q, zs, be, kp, φ, V, ⟨L, K, si, P, rfl, hc⟩, hR⟩ := hL
  refine lv_aload_n hx hb dL_law_850 rfl (lv_at hl 4 rfl) ?_
  refine ldS (k := 1) X hS (lv_at hl 5 rfl) (lv_at hl 0 rfl) (by omega) (by decide) dL_law_851 dL_law_852 dL_law_854 dL_law_855 dL_law_856 ?_
  refine lv_aload_n hx hb dL_law_857 rfl (lv_at hl 2 rfl) ?_
  refine cLw S (w_smallest ⟨hc.1.1.1, hc.1.1.2⟩ (c_X2_smallest (l := l) (D := D) (lo := lo) (Γ := Γ) (L := L) (K := K) (sz := sz) (si := si) (P := P) (bi := bi) (tu := tu) (M := (th, mn, tu, kt, Q, zs, be, kp)) (V := V) (row := (xs (i + 1))) hst hc) pq_v (px_1 kr_c)) (vx_cwSW 3 hts gL_law_L_smallest rfl rfl rfl (by decide +kernel) ⟨Nat.le_of_ble_eq_true rfl, Nat.le_of_ble_eq_true rfl⟩) hK hH hX hS rfl hl.1 rfl (by simp [Value.category]) dL_law_858 ⟨Nat.le_trans (Nat.add_le_add_left (Nat.le_of_ble_eq_true rfl) cl) hcl, Nat.le_trans (Nat.add_le_add_left (Nat.le_of_ble_eq_true rfl) sl) hsl⟩ (fun v Z1 H locs hpost hH hS => ?_)
  obtain ⟨C1, V1, rfl, rfl, hcs, hv⟩ := qw1 (cc_1 kr_c) hpost
  refine W.widen (k := cl + 48) (n := sl + 288) (Nat.add_le_add_left (Nat.le_of_ble_eq_true rfl) cl) (Nat.add_le_add_left (Nat.le_of_ble_eq_true rfl) sl) ?_
  refine lv_istore (lv' := (6, .int (nI _)) :: LV Γ o b i) hx hb dL_law_861 hl (by decide) rfl (fun ls hl => ?_)
  obtain ⟨h3a, h3k, -⟩ := gmo hH (j := 3) (by simp)
  refine lv_aload_n hx hb dL_law_863 rfl (lv_at hl 4 rfl) ?_
  refine ldS (k := 1) X hS (lv_at hl 6 rfl) (lv_at hl 1 rfl) (by omega) (by decide) dL_law_864 dL_law_865 dL_law_867 dL_law_868 dL_law_869 ?_
  refine cV S (c_X3_smallest (l := l) (D := D) (lo := lo) (Γ := Γ) (C := C1) (V := V1) (th := th) (mn := mn) (tm := tu) (kt := kt) (Q := Q) (zs := zs) (be := be) (kp := kp) (row := (xs (i + 1))) hR.1) (cwV 1 hts gL_law_X3_smallest rfl rfl rfl (by decide +kernel) ⟨Nat.le_of_ble_eq_true rfl, Nat.le_of_ble_eq_true rfl⟩) hK hH (Hp_recv hK hH h3a h3k rfl) hS rfl hl.1 rfl (by simp [Value.category]) dL_law_870 ⟨hcl, hsl⟩ (fun v Z1 H locs hpost hH hS => ?_)
  obtain ⟨rfl, rfl⟩ := hpost
  refine W.widen (k := cl + 48) (n := sl + 288) (Nat.le_refl _) (Nat.le_refl _) ?_
  exact tlI X hH hS hl (congrArg Prod.fst (RI_smallest hR)) (lt4_1 kr_c) (fun h0 => (hv h0).trans (congrArg (fun q => q.2.toInt64) (RI_smallest hR).symm)) hcl hsl dL_law_873 dL_law_875 dL_law_876 dL_law_879 dL_law_881 dL_law_886 dL_law_888 dL_law_891 dL_law_892 dL_law_893 dL_law_894 dL_law_896 dL_law_897 dL_law_898 dL_law_903 (by decide) (fun H locs ls hH hS hl => kk _ _ _ _ hH ⟨T, sz, bi, tu, _, mn, _, Q, zs, be, _, φ, V1, CSW_M hcs, hR⟩ hS hl)
set_option maxRecDepth 100000 in
set_option maxHeartbeats 4000000 in
theorem kc_greatest (X : LF p l s m args c D lo Γ b Ln xs) (hH : Hp D lo Γ Z H) (hL : LI Γ o Z) (hS : va_S (lA lo) s.heap H locs) (hl : lv_has ls 9 (LV Γ o b i)) (hi : i + 3 < Ln) (hcl : cl + 48 ≤ 659995) (hsl : sl + 288 ≤ 7116119)
    (kk : ∀ (H1 : Heap) (locs1 : List Loc) (ls1 : Array Slot) (Z1 : WS), Hp D lo Γ Z1 H1 → LI Γ o Z1 → va_S (lA lo) s.heap H1 locs1 → lv_has ls1 9 (LV Γ o b i) → W p l e room_1 s m args below meth c H1 locs1 (cl + 48) (sl + 288) Q0 (F0 m 2211 ls1 [])) : W p l e room_1 s m args below meth c H locs cl sl Q0 (F0 m 906 ls []) := by
  have X0 := X
  obtain ⟨S, hK, hX, hx8, hbl, hbA, hst, hLn⟩ := X0
  have hx := S.1
  have hb := S.2.1
  have hts := S.2.2.2.2
  obtain ⟨T, sz, bi, tu, th, mn, kt, Q, zs, be, kp, φ, V, ⟨L, K, si, P, rfl, hc⟩, hR⟩ := hL
  refine lv_aload_n hx hb dL_law_906 rfl (lv_at hl 4 rfl) ?_
  refine ldS (k := 1) X hS (lv_at hl 5 rfl) (lv_at hl 0 rfl) (by omega) (by decide) dL_law_907 dL_law_908 dL_law_910 dL_law_911 dL_law_912 ?_
  refine lv_aload_n hx hb dL_law_913 rfl (lv_at hl 2 rfl) ?_
  refine cLw S (w_greatest ⟨hc.1.1.1, hc.1.1.2⟩ (c_X2_greatest (l := l) (D := D) (lo := lo) (Γ := Γ) (L := L) (K := K) (sz := sz) (si := si) (P := P) (bi := bi) (tu := tu) (M := (th, mn, tu, kt, Q, zs, be, kp)) (V := V) (row := (xs (i + 1))) hst hc) pq_v (px_1 kr_c)) (vx_cwSW 3 hts gL_law_L_greatest rfl rfl rfl (by decide +kernel) ⟨Nat.le_of_ble_eq_true rfl, Nat.le_of_ble_eq_true rfl⟩) hK hH hX hS rfl hl.1 rfl (by simp [Value.category]) dL_law_914 ⟨Nat.le_trans (Nat.add_le_add_left (Nat.le_of_ble_eq_true rfl) cl) hcl, Nat.le_trans (Nat.add_le_add_left (Nat.le_of_ble_eq_true rfl) sl) hsl⟩ (fun v Z1 H locs hpost hH hS => ?_)
  obtain ⟨C1, V1, rfl, rfl, hcs, hv⟩ := qw1 (cc_1 kr_c) hpost
  refine W.widen (k := cl + 48) (n := sl + 288) (Nat.add_le_add_left (Nat.le_of_ble_eq_true rfl) cl) (Nat.add_le_add_left (Nat.le_of_ble_eq_true rfl) sl) ?_
  refine lv_istore (lv' := (6, .int (nI _)) :: LV Γ o b i) hx hb dL_law_917 hl (by decide) rfl (fun ls hl => ?_)
  obtain ⟨h3a, h3k, -⟩ := gmo hH (j := 3) (by simp)
  refine lv_aload_n hx hb dL_law_919 rfl (lv_at hl 4 rfl) ?_
  refine ldS (k := 1) X hS (lv_at hl 6 rfl) (lv_at hl 1 rfl) (by omega) (by decide) dL_law_920 dL_law_921 dL_law_923 dL_law_924 dL_law_925 ?_
  refine cV S (c_X3_greatest (l := l) (D := D) (lo := lo) (Γ := Γ) (C := C1) (V := V1) (th := th) (mn := mn) (tm := tu) (kt := kt) (Q := Q) (zs := zs) (be := be) (kp := kp) (row := (xs (i + 1))) hR.1) (cwV 1 hts gL_law_X3_greatest rfl rfl rfl (by decide +kernel) ⟨Nat.le_of_ble_eq_true rfl, Nat.le_of_ble_eq_true rfl⟩) hK hH (Hp_recv hK hH h3a h3k rfl) hS rfl hl.1 rfl (by simp [Value.category]) dL_law_926 ⟨hcl, hsl⟩ (fun v Z1 H locs hpost hH hS => ?_)
  obtain ⟨rfl, rfl⟩ := hpost
  refine W.widen (k := cl + 48) (n := sl + 288) (Nat.le_refl _) (Nat.le_refl _) ?_
  exact tlI X hH hS hl (congrArg Prod.fst (RI_greatest hR)) (lt4_1 kr_c) (fun h0 => (hv h0).trans (congrArg (fun q => q.2.toInt64) (RI_greatest hR).symm)) hcl hsl dL_law_929 dL_law_931 dL_law_932 dL_law_935 dL_law_937 dL_law_942 dL_law_944 dL_law_947 dL_law_948 dL_law_949 dL_law_950 dL_law_952 dL_law_953 dL_law_954 dL_law_959 (by decide) (fun H locs ls hH hS hl => kk _ _ _ _ hH ⟨T, sz, bi, tu, _, mn, _, Q, zs, be, _, φ, V1, CSW_M hcs, hR⟩ hS hl)
set_option maxRecDepth 100000 in
set_option maxHeartbeats 4000000 in
theorem kc_inOrder (X : LF p l s m args c D lo Γ b Ln xs) (hH : Hp D lo Γ Z H) (hL : LI Γ o Z) (hS : va_S (lA lo) s.heap H locs) (hl : lv_has ls 9 (LV Γ o b i)) (hi : i + 3 < Ln) (hcl : cl + 48 ≤ 659995) (hsl : sl + 288 ≤ 7116119)
    (kk : ∀ (H1 : Heap) (locs1 : List Loc) (ls1 : Array Slot) (Z1 : WS), Hp D lo Γ Z1 H1 → LI Γ o Z1 → va_S (lA lo) s.heap H1 locs1 → lv_has ls1 9 (LV Γ o b i) → W p l e room_1 s m args below meth c H1 locs1 (cl + 48) (sl + 288) Q0 (F0 m 2211 ls1 [])) : W p l e room_1 s m args below meth c H locs cl sl Q0 (F0 m 962 ls []) := by
  have X0 := X
  obtain ⟨S, hK, hX, hx8, hbl, hbA, hst, hLn⟩ := X0
  have hx := S.1
  have hb := S.2.1
  have hts := S.2.2.2.2
  obtain ⟨T, sz, bi, tu, th, mn, kt, Q, zs, be, kp, φ, V, ⟨L, K, si, P, rfl, hc⟩, hR⟩ := hL
  refine lv_aload_n hx hb dL_law_962 rfl (lv_at hl 4 rfl) ?_
  refine ldS (k := 1) X hS (lv_at hl 5 rfl) (lv_at hl 0 rfl) (by omega) (by decide) dL_law_963 dL_law_964 dL_law_966 dL_law_967 dL_law_968 ?_
  refine ldS (k := 2) X hS (lv_at hl 5 rfl) (lv_at hl 0 rfl) (by omega) (by decide) dL_law_969 dL_law_970 dL_law_972 dL_law_973 dL_law_974 ?_
  refine lv_aload_n hx hb dL_law_975 rfl (lv_at hl 2 rfl) ?_
  refine cLw S (w_inOrder ⟨hc.1.1.1, hc.1.1.2⟩ (c_X2_inOrder (l := l) (D := D) (lo := lo) (Γ := Γ) (L := L) (K := K) (sz := sz) (si := si) (P := P) (bi := bi) (tu := tu) (M := (th, mn, tu, kt, Q, zs, be, kp)) (V := V) (row := (xs (i + 1))) (x := (xs (i + 2))) hst hc) pq_v (px_1 ko_c)) (vx_cwSW 4 hts gL_law_L_inOrder rfl rfl rfl (by decide +kernel) ⟨Nat.le_of_ble_eq_true rfl, Nat.le_of_ble_eq_true rfl⟩) hK hH hX hS rfl hl.1 rfl (by simp [Value.category]) dL_law_976 ⟨Nat.le_trans (Nat.add_le_add_left (Nat.le_of_ble_eq_true rfl) cl) hcl, Nat.le_trans (Nat.add_le_add_left (Nat.le_of_ble_eq_true rfl) sl) hsl⟩ (fun v Z1 H locs hpost hH hS => ?_)
  obtain ⟨C1, V1, rfl, rfl, hcs, hv⟩ := qw1 (cc_1 ko_c) hpost
  refine W.widen (k := cl + 48) (n := sl + 288) (Nat.add_le_add_left (Nat.le_of_ble_eq_true rfl) cl) (Nat.add_le_add_left (Nat.le_of_ble_eq_true rfl) sl) ?_
  refine lv_istore (lv' := (6, .int (nI _)) :: LV Γ o b i) hx hb dL_law_979 hl (by decide) rfl (fun ls hl => ?_)
  obtain ⟨h3a, h3k, -⟩ := gmo hH (j := 3) (by simp)
  refine lv_aload_n hx hb dL_law_981 rfl (lv_at hl 4 rfl) ?_
  refine ldS (k := 1) X hS (lv_at hl 6 rfl) (lv_at hl 1 rfl) (by omega) (by decide) dL_law_982 dL_law_983 dL_law_985 dL_law_986 dL_law_987 ?_
  refine ldS (k := 2) X hS (lv_at hl 6 rfl) (lv_at hl 1 rfl) (by omega) (by decide) dL_law_988 dL_law_989 dL_law_991 dL_law_992 dL_law_993 ?_
  refine cV S (c_X3_inOrder (l := l) (D := D) (lo := lo) (Γ := Γ) (C := C1) (V := V1) (th := th) (mn := mn) (tm := tu) (kt := kt) (Q := Q) (zs := zs) (be := be) (kp := kp) (row := (xs (i + 1))) (x := (xs (i + 2))) hR.1) (cwV 2 hts gL_law_X3_inOrder rfl rfl rfl (by decide +kernel) ⟨Nat.le_of_ble_eq_true rfl, Nat.le_of_ble_eq_true rfl⟩) hK hH (Hp_recv hK hH h3a h3k rfl) hS rfl hl.1 rfl (by simp [Value.category]) dL_law_994 ⟨hcl, hsl⟩ (fun v Z1 H locs hpost hH hS => ?_)
  obtain ⟨rfl, rfl⟩ := hpost
  refine W.widen (k := cl + 48) (n := sl + 288) (Nat.le_refl _) (Nat.le_refl _) ?_
  exact tlI X hH hS hl (congrArg Prod.fst (RI_inOrder hR)) (lt4_1 ko_c) (fun h0 => (hv h0).trans (congrArg (fun q => q.2.toInt64) (RI_inOrder hR).symm)) hcl hsl dL_law_997 dL_law_999 dL_law_1000 dL_law_1003 dL_law_1005 dL_law_1010 dL_law_1012 dL_law_1015 dL_law_1016 dL_law_1017 dL_law_1018 dL_law_1020 dL_law_1021 dL_law_1022 dL_law_1027 (by decide) (fun H locs ls hH hS hl => kk _ _ _ _ hH ⟨T, sz, bi, tu, _, mn, _, Q, zs, be, _, φ, V1, CSW_M hcs, hR⟩ hS hl)
set_option maxRecDepth 100000 in
set_option maxHeartbeats 4000000 in
theorem kc_leaves (X : LF p l s m args c D lo Γ b Ln xs) (hH : Hp D lo Γ Z H) (hL : LI Γ o Z) (hS : va_S (lA lo) s.heap H locs) (hl : lv_has ls 9 (LV Γ o b i)) (hi : i + 3 < Ln) (hcl : cl + 48 ≤ 659995) (hsl : sl + 288 ≤ 7116119)
    (kk : ∀ (H1 : Heap) (locs1 : List Loc) (ls1 : Array Slot) (Z1 : WS), Hp D lo Γ Z1 H1 → LI Γ o Z1 → va_S (lA lo) s.heap H1 locs1 → lv_has ls1 9 (LV Γ o b i) → W p l e room_1 s m args below meth c H1 locs1 (cl + 48) (sl + 288) Q0 (F0 m 2211 ls1 [])) : W p l e room_1 s m args below meth c H locs cl sl Q0 (F0 m 1030 ls []) := by
  have X0 := X
  obtain ⟨S, hK, hX, hx8, hbl, hbA, hst, hLn⟩ := X0
  have hx := S.1
  have hb := S.2.1
  have hts := S.2.2.2.2
  obtain ⟨T, sz, bi, tu, th, mn, kt, Q, zs, be, kp, φ, V, ⟨L, K, si, P, rfl, hc⟩, hR⟩ := hL
  refine lv_aload_n hx hb dL_law_1030 rfl (lv_at hl 4 rfl) ?_
  refine ldS (k := 1) X hS (lv_at hl 5 rfl) (lv_at hl 0 rfl) (by omega) (by decide) dL_law_1031 dL_law_1032 dL_law_1034 dL_law_1035 dL_law_1036 ?_
  refine lv_aload_n hx hb dL_law_1037 rfl (lv_at hl 2 rfl) ?_
  refine cLw S (w_leaves ⟨hc.1.1.1, hc.1.1.2⟩ (c_X2_leaves (l := l) (D := D) (lo := lo) (Γ := Γ) (L := L) (K := K) (sz := sz) (si := si) (P := P) (bi := bi) (tu := tu) (M := (th, mn, tu, kt, Q, zs, be, kp)) (V := V) (row := (xs (i + 1))) hst hc) pq_v (px_1 kr_c)) (vx_cwSW 3 hts gL_law_L_leaves rfl rfl rfl (by decide +kernel) ⟨Nat.le_of_ble_eq_true rfl, Nat.le_of_ble_eq_true rfl⟩) hK hH hX hS rfl hl.1 rfl (by simp [Value.category]) dL_law_1038 ⟨Nat.le_trans (Nat.add_le_add_left (Nat.le_of_ble_eq_true rfl) cl) hcl, Nat.le_trans (Nat.add_le_add_left (Nat.le_of_ble_eq_true rfl) sl) hsl⟩ (fun v Z1 H locs hpost hH hS => ?_)
  obtain ⟨C1, V1, rfl, rfl, hcs, hv⟩ := qw1 (cc_1 kr_c) hpost
  refine W.widen (k := cl + 48) (n := sl + 288) (Nat.add_le_add_left (Nat.le_of_ble_eq_true rfl) cl) (Nat.add_le_add_left (Nat.le_of_ble_eq_true rfl) sl) ?_
  refine lv_istore (lv' := (6, .int (nI _)) :: LV Γ o b i) hx hb dL_law_1041 hl (by decide) rfl (fun ls hl => ?_)
  obtain ⟨h3a, h3k, -⟩ := gmo hH (j := 3) (by simp)
  refine lv_aload_n hx hb dL_law_1043 rfl (lv_at hl 4 rfl) ?_
  refine ldS (k := 1) X hS (lv_at hl 6 rfl) (lv_at hl 1 rfl) (by omega) (by decide) dL_law_1044 dL_law_1045 dL_law_1047 dL_law_1048 dL_law_1049 ?_
  refine cV S (c_X3_leaves (l := l) (D := D) (lo := lo) (Γ := Γ) (C := C1) (V := V1) (th := th) (mn := mn) (tm := tu) (kt := kt) (Q := Q) (zs := zs) (be := be) (kp := kp) (row := (xs (i + 1))) hR.1) (cwV 1 hts gL_law_X3_leaves rfl rfl rfl (by decide +kernel) ⟨Nat.le_of_ble_eq_true rfl, Nat.le_of_ble_eq_true rfl⟩) hK hH (Hp_recv hK hH h3a h3k rfl) hS rfl hl.1 rfl (by simp [Value.category]) dL_law_1050 ⟨hcl, hsl⟩ (fun v Z1 H locs hpost hH hS => ?_)
  obtain ⟨rfl, rfl⟩ := hpost
  refine W.widen (k := cl + 48) (n := sl + 288) (Nat.le_refl _) (Nat.le_refl _) ?_
  exact tlI X hH hS hl (congrArg Prod.fst (RI_leaves (T := T) (φ := φ))) (lt4_1 kr_c) (fun h0 => (hv h0).trans (congrArg (fun q => q.2.toInt64) (RI_leaves (T := T) (φ := φ)).symm)) hcl hsl dL_law_1053 dL_law_1055 dL_law_1056 dL_law_1059 dL_law_1061 dL_law_1066 dL_law_1068 dL_law_1071 dL_law_1072 dL_law_1073 dL_law_1074 dL_law_1076 dL_law_1077 dL_law_1078 dL_law_1083 (by decide) (fun H locs ls hH hS hl => kk _ _ _ _ hH ⟨T, sz, bi, tu, _, mn, _, Q, zs, be, _, φ, V1, CSW_M hcs, hR⟩ hS hl)
set_option maxRecDepth 100000 in
set_option maxHeartbeats 4000000 in
theorem kc_has (X : LF p l s m args c D lo Γ b Ln xs) (hH : Hp D lo Γ Z H) (hL : LI Γ o Z) (hS : va_S (lA lo) s.heap H locs) (hl : lv_has ls 9 (LV Γ o b i)) (hi : i + 3 < Ln) (hcl : cl + 48 ≤ 659995) (hsl : sl + 288 ≤ 7116119)
    (kk : ∀ (H1 : Heap) (locs1 : List Loc) (ls1 : Array Slot) (Z1 : WS), Hp D lo Γ Z1 H1 → LI Γ o Z1 → va_S (lA lo) s.heap H1 locs1 → lv_has ls1 9 (LV Γ o b i) → W p l e room_1 s m args below meth c H1 locs1 (cl + 48) (sl + 288) Q0 (F0 m 2211 ls1 [])) : W p l e room_1 s m args below meth c H locs cl sl Q0 (F0 m 1086 ls []) := by
  have X0 := X
  obtain ⟨S, hK, hX, hx8, hbl, hbA, hst, hLn⟩ := X0
  have hx := S.1
  have hb := S.2.1
  have hts := S.2.2.2.2
  obtain ⟨T, sz, bi, tu, th, mn, kt, Q, zs, be, kp, φ, V, ⟨L, K, si, P, rfl, hc⟩, hR⟩ := hL
  refine lv_aload_n hx hb dL_law_1086 rfl (lv_at hl 4 rfl) ?_
  refine ldS (k := 1) X hS (lv_at hl 5 rfl) (lv_at hl 0 rfl) (by omega) (by decide) dL_law_1087 dL_law_1088 dL_law_1090 dL_law_1091 dL_law_1092 ?_
  refine ldS (k := 2) X hS (lv_at hl 5 rfl) (lv_at hl 0 rfl) (by omega) (by decide) dL_law_1093 dL_law_1094 dL_law_1096 dL_law_1097 dL_law_1098 ?_
  refine lv_aload_n hx hb dL_law_1099 rfl (lv_at hl 2 rfl) ?_
  refine cLw S (w_has ⟨hc.1.1.1, hc.1.1.2⟩ (c_X2_has (l := l) (D := D) (lo := lo) (Γ := Γ) (L := L) (K := K) (sz := sz) (si := si) (P := P) (bi := bi) (tu := tu) (M := (th, mn, tu, kt, Q, zs, be, kp)) (V := V) (row := (xs (i + 1))) (x := (xs (i + 2))) hst hc) (pq_z (kr_z (fun r => by split <;> simp))) (px_1 kr_c)) (vx_cwSW 4 hts gL_law_L_has rfl rfl rfl (by decide +kernel) ⟨Nat.le_of_ble_eq_true rfl, Nat.le_of_ble_eq_true rfl⟩) hK hH hX hS rfl hl.1 rfl (by simp [Value.category]) dL_law_1100 ⟨Nat.le_trans (Nat.add_le_add_left (Nat.le_of_ble_eq_true rfl) cl) hcl, Nat.le_trans (Nat.add_le_add_left (Nat.le_of_ble_eq_true rfl) sl) hsl⟩ (fun v Z1 H locs hpost hH hS => ?_)
  obtain ⟨C1, V1, rfl, rfl, hcs, hv⟩ := qw1 (cc_1 kr_c) hpost
  refine W.widen (k := cl + 48) (n := sl + 288) (Nat.add_le_add_left (Nat.le_of_ble_eq_true rfl) cl) (Nat.add_le_add_left (Nat.le_of_ble_eq_true rfl) sl) ?_
  refine lv_istore (lv' := (6, .int (nI _)) :: LV Γ o b i) hx hb dL_law_1103 hl (by decide) rfl (fun ls hl => ?_)
  obtain ⟨h3a, h3k, -⟩ := gmo hH (j := 3) (by simp)
  refine lv_aload_n hx hb dL_law_1105 rfl (lv_at hl 4 rfl) ?_
  refine ldS (k := 1) X hS (lv_at hl 6 rfl) (lv_at hl 1 rfl) (by omega) (by decide) dL_law_1106 dL_law_1107 dL_law_1109 dL_law_1110 dL_law_1111 ?_
  refine ldS (k := 2) X hS (lv_at hl 6 rfl) (lv_at hl 1 rfl) (by omega) (by decide) dL_law_1112 dL_law_1113 dL_law_1115 dL_law_1116 dL_law_1117 ?_
  refine cV S (c_X3_has (l := l) (D := D) (lo := lo) (Γ := Γ) (C := C1) (V := V1) (th := th) (mn := mn) (tm := tu) (kt := kt) (Q := Q) (zs := zs) (be := be) (kp := kp) (row := (xs (i + 1))) (x := (xs (i + 2))) hR.1) (cwV 2 hts gL_law_X3_has rfl rfl rfl (by decide +kernel) ⟨Nat.le_of_ble_eq_true rfl, Nat.le_of_ble_eq_true rfl⟩) hK hH (Hp_recv hK hH h3a h3k rfl) hS rfl hl.1 rfl (by simp [Value.category]) dL_law_1118 ⟨hcl, hsl⟩ (fun v Z1 H locs hpost hH hS => ?_)
  obtain ⟨rfl, rfl⟩ := hpost
  refine W.widen (k := cl + 48) (n := sl + 288) (Nat.le_refl _) (Nat.le_refl _) ?_
  exact tlZ X hH hS hl (congrArg Prod.fst (RI_has hR)) (lt4_1 kr_c) (kr_z (fun r => by split <;> simp)) (fun h0 => (hv h0).trans (congrArg (fun q => q.2.toInt64) (RI_has hR).symm)) hcl hsl dL_law_1121 dL_law_1123 dL_law_1124 dL_law_1127 dL_law_1129 dL_law_1134 dL_law_1136 dL_law_1139 dL_law_1140 dL_law_1141 dL_law_1142 dL_law_1144 dL_law_1147 dL_law_1148 dL_law_1151 dL_law_1152 dL_law_1153 dL_law_1158 (by decide) (fun H locs ls hH hS hl => kk _ _ _ _ hH ⟨T, sz, bi, tu, _, mn, _, Q, zs, be, _, φ, V1, CSW_M hcs, hR⟩ hS hl)
set_option maxRecDepth 100000 in
set_option maxHeartbeats 4000000 in
theorem kc_smaller (X : LF p l s m args c D lo Γ b Ln xs) (hH : Hp D lo Γ Z H) (hL : LI Γ o Z) (hS : va_S (lA lo) s.heap H locs) (hl : lv_has ls 9 (LV Γ o b i)) (hi : i + 3 < Ln) (hcl : cl + 48 ≤ 659995) (hsl : sl + 288 ≤ 7116119)
    (kk : ∀ (H1 : Heap) (locs1 : List Loc) (ls1 : Array Slot) (Z1 : WS), Hp D lo Γ Z1 H1 → LI Γ o Z1 → va_S (lA lo) s.heap H1 locs1 → lv_has ls1 9 (LV Γ o b i) → W p l e room_1 s m args below meth c H1 locs1 (cl + 48) (sl + 288) Q0 (F0 m 2211 ls1 [])) : W p l e room_1 s m args below meth c H locs cl sl Q0 (F0 m 1161 ls []) := by
  have X0 := X
  obtain ⟨S, hK, hX, hx8, hbl, hbA, hst, hLn⟩ := X0
  have hx := S.1
  have hb := S.2.1
  have hts := S.2.2.2.2
  obtain ⟨T, sz, bi, tu, th, mn, kt, Q, zs, be, kp, φ, V, ⟨L, K, si, P, rfl, hc⟩, hR⟩ := hL
  refine lv_aload_n hx hb dL_law_1161 rfl (lv_at hl 4 rfl) ?_
  refine ldS (k := 1) X hS (lv_at hl 5 rfl) (lv_at hl 0 rfl) (by omega) (by decide) dL_law_1162 dL_law_1163 dL_law_1165 dL_law_1166 dL_law_1167 ?_
  refine ldS (k := 2) X hS (lv_at hl 5 rfl) (lv_at hl 0 rfl) (by omega) (by decide) dL_law_1168 dL_law_1169 dL_law_1171 dL_law_1172 dL_law_1173 ?_
  refine lv_aload_n hx hb dL_law_1174 rfl (lv_at hl 2 rfl) ?_
  refine cLw S (w_smaller ⟨hc.1.1.1, hc.1.1.2⟩ (c_X2_smaller (l := l) (D := D) (lo := lo) (Γ := Γ) (L := L) (K := K) (sz := sz) (si := si) (P := P) (bi := bi) (tu := tu) (M := (th, mn, tu, kt, Q, zs, be, kp)) (V := V) (row := (xs (i + 1))) (x := (xs (i + 2))) hst hc) pq_v (px_1 kr_c)) (vx_cwSW 4 hts gL_law_L_smaller rfl rfl rfl (by decide +kernel) ⟨Nat.le_of_ble_eq_true rfl, Nat.le_of_ble_eq_true rfl⟩) hK hH hX hS rfl hl.1 rfl (by simp [Value.category]) dL_law_1175 ⟨Nat.le_trans (Nat.add_le_add_left (Nat.le_of_ble_eq_true rfl) cl) hcl, Nat.le_trans (Nat.add_le_add_left (Nat.le_of_ble_eq_true rfl) sl) hsl⟩ (fun v Z1 H locs hpost hH hS => ?_)
  obtain ⟨C1, V1, rfl, rfl, hcs, hv⟩ := qw1 (cc_1 kr_c) hpost
  refine W.widen (k := cl + 48) (n := sl + 288) (Nat.add_le_add_left (Nat.le_of_ble_eq_true rfl) cl) (Nat.add_le_add_left (Nat.le_of_ble_eq_true rfl) sl) ?_
  refine lv_istore (lv' := (6, .int (nI _)) :: LV Γ o b i) hx hb dL_law_1178 hl (by decide) rfl (fun ls hl => ?_)
  obtain ⟨h3a, h3k, -⟩ := gmo hH (j := 3) (by simp)
  refine lv_aload_n hx hb dL_law_1180 rfl (lv_at hl 4 rfl) ?_
  refine ldS (k := 1) X hS (lv_at hl 6 rfl) (lv_at hl 1 rfl) (by omega) (by decide) dL_law_1181 dL_law_1182 dL_law_1184 dL_law_1185 dL_law_1186 ?_
  refine ldS (k := 2) X hS (lv_at hl 6 rfl) (lv_at hl 1 rfl) (by omega) (by decide) dL_law_1187 dL_law_1188 dL_law_1190 dL_law_1191 dL_law_1192 ?_
  refine cV S (c_X3_smaller (l := l) (D := D) (lo := lo) (Γ := Γ) (C := C1) (V := V1) (th := th) (mn := mn) (tm := tu) (kt := kt) (Q := Q) (zs := zs) (be := be) (kp := kp) (row := (xs (i + 1))) (x := (xs (i + 2))) hR.1) (cwV 2 hts gL_law_X3_smaller rfl rfl rfl (by decide +kernel) ⟨Nat.le_of_ble_eq_true rfl, Nat.le_of_ble_eq_true rfl⟩) hK hH (Hp_recv hK hH h3a h3k rfl) hS rfl hl.1 rfl (by simp [Value.category]) dL_law_1193 ⟨hcl, hsl⟩ (fun v Z1 H locs hpost hH hS => ?_)
  obtain ⟨rfl, rfl⟩ := hpost
  refine W.widen (k := cl + 48) (n := sl + 288) (Nat.le_refl _) (Nat.le_refl _) ?_
  exact tlI X hH hS hl (congrArg Prod.fst (RI_smaller hR)) (lt4_1 kr_c) (fun h0 => (hv h0).trans (congrArg (fun q => q.2.toInt64) (RI_smaller hR).symm)) hcl hsl dL_law_1196 dL_law_1198 dL_law_1199 dL_law_1202 dL_law_1204 dL_law_1209 dL_law_1211 dL_law_1214 dL_law_1215 dL_law_1216 dL_law_1217 dL_law_1219 dL_law_1220 dL_law_1221 dL_law_1226 (by decide) (fun H locs ls hH hS hl => kk _ _ _ _ hH ⟨T, sz, bi, tu, _, mn, _, Q, zs, be, _, φ, V1, CSW_M hcs, hR⟩ hS hl)
end Case2
