/-! THE LAW: one bite -/
theorem qd_n {T : Nat → Tr} {sz : Nat → Nat} {r x y a b : Nat} (hr : r < 6) (hx : x < 2 ^ 31) (hy : y < 2 ^ 31) (ha : fnd sz (x : Int) (T r) = some a) (hb : fnd sz (y : Int) (T r) = some b) : qd T sz (nI r) (nI x) (nI y) = (0, nI (zof (spz (zof (T r) a)) b).2.2.2.length) := by
  rw [qd, rowN_nI hr, nI_toInt hx, nI_toInt hy]
  dsimp only
  rw [ha]
  dsimp only
  rw [hb]
set_option maxRecDepth 100000 in
set_option maxHeartbeats 4000000 in
theorem law_bite {p : Program} {l : Launch} {e : Env} {s : State} {m : MethodId} {args : Array Value} {below : List Frame} {meth : Method} {c : Code} {Q : State → Prop} {D : va_G} {lo : Nat} {Γ : GT} {V : Int64 × UInt64} {b9 o sa ta k r k0 n0 : Nat} {x3 x4 : Int32} {d5 : Int64} {T : Nat → Tr} {L : List Nat} {K sz : Nat → Nat} {si : Nat → Option Nat} {P : PF} {bi : Nat → Nat} {tu : Nat} {U : List Nat} {E : Nat → va_E} {zz ee φ : Nat → Nat} {H : Heap} {locs : List Loc} {ls : Array Slot} (S : CallFix p m c cL_law 21 s args wsL_law RL) (hK : va_K D vwCl (TY Γ) s) (hX : YE lo s s.heap) (hst : l.stackTraces = false) (hr6 : r < 6) (hk0 : k0 + 600 ≤ 967961) (hn0 : n0 + 3500 ≤ 6197586) (hc : CI Γ o T L K sz si P) (hI : SI Γ (U, E) sa ta (mpT φ T) zz ee tu) (hJ : JR T sz bi zz ee φ k) (hd5 : d5 = dgV T sz bi tu)
    (hH : Hp D lo Γ ((L, K, sz, si, P, bi, tu), (U, E), V) H) (hS : va_S (lA lo) s.heap H locs) (hl : lv_has ls 21 [(8, .int (nI r)), (7, .int (nI (gids T).length)), (5, .long d5), (4, .int x4), (3, .int x3), (2, .ref sa), (1, .ref o), (0, .ref b9)])
    (kk : ∀ (Z : WS) (H : Heap) (locs : List Loc) (ls : Array Slot), JX Γ o sa ta (k + 1) V Z → Hp D lo Γ Z H → va_S (lA lo) s.heap H locs → lv_has ls 21 [(3, .int x3), (2, .ref sa), (1, .ref o), (0, .ref b9)] → W p l e room_1 s m args below meth c H locs (k0 + 600) (n0 + 3500) Q (F0 m 1271 ls [])) : W p l e room_1 s m args below meth c H locs k0 n0 Q (F0 m 863 ls []) := by
  have hx := S.1
  have hb := S.2.1
  have hts := S.2.2.2.2
  have hi4 : ∀ w ∈ wsX40, w ∈ wsL_law := inlX4
  have f15 : (Cond.fieldLink RL 15 "SplayOrchardLaw$Sim" "tops" "[LSplayOrchardLaw$Apple;").before args s = true := hts _ (List.mem_of_getElem? (i := 10) (by decide +kernel))
  have hOc := CI_SO hc
  have hOm := JR_SO hJ hOc
  have hg40 := hOc.2.2.2
  obtain ⟨hnd, hs, hz1, hn40, hh40, -⟩ := SO_at hOc hr6
  refine lv_aload_n hx hb dL_law_863 rfl (lv_at hl 6 rfl) ?_
  refine lv_iload hx hb dL_law_864 (lv_at hl 0 rfl) ?_
  have hq9 := (qr_n (f := fun r => nI (tids (T r)).length) hr6)
  refine cVx S (c_X2_sizeOf (row := nI r) hst hc) (cwV 1 hts gL_law_X2_sizeOf rfl rfl rfl (by decide +kernel) ⟨Nat.le_of_ble_eq_true rfl, Nat.le_of_ble_eq_true rfl⟩) hK hH hX.1 (Hp_recv hK hH hc.1.1.1 hc.1.1.2 rfl) hS rfl hl.1 rfl (by simp [cat_rf, Value.category]) dL_law_866 ⟨(by show k0 + 1 ≤ 967961; omega), (by show n0 + 6 ≤ 6197586; omega)⟩ (fun E9 Z1 H locs ce q9 hpx hH hS hce hcv hcl => (PxQ hpx hq9).elim) (fun v Z1 H locs hpost hH hS => ?_)
  obtain ⟨rfl, L, K, si, P, rfl, hc⟩ := PoQ hpost hq9
  refine lv_istore (lv' := [(9, .int (nI (tids (T r)).length)), (8, .int (nI r)), (7, .int (nI (gids T).length)), (5, .long d5), (4, .int x4), (3, .int x3), (2, .ref sa), (1, .ref o), (0, .ref b9)]) hx hb dL_law_869 hl (by decide) rfl (fun ls hl => ?_)
  refine lv_iload hx hb dL_law_871 (lv_at hl 0 rfl) ?_
  rcases Nat.eq_zero_or_pos (tids (T r)).length with hz | hp
  · skip
    refine lv_if_le (tgt := 1120) hx hb dL_law_873 (by decide) (fun _ => ?_) (fun h1 => absurd (by rw [hz]; decide) h1)
    refine W.widen (k := k0 + 500) (n := n0 + 2500) (by show k0 + 1 ≤ k0 + 500; omega) (by show n0 + 6 ≤ n0 + 2500; omega) ?_
    refine law_plant S hK hX hst hr6 (k0 := k0 + 500) (n0 := n0 + 2500) (by omega) (by omega) rfl rfl hc hI hJ hH hS (lv_sub hl [0, 1, 2, 4, 5, 6, 7, 8] rfl) (fun Z9 H9 locs9 ls9 g1 g2 g3 g4 => ?_)
    exact kk Z9 H9 locs9 ls9 (JX_up g1 (Nat.le_succ k)) g2 g3 g4
  · skip
    refine lv_if_le (tgt := 1120) hx hb dL_law_873 (by decide) (fun h1 => absurd h1 (nI_nle hp (by omega))) (fun _ => ?_)
    refine lv_aload_n hx hb dL_law_876 rfl (lv_at hl 7 rfl) ?_
    refine lv_iload hx hb dL_law_877 (lv_at hl 1 rfl) ?_
    refine lv_iload hx hb dL_law_879 (lv_at hl 4 rfl) ?_
    refine lv_iconst (v := 4) hx hb dL_law_881 (by decide) ?_
    refine lv_ishr hx hb dL_law_882 ?_
    refine lv_iload hx hb dL_law_883 (lv_at hl 0 rfl) ?_
    refine cyS S (c_L_below (n := (tids (T r)).length) hp (by omega)) (va_cwS 2 hts gL_law_L_below rfl rfl rfl (by decide +kernel) ⟨Nat.le_of_ble_eq_true rfl, Nat.le_of_ble_eq_true rfl⟩) hK hH hX hS rfl hl.1 rfl (by simp [cat_rf, Value.category]) dL_law_885 ⟨(by show k0 + 1 + 0 ≤ 967961; omega), (by show n0 + 6 + 0 ≤ 6197586; omega)⟩ (fun v Z1 H locs hpost hH hS => ?_)
    obtain ⟨j1, hj1, rfl, rfl⟩ := hpost
    obtain ⟨a1, ha1t⟩ : ∃ a, (tids (T r))[j1]? = some a := ⟨_, List.getElem?_eq_getElem hj1⟩
    have ha1 := List.mem_of_getElem? ha1t
    have hsa1 : sz a1 < 1000 := hz1 a1 ha1
    have hfa1 : fnd sz (sz a1 : Int) (T r) = some a1 := fnd_of (T r) a1 hs ha1 rfl
    have hq9 := (qo_n (sz := sz) (j := j1) hr6 ⟨by omega, by omega⟩ ha1t)
    refine cVx S (c_X2_inOrder (row := nI r) (x := nI j1) hst hc) (cwV 2 hts gL_law_X2_inOrder rfl rfl rfl (by decide +kernel) ⟨Nat.le_of_ble_eq_true rfl, Nat.le_of_ble_eq_true rfl⟩) hK hH hX.1 (Hp_recv hK hH hc.1.1.1 hc.1.1.2 rfl) hS rfl hl.1 rfl (by simp [cat_rf, Value.category]) dL_law_888 ⟨(by show k0 + 1 + 0 + 2 ≤ 967961; omega), (by show n0 + 6 + 0 + 12 ≤ 6197586; omega)⟩ (fun E9 Z1 H locs ce q9 hpx hH hS hce hcv hcl => (PxQ hpx hq9).elim) (fun v Z1 H locs hpost hH hS => ?_)
    obtain ⟨rfl, L, K, si, P, rfl, hc⟩ := PoQ hpost hq9
    refine lv_istore (lv' := [(10, .int (nI (sz a1))), (9, .int (nI (tids (T r)).length)), (8, .int (nI r)), (7, .int (nI (gids T).length)), (5, .long d5), (4, .int x4), (3, .int x3), (2, .ref sa), (1, .ref o), (0, .ref b9)]) hx hb dL_law_891 hl (by decide) rfl (fun ls hl => ?_)
    refine lv_aload_n hx hb dL_law_893 rfl (lv_at hl 8 rfl) ?_
    refine lv_iload hx hb dL_law_894 (lv_at hl 2 rfl) ?_
    refine lv_iload hx hb dL_law_896 (lv_at hl 5 rfl) ?_
    refine lv_bipush (v := 6) hx hb dL_law_898 (by decide +kernel) ?_
    refine lv_ishr hx hb dL_law_900 ?_
    refine lv_iload hx hb dL_law_901 (lv_at hl 1 rfl) ?_
    refine cyS S (c_L_below (n := (tids (T r)).length) hp (by omega)) (va_cwS 2 hts gL_law_L_below rfl rfl rfl (by decide +kernel) ⟨Nat.le_of_ble_eq_true rfl, Nat.le_of_ble_eq_true rfl⟩) hK hH hX hS rfl hl.1 rfl (by simp [cat_rf, Value.category]) dL_law_903 ⟨(by show k0 + 1 + 0 + 2 + 0 ≤ 967961; omega), (by show n0 + 6 + 0 + 12 + 0 ≤ 6197586; omega)⟩ (fun v Z1 H locs hpost hH hS => ?_)
    obtain ⟨j2, hj2, rfl, rfl⟩ := hpost
    obtain ⟨a2, ha2t⟩ : ∃ a, (tids (T r))[j2]? = some a := ⟨_, List.getElem?_eq_getElem hj2⟩
    have ha2 := List.mem_of_getElem? ha2t
    have hsa2 : sz a2 < 1000 := hz1 a2 ha2
    have hfa2 : fnd sz (sz a2 : Int) (T r) = some a2 := fnd_of (T r) a2 hs ha2 rfl
    have hq9 := (qo_n (sz := sz) (j := j2) hr6 ⟨by omega, by omega⟩ ha2t)
    refine cVx S (c_X2_inOrder (row := nI r) (x := nI j2) hst hc) (cwV 2 hts gL_law_X2_inOrder rfl rfl rfl (by decide +kernel) ⟨Nat.le_of_ble_eq_true rfl, Nat.le_of_ble_eq_true rfl⟩) hK hH hX.1 (Hp_recv hK hH hc.1.1.1 hc.1.1.2 rfl) hS rfl hl.1 rfl (by simp [cat_rf, Value.category]) dL_law_906 ⟨(by show k0 + 1 + 0 + 2 + 0 + 2 ≤ 967961; omega), (by show n0 + 6 + 0 + 12 + 0 + 12 ≤ 6197586; omega)⟩ (fun E9 Z1 H locs ce q9 hpx hH hS hce hcv hcl => (PxQ hpx hq9).elim) (fun v Z1 H locs hpost hH hS => ?_)
    obtain ⟨rfl, L, K, si, P, rfl, hc⟩ := PoQ hpost hq9
    refine lv_istore (lv' := [(11, .int (nI (sz a2))), (10, .int (nI (sz a1))), (9, .int (nI (tids (T r)).length)), (8, .int (nI r)), (7, .int (nI (gids T).length)), (5, .long d5), (4, .int x4), (3, .int x3), (2, .ref sa), (1, .ref o), (0, .ref b9)]) hx hb dL_law_909 hl (by decide) rfl (fun ls hl => ?_)
    refine lv_aload_n hx hb dL_law_911 rfl (lv_at hl 9 rfl) ?_
    refine lv_iload hx hb dL_law_912 (lv_at hl 3 rfl) ?_
    obtain ⟨g, hbst, hg, hgl⟩ := bst_ok hnd hs hp
    have hsg : sz g < 1000 := hz1 g hg
    have hfg : fnd sz (sz g : Int) (T r) = some g := fnd_of (T r) g hs hg rfl
    obtain ⟨hle, hlt⟩ := hgl a1 ha1
    have hq9 := ((qr_n (f := fun r => er ((bst (T r)).map sz)) hr6).trans (by rw [hbst]; rfl) : _ = ((0 : Nat), nI (sz g)))
    refine cVx S (c_X2_bestToEat (row := nI r) hst hc) (cwV 1 hts gL_law_X2_bestToEat rfl rfl rfl (by decide +kernel) ⟨Nat.le_of_ble_eq_true rfl, Nat.le_of_ble_eq_true rfl⟩) hK hH hX.1 (Hp_recv hK hH hc.1.1.1 hc.1.1.2 rfl) hS rfl hl.1 rfl (by simp [cat_rf, Value.category]) dL_law_914 ⟨(by show k0 + 1 + 0 + 2 + 0 + 2 + 1 ≤ 967961; omega), (by show n0 + 6 + 0 + 12 + 0 + 12 + 6 ≤ 6197586; omega)⟩ (fun E9 Z1 H locs ce q9 hpx hH hS hce hcv hcl => (PxQ hpx hq9).elim) (fun v Z1 H locs hpost hH hS => ?_)
    obtain ⟨rfl, L, K, si, P, rfl, hc⟩ := PoQ hpost hq9
    refine lv_istore (lv' := [(12, .int (nI (sz g))), (11, .int (nI (sz a2))), (10, .int (nI (sz a1))), (9, .int (nI (tids (T r)).length)), (8, .int (nI r)), (7, .int (nI (gids T).length)), (5, .long d5), (4, .int x4), (3, .int x3), (2, .ref sa), (1, .ref o), (0, .ref b9)]) hx hb dL_law_917 hl (by decide) rfl (fun ls hl => ?_)
    refine lv_aload_n hx hb dL_law_919 rfl (lv_at hl 10 rfl) ?_
    refine lv_iload hx hb dL_law_920 (lv_at hl 4 rfl) ?_
    refine lv_iload hx hb dL_law_922 (lv_at hl 2 rfl) ?_
    refine lv_iload hx hb dL_law_924 (lv_at hl 1 rfl) ?_
    have hq9 := (qd_n hr6 (by omega) (by omega) hfa1 hfa2)
    refine cVx S (c_X2_depthBehind (row := nI r) (x := nI (sz a1)) (y := nI (sz a2)) hst hc) (cwV 3 hts gL_law_X2_depthBehind rfl rfl rfl (by decide +kernel) ⟨Nat.le_of_ble_eq_true rfl, Nat.le_of_ble_eq_true rfl⟩) hK hH hX.1 (Hp_recv hK hH hc.1.1.1 hc.1.1.2 rfl) hS rfl hl.1 rfl (by simp [cat_rf, Value.category]) dL_law_926 ⟨(by show k0 + 1 + 0 + 2 + 0 + 2 + 1 + 3 ≤ 967961; omega), (by show n0 + 6 + 0 + 12 + 0 + 12 + 6 + 18 ≤ 6197586; omega)⟩ (fun E9 Z1 H locs ce q9 hpx hH hS hce hcv hcl => (PxQ hpx hq9).elim) (fun v Z1 H locs hpost hH hS => ?_)
    obtain ⟨rfl, L, K, si, P, rfl, hc⟩ := PoQ hpost hq9
    refine lv_istore (lv' := [(13, .int (nI (zof (spz (zof (T r) a1)) a2).2.2.2.length)), (12, .int (nI (sz g))), (11, .int (nI (sz a2))), (10, .int (nI (sz a1))), (9, .int (nI (tids (T r)).length)), (8, .int (nI r)), (7, .int (nI (gids T).length)), (5, .long d5), (4, .int x4), (3, .int x3), (2, .ref sa), (1, .ref o), (0, .ref b9)]) hx hb dL_law_929 hl (by decide) rfl (fun ls hl => ?_)
    refine lv_aload_n hx hb dL_law_931 rfl (lv_at hl 11 rfl) ?_
    refine lv_iload hx hb dL_law_932 (lv_at hl 5 rfl) ?_
    refine lv_iload hx hb dL_law_934 (lv_at hl 3 rfl) ?_
    have hq9 := (qa_n (f := fun r a => nI (hgt (spz (zof (T r) a)))) (n := (sz a1)) hr6 (by omega) hfa1)
    refine cVx S (c_X2_heightBehind (row := nI r) (x := nI (sz a1)) hst hc) (cwV 2 hts gL_law_X2_heightBehind rfl rfl rfl (by decide +kernel) ⟨Nat.le_of_ble_eq_true rfl, Nat.le_of_ble_eq_true rfl⟩) hK hH hX.1 (Hp_recv hK hH hc.1.1.1 hc.1.1.2 rfl) hS rfl hl.1 rfl (by simp [cat_rf, Value.category]) dL_law_936 ⟨(by show k0 + 1 + 0 + 2 + 0 + 2 + 1 + 3 + 2 ≤ 967961; omega), (by show n0 + 6 + 0 + 12 + 0 + 12 + 6 + 18 + 12 ≤ 6197586; omega)⟩ (fun E9 Z1 H locs ce q9 hpx hH hS hce hcv hcl => (PxQ hpx hq9).elim) (fun v Z1 H locs hpost hH hS => ?_)
    obtain ⟨rfl, L, K, si, P, rfl, hc⟩ := PoQ hpost hq9
    refine lv_istore (lv' := [(14, .int (nI (hgt (spz (zof (T r) a1))))), (13, .int (nI (zof (spz (zof (T r) a1)) a2).2.2.2.length)), (12, .int (nI (sz g))), (11, .int (nI (sz a2))), (10, .int (nI (sz a1))), (9, .int (nI (tids (T r)).length)), (8, .int (nI r)), (7, .int (nI (gids T).length)), (5, .long d5), (4, .int x4), (3, .int x3), (2, .ref sa), (1, .ref o), (0, .ref b9)]) hx hb dL_law_939 hl (by decide) rfl (fun ls hl => ?_)
    refine lv_aload_n hx hb dL_law_941 rfl (lv_at hl 12 rfl) ?_
    refine lv_iload hx hb dL_law_942 (lv_at hl 6 rfl) ?_
    refine lv_iload hx hb dL_law_944 (lv_at hl 4 rfl) ?_
    have hq9 := (qa_n (f := fun r a => nI (zof (T r) a).2.2.2.length) (n := (sz a1)) hr6 (by omega) hfa1)
    refine cVx S (c_X2_depthOf (row := nI r) (x := nI (sz a1)) hst hc) (cwV 2 hts gL_law_X2_depthOf rfl rfl rfl (by decide +kernel) ⟨Nat.le_of_ble_eq_true rfl, Nat.le_of_ble_eq_true rfl⟩) hK hH hX.1 (Hp_recv hK hH hc.1.1.1 hc.1.1.2 rfl) hS rfl hl.1 rfl (by simp [cat_rf, Value.category]) dL_law_946 ⟨(by show k0 + 1 + 0 + 2 + 0 + 2 + 1 + 3 + 2 + 2 ≤ 967961; omega), (by show n0 + 6 + 0 + 12 + 0 + 12 + 6 + 18 + 12 + 12 ≤ 6197586; omega)⟩ (fun E9 Z1 H locs ce q9 hpx hH hS hce hcv hcl => (PxQ hpx hq9).elim) (fun v Z1 H locs hpost hH hS => ?_)
    obtain ⟨rfl, L, K, si, P, rfl, hc⟩ := PoQ hpost hq9
    refine lv_istore (lv' := [(15, .int (nI (zof (T r) a1).2.2.2.length)), (14, .int (nI (hgt (spz (zof (T r) a1))))), (13, .int (nI (zof (spz (zof (T r) a1)) a2).2.2.2.length)), (12, .int (nI (sz g))), (11, .int (nI (sz a2))), (10, .int (nI (sz a1))), (9, .int (nI (tids (T r)).length)), (8, .int (nI r)), (7, .int (nI (gids T).length)), (5, .long d5), (4, .int x4), (3, .int x3), (2, .ref sa), (1, .ref o), (0, .ref b9)]) hx hb dL_law_949 hl (by decide) rfl (fun ls hl => ?_)
    refine lv_aload_n hx hb dL_law_951 rfl (lv_at hl 13 rfl) ?_
    refine cV S (c_X2_turnings hc.1.1) (cwV 0 hts gL_law_X2_turnings rfl rfl rfl (by decide +kernel) ⟨Nat.le_of_ble_eq_true rfl, Nat.le_of_ble_eq_true rfl⟩) hK hH (Hp_recv hK hH hc.1.1.1 hc.1.1.2 rfl) hS rfl hl.1 rfl (by simp [Value.category]) dL_law_952 ⟨(by show k0 + 1 + 0 + 2 + 0 + 2 + 1 + 3 + 2 + 2 + 0 ≤ 967961; omega), (by show n0 + 6 + 0 + 12 + 0 + 12 + 6 + 18 + 12 + 12 + 0 ≤ 6197586; omega)⟩ (fun v Z1 H locs hpost hH hS => ?_)
    obtain ⟨rfl, rfl⟩ := hpost
    refine lv_istore (lv' := [(16, .int (nI tu)), (15, .int (nI (zof (T r) a1).2.2.2.length)), (14, .int (nI (hgt (spz (zof (T r) a1))))), (13, .int (nI (zof (spz (zof (T r) a1)) a2).2.2.2.length)), (12, .int (nI (sz g))), (11, .int (nI (sz a2))), (10, .int (nI (sz a1))), (9, .int (nI (tids (T r)).length)), (8, .int (nI r)), (7, .int (nI (gids T).length)), (5, .long d5), (4, .int x4), (3, .int x3), (2, .ref sa), (1, .ref o), (0, .ref b9)]) hx hb dL_law_955 hl (by decide) rfl (fun ls hl => ?_)
    refine lv_aload_n hx hb dL_law_957 rfl (lv_at hl 14 rfl) ?_
    refine cVx S (c_X2_digest hst hc) (cwV 0 hts gL_law_X2_digest rfl rfl rfl (by decide +kernel) ⟨Nat.le_of_ble_eq_true rfl, Nat.le_of_ble_eq_true rfl⟩) hK hH hX.1 (Hp_recv hK hH hc.1.1.1 hc.1.1.2 rfl) hS rfl hl.1 rfl (by simp [Value.category]) dL_law_958 ⟨(by show k0 + 1 + 0 + 2 + 0 + 2 + 1 + 3 + 2 + 2 + 0 + 48 ≤ 967961; omega), (by show n0 + 6 + 0 + 12 + 0 + 12 + 6 + 18 + 12 + 12 + 0 + 288 ≤ 6197586; omega)⟩ (fun E9 Z1 H locs ce q9 hpx hH hS hce hcv hcl => hpx.elim) (fun v Z1 H locs hpost hH hS => ?_)
    obtain ⟨rfl, L, K, si, P, rfl, hc⟩ := hpost
    refine lv_lload hx hb dL_law_961 (lv_at hl 10 rfl) ?_
    refine W.lcmp hx hb dL_law_963 ?_
    refine lv_if_ne (tgt := 978) hx hb dL_law_964 (by decide) (fun h1 => absurd h1 (fun h => h ((lg_cmp_eq _ _).mpr hd5.symm))) (fun _ => ?_)
    refine lv_aload_n hx hb dL_law_967 rfl (lv_at hl 14 rfl) ?_
    refine lv_iload hx hb dL_law_968 (lv_at hl 8 rfl) ?_
    refine lv_iload hx hb dL_law_970 (lv_at hl 4 rfl) ?_
    have hq9 := ((qr_n (f := fun r => if (fnd sz (nI (sz g)).toInt (T r)).isSome then 1 else 0) hr6).trans (by rw [nI_toInt (by omega), hfg]; rfl) : _ = ((0 : Nat), (1 : Int32)))
    refine cVx S (c_X2_has (row := nI r) (x := nI (sz g)) hst hc) (cwV 2 hts gL_law_X2_has rfl rfl rfl (by decide +kernel) ⟨Nat.le_of_ble_eq_true rfl, Nat.le_of_ble_eq_true rfl⟩) hK hH hX.1 (Hp_recv hK hH hc.1.1.1 hc.1.1.2 rfl) hS rfl hl.1 rfl (by simp [cat_rf, Value.category]) dL_law_972 ⟨(by show k0 + 1 + 0 + 2 + 0 + 2 + 1 + 3 + 2 + 2 + 0 + 48 + 1 ≤ 967961; omega), (by show n0 + 6 + 0 + 12 + 0 + 12 + 6 + 18 + 12 + 12 + 0 + 288 + 6 ≤ 6197586; omega)⟩ (fun E9 Z1 H locs ce q9 hpx hH hS hce hcv hcl => (PxQ hpx hq9).elim) (fun v Z1 H locs hpost hH hS => ?_)
    obtain ⟨rfl, L, K, si, P, rfl, hc⟩ := PoQ hpost hq9
    refine lv_if_ne (tgt := 980) hx hb dL_law_975 (by decide) (fun _ => ?_) (fun h1 => absurd h1 (by decide))
    refine lv_aload_n hx hb dL_law_980 rfl (lv_at hl 13 rfl) ?_
    have rc9 := rec9 hK hH hI.1 hI.2.1 (q := (RX4, TX4, 2)) rfl
    refine cyV S (c_X4_copy hI hOm) (cwV 0 hts gL_law_X4_copy rfl rfl rfl (by decide +kernel) ⟨Nat.le_of_ble_eq_true rfl, Nat.le_of_ble_eq_true rfl⟩) hK hH hX rc9 hS rfl hl.1 rfl (by simp [cat_rf, Value.category]) dL_law_981 ⟨(by show k0 + 1 + 0 + 2 + 0 + 2 + 1 + 3 + 2 + 2 + 0 + 48 + 1 + 242 ≤ 967961; omega), (by show n0 + 6 + 0 + 12 + 0 + 12 + 6 + 18 + 12 + 12 + 0 + 288 + 6 + 968 ≤ 6197586; omega)⟩ (fun v Z1 H locs hpost hH hS => ?_)
    obtain ⟨C1, U1, E1, sb, tb, Y9, zz9, ee9, rfl, rfl, hx9, hg9, hzo, hIb, hnb, ⟨frb, frs, frt⟩, hmp⟩ := hpost
    obtain ⟨L, K, rfl, hce⟩ := Ext_open hx9
    have hc := hce _ _ _ hc
    have hG0 : Gr (U, E) (U1, E1) [] := hg9
    have hOb := cp_SO hOm hnb hmp
    have hcp : mp zz9 (Y9 r) = mp sz (T r) := by
      rw [hmp r hr6]
      show mp zz (mp φ (T r)) = _
      rw [mp_comp]
      exact mp_congr _ (fun a h9 => (JR_at hJ hr6).1 a h9)
    obtain ⟨ab, hab, hzb, hfb⟩ := cp_at hs hcp hg
    obtain ⟨-, -, -, hnb40, -, -⟩ := SO_at hOb hr6
    refine lv_astore (lv' := [(17, .ref sb), (16, .int (nI tu)), (15, .int (nI (zof (T r) a1).2.2.2.length)), (14, .int (nI (hgt (spz (zof (T r) a1))))), (13, .int (nI (zof (spz (zof (T r) a1)) a2).2.2.2.length)), (12, .int (nI (sz g))), (11, .int (nI (sz a2))), (10, .int (nI (sz a1))), (9, .int (nI (tids (T r)).length)), (8, .int (nI r)), (7, .int (nI (gids T).length)), (5, .long d5), (4, .int x4), (3, .int x3), (2, .ref sa), (1, .ref o), (0, .ref b9)]) hx hb dL_law_984 hl (by decide) rfl (fun ls hl => ?_)
    refine lv_aload hx hb dL_law_986 (lv_at hl 0 rfl) ?_
    refine lv_iload hx hb dL_law_988 (lv_at hl 9 rfl) ?_
    refine lv_iload hx hb dL_law_990 (lv_at hl 5 rfl) ?_
    have rc9 := rec9 hK hH hIb.1 hIb.2.1 (q := (RX4, TX4, 2)) rfl
    refine cyV S (c_X4_eat hIb hOb hr6 hsg hfb) (cwV 2 hts gL_law_X4_eat rfl rfl rfl (by decide +kernel) ⟨Nat.le_of_ble_eq_true rfl, Nat.le_of_ble_eq_true rfl⟩) hK hH hX rc9 hS rfl hl.1 rfl (by simp [cat_rf, Value.category]) dL_law_992 ⟨(by show k0 + 1 + 0 + 2 + 0 + 2 + 1 + 3 + 2 + 2 + 0 + 48 + 1 + 242 + 2 ≤ 967961; omega), (by show n0 + 6 + 0 + 12 + 0 + 12 + 6 + 18 + 12 + 12 + 0 + 288 + 6 + 968 + 80 ≤ 6197586; omega)⟩ (fun v Z1 H locs hpost hH hS => ?_)
    obtain ⟨rfl, C2, U2, E2, rfl, hx9, hg9, hIb⟩ := hpost
    obtain ⟨L, K, rfl, hce⟩ := Ext_open hx9
    have hc := hce _ _ _ hc
    have hG1 : Gr (U, E) (U2, E2) [] := hG0.tr2 hg9 (fun a h9 => Or.inr (by
      rcases List.mem_cons.mp h9 with rfl | h9
      · exact frs
      · rcases List.mem_cons.mp h9 with rfl | h9
        · exact frt
        · exact frb a (gids_mem.mpr ⟨r, hr6, h9⟩)))
    have hI := SI_gr hI hG1
    have m_sb := hIb.1
    have e_sb := hIb.2.1
    have m_tb := hIb.2.2.1
    have e_tb := hIb.2.2.2.1
    have hYb := hIb.2.2.2.2 r hr6
    rw [va_up_self] at hYb
    have hdb : dsm (spz (zof (Y9 r) ab)) 0 = dsm (spz (zof (T r) g)) 0 := cp_dsm hs hcp hab hg hzb
    have hhb : hgt (spz (zof (Y9 r) ab)) ≤ 40 := by have h1 := hgt_len (spz (zof (Y9 r) ab)); rw [spz_tids hab] at h1; omega
    refine lv_pop hx hb dL_law_995 rfl ?_
    refine lv_aload hx hb dL_law_996 (lv_at hl 0 rfl) ?_
    refine gM S hi4 hK hH m_sb e_sb 0 (by decide) f15 (v := .ref tb) rfl dL_law_998 ?_
    refine lv_iload hx hb dL_law_1001 (lv_at hl 9 rfl) ?_
    refine gQ S hK hH m_tb e_tb (j := r) rfl hr6 (by decide) (r := (rt (spz (zof (Y9 r) ab)))) (by show rt (va_up Y9 r _ r) = _; rw [va_up_self]) dL_law_1003 ?_
    refine cyS S (c_X4_depths (spz (zof (Y9 r) ab)) 40 hhb hYb) (va_cwS 1 hts gL_law_X4_depths rfl rfl rfl (by decide +kernel) ⟨Nat.le_of_ble_eq_true rfl, Nat.le_of_ble_eq_true rfl⟩) hK hH hX hS rfl hl.1 rfl (by simp [cat_rf, Value.category]) dL_law_1004 ⟨(by show k0 + 1 + 0 + 2 + 0 + 2 + 1 + 3 + 2 + 2 + 0 + 48 + 1 + 242 + 2 + 0 ≤ 967961; omega), (by show n0 + 6 + 0 + 12 + 0 + 12 + 6 + 18 + 12 + 12 + 0 + 288 + 6 + 968 + 80 + 0 ≤ 6197586; omega)⟩ (fun v Z1 H locs hpost hH hS => ?_)
    obtain ⟨rfl, rfl⟩ := hpost
    rw [hdb]
    refine lv_istore (lv' := [(18, .int (nI (dsm (spz (zof (T r) g)) 0))), (17, .ref sb), (16, .int (nI tu)), (15, .int (nI (zof (T r) a1).2.2.2.length)), (14, .int (nI (hgt (spz (zof (T r) a1))))), (13, .int (nI (zof (spz (zof (T r) a1)) a2).2.2.2.length)), (12, .int (nI (sz g))), (11, .int (nI (sz a2))), (10, .int (nI (sz a1))), (9, .int (nI (tids (T r)).length)), (8, .int (nI r)), (7, .int (nI (gids T).length)), (5, .long d5), (4, .int x4), (3, .int x3), (2, .ref sa), (1, .ref o), (0, .ref b9)]) hx hb dL_law_1007 hl (by decide) rfl (fun ls hl => ?_)
    refine lv_aload_n hx hb dL_law_1009 rfl (lv_at hl 15 rfl) ?_
    refine lv_iload hx hb dL_law_1010 (lv_at hl 10 rfl) ?_
    refine lv_iload hx hb dL_law_1012 (lv_at hl 8 rfl) ?_
    have hfm2 : fnd zz (sz a1 : Int) (mpT φ T r) = some (φ a1) := by have h9 := J_fnd hJ hr6 (sz a1 : Int); rw [hfa1] at h9; exact h9
    obtain ⟨j1', j2', j3'⟩ := J_spz hJ hOc hr6 ha1
    have hti : (nI (sz a1)).toInt = (sz a1 : Int) := nI_toInt (by omega)
    have rc9 := rec9 hK hH hI.1 hI.2.1 (q := (RX4, TX4, 2)) rfl
    refine cyV S (c_X4_eat hI hOm hr6 hsa1 hfm2) (cwV 2 hts gL_law_X4_eat rfl rfl rfl (by decide +kernel) ⟨Nat.le_of_ble_eq_true rfl, Nat.le_of_ble_eq_true rfl⟩) hK hH hX rc9 hS rfl hl.1 rfl (by simp [cat_rf, Value.category]) dL_law_1014 ⟨(by show k0 + 1 + 0 + 2 + 0 + 2 + 1 + 3 + 2 + 2 + 0 + 48 + 1 + 242 + 2 + 0 + 2 ≤ 967961; omega), (by show n0 + 6 + 0 + 12 + 0 + 12 + 6 + 18 + 12 + 12 + 0 + 288 + 6 + 968 + 80 + 0 + 80 ≤ 6197586; omega)⟩ (fun v Z1 H locs hpost hH hS => ?_)
    obtain ⟨rfl, C3, U3, E3, rfl, hx9, hg9, hI⟩ := hpost
    obtain ⟨L, K, rfl, hce⟩ := Ext_open hx9
    have hc := hce _ _ _ hc
    refine lv_pop hx hb dL_law_1017 rfl ?_
    refine lv_aload_n hx hb dL_law_1018 rfl (lv_at hl 16 rfl) ?_
    refine lv_iload hx hb dL_law_1019 (lv_at hl 10 rfl) ?_
    refine lv_iload hx hb dL_law_1021 (lv_at hl 8 rfl) ?_
    refine cVx S (c_X2_eat (row := nI r) (x := nI (sz a1)) hst hc) (cwV 2 hts gL_law_X2_eat rfl rfl rfl (by decide +kernel) ⟨Nat.le_of_ble_eq_true rfl, Nat.le_of_ble_eq_true rfl⟩) hK hH hX.1 (Hp_recv hK hH hc.1.1.1 hc.1.1.2 rfl) hS rfl hl.1 rfl (by simp [cat_rf, Value.category]) dL_law_1023 ⟨(by show k0 + 1 + 0 + 2 + 0 + 2 + 1 + 3 + 2 + 2 + 0 + 48 + 1 + 242 + 2 + 0 + 2 + 2 ≤ 967961; omega), (by show n0 + 6 + 0 + 12 + 0 + 12 + 6 + 18 + 12 + 12 + 0 + 288 + 6 + 968 + 80 + 0 + 80 + 12 ≤ 6197586; omega)⟩ (fun E9 Z1 H locs ce q9 hpx hH hS hce hcv hcl => ?_) (fun v Z1 H locs hpost hH hS => ?_)
    · exfalso
      obtain ⟨hp, -⟩ := hpx
      rcases hp with ⟨-, h1⟩ | ⟨-, r1, h1, h2⟩
      · rw [rowN_nI hr6] at h1; cases h1
      · rw [rowN_nI hr6] at h1
        cases h1
        rw [hti, hfa1] at h2
        cases h2
    obtain ⟨r1, a3, e1, e2, e3, L2, K2, si2, P2, rfl, hc2⟩ := hpost
    rw [rowN_nI hr6] at e1
    cases e1
    rw [hti, hfa1] at e2
    cases e2
    subst e3
    have hJ2 := JR_eat hJ hr6 ha1
    have hI : SI Γ (U3, E3) sa ta (mpT φ (va_up T r (spz (zof (T r) a1)))) zz (va_up ee (φ a1) (ee (φ a1) + 1)) (tu + (zof (T r) a1).2.2.2.length) := by
      have q1 : mpT φ (va_up T r (spz (zof (T r) a1))) = va_up (mpT φ T) r (spz (zof (mp φ (T r)) (φ a1))) := by rw [j2']; exact va_mp
      rw [q1, ← j3']
      exact hI
    obtain ⟨T1, hT1⟩ : ∃ T1, T1 = va_up T r (spz (zof (T r) a1)) := ⟨_, rfl⟩
    have hTr : T1 r = spz (zof (T r) a1) := by rw [hT1, va_up_self]
    have hglen : (gids T1).length = (gids T).length := by
      have q1 := gids_len (T := T) (t := spz (zof (T r) a1)) hr6
      rw [spz_tids ha1] at q1
      rw [hT1]
      omega
    rw [← hT1] at hI hJ2 hc2
    have htd1 : tids (T1 r) = tids (T r) := by rw [hTr]; exact spz_tids ha1
    have htp : rt (T1 r) = some a1 := by obtain ⟨-, -, -, q1, -⟩ := spz_rt ha1; rw [hTr]; exact q1
    have hs1 : srt sz (T1 r) := by unfold srt; rw [htd1]; exact hs
    have hf2 : fnd sz (sz a2 : Int) (T1 r) = some a2 := fnd_of (T1 r) a2 hs1 (by rw [htd1]; exact ha2) rfl
    have hdl : dsm (T1 r) 0 < 2 ^ 31 := by
      have q1 := dsm_le (T1 r)
      rw [htd1] at q1
      have q2 := Nat.mul_le_mul hn40 hn40
      omega
    have hle1 : dsm (spz (zof (T r) g)) 0 ≤ dsm (T1 r) 0 := by rw [hTr]; exact hle
    have hlt1 : sz a1 < sz g → dsm (spz (zof (T r) g)) 0 < dsm (T1 r) 0 := by rw [hTr]; exact hlt
    obtain ⟨bi1, hbi1⟩ : ∃ f, f = va_up bi a1 (bi a1 + 1) := ⟨_, rfl⟩
    rw [← hbi1] at hJ2 hH
    generalize hL9 : L2 = L at hc2 hH
    generalize hK9 : K2 = K at hc2 hH
    generalize hsi9 : si2 = si at hc2 hH
    generalize hP9 : P2 = P at hc2 hH
    have hc := hc2
    refine lv_iload hx hb dL_law_1026 (lv_at hl 3 rfl) ?_
    refine lv_icmp_ne (tgt := 1118) hx hb dL_law_1028 (by decide) (fun h1 => absurd h1 (fun h => h (rfl))) (fun _ => ?_)
    refine lv_aload_n hx hb dL_law_1031 rfl (lv_at hl 16 rfl) ?_
    refine cV S (c_X2_turnings hc.1.1) (cwV 0 hts gL_law_X2_turnings rfl rfl rfl (by decide +kernel) ⟨Nat.le_of_ble_eq_true rfl, Nat.le_of_ble_eq_true rfl⟩) hK hH (Hp_recv hK hH hc.1.1.1 hc.1.1.2 rfl) hS rfl hl.1 rfl (by simp [Value.category]) dL_law_1032 ⟨(by show k0 + 1 + 0 + 2 + 0 + 2 + 1 + 3 + 2 + 2 + 0 + 48 + 1 + 242 + 2 + 0 + 2 + 2 + 0 ≤ 967961; omega), (by show n0 + 6 + 0 + 12 + 0 + 12 + 6 + 18 + 12 + 12 + 0 + 288 + 6 + 968 + 80 + 0 + 80 + 12 + 0 ≤ 6197586; omega)⟩ (fun v Z1 H locs hpost hH hS => ?_)
    obtain ⟨rfl, rfl⟩ := hpost
    refine lv_iload hx hb dL_law_1035 (lv_at hl 2 rfl) ?_
    refine lv_iload hx hb dL_law_1037 (lv_at hl 3 rfl) ?_
    refine lv_iadd hx hb dL_law_1039 ?_
    refine lv_icmp_ne (tgt := 1118) hx hb dL_law_1040 (by decide) (fun h1 => absurd h1 (fun h => h ((nI_add _ _).symm))) (fun _ => ?_)
    refine lv_aload_n hx hb dL_law_1043 rfl (lv_at hl 16 rfl) ?_
    refine lv_iload hx hb dL_law_1044 (lv_at hl 10 rfl) ?_
    have hq9 := ((qr_n (f := fun r => er ((rt (T1 r)).map sz)) hr6).trans (by rw [htp]; rfl) : _ = ((0 : Nat), nI (sz a1)))
    refine cVx S (c_X2_top (row := nI r) hst hc) (cwV 1 hts gL_law_X2_top rfl rfl rfl (by decide +kernel) ⟨Nat.le_of_ble_eq_true rfl, Nat.le_of_ble_eq_true rfl⟩) hK hH hX.1 (Hp_recv hK hH hc.1.1.1 hc.1.1.2 rfl) hS rfl hl.1 rfl (by simp [cat_rf, Value.category]) dL_law_1046 ⟨(by show k0 + 1 + 0 + 2 + 0 + 2 + 1 + 3 + 2 + 2 + 0 + 48 + 1 + 242 + 2 + 0 + 2 + 2 + 0 + 1 ≤ 967961; omega), (by show n0 + 6 + 0 + 12 + 0 + 12 + 6 + 18 + 12 + 12 + 0 + 288 + 6 + 968 + 80 + 0 + 80 + 12 + 0 + 6 ≤ 6197586; omega)⟩ (fun E9 Z1 H locs ce q9 hpx hH hS hce hcv hcl => (PxQ hpx hq9).elim) (fun v Z1 H locs hpost hH hS => ?_)
    obtain ⟨rfl, L, K, si, P, rfl, hc⟩ := PoQ hpost hq9
    refine lv_iload hx hb dL_law_1049 (lv_at hl 8 rfl) ?_
    refine lv_icmp_ne (tgt := 1118) hx hb dL_law_1051 (by decide) (fun h1 => absurd h1 (fun h => h (rfl))) (fun _ => ?_)
    refine lv_aload_n hx hb dL_law_1054 rfl (lv_at hl 16 rfl) ?_
    refine lv_iload hx hb dL_law_1055 (lv_at hl 10 rfl) ?_
    refine lv_iload hx hb dL_law_1057 (lv_at hl 7 rfl) ?_
    have hq9 := ((qa_n (f := fun r a => nI (zof (T1 r) a).2.2.2.length) (n := sz a2) hr6 (by omega) hf2).trans (by rw [hTr]) : _ = ((0 : Nat), nI (zof (spz (zof (T r) a1)) a2).2.2.2.length))
    refine cVx S (c_X2_depthOf (row := nI r) (x := nI (sz a2)) hst hc) (cwV 2 hts gL_law_X2_depthOf rfl rfl rfl (by decide +kernel) ⟨Nat.le_of_ble_eq_true rfl, Nat.le_of_ble_eq_true rfl⟩) hK hH hX.1 (Hp_recv hK hH hc.1.1.1 hc.1.1.2 rfl) hS rfl hl.1 rfl (by simp [cat_rf, Value.category]) dL_law_1059 ⟨(by show k0 + 1 + 0 + 2 + 0 + 2 + 1 + 3 + 2 + 2 + 0 + 48 + 1 + 242 + 2 + 0 + 2 + 2 + 0 + 1 + 2 ≤ 967961; omega), (by show n0 + 6 + 0 + 12 + 0 + 12 + 6 + 18 + 12 + 12 + 0 + 288 + 6 + 968 + 80 + 0 + 80 + 12 + 0 + 6 + 12 ≤ 6197586; omega)⟩ (fun E9 Z1 H locs ce q9 hpx hH hS hce hcv hcl => (PxQ hpx hq9).elim) (fun v Z1 H locs hpost hH hS => ?_)
    obtain ⟨rfl, L, K, si, P, rfl, hc⟩ := PoQ hpost hq9
    refine lv_iload hx hb dL_law_1062 (lv_at hl 5 rfl) ?_
    refine lv_icmp_ne (tgt := 1118) hx hb dL_law_1064 (by decide) (fun h1 => absurd h1 (fun h => h (rfl))) (fun _ => ?_)
    refine lv_aload_n hx hb dL_law_1067 rfl (lv_at hl 16 rfl) ?_
    refine lv_iload hx hb dL_law_1068 (lv_at hl 10 rfl) ?_
    have hq9 := ((qr_n (f := fun r => nI (hgt (T1 r))) hr6).trans (by rw [hTr]) : _ = ((0 : Nat), nI (hgt (spz (zof (T r) a1)))))
    refine cVx S (c_X2_height (row := nI r) hst hc) (cwV 1 hts gL_law_X2_height rfl rfl rfl (by decide +kernel) ⟨Nat.le_of_ble_eq_true rfl, Nat.le_of_ble_eq_true rfl⟩) hK hH hX.1 (Hp_recv hK hH hc.1.1.1 hc.1.1.2 rfl) hS rfl hl.1 rfl (by simp [cat_rf, Value.category]) dL_law_1070 ⟨(by show k0 + 1 + 0 + 2 + 0 + 2 + 1 + 3 + 2 + 2 + 0 + 48 + 1 + 242 + 2 + 0 + 2 + 2 + 0 + 1 + 2 + 1 ≤ 967961; omega), (by show n0 + 6 + 0 + 12 + 0 + 12 + 6 + 18 + 12 + 12 + 0 + 288 + 6 + 968 + 80 + 0 + 80 + 12 + 0 + 6 + 12 + 6 ≤ 6197586; omega)⟩ (fun E9 Z1 H locs ce q9 hpx hH hS hce hcv hcl => (PxQ hpx hq9).elim) (fun v Z1 H locs hpost hH hS => ?_)
    obtain ⟨rfl, L, K, si, P, rfl, hc⟩ := PoQ hpost hq9
    refine lv_iload hx hb dL_law_1073 (lv_at hl 4 rfl) ?_
    refine lv_icmp_ne (tgt := 1118) hx hb dL_law_1075 (by decide) (fun h1 => absurd h1 (fun h => h (rfl))) (fun _ => ?_)
    refine lv_aload_n hx hb dL_law_1078 rfl (lv_at hl 16 rfl) ?_
    refine lv_iload hx hb dL_law_1079 (lv_at hl 10 rfl) ?_
    have hq9 := ((qr_n (f := fun r => nI (tids (T1 r)).length) hr6).trans (by rw [htd1]) : _ = ((0 : Nat), nI (tids (T r)).length))
    refine cVx S (c_X2_sizeOf (row := nI r) hst hc) (cwV 1 hts gL_law_X2_sizeOf rfl rfl rfl (by decide +kernel) ⟨Nat.le_of_ble_eq_true rfl, Nat.le_of_ble_eq_true rfl⟩) hK hH hX.1 (Hp_recv hK hH hc.1.1.1 hc.1.1.2 rfl) hS rfl hl.1 rfl (by simp [cat_rf, Value.category]) dL_law_1081 ⟨(by show k0 + 1 + 0 + 2 + 0 + 2 + 1 + 3 + 2 + 2 + 0 + 48 + 1 + 242 + 2 + 0 + 2 + 2 + 0 + 1 + 2 + 1 + 1 ≤ 967961; omega), (by show n0 + 6 + 0 + 12 + 0 + 12 + 6 + 18 + 12 + 12 + 0 + 288 + 6 + 968 + 80 + 0 + 80 + 12 + 0 + 6 + 12 + 6 + 6 ≤ 6197586; omega)⟩ (fun E9 Z1 H locs ce q9 hpx hH hS hce hcv hcl => (PxQ hpx hq9).elim) (fun v Z1 H locs hpost hH hS => ?_)
    obtain ⟨rfl, L, K, si, P, rfl, hc⟩ := PoQ hpost hq9
    refine lv_iload hx hb dL_law_1084 (lv_at hl 9 rfl) ?_
    refine lv_icmp_ne (tgt := 1118) hx hb dL_law_1086 (by decide) (fun h1 => absurd h1 (fun h => h (rfl))) (fun _ => ?_)
    refine lv_aload_n hx hb dL_law_1089 rfl (lv_at hl 16 rfl) ?_
    refine lv_iload hx hb dL_law_1090 (lv_at hl 10 rfl) ?_
    have hq9 := ((qr_n (f := fun r => nI (dsm (T1 r) 0)) hr6) : _ = ((0 : Nat), nI (dsm (T1 r) 0)))
    refine cVx S (c_X2_depths (row := nI r) hst hc) (cwV 1 hts gL_law_X2_depths rfl rfl rfl (by decide +kernel) ⟨Nat.le_of_ble_eq_true rfl, Nat.le_of_ble_eq_true rfl⟩) hK hH hX.1 (Hp_recv hK hH hc.1.1.1 hc.1.1.2 rfl) hS rfl hl.1 rfl (by simp [cat_rf, Value.category]) dL_law_1092 ⟨(by show k0 + 1 + 0 + 2 + 0 + 2 + 1 + 3 + 2 + 2 + 0 + 48 + 1 + 242 + 2 + 0 + 2 + 2 + 0 + 1 + 2 + 1 + 1 + 1 ≤ 967961; omega), (by show n0 + 6 + 0 + 12 + 0 + 12 + 6 + 18 + 12 + 12 + 0 + 288 + 6 + 968 + 80 + 0 + 80 + 12 + 0 + 6 + 12 + 6 + 6 + 6 ≤ 6197586; omega)⟩ (fun E9 Z1 H locs ce q9 hpx hH hS hce hcv hcl => (PxQ hpx hq9).elim) (fun v Z1 H locs hpost hH hS => ?_)
    obtain ⟨rfl, L, K, si, P, rfl, hc⟩ := PoQ hpost hq9
    refine lv_iload hx hb dL_law_1095 (lv_at hl 0 rfl) ?_
    refine lv_icmp_lt (tgt := 1118) hx hb dL_law_1097 (by decide) (fun h1 => absurd h1 (nI_nlt hle1 (by omega))) (fun _ => ?_)
    refine lv_iload hx hb dL_law_1100 (lv_at hl 8 rfl) ?_
    refine lv_iload hx hb dL_law_1102 (lv_at hl 6 rfl) ?_
    by_cases hsl : sz a1 < sz g
    · skip
      refine lv_icmp_ge (tgt := 1120) hx hb dL_law_1104 (by decide) (fun h1 => absurd h1 (nI_ge hsl (by omega))) (fun _ => ?_)
      refine lv_aload_n hx hb dL_law_1107 rfl (lv_at hl 16 rfl) ?_
      refine lv_iload hx hb dL_law_1108 (lv_at hl 10 rfl) ?_
      have hq9 := ((qr_n (f := fun r => nI (dsm (T1 r) 0)) hr6) : _ = ((0 : Nat), nI (dsm (T1 r) 0)))
      refine cVx S (c_X2_depths (row := nI r) hst hc) (cwV 1 hts gL_law_X2_depths rfl rfl rfl (by decide +kernel) ⟨Nat.le_of_ble_eq_true rfl, Nat.le_of_ble_eq_true rfl⟩) hK hH hX.1 (Hp_recv hK hH hc.1.1.1 hc.1.1.2 rfl) hS rfl hl.1 rfl (by simp [cat_rf, Value.category]) dL_law_1110 ⟨(by show k0 + 1 + 0 + 2 + 0 + 2 + 1 + 3 + 2 + 2 + 0 + 48 + 1 + 242 + 2 + 0 + 2 + 2 + 0 + 1 + 2 + 1 + 1 + 1 + 1 ≤ 967961; omega), (by show n0 + 6 + 0 + 12 + 0 + 12 + 6 + 18 + 12 + 12 + 0 + 288 + 6 + 968 + 80 + 0 + 80 + 12 + 0 + 6 + 12 + 6 + 6 + 6 + 6 ≤ 6197586; omega)⟩ (fun E9 Z1 H locs ce q9 hpx hH hS hce hcv hcl => (PxQ hpx hq9).elim) (fun v Z1 H locs hpost hH hS => ?_)
      obtain ⟨rfl, L, K, si, P, rfl, hc⟩ := PoQ hpost hq9
      refine lv_iload hx hb dL_law_1113 (lv_at hl 0 rfl) ?_
      refine lv_icmp_ne (tgt := 1120) hx hb dL_law_1115 (by decide) (fun _ => ?_) (fun h1 => absurd h1 (fun h9 => by have h8 := (nI_eq hdl (by omega)).mp h9; have := hlt1 hsl; omega))
      refine W.widen (k := k0 + 500) (n := n0 + 2500) (by show k0 + 1 + 0 + 2 + 0 + 2 + 1 + 3 + 2 + 2 + 0 + 48 + 1 + 242 + 2 + 0 + 2 + 2 + 0 + 1 + 2 + 1 + 1 + 1 + 1 ≤ k0 + 500; omega) (by show n0 + 6 + 0 + 12 + 0 + 12 + 6 + 18 + 12 + 12 + 0 + 288 + 6 + 968 + 80 + 0 + 80 + 12 + 0 + 6 + 12 + 6 + 6 + 6 + 6 ≤ n0 + 2500; omega) ?_
      refine law_plant S hK hX hst hr6 (k0 := k0 + 500) (n0 := n0 + 2500) (by omega) (by omega) (by rw [htd1]) hglen.symm hc hI hJ2 hH hS (lv_sub hl [9, 10, 11, 13, 14, 15, 16, 17] rfl) (fun Z9 H9 locs9 ls9 g1 g2 g3 g4 => ?_)
      exact kk Z9 H9 locs9 ls9 g1 g2 g3 g4
    · skip
      refine lv_icmp_ge (tgt := 1120) hx hb dL_law_1104 (by decide) (fun _ => ?_) (fun h1 => absurd (nI_le (by omega) (by omega)) h1)
      refine W.widen (k := k0 + 500) (n := n0 + 2500) (by show k0 + 1 + 0 + 2 + 0 + 2 + 1 + 3 + 2 + 2 + 0 + 48 + 1 + 242 + 2 + 0 + 2 + 2 + 0 + 1 + 2 + 1 + 1 + 1 ≤ k0 + 500; omega) (by show n0 + 6 + 0 + 12 + 0 + 12 + 6 + 18 + 12 + 12 + 0 + 288 + 6 + 968 + 80 + 0 + 80 + 12 + 0 + 6 + 12 + 6 + 6 + 6 ≤ n0 + 2500; omega) ?_
      refine law_plant S hK hX hst hr6 (k0 := k0 + 500) (n0 := n0 + 2500) (by omega) (by omega) (by rw [htd1]) hglen.symm hc hI hJ2 hH hS (lv_sub hl [9, 10, 11, 13, 14, 15, 16, 17] rfl) (fun Z9 H9 locs9 ls9 g1 g2 g3 g4 => ?_)
      exact kk Z9 H9 locs9 ls9 g1 g2 g3 g4
