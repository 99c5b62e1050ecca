/-! THE LAW: the rows, one after another -/
theorem qm_n {T : Nat → Tr} {sz : Nat → Nat} {r x y a b : Nat} (hr : r < 6) (hx : x < 2 ^ 31) (hy : y < 2 ^ 31) (ha : fnd sz (x : Int) (T r) = some a) (hb : fnd sz (y : Int) (T r) = some b) : qm T sz (nI r) (nI x) (nI y) = (0, nI (sz (lca (T r) a b))) := by
  rw [qm, rowN_nI hr, nI_toInt hx, nI_toInt hy]
  dsimp only
  rw [ha]
  dsimp only
  rw [hb]
set_option maxRecDepth 100000 in
set_option maxHeartbeats 4000000 in
theorem law_rows {p : Program} {l : Launch} {e : Env} {s : State} {m : MethodId} {args : Array Value} {below : List Frame} {meth : Method} {c : Code} {Q : State → Prop} {D : va_G} {lo : Nat} {Γ : GT} {V : Int64 × UInt64} {b9 o sa k0 n0 tu : Nat} {x3 x4 : Int32} {d5 : Int64} {T : Nat → Tr} {sz bi : Nat → Nat} {M : MW} (S : CallFix p m c cL_law 21 s args wsL_law RL) (hK : va_K D vwCl (TY Γ) s) (hX : YE lo s s.heap) (hst : l.stackTraces = false) (hO : SO sz T) (hb31 : ∀ a ∈ gids T, bi a < 2 ^ 31) (hk0 : k0 + 18000 ≤ 967961) (hn0 : n0 + 108000 ≤ 6197586)
    (kk : ∀ (Z : WS) (H : Heap) (locs : List Loc) (ls : Array Slot), CSW Γ o T sz bi tu M V Z → Hp D lo Γ Z H → va_S (lA lo) s.heap H locs → lv_has ls 21 [(8, .int (nI 6)), (7, .int (nI ((gids T).length))), (5, .long d5), (4, .int x4), (3, .int x3), (2, .ref sa), (1, .ref o), (0, .ref b9)] → W p l e room_1 s m args below meth c H locs (k0 + 3000 * 6) (n0 + 18000 * 6) Q (F0 m 820 ls [])) :
    ∀ (N r A : Nat), N + r = 6 → A + cntF T r = (gids T).length → ∀ (Z : WS) (H : Heap) (locs : List Loc) (ls : Array Slot), CSW Γ o T sz bi tu M V Z → Hp D lo Γ Z H → va_S (lA lo) s.heap H locs → lv_has ls 21 [(8, .int (nI r)), (7, .int (nI A)), (5, .long d5), (4, .int x4), (3, .int x3), (2, .ref sa), (1, .ref o), (0, .ref b9)] → W p l e room_1 s m args below meth c H locs (k0 + 3000 * r) (n0 + 18000 * r) Q (F0 m 92 ls []) := by
  have hx := S.1
  have hb := S.2.1
  have hts := S.2.2.2.2
  have hg40 := hO.2.2.2
  have w1 : (Cond.methodLink RL 113 Lib.Math.max.name).before args s = true := hts _ (List.mem_of_getElem? (i := 3) (by decide +kernel))
  have w2 : (Cond.static Lib.Math.max.name).before args s = true := hts _ (List.mem_of_getElem? (i := 4) (by decide +kernel))
  have w3 : (Cond.initialized "java/lang/Math").before args s = true := hts _ (List.mem_of_getElem? (i := 5) (by decide +kernel))
  have w4 : (Cond.code Lib.Math.max.name Lib.Math.max.code 2 (some .int)).before args s = true := hts _ (List.mem_of_getElem? (i := 6) (by decide +kernel))
  have v1 : (Cond.methodLink RL 144 Lib.Math.min.name).before args s = true := hts _ (List.mem_of_getElem? (i := 7) (by decide +kernel))
  have v2 : (Cond.static Lib.Math.min.name).before args s = true := hts _ (List.mem_of_getElem? (i := 8) (by decide +kernel))
  have v4 : (Cond.code Lib.Math.min.name Lib.Math.min.code 2 (some .int)).before args s = true := hts _ (List.mem_of_getElem? (i := 9) (by decide +kernel))
  intro N
  induction N with
  | zero =>
    intro r A hr hA
    have hr : r = 6 := by omega
    subst hr
    have h6 : cntF T 6 = 0 := rfl
    have hA : A = (gids T).length := by omega
    subst hA
    intro Z H locs ls hcs hH hS hl
    obtain ⟨L, K, si, P, rfl, hc⟩ := hcs
    refine lv_iload hx hb dL_law_92 (lv_at hl 0 rfl) ?_
    refine lv_bipush (v := 6) hx hb dL_law_94 (by decide +kernel) ?_
    refine lv_icmp_ge (tgt := 820) hx hb dL_law_96 (by decide) (fun _ => ?_) (fun h1 => absurd (by decide) h1)
    exact kk _ H locs ls ⟨L, K, si, P, rfl, hc⟩ hH hS (lv_sub hl [0, 1, 2, 3, 4, 5, 6, 7] rfl)
  | succ N ih =>
    intro r A hr hA
    have hr6 : r < 6 := by omega
    have hcs := cntF_s (T := T) hr6
    obtain ⟨hnd, hs, hz1, hn40, hh40, -⟩ := SO_at hO hr6
    have hA40 : A + (tids (T r)).length ≤ 40 := by omega
    have fDn : acc (T r) fD (tids (T r)).length = dsm (T r) 0 := (acc_n (T r) fD).trans (dsm_zs (T r) [])
    have fHn : acc (T r) fH (tids (T r)).length = dsm (T r) 0 := (acc_n (T r) fH).trans (hng_zs (T r) [])
    have fLn : acc (T r) fL (tids (T r)).length = lvs (T r) := (acc_n (T r) fL).trans ((filt_sum (fun z => isE z.2.1 && isE z.2.2.1) _).trans (lvs_zs (T r) []))
    have fTn : acc (T r) fT (tids (T r)).length = if isE (T r) then 0 else 1 := (acc_n (T r) fT).trans (top_zs (T r) [])
    have hM9 := mxa_n (T r)
    have hk9 : k0 + 3000 * r + 3000 ≤ 967961 := by omega
    have hn9 : n0 + 18000 * r + 18000 ≤ 6197586 := by omega
    have k814 : ∀ (Z : WS) (H : Heap) (locs : List Loc) (ls : Array Slot), CSW Γ o T sz bi tu M V Z → Hp D lo Γ Z H → va_S (lA lo) s.heap H locs → lv_has ls 21 [(8, .int (nI r)), (7, .int (nI (A + (tids (T r)).length))), (5, .long d5), (4, .int x4), (3, .int x3), (2, .ref sa), (1, .ref o), (0, .ref b9)] → W p l e room_1 s m args below meth c H locs (k0 + 3000 * r + 2900) (n0 + 18000 * r + 17900) Q (F0 m 814 ls []) := by
      intro Z H locs ls hcs hH hS hl
      obtain ⟨L, K, si, P, rfl, hc⟩ := hcs
      refine lv_iinc (v := nI (r + 1)) (lv' := [(8, .int (nI (r + 1))), (7, .int (nI (A + (tids (T r)).length))), (5, .long d5), (4, .int x4), (3, .int x3), (2, .ref sa), (1, .ref o), (0, .ref b9)]) hx hb dL_law_814 hl (k := 0) rfl (nI_1 r) (by decide) rfl (fun ls hl => ?_)
      refine lv_goto (tgt := 92) hx hb dL_law_817 (by decide) ?_
      refine W.widen (k := k0 + 3000 * (r + 1)) (n := n0 + 18000 * (r + 1)) (by show k0 + 3000 * r + 2900 ≤ k0 + 3000 * (r + 1); omega) (by show n0 + 18000 * r + 17900 ≤ n0 + 18000 * (r + 1); omega) ?_
      exact ih (r + 1) (A + (tids (T r)).length) (by omega) (by omega) _ H locs ls ⟨L, K, si, P, rfl, hc⟩ hH hS (lv_sub hl [0, 1, 2, 3, 4, 5, 6, 7] rfl)
    have k607 : 0 < (tids (T r)).length → ∀ (Z : WS) (H : Heap) (locs : List Loc) (ls : Array Slot), CSW Γ o T sz bi tu M V Z → Hp D lo Γ Z H → va_S (lA lo) s.heap H locs → lv_has ls 21 [(9, .int (nI (tids (T r)).length)), (8, .int (nI r)), (7, .int (nI (A + (tids (T r)).length))), (5, .long d5), (4, .int x4), (3, .int x3), (2, .ref sa), (1, .ref o), (0, .ref b9)] → W p l e room_1 s m args below meth c H locs (k0 + 3000 * r + 2420) (n0 + 18000 * r + 14700) Q (F0 m 607 ls []) := by
      intro hn0p
      intro Z H locs ls hcs hH hS hl
      obtain ⟨L, K, si, P, rfl, hc⟩ := hcs
      refine lv_aload_n hx hb dL_law_607 rfl (lv_at hl 7 rfl) ?_
      refine lv_iload hx hb dL_law_608 (lv_at hl 1 rfl) ?_
      refine lv_iload hx hb dL_law_610 (lv_at hl 4 rfl) ?_
      refine lv_iload hx hb dL_law_612 (lv_at hl 1 rfl) ?_
      refine lv_ishr hx hb dL_law_614 ?_
      refine lv_iload hx hb dL_law_615 (lv_at hl 0 rfl) ?_
      refine cyS S (c_L_below (n := (tids (T r)).length) hn0p (by omega)) (va_cwS 2 hts gL_law_L_below rfl rfl rfl (by decide +kernel) ⟨Nat.le_of_ble_eq_true rfl, Nat.le_of_ble_eq_true rfl⟩) hK hH hX hS rfl hl.1 rfl (by simp [cat_rf, Value.category]) dL_law_617 ⟨(by show k0 + 3000 * r + 2420 + 0 ≤ 967961; omega), (by show n0 + 18000 * r + 14700 + 0 ≤ 6197586; omega)⟩ (fun v Z1 H locs hpost hH hS => ?_)
      obtain ⟨j1, hj1, rfl, rfl⟩ := hpost
      obtain ⟨a1, ha1t⟩ : ∃ a, (tids (T r))[j1]? = some a := ⟨_, List.getElem?_eq_getElem hj1⟩
      have ha1 := List.mem_of_getElem? ha1t
      have hsa1 : sz a1 < 1000 := hz1 a1 ha1
      have hfa1 : fnd sz (sz a1 : Int) (T r) = some a1 := fnd_of (T r) a1 hs ha1 rfl
      have hq9 := (qo_n (sz := sz) (j := j1) hr6 ⟨by omega, by omega⟩ ha1t)
      refine cVx S (c_X2_inOrder (row := nI r) (x := nI j1) hst hc) (cwV 2 hts gL_law_X2_inOrder rfl rfl rfl (by decide +kernel) ⟨Nat.le_of_ble_eq_true rfl, Nat.le_of_ble_eq_true rfl⟩) hK hH hX.1 (Hp_recv hK hH hc.1.1.1 hc.1.1.2 rfl) hS rfl hl.1 rfl (by simp [cat_rf, Value.category]) dL_law_620 ⟨(by show k0 + 3000 * r + 2420 + 0 + 2 ≤ 967961; omega), (by show n0 + 18000 * r + 14700 + 0 + 12 ≤ 6197586; omega)⟩ (fun E9 Z1 H locs ce q9 hpx hH hS hce hcv hcl => (PxQ hpx hq9).elim) (fun v Z1 H locs hpost hH hS => ?_)
      obtain ⟨rfl, L, K, si, P, rfl, hc⟩ := PoQ hpost hq9
      refine lv_istore (lv' := [(15, .int (nI (sz a1))), (9, .int (nI (tids (T r)).length)), (8, .int (nI r)), (7, .int (nI (A + (tids (T r)).length))), (5, .long d5), (4, .int x4), (3, .int x3), (2, .ref sa), (1, .ref o), (0, .ref b9)]) hx hb dL_law_623 hl (by decide) rfl (fun ls hl => ?_)
      refine lv_aload_n hx hb dL_law_625 rfl (lv_at hl 8 rfl) ?_
      refine lv_iload hx hb dL_law_626 (lv_at hl 2 rfl) ?_
      refine lv_iload hx hb dL_law_628 (lv_at hl 5 rfl) ?_
      refine lv_iload hx hb dL_law_630 (lv_at hl 2 rfl) ?_
      refine lv_iconst (v := 3) hx hb dL_law_632 (by decide) ?_
      refine lv_iadd hx hb dL_law_633 ?_
      refine lv_ishr hx hb dL_law_634 ?_
      refine lv_iload hx hb dL_law_635 (lv_at hl 1 rfl) ?_
      refine cyS S (c_L_below (n := (tids (T r)).length) hn0p (by omega)) (va_cwS 2 hts gL_law_L_below rfl rfl rfl (by decide +kernel) ⟨Nat.le_of_ble_eq_true rfl, Nat.le_of_ble_eq_true rfl⟩) hK hH hX hS rfl hl.1 rfl (by simp [cat_rf, Value.category]) dL_law_637 ⟨(by show k0 + 3000 * r + 2420 + 0 + 2 + 0 ≤ 967961; omega), (by show n0 + 18000 * r + 14700 + 0 + 12 + 0 ≤ 6197586; omega)⟩ (fun v Z1 H locs hpost hH hS => ?_)
      obtain ⟨j2, hj2, rfl, rfl⟩ := hpost
      obtain ⟨a2, ha2t⟩ : ∃ a, (tids (T r))[j2]? = some a := ⟨_, List.getElem?_eq_getElem hj2⟩
      have ha2 := List.mem_of_getElem? ha2t
      have hsa2 : sz a2 < 1000 := hz1 a2 ha2
      have hfa2 : fnd sz (sz a2 : Int) (T r) = some a2 := fnd_of (T r) a2 hs ha2 rfl
      have hq9 := (qo_n (sz := sz) (j := j2) hr6 ⟨by omega, by omega⟩ ha2t)
      refine cVx S (c_X2_inOrder (row := nI r) (x := nI j2) hst hc) (cwV 2 hts gL_law_X2_inOrder rfl rfl rfl (by decide +kernel) ⟨Nat.le_of_ble_eq_true rfl, Nat.le_of_ble_eq_true rfl⟩) hK hH hX.1 (Hp_recv hK hH hc.1.1.1 hc.1.1.2 rfl) hS rfl hl.1 rfl (by simp [cat_rf, Value.category]) dL_law_640 ⟨(by show k0 + 3000 * r + 2420 + 0 + 2 + 0 + 2 ≤ 967961; omega), (by show n0 + 18000 * r + 14700 + 0 + 12 + 0 + 12 ≤ 6197586; omega)⟩ (fun E9 Z1 H locs ce q9 hpx hH hS hce hcv hcl => (PxQ hpx hq9).elim) (fun v Z1 H locs hpost hH hS => ?_)
      obtain ⟨rfl, L, K, si, P, rfl, hc⟩ := PoQ hpost hq9
      refine lv_istore (lv' := [(16, .int (nI (sz a2))), (15, .int (nI (sz a1))), (9, .int (nI (tids (T r)).length)), (8, .int (nI r)), (7, .int (nI (A + (tids (T r)).length))), (5, .long d5), (4, .int x4), (3, .int x3), (2, .ref sa), (1, .ref o), (0, .ref b9)]) hx hb dL_law_643 hl (by decide) rfl (fun ls hl => ?_)
      refine lv_aload_n hx hb dL_law_645 rfl (lv_at hl 9 rfl) ?_
      refine lv_iload hx hb dL_law_646 (lv_at hl 3 rfl) ?_
      refine lv_iload hx hb dL_law_648 (lv_at hl 1 rfl) ?_
      refine lv_iload hx hb dL_law_650 (lv_at hl 0 rfl) ?_
      obtain ⟨g, hg9⟩ : ∃ g, g = lca (T r) a1 a2 := ⟨_, rfl⟩
      have hgt : g ∈ tids (T r) := by rw [hg9]; exact lca_mem ha1 ha2
      have hsg : sz g < 1000 := hz1 g hgt
      have hfg : fnd sz (sz g : Int) (T r) = some g := fnd_of (T r) g hs hgt rfl
      obtain ⟨hmin, hmax⟩ : min (sz a1) (sz a2) ≤ sz g ∧ sz g ≤ max (sz a1) (sz a2) := by rw [hg9]; exact lca_btw (T r) a1 a2 hs ha1 ha2
      have hmn : min (sz a1) (sz a2) < 1000 := by omega
      have hmx : max (sz a1) (sz a2) < 1000 := by omega
      have hdp : ∀ c9, c9 ∈ tids (T r) → min (sz a1) (sz a2) ≤ sz c9 → sz c9 ≤ max (sz a1) (sz a2) → dp (T r) g ≤ dp (T r) c9 ∧ (c9 ≠ g → dp (T r) g < dp (T r) c9) := fun c9 h1 h2 h3 => by rw [hg9]; exact lca_dp (T r) a1 a2 c9 hs ha1 ha2 h1 h2 h3
      have hdl : ∀ c9, c9 ∈ tids (T r) → (zof (T r) c9).2.2.2.length = dp (T r) c9 ∧ dp (T r) c9 < 40 := fun c9 h1 => by
        have h2 := zof_dp hnd h1
        have h3 := (zof_len h1).2
        exact ⟨h2, by omega⟩
      obtain ⟨eg, eg2⟩ := hdl g hgt
      have hq9 := ((qm_n hr6 (by omega) (by omega) hfa1 hfa2).trans (by rw [hg9]) : _ = ((0 : Nat), nI (sz g)))
      refine cVx S (c_X2_meet (row := nI r) (x := nI (sz a1)) (y := nI (sz a2)) hst hc) (cwV 3 hts gL_law_X2_meet rfl rfl rfl (by decide +kernel) ⟨Nat.le_of_ble_eq_true rfl, Nat.le_of_ble_eq_true rfl⟩) hK hH hX.1 (Hp_recv hK hH hc.1.1.1 hc.1.1.2 rfl) hS rfl hl.1 rfl (by simp [cat_rf, Value.category]) dL_law_652 ⟨(by show k0 + 3000 * r + 2420 + 0 + 2 + 0 + 2 + 3 ≤ 967961; omega), (by show n0 + 18000 * r + 14700 + 0 + 12 + 0 + 12 + 18 ≤ 6197586; omega)⟩ (fun E9 Z1 H locs ce q9 hpx hH hS hce hcv hcl => (PxQ hpx hq9).elim) (fun v Z1 H locs hpost hH hS => ?_)
      obtain ⟨rfl, L, K, si, P, rfl, hc⟩ := PoQ hpost hq9
      refine lv_istore (lv' := [(17, .int (nI (sz g))), (16, .int (nI (sz a2))), (15, .int (nI (sz a1))), (9, .int (nI (tids (T r)).length)), (8, .int (nI r)), (7, .int (nI (A + (tids (T r)).length))), (5, .long d5), (4, .int x4), (3, .int x3), (2, .ref sa), (1, .ref o), (0, .ref b9)]) hx hb dL_law_655 hl (by decide) rfl (fun ls hl => ?_)
      refine lv_aload_n hx hb dL_law_657 rfl (lv_at hl 10 rfl) ?_
      refine lv_iload hx hb dL_law_658 (lv_at hl 4 rfl) ?_
      refine lv_iload hx hb dL_law_660 (lv_at hl 1 rfl) ?_
      refine lv_iload hx hb dL_law_662 (lv_at hl 2 rfl) ?_
      have hq9 := ((qm_n hr6 (by omega) (by omega) hfa2 hfa1).trans (by rw [hg9, lca_comm (T r) a1 a2 ha1 ha2]) : _ = ((0 : Nat), nI (sz g)))
      refine cVx S (c_X2_meet (row := nI r) (x := nI (sz a2)) (y := nI (sz a1)) hst hc) (cwV 3 hts gL_law_X2_meet rfl rfl rfl (by decide +kernel) ⟨Nat.le_of_ble_eq_true rfl, Nat.le_of_ble_eq_true rfl⟩) hK hH hX.1 (Hp_recv hK hH hc.1.1.1 hc.1.1.2 rfl) hS rfl hl.1 rfl (by simp [cat_rf, Value.category]) dL_law_664 ⟨(by show k0 + 3000 * r + 2420 + 0 + 2 + 0 + 2 + 3 + 3 ≤ 967961; omega), (by show n0 + 18000 * r + 14700 + 0 + 12 + 0 + 12 + 18 + 18 ≤ 6197586; omega)⟩ (fun E9 Z1 H locs ce q9 hpx hH hS hce hcv hcl => (PxQ hpx hq9).elim) (fun v Z1 H locs hpost hH hS => ?_)
      obtain ⟨rfl, L, K, si, P, rfl, hc⟩ := PoQ hpost hq9
      refine lv_iload hx hb dL_law_667 (lv_at hl 0 rfl) ?_
      refine lv_icmp_ne (tgt := 734) hx hb dL_law_669 (by decide) (fun h1 => absurd h1 (fun h => h rfl)) (fun _ => ?_)
      refine lv_iload hx hb dL_law_672 (lv_at hl 0 rfl) ?_
      refine lv_iload hx hb dL_law_674 (lv_at hl 2 rfl) ?_
      refine lv_iload hx hb dL_law_676 (lv_at hl 1 rfl) ?_
      refine va_mmin hx hb (S.2.2.1.trans hl.1.symm) S.2.2.2.1 v1 v2 w3 v4 (Nat.le_of_ble_eq_true rfl) (Nat.le_of_ble_eq_true rfl) (by show k0 + 3000 * r + 2420 + 0 + 2 + 0 + 2 + 3 + 3 ≤ 967961; omega) (by show n0 + 18000 * r + 14700 + 0 + 12 + 0 + 12 + 18 + 18 ≤ 6197586; omega) dL_law_678 ?_
      rw [nI_min (by omega) (by omega)]
      refine lv_icmp_lt (tgt := 734) hx hb dL_law_681 (by decide) (fun h1 => absurd h1 (nI_nlt hmin (by omega))) (fun _ => ?_)
      refine lv_iload hx hb dL_law_684 (lv_at hl 0 rfl) ?_
      refine lv_iload hx hb dL_law_686 (lv_at hl 2 rfl) ?_
      refine lv_iload hx hb dL_law_688 (lv_at hl 1 rfl) ?_
      refine va_mmax hx hb (S.2.2.1.trans hl.1.symm) S.2.2.2.1 w1 w2 w3 w4 (Nat.le_of_ble_eq_true rfl) (Nat.le_of_ble_eq_true rfl) (by show k0 + 3000 * r + 2420 + 0 + 2 + 0 + 2 + 3 + 3 ≤ 967961; omega) (by show n0 + 18000 * r + 14700 + 0 + 12 + 0 + 12 + 18 + 18 ≤ 6197586; omega) dL_law_690 ?_
      rw [nI_max (by omega) (by omega)]
      refine lv_icmp_gt (tgt := 734) hx hb dL_law_693 (by decide) (fun h1 => absurd h1 (nI_nlt hmax (by omega))) (fun _ => ?_)
      refine lv_aload_n hx hb dL_law_696 rfl (lv_at hl 10 rfl) ?_
      refine lv_iload hx hb dL_law_697 (lv_at hl 4 rfl) ?_
      refine lv_iload hx hb dL_law_699 (lv_at hl 0 rfl) ?_
      obtain ⟨ea1, eb1⟩ := hdl a1 ha1
      obtain ⟨ea2, eb2⟩ := hdl a2 ha2
      have hd1 := (hdp a1 ha1 (by omega) (by omega)).1
      have hd2 := (hdp a2 ha2 (by omega) (by omega)).1
      have hq9 := ((qa_n (f := fun r a => nI (zof (T r) a).2.2.2.length) (n := sz g) hr6 (by omega) hfg).trans (congrArg (fun x : Nat => ((0 : Nat), nI x)) eg) : _ = ((0 : Nat), nI (dp (T r) g)))
      refine cVx S (c_X2_depthOf (row := nI r) (x := nI (sz g)) hst hc) (cwV 2 hts gL_law_X2_depthOf rfl rfl rfl (by decide +kernel) ⟨Nat.le_of_ble_eq_true rfl, Nat.le_of_ble_eq_true rfl⟩) hK hH hX.1 (Hp_recv hK hH hc.1.1.1 hc.1.1.2 rfl) hS rfl hl.1 rfl (by simp [cat_rf, Value.category]) dL_law_701 ⟨(by show k0 + 3000 * r + 2420 + 0 + 2 + 0 + 2 + 3 + 3 + 2 ≤ 967961; omega), (by show n0 + 18000 * r + 14700 + 0 + 12 + 0 + 12 + 18 + 18 + 12 ≤ 6197586; omega)⟩ (fun E9 Z1 H locs ce q9 hpx hH hS hce hcv hcl => (PxQ hpx hq9).elim) (fun v Z1 H locs hpost hH hS => ?_)
      obtain ⟨rfl, L, K, si, P, rfl, hc⟩ := PoQ hpost hq9
      refine lv_aload_n hx hb dL_law_704 rfl (lv_at hl 10 rfl) ?_
      refine lv_iload hx hb dL_law_705 (lv_at hl 4 rfl) ?_
      refine lv_iload hx hb dL_law_707 (lv_at hl 2 rfl) ?_
      have hq9 := ((qa_n (f := fun r a => nI (zof (T r) a).2.2.2.length) (n := sz a1) hr6 (by omega) hfa1).trans (congrArg (fun x : Nat => ((0 : Nat), nI x)) ea1) : _ = ((0 : Nat), nI (dp (T r) a1)))
      refine cVx S (c_X2_depthOf (row := nI r) (x := nI (sz a1)) hst hc) (cwV 2 hts gL_law_X2_depthOf rfl rfl rfl (by decide +kernel) ⟨Nat.le_of_ble_eq_true rfl, Nat.le_of_ble_eq_true rfl⟩) hK hH hX.1 (Hp_recv hK hH hc.1.1.1 hc.1.1.2 rfl) hS rfl hl.1 rfl (by simp [cat_rf, Value.category]) dL_law_709 ⟨(by show k0 + 3000 * r + 2420 + 0 + 2 + 0 + 2 + 3 + 3 + 2 + 2 ≤ 967961; omega), (by show n0 + 18000 * r + 14700 + 0 + 12 + 0 + 12 + 18 + 18 + 12 + 12 ≤ 6197586; omega)⟩ (fun E9 Z1 H locs ce q9 hpx hH hS hce hcv hcl => (PxQ hpx hq9).elim) (fun v Z1 H locs hpost hH hS => ?_)
      obtain ⟨rfl, L, K, si, P, rfl, hc⟩ := PoQ hpost hq9
      refine lv_icmp_gt (tgt := 734) hx hb dL_law_712 (by decide) (fun h1 => absurd h1 (nI_nlt hd1 (by omega))) (fun _ => ?_)
      refine lv_aload_n hx hb dL_law_715 rfl (lv_at hl 10 rfl) ?_
      refine lv_iload hx hb dL_law_716 (lv_at hl 4 rfl) ?_
      refine lv_iload hx hb dL_law_718 (lv_at hl 0 rfl) ?_
      have hq9 := ((qa_n (f := fun r a => nI (zof (T r) a).2.2.2.length) (n := sz g) hr6 (by omega) hfg).trans (congrArg (fun x : Nat => ((0 : Nat), nI x)) eg) : _ = ((0 : Nat), nI (dp (T r) g)))
      refine cVx S (c_X2_depthOf (row := nI r) (x := nI (sz g)) hst hc) (cwV 2 hts gL_law_X2_depthOf rfl rfl rfl (by decide +kernel) ⟨Nat.le_of_ble_eq_true rfl, Nat.le_of_ble_eq_true rfl⟩) hK hH hX.1 (Hp_recv hK hH hc.1.1.1 hc.1.1.2 rfl) hS rfl hl.1 rfl (by simp [cat_rf, Value.category]) dL_law_720 ⟨(by show k0 + 3000 * r + 2420 + 0 + 2 + 0 + 2 + 3 + 3 + 2 + 2 + 2 ≤ 967961; omega), (by show n0 + 18000 * r + 14700 + 0 + 12 + 0 + 12 + 18 + 18 + 12 + 12 + 12 ≤ 6197586; omega)⟩ (fun E9 Z1 H locs ce q9 hpx hH hS hce hcv hcl => (PxQ hpx hq9).elim) (fun v Z1 H locs hpost hH hS => ?_)
      obtain ⟨rfl, L, K, si, P, rfl, hc⟩ := PoQ hpost hq9
      refine lv_aload_n hx hb dL_law_723 rfl (lv_at hl 10 rfl) ?_
      refine lv_iload hx hb dL_law_724 (lv_at hl 4 rfl) ?_
      refine lv_iload hx hb dL_law_726 (lv_at hl 1 rfl) ?_
      have hq9 := ((qa_n (f := fun r a => nI (zof (T r) a).2.2.2.length) (n := sz a2) hr6 (by omega) hfa2).trans (congrArg (fun x : Nat => ((0 : Nat), nI x)) ea2) : _ = ((0 : Nat), nI (dp (T r) a2)))
      refine cVx S (c_X2_depthOf (row := nI r) (x := nI (sz a2)) hst hc) (cwV 2 hts gL_law_X2_depthOf rfl rfl rfl (by decide +kernel) ⟨Nat.le_of_ble_eq_true rfl, Nat.le_of_ble_eq_true rfl⟩) hK hH hX.1 (Hp_recv hK hH hc.1.1.1 hc.1.1.2 rfl) hS rfl hl.1 rfl (by simp [cat_rf, Value.category]) dL_law_728 ⟨(by show k0 + 3000 * r + 2420 + 0 + 2 + 0 + 2 + 3 + 3 + 2 + 2 + 2 + 2 ≤ 967961; omega), (by show n0 + 18000 * r + 14700 + 0 + 12 + 0 + 12 + 18 + 18 + 12 + 12 + 12 + 12 ≤ 6197586; omega)⟩ (fun E9 Z1 H locs ce q9 hpx hH hS hce hcv hcl => (PxQ hpx hq9).elim) (fun v Z1 H locs hpost hH hS => ?_)
      obtain ⟨rfl, L, K, si, P, rfl, hc⟩ := PoQ hpost hq9
      refine lv_icmp_le (tgt := 736) hx hb dL_law_731 (by decide) (fun _ => ?_) (fun h1 => absurd (nI_le hd2 (by omega)) h1)
      refine lv_iconst (v := 0) hx hb dL_law_736 (by decide) ?_
      refine lv_istore (lv' := [(18, .int 0), (17, .int (nI (sz g))), (16, .int (nI (sz a2))), (15, .int (nI (sz a1))), (9, .int (nI (tids (T r)).length)), (8, .int (nI r)), (7, .int (nI (A + (tids (T r)).length))), (5, .long d5), (4, .int x4), (3, .int x3), (2, .ref sa), (1, .ref o), (0, .ref b9)]) hx hb dL_law_737 hl (by decide) rfl (fun ls hl => ?_)
      have loop : ∀ (N k : Nat), N + k = (tids (T r)).length → ∀ (Z : WS) (H : Heap) (locs : List Loc) (ls : Array Slot), CSW Γ o T sz bi tu M V Z → Hp D lo Γ Z H → va_S (lA lo) s.heap H locs → lv_has ls 21 [(18, .int (nI k)), (17, .int (nI (sz g))), (16, .int (nI (sz a2))), (15, .int (nI (sz a1))), (9, .int (nI (tids (T r)).length)), (8, .int (nI r)), (7, .int (nI (A + (tids (T r)).length))), (5, .long d5), (4, .int x4), (3, .int x3), (2, .ref sa), (1, .ref o), (0, .ref b9)] → W p l e room_1 s m args below meth c H locs (k0 + 3000 * r + (2450 + 6 * k)) (n0 + 18000 * r + (14900 + 36 * k)) Q (F0 m 739 ls []) := by
        intro N
        induction N with
        | zero =>
          intro k hk
          have hk : k = (tids (T r)).length := by omega
          subst hk
          intro Z H locs ls hcs hH hS hl
          obtain ⟨L, K, si, P, rfl, hc⟩ := hcs
          refine lv_iload hx hb dL_law_739 (lv_at hl 0 rfl) ?_
          refine lv_iload hx hb dL_law_741 (lv_at hl 4 rfl) ?_
          refine lv_icmp_ge (tgt := 814) hx hb dL_law_743 (by decide) (fun _ => ?_) (fun h1 => absurd (Int32.le_refl _) h1)
          refine W.widen (k := k0 + 3000 * r + 2900) (n := n0 + 18000 * r + 17900) (by show k0 + 3000 * r + (2450 + 6 * ((tids (T r)).length)) ≤ k0 + 3000 * r + 2900; omega) (by show n0 + 18000 * r + (14900 + 36 * ((tids (T r)).length)) ≤ n0 + 18000 * r + 17900; omega) ?_
          exact k814 _ H locs ls ⟨L, K, si, P, rfl, hc⟩ hH hS (lv_sub hl [5, 6, 7, 8, 9, 10, 11, 12] rfl)
        | succ N ih2 =>
          intro k hk
          have hkn : k < (tids (T r)).length := by omega
          have k808 : ∀ q9 : Nat, ∀ (Z : WS) (H : Heap) (locs : List Loc) (ls : Array Slot), CSW Γ o T sz bi tu M V Z → Hp D lo Γ Z H → va_S (lA lo) s.heap H locs → lv_has ls 21 [(19, .int (nI (sz q9))), (18, .int (nI k)), (17, .int (nI (sz g))), (16, .int (nI (sz a2))), (15, .int (nI (sz a1))), (9, .int (nI (tids (T r)).length)), (8, .int (nI r)), (7, .int (nI (A + (tids (T r)).length))), (5, .long d5), (4, .int x4), (3, .int x3), (2, .ref sa), (1, .ref o), (0, .ref b9)] → W p l e room_1 s m args below meth c H locs (k0 + 3000 * r + (2450 + 6 * k + 6)) (n0 + 18000 * r + (14900 + 36 * k + 36)) Q (F0 m 808 ls []) := by
            intro q9
            intro Z H locs ls hcs hH hS hl
            obtain ⟨L, K, si, P, rfl, hc⟩ := hcs
            refine lv_iinc (v := nI (k + 1)) (lv' := [(18, .int (nI (k + 1))), (19, .int (nI (sz q9))), (17, .int (nI (sz g))), (16, .int (nI (sz a2))), (15, .int (nI (sz a1))), (9, .int (nI (tids (T r)).length)), (8, .int (nI r)), (7, .int (nI (A + (tids (T r)).length))), (5, .long d5), (4, .int x4), (3, .int x3), (2, .ref sa), (1, .ref o), (0, .ref b9)]) hx hb dL_law_808 hl (k := 1) rfl (nI_1 k) (by decide) rfl (fun ls hl => ?_)
            refine lv_goto (tgt := 739) hx hb dL_law_811 (by decide) ?_
            refine W.widen (k := k0 + 3000 * r + (2450 + 6 * (k + 1))) (n := n0 + 18000 * r + (14900 + 36 * (k + 1))) (by show k0 + 3000 * r + (2450 + 6 * k + 6) ≤ k0 + 3000 * r + (2450 + 6 * (k + 1)); omega) (by show n0 + 18000 * r + (14900 + 36 * k + 36) ≤ n0 + 18000 * r + (14900 + 36 * (k + 1)); omega) ?_
            exact ih2 (k + 1) (by omega) _ H locs ls ⟨L, K, si, P, rfl, hc⟩ hH hS (lv_sub hl [0, 2, 3, 4, 5, 6, 7, 8, 9, 10, 11, 12, 13] rfl)
          intro Z H locs ls hcs hH hS hl
          obtain ⟨L, K, si, P, rfl, hc⟩ := hcs
          refine lv_iload hx hb dL_law_739 (lv_at hl 0 rfl) ?_
          refine lv_iload hx hb dL_law_741 (lv_at hl 4 rfl) ?_
          refine lv_icmp_ge (tgt := 814) hx hb dL_law_743 (by decide) (fun h1 => absurd h1 (nI_ge hkn (by omega))) (fun _ => ?_)
          refine lv_aload_n hx hb dL_law_746 rfl (lv_at hl 11 rfl) ?_
          refine lv_iload hx hb dL_law_747 (lv_at hl 5 rfl) ?_
          refine lv_iload hx hb dL_law_749 (lv_at hl 0 rfl) ?_
          have hk0 := hkn
          obtain ⟨q9, hqt⟩ : ∃ a, (tids (T r))[k]? = some a := ⟨_, List.getElem?_eq_getElem hkn⟩
          have hq9m := List.mem_of_getElem? hqt
          have hsq : sz q9 < 1000 := hz1 q9 hq9m
          have hfq : fnd sz (sz q9 : Int) (T r) = some q9 := fnd_of (T r) q9 hs hq9m rfl
          obtain ⟨eq9, eq8⟩ := hdl q9 hq9m
          have hq9 := (qo_n (sz := sz) (j := k) hr6 ⟨by omega, by omega⟩ hqt)
          refine cVx S (c_X2_inOrder (row := nI r) (x := nI k) hst hc) (cwV 2 hts gL_law_X2_inOrder rfl rfl rfl (by decide +kernel) ⟨Nat.le_of_ble_eq_true rfl, Nat.le_of_ble_eq_true rfl⟩) hK hH hX.1 (Hp_recv hK hH hc.1.1.1 hc.1.1.2 rfl) hS rfl hl.1 rfl (by simp [cat_rf, Value.category]) dL_law_751 ⟨(by show k0 + 3000 * r + (2450 + 6 * k) + 2 ≤ 967961; omega), (by show n0 + 18000 * r + (14900 + 36 * k) + 12 ≤ 6197586; omega)⟩ (fun E9 Z1 H locs ce q9 hpx hH hS hce hcv hcl => (PxQ hpx hq9).elim) (fun v Z1 H locs hpost hH hS => ?_)
          obtain ⟨rfl, L, K, si, P, rfl, hc⟩ := PoQ hpost hq9
          refine lv_istore (lv' := [(19, .int (nI (sz q9))), (18, .int (nI k)), (17, .int (nI (sz g))), (16, .int (nI (sz a2))), (15, .int (nI (sz a1))), (9, .int (nI (tids (T r)).length)), (8, .int (nI r)), (7, .int (nI (A + (tids (T r)).length))), (5, .long d5), (4, .int x4), (3, .int x3), (2, .ref sa), (1, .ref o), (0, .ref b9)]) hx hb dL_law_754 hl (by decide) rfl (fun ls hl => ?_)
          refine lv_iload hx hb dL_law_756 (lv_at hl 0 rfl) ?_
          refine lv_iload hx hb dL_law_758 (lv_at hl 4 rfl) ?_
          refine lv_iload hx hb dL_law_760 (lv_at hl 3 rfl) ?_
          refine va_mmin hx hb (S.2.2.1.trans hl.1.symm) S.2.2.2.1 v1 v2 w3 v4 (Nat.le_of_ble_eq_true rfl) (Nat.le_of_ble_eq_true rfl) (by show k0 + 3000 * r + (2450 + 6 * k) + 2 ≤ 967961; omega) (by show n0 + 18000 * r + (14900 + 36 * k) + 12 ≤ 6197586; omega) dL_law_762 ?_
          rw [nI_min (by omega) (by omega)]
          by_cases g1 : sz q9 < min (sz a1) (sz a2)
          · skip
            refine lv_icmp_lt (tgt := 808) hx hb dL_law_765 (by decide) (fun _ => ?_) (fun h1 => absurd (nI_lt g1 (by omega)) h1)
            refine W.widen (k := k0 + 3000 * r + (2450 + 6 * k + 6)) (n := n0 + 18000 * r + (14900 + 36 * k + 36)) (by show k0 + 3000 * r + (2450 + 6 * k) + 2 ≤ k0 + 3000 * r + (2450 + 6 * k + 6); omega) (by show n0 + 18000 * r + (14900 + 36 * k) + 12 ≤ n0 + 18000 * r + (14900 + 36 * k + 36); omega) ?_
            exact k808 q9 _ H locs ls ⟨L, K, si, P, rfl, hc⟩ hH hS (lv_sub hl [0, 1, 2, 3, 4, 5, 6, 7, 8, 9, 10, 11, 12, 13] rfl)
          · skip
            refine lv_icmp_lt (tgt := 808) hx hb dL_law_765 (by decide) (fun h1 => absurd h1 (nI_nlt (by omega) (by omega))) (fun _ => ?_)
            refine lv_iload hx hb dL_law_768 (lv_at hl 0 rfl) ?_
            refine lv_iload hx hb dL_law_770 (lv_at hl 4 rfl) ?_
            refine lv_iload hx hb dL_law_772 (lv_at hl 3 rfl) ?_
            refine va_mmax hx hb (S.2.2.1.trans hl.1.symm) S.2.2.2.1 w1 w2 w3 w4 (Nat.le_of_ble_eq_true rfl) (Nat.le_of_ble_eq_true rfl) (by show k0 + 3000 * r + (2450 + 6 * k) + 2 ≤ 967961; omega) (by show n0 + 18000 * r + (14900 + 36 * k) + 12 ≤ 6197586; omega) dL_law_774 ?_
            rw [nI_max (by omega) (by omega)]
            by_cases g2 : max (sz a1) (sz a2) < sz q9
            · skip
              refine lv_icmp_gt (tgt := 808) hx hb dL_law_777 (by decide) (fun _ => ?_) (fun h1 => absurd (nI_lt g2 (by omega)) h1)
              refine W.widen (k := k0 + 3000 * r + (2450 + 6 * k + 6)) (n := n0 + 18000 * r + (14900 + 36 * k + 36)) (by show k0 + 3000 * r + (2450 + 6 * k) + 2 ≤ k0 + 3000 * r + (2450 + 6 * k + 6); omega) (by show n0 + 18000 * r + (14900 + 36 * k) + 12 ≤ n0 + 18000 * r + (14900 + 36 * k + 36); omega) ?_
              exact k808 q9 _ H locs ls ⟨L, K, si, P, rfl, hc⟩ hH hS (lv_sub hl [0, 1, 2, 3, 4, 5, 6, 7, 8, 9, 10, 11, 12, 13] rfl)
            · skip
              refine lv_icmp_gt (tgt := 808) hx hb dL_law_777 (by decide) (fun h1 => absurd h1 (nI_nlt (by omega) (by omega))) (fun _ => ?_)
              refine lv_iload hx hb dL_law_780 (lv_at hl 0 rfl) ?_
              refine lv_iload hx hb dL_law_782 (lv_at hl 2 rfl) ?_
              by_cases g3 : q9 = g
              · skip
                refine lv_icmp_eq (tgt := 808) hx hb dL_law_784 (by decide) (fun _ => ?_) (fun h1 => absurd (by rw [g3]) h1)
                refine W.widen (k := k0 + 3000 * r + (2450 + 6 * k + 6)) (n := n0 + 18000 * r + (14900 + 36 * k + 36)) (by show k0 + 3000 * r + (2450 + 6 * k) + 2 ≤ k0 + 3000 * r + (2450 + 6 * k + 6); omega) (by show n0 + 18000 * r + (14900 + 36 * k) + 12 ≤ n0 + 18000 * r + (14900 + 36 * k + 36); omega) ?_
                exact k808 q9 _ H locs ls ⟨L, K, si, P, rfl, hc⟩ hH hS (lv_sub hl [0, 1, 2, 3, 4, 5, 6, 7, 8, 9, 10, 11, 12, 13] rfl)
              · skip
                refine lv_icmp_eq (tgt := 808) hx hb dL_law_784 (by decide) (fun h1 => absurd h1 (fun h9 => g3 (srt_inj hs hq9m hgt ((nI_eq (by omega) (by omega)).mp h9)))) (fun _ => ?_)
                refine lv_aload_n hx hb dL_law_787 rfl (lv_at hl 12 rfl) ?_
                refine lv_iload hx hb dL_law_788 (lv_at hl 6 rfl) ?_
                refine lv_iload hx hb dL_law_790 (lv_at hl 0 rfl) ?_
                have hd9 := (hdp q9 hq9m (by omega) (by omega)).2 g3
                have hq9 := ((qa_n (f := fun r a => nI (zof (T r) a).2.2.2.length) (n := sz q9) hr6 (by omega) hfq).trans (congrArg (fun x : Nat => ((0 : Nat), nI x)) eq9) : _ = ((0 : Nat), nI (dp (T r) q9)))
                refine cVx S (c_X2_depthOf (row := nI r) (x := nI (sz q9)) hst hc) (cwV 2 hts gL_law_X2_depthOf rfl rfl rfl (by decide +kernel) ⟨Nat.le_of_ble_eq_true rfl, Nat.le_of_ble_eq_true rfl⟩) hK hH hX.1 (Hp_recv hK hH hc.1.1.1 hc.1.1.2 rfl) hS rfl hl.1 rfl (by simp [cat_rf, Value.category]) dL_law_792 ⟨(by show k0 + 3000 * r + (2450 + 6 * k) + 2 + 2 ≤ 967961; omega), (by show n0 + 18000 * r + (14900 + 36 * k) + 12 + 12 ≤ 6197586; omega)⟩ (fun E9 Z1 H locs ce q9 hpx hH hS hce hcv hcl => (PxQ hpx hq9).elim) (fun v Z1 H locs hpost hH hS => ?_)
                obtain ⟨rfl, L, K, si, P, rfl, hc⟩ := PoQ hpost hq9
                refine lv_aload_n hx hb dL_law_795 rfl (lv_at hl 12 rfl) ?_
                refine lv_iload hx hb dL_law_796 (lv_at hl 6 rfl) ?_
                refine lv_iload hx hb dL_law_798 (lv_at hl 2 rfl) ?_
                have hq9 := ((qa_n (f := fun r a => nI (zof (T r) a).2.2.2.length) (n := sz g) hr6 (by omega) hfg).trans (congrArg (fun x : Nat => ((0 : Nat), nI x)) eg) : _ = ((0 : Nat), nI (dp (T r) g)))
                refine cVx S (c_X2_depthOf (row := nI r) (x := nI (sz g)) hst hc) (cwV 2 hts gL_law_X2_depthOf rfl rfl rfl (by decide +kernel) ⟨Nat.le_of_ble_eq_true rfl, Nat.le_of_ble_eq_true rfl⟩) hK hH hX.1 (Hp_recv hK hH hc.1.1.1 hc.1.1.2 rfl) hS rfl hl.1 rfl (by simp [cat_rf, Value.category]) dL_law_800 ⟨(by show k0 + 3000 * r + (2450 + 6 * k) + 2 + 2 + 2 ≤ 967961; omega), (by show n0 + 18000 * r + (14900 + 36 * k) + 12 + 12 + 12 ≤ 6197586; omega)⟩ (fun E9 Z1 H locs ce q9 hpx hH hS hce hcv hcl => (PxQ hpx hq9).elim) (fun v Z1 H locs hpost hH hS => ?_)
                obtain ⟨rfl, L, K, si, P, rfl, hc⟩ := PoQ hpost hq9
                refine lv_icmp_gt (tgt := 808) hx hb dL_law_803 (by decide) (fun _ => ?_) (fun h1 => absurd (nI_lt hd9 (by omega)) h1)
                refine W.widen (k := k0 + 3000 * r + (2450 + 6 * k + 6)) (n := n0 + 18000 * r + (14900 + 36 * k + 36)) (by show k0 + 3000 * r + (2450 + 6 * k) + 2 + 2 + 2 ≤ k0 + 3000 * r + (2450 + 6 * k + 6); omega) (by show n0 + 18000 * r + (14900 + 36 * k) + 12 + 12 + 12 ≤ n0 + 18000 * r + (14900 + 36 * k + 36); omega) ?_
                exact k808 q9 _ H locs ls ⟨L, K, si, P, rfl, hc⟩ hH hS (lv_sub hl [0, 1, 2, 3, 4, 5, 6, 7, 8, 9, 10, 11, 12, 13] rfl)
      refine W.widen (k := k0 + 3000 * r + (2450 + 6 * 0)) (n := n0 + 18000 * r + (14900 + 36 * 0)) (by show k0 + 3000 * r + 2420 + 0 + 2 + 0 + 2 + 3 + 3 + 2 + 2 + 2 + 2 ≤ k0 + 3000 * r + (2450 + 6 * 0); omega) (by show n0 + 18000 * r + 14700 + 0 + 12 + 0 + 12 + 18 + 18 + 12 + 12 + 12 + 12 ≤ n0 + 18000 * r + (14900 + 36 * 0); omega) ?_
      exact loop (tids (T r)).length 0 rfl _ H locs ls ⟨L, K, si, P, rfl, hc⟩ hH hS (lv_sub hl [0, 1, 2, 3, 4, 5, 6, 7, 8, 9, 10, 11, 12] rfl)
    have k492 : ∀ (Z : WS) (H : Heap) (locs : List Loc) (ls : Array Slot), CSW Γ o T sz bi tu M V Z → Hp D lo Γ Z H → va_S (lA lo) s.heap H locs → lv_has ls 21 [(15, .int (nI (tids (T r)).length)), (14, .int (nI (acc (T r) fT (tids (T r)).length))), (13, .int (nI (mxa (T r) (tids (T r)).length) - 1)), (12, .int (nI (acc (T r) fL (tids (T r)).length))), (11, .int (nI (acc (T r) fH (tids (T r)).length))), (10, .int (nI (acc (T r) fD (tids (T r)).length))), (9, .int (nI (tids (T r)).length)), (8, .int (nI r)), (7, .int (nI (A + (tids (T r)).length))), (5, .long d5), (4, .int x4), (3, .int x3), (2, .ref sa), (1, .ref o), (0, .ref b9)] → W p l e room_1 s m args below meth c H locs (k0 + 3000 * r + 1 + 60 * (tids (T r)).length) (n0 + 18000 * r + 6 + 360 * (tids (T r)).length) Q (F0 m 492 ls []) := by
      intro Z H locs ls hcs hH hS hl
      obtain ⟨L, K, si, P, rfl, hc⟩ := hcs
      have hlh := lh_le (t := T r) (by omega)
      refine W.widen (k := k0 + 3000 * r + 2401) (n := n0 + 18000 * r + 14406) (by show k0 + 3000 * r + 1 + 60 * (tids (T r)).length ≤ k0 + 3000 * r + 2401; omega) (by show n0 + 18000 * r + 6 + 360 * (tids (T r)).length ≤ n0 + 18000 * r + 14406; omega) ?_
      refine lv_iload hx hb dL_law_492 (lv_at hl 5 rfl) ?_
      refine lv_aload_n hx hb dL_law_494 rfl (lv_at hl 13 rfl) ?_
      refine lv_iload hx hb dL_law_495 (lv_at hl 7 rfl) ?_
      have hq9 := (qr_n (f := fun r => nI (dsm (T r) 0)) hr6)
      refine cVx S (c_X2_depths (row := nI r) hst hc) (cwV 1 hts gL_law_X2_depths rfl rfl rfl (by decide +kernel) ⟨Nat.le_of_ble_eq_true rfl, Nat.le_of_ble_eq_true rfl⟩) hK hH hX.1 (Hp_recv hK hH hc.1.1.1 hc.1.1.2 rfl) hS rfl hl.1 rfl (by simp [cat_rf, Value.category]) dL_law_497 ⟨(by show k0 + 3000 * r + 2401 + 1 ≤ 967961; omega), (by show n0 + 18000 * r + 14406 + 6 ≤ 6197586; omega)⟩ (fun E9 Z1 H locs ce q9 hpx hH hS hce hcv hcl => (PxQ hpx hq9).elim) (fun v Z1 H locs hpost hH hS => ?_)
      obtain ⟨rfl, L, K, si, P, rfl, hc⟩ := PoQ hpost hq9
      refine lv_icmp_ne (tgt := 597) hx hb dL_law_500 (by decide) (fun h1 => absurd h1 (fun h => h (by rw [fDn]))) (fun _ => ?_)
      refine lv_iload hx hb dL_law_503 (lv_at hl 4 rfl) ?_
      refine lv_iload hx hb dL_law_505 (lv_at hl 5 rfl) ?_
      refine lv_icmp_ne (tgt := 597) hx hb dL_law_507 (by decide) (fun h1 => absurd h1 (fun h => h (by rw [fDn, fHn]))) (fun _ => ?_)
      refine lv_iload hx hb dL_law_510 (lv_at hl 3 rfl) ?_
      refine lv_aload_n hx hb dL_law_512 rfl (lv_at hl 13 rfl) ?_
      refine lv_iload hx hb dL_law_513 (lv_at hl 7 rfl) ?_
      have hq9 := (qr_n (f := fun r => nI (lvs (T r))) hr6)
      refine cVx S (c_X2_leaves (row := nI r) hst hc) (cwV 1 hts gL_law_X2_leaves rfl rfl rfl (by decide +kernel) ⟨Nat.le_of_ble_eq_true rfl, Nat.le_of_ble_eq_true rfl⟩) hK hH hX.1 (Hp_recv hK hH hc.1.1.1 hc.1.1.2 rfl) hS rfl hl.1 rfl (by simp [cat_rf, Value.category]) dL_law_515 ⟨(by show k0 + 3000 * r + 2401 + 1 + 1 ≤ 967961; omega), (by show n0 + 18000 * r + 14406 + 6 + 6 ≤ 6197586; omega)⟩ (fun E9 Z1 H locs ce q9 hpx hH hS hce hcv hcl => (PxQ hpx hq9).elim) (fun v Z1 H locs hpost hH hS => ?_)
      obtain ⟨rfl, L, K, si, P, rfl, hc⟩ := PoQ hpost hq9
      refine lv_icmp_ne (tgt := 597) hx hb dL_law_518 (by decide) (fun h1 => absurd h1 (fun h => h (by rw [fLn]))) (fun _ => ?_)
      refine lv_iload hx hb dL_law_521 (lv_at hl 1 rfl) ?_
      refine lv_iload hx hb dL_law_523 (lv_at hl 6 rfl) ?_
      rcases Nat.eq_zero_or_pos (tids (T r)).length with hz | hp
      · skip
        have hz0 : nI (tids (T r)).length = 0 := by rw [hz]; rfl
        have hl9 : T r = .leaf () := by
          rcases tr_cs (T r) with h9 | ⟨b, x, y, h9⟩
          · exact h9
          · rw [h9, tids_branch, List.length_append, List.length_cons] at hz; omega
        refine lv_if_ne (tgt := 532) hx hb dL_law_525 (by decide) (fun h1 => absurd h1 (fun h => h hz0)) (fun _ => ?_)
        refine lv_iconst (v := 0) hx hb dL_law_528 (by decide) ?_
        refine lv_goto (tgt := 533) hx hb dL_law_529 (by decide) ?_
        refine lv_icmp_ne (tgt := 597) hx hb dL_law_533 (by decide) (fun h1 => absurd h1 (fun h => h (by rw [fTn, hl9]; rfl))) (fun _ => ?_)
        refine lv_aload_n hx hb dL_law_536 rfl (lv_at hl 13 rfl) ?_
        refine lv_iload hx hb dL_law_537 (lv_at hl 7 rfl) ?_
        have hq9 := (qr_n (f := fun r => nI (hgt (T r))) hr6)
        refine cVx S (c_X2_height (row := nI r) hst hc) (cwV 1 hts gL_law_X2_height rfl rfl rfl (by decide +kernel) ⟨Nat.le_of_ble_eq_true rfl, Nat.le_of_ble_eq_true rfl⟩) hK hH hX.1 (Hp_recv hK hH hc.1.1.1 hc.1.1.2 rfl) hS rfl hl.1 rfl (by simp [cat_rf, Value.category]) dL_law_539 ⟨(by show k0 + 3000 * r + 2401 + 1 + 1 + 1 ≤ 967961; omega), (by show n0 + 18000 * r + 14406 + 6 + 6 + 6 ≤ 6197586; omega)⟩ (fun E9 Z1 H locs ce q9 hpx hH hS hce hcv hcl => (PxQ hpx hq9).elim) (fun v Z1 H locs hpost hH hS => ?_)
        obtain ⟨rfl, L, K, si, P, rfl, hc⟩ := PoQ hpost hq9
        refine lv_iload hx hb dL_law_542 (lv_at hl 2 rfl) ?_
        refine lv_iconst (v := 1) hx hb dL_law_544 (by decide) ?_
        refine lv_iadd hx hb dL_law_545 ?_
        refine lv_icmp_ne (tgt := 597) hx hb dL_law_546 (by decide) (fun h1 => absurd h1 (fun h => h (by rw [hM9]; exact (Int32.sub_add_cancel _ _).symm))) (fun _ => ?_)
        refine lv_aload_n hx hb dL_law_549 rfl (lv_at hl 13 rfl) ?_
        refine lv_iload hx hb dL_law_550 (lv_at hl 7 rfl) ?_
        have hq9 := (qr_n (f := fun r => nI (lh (tids (T r)).length)) hr6)
        refine cVx S (c_X2_leastHeight (row := nI r) hst hc) (cwV 1 hts gL_law_X2_leastHeight rfl rfl rfl (by decide +kernel) ⟨Nat.le_of_ble_eq_true rfl, Nat.le_of_ble_eq_true rfl⟩) hK hH hX.1 (Hp_recv hK hH hc.1.1.1 hc.1.1.2 rfl) hS rfl hl.1 rfl (by simp [cat_rf, Value.category]) dL_law_552 ⟨(by show k0 + 3000 * r + 2401 + 1 + 1 + 1 + 1 ≤ 967961; omega), (by show n0 + 18000 * r + 14406 + 6 + 6 + 6 + 6 ≤ 6197586; omega)⟩ (fun E9 Z1 H locs ce q9 hpx hH hS hce hcv hcl => (PxQ hpx hq9).elim) (fun v Z1 H locs hpost hH hS => ?_)
        obtain ⟨rfl, L, K, si, P, rfl, hc⟩ := PoQ hpost hq9
        refine lv_aload_n hx hb dL_law_555 rfl (lv_at hl 13 rfl) ?_
        refine lv_iload hx hb dL_law_556 (lv_at hl 7 rfl) ?_
        have hq9 := (qr_n (f := fun r => nI (hgt (T r))) hr6)
        refine cVx S (c_X2_height (row := nI r) hst hc) (cwV 1 hts gL_law_X2_height rfl rfl rfl (by decide +kernel) ⟨Nat.le_of_ble_eq_true rfl, Nat.le_of_ble_eq_true rfl⟩) hK hH hX.1 (Hp_recv hK hH hc.1.1.1 hc.1.1.2 rfl) hS rfl hl.1 rfl (by simp [cat_rf, Value.category]) dL_law_558 ⟨(by show k0 + 3000 * r + 2401 + 1 + 1 + 1 + 1 + 1 ≤ 967961; omega), (by show n0 + 18000 * r + 14406 + 6 + 6 + 6 + 6 + 6 ≤ 6197586; omega)⟩ (fun E9 Z1 H locs ce q9 hpx hH hS hce hcv hcl => (PxQ hpx hq9).elim) (fun v Z1 H locs hpost hH hS => ?_)
        obtain ⟨rfl, L, K, si, P, rfl, hc⟩ := PoQ hpost hq9
        refine lv_icmp_gt (tgt := 597) hx hb dL_law_561 (by decide) (fun h1 => absurd h1 (nI_nlt hlh (by omega))) (fun _ => ?_)
        refine lv_iconst (v := 1) hx hb dL_law_564 (by decide) ?_
        refine lv_aload_n hx hb dL_law_565 rfl (lv_at hl 13 rfl) ?_
        refine lv_iload hx hb dL_law_566 (lv_at hl 7 rfl) ?_
        have hq9 := (qr_n (f := fun r => nI (lh (tids (T r)).length)) hr6)
        refine cVx S (c_X2_leastHeight (row := nI r) hst hc) (cwV 1 hts gL_law_X2_leastHeight rfl rfl rfl (by decide +kernel) ⟨Nat.le_of_ble_eq_true rfl, Nat.le_of_ble_eq_true rfl⟩) hK hH hX.1 (Hp_recv hK hH hc.1.1.1 hc.1.1.2 rfl) hS rfl hl.1 rfl (by simp [cat_rf, Value.category]) dL_law_568 ⟨(by show k0 + 3000 * r + 2401 + 1 + 1 + 1 + 1 + 1 + 1 ≤ 967961; omega), (by show n0 + 18000 * r + 14406 + 6 + 6 + 6 + 6 + 6 + 6 ≤ 6197586; omega)⟩ (fun E9 Z1 H locs ce q9 hpx hH hS hce hcv hcl => (PxQ hpx hq9).elim) (fun v Z1 H locs hpost hH hS => ?_)
        obtain ⟨rfl, L, K, si, P, rfl, hc⟩ := PoQ hpost hq9
        refine lv_ishl hx hb dL_law_571 ?_
        refine lv_iload hx hb dL_law_572 (lv_at hl 6 rfl) ?_
        refine lv_icmp_le (tgt := 597) hx hb dL_law_574 (by decide) (fun h1 => absurd h1 (lh_a _ (by omega))) (fun _ => ?_)
        refine lv_iload hx hb dL_law_577 (lv_at hl 6 rfl) ?_
        refine lv_if_le (tgt := 599) hx hb dL_law_579 (by decide) (fun _ => ?_) (fun h1 => absurd (by rw [hz0]; decide) h1)
        refine lv_iload hx hb dL_law_599 (lv_at hl 6 rfl) ?_
        refine lv_if_ne (tgt := 607) hx hb dL_law_601 (by decide) (fun h1 => absurd h1 (fun h => h hz0)) (fun _ => ?_)
        refine lv_goto (tgt := 814) hx hb dL_law_604 (by decide) ?_
        refine W.widen (k := k0 + 3000 * r + 2900) (n := n0 + 18000 * r + 17900) (by show k0 + 3000 * r + 2401 + 1 + 1 + 1 + 1 + 1 + 1 ≤ k0 + 3000 * r + 2900; omega) (by show n0 + 18000 * r + 14406 + 6 + 6 + 6 + 6 + 6 + 6 ≤ n0 + 18000 * r + 17900; omega) ?_
        exact k814 _ H locs ls ⟨L, K, si, P, rfl, hc⟩ hH hS (lv_sub hl [7, 8, 9, 10, 11, 12, 13, 14] rfl)
      · skip
        have hz0 : ¬ nI (tids (T r)).length = 0 := nI_ne0 hp (by omega)
        have hE9 : isE (T r) = false := by
          rcases tr_cs (T r) with h9 | ⟨b, x, y, h9⟩
          · rw [h9] at hp; exact absurd hp (by decide)
          · rw [h9]; rfl
        refine lv_if_ne (tgt := 532) hx hb dL_law_525 (by decide) (fun _ => ?_) (fun h1 => absurd h1 hz0)
        refine lv_iconst (v := 1) hx hb dL_law_532 (by decide) ?_
        refine lv_icmp_ne (tgt := 597) hx hb dL_law_533 (by decide) (fun h1 => absurd h1 (fun h => h (by rw [fTn, hE9]; rfl))) (fun _ => ?_)
        refine lv_aload_n hx hb dL_law_536 rfl (lv_at hl 13 rfl) ?_
        refine lv_iload hx hb dL_law_537 (lv_at hl 7 rfl) ?_
        have hq9 := (qr_n (f := fun r => nI (hgt (T r))) hr6)
        refine cVx S (c_X2_height (row := nI r) hst hc) (cwV 1 hts gL_law_X2_height rfl rfl rfl (by decide +kernel) ⟨Nat.le_of_ble_eq_true rfl, Nat.le_of_ble_eq_true rfl⟩) hK hH hX.1 (Hp_recv hK hH hc.1.1.1 hc.1.1.2 rfl) hS rfl hl.1 rfl (by simp [cat_rf, Value.category]) dL_law_539 ⟨(by show k0 + 3000 * r + 2401 + 1 + 1 + 1 ≤ 967961; omega), (by show n0 + 18000 * r + 14406 + 6 + 6 + 6 ≤ 6197586; omega)⟩ (fun E9 Z1 H locs ce q9 hpx hH hS hce hcv hcl => (PxQ hpx hq9).elim) (fun v Z1 H locs hpost hH hS => ?_)
        obtain ⟨rfl, L, K, si, P, rfl, hc⟩ := PoQ hpost hq9
        refine lv_iload hx hb dL_law_542 (lv_at hl 2 rfl) ?_
        refine lv_iconst (v := 1) hx hb dL_law_544 (by decide) ?_
        refine lv_iadd hx hb dL_law_545 ?_
        refine lv_icmp_ne (tgt := 597) hx hb dL_law_546 (by decide) (fun h1 => absurd h1 (fun h => h (by rw [hM9]; exact (Int32.sub_add_cancel _ _).symm))) (fun _ => ?_)
        refine lv_aload_n hx hb dL_law_549 rfl (lv_at hl 13 rfl) ?_
        refine lv_iload hx hb dL_law_550 (lv_at hl 7 rfl) ?_
        have hq9 := (qr_n (f := fun r => nI (lh (tids (T r)).length)) hr6)
        refine cVx S (c_X2_leastHeight (row := nI r) hst hc) (cwV 1 hts gL_law_X2_leastHeight rfl rfl rfl (by decide +kernel) ⟨Nat.le_of_ble_eq_true rfl, Nat.le_of_ble_eq_true rfl⟩) hK hH hX.1 (Hp_recv hK hH hc.1.1.1 hc.1.1.2 rfl) hS rfl hl.1 rfl (by simp [cat_rf, Value.category]) dL_law_552 ⟨(by show k0 + 3000 * r + 2401 + 1 + 1 + 1 + 1 ≤ 967961; omega), (by show n0 + 18000 * r + 14406 + 6 + 6 + 6 + 6 ≤ 6197586; omega)⟩ (fun E9 Z1 H locs ce q9 hpx hH hS hce hcv hcl => (PxQ hpx hq9).elim) (fun v Z1 H locs hpost hH hS => ?_)
        obtain ⟨rfl, L, K, si, P, rfl, hc⟩ := PoQ hpost hq9
        refine lv_aload_n hx hb dL_law_555 rfl (lv_at hl 13 rfl) ?_
        refine lv_iload hx hb dL_law_556 (lv_at hl 7 rfl) ?_
        have hq9 := (qr_n (f := fun r => nI (hgt (T r))) hr6)
        refine cVx S (c_X2_height (row := nI r) hst hc) (cwV 1 hts gL_law_X2_height rfl rfl rfl (by decide +kernel) ⟨Nat.le_of_ble_eq_true rfl, Nat.le_of_ble_eq_true rfl⟩) hK hH hX.1 (Hp_recv hK hH hc.1.1.1 hc.1.1.2 rfl) hS rfl hl.1 rfl (by simp [cat_rf, Value.category]) dL_law_558 ⟨(by show k0 + 3000 * r + 2401 + 1 + 1 + 1 + 1 + 1 ≤ 967961; omega), (by show n0 + 18000 * r + 14406 + 6 + 6 + 6 + 6 + 6 ≤ 6197586; omega)⟩ (fun E9 Z1 H locs ce q9 hpx hH hS hce hcv hcl => (PxQ hpx hq9).elim) (fun v Z1 H locs hpost hH hS => ?_)
        obtain ⟨rfl, L, K, si, P, rfl, hc⟩ := PoQ hpost hq9
        refine lv_icmp_gt (tgt := 597) hx hb dL_law_561 (by decide) (fun h1 => absurd h1 (nI_nlt hlh (by omega))) (fun _ => ?_)
        refine lv_iconst (v := 1) hx hb dL_law_564 (by decide) ?_
        refine lv_aload_n hx hb dL_law_565 rfl (lv_at hl 13 rfl) ?_
        refine lv_iload hx hb dL_law_566 (lv_at hl 7 rfl) ?_
        have hq9 := (qr_n (f := fun r => nI (lh (tids (T r)).length)) hr6)
        refine cVx S (c_X2_leastHeight (row := nI r) hst hc) (cwV 1 hts gL_law_X2_leastHeight rfl rfl rfl (by decide +kernel) ⟨Nat.le_of_ble_eq_true rfl, Nat.le_of_ble_eq_true rfl⟩) hK hH hX.1 (Hp_recv hK hH hc.1.1.1 hc.1.1.2 rfl) hS rfl hl.1 rfl (by simp [cat_rf, Value.category]) dL_law_568 ⟨(by show k0 + 3000 * r + 2401 + 1 + 1 + 1 + 1 + 1 + 1 ≤ 967961; omega), (by show n0 + 18000 * r + 14406 + 6 + 6 + 6 + 6 + 6 + 6 ≤ 6197586; omega)⟩ (fun E9 Z1 H locs ce q9 hpx hH hS hce hcv hcl => (PxQ hpx hq9).elim) (fun v Z1 H locs hpost hH hS => ?_)
        obtain ⟨rfl, L, K, si, P, rfl, hc⟩ := PoQ hpost hq9
        refine lv_ishl hx hb dL_law_571 ?_
        refine lv_iload hx hb dL_law_572 (lv_at hl 6 rfl) ?_
        refine lv_icmp_le (tgt := 597) hx hb dL_law_574 (by decide) (fun h1 => absurd h1 (lh_a _ (by omega))) (fun _ => ?_)
        refine lv_iload hx hb dL_law_577 (lv_at hl 6 rfl) ?_
        refine lv_if_le (tgt := 599) hx hb dL_law_579 (by decide) (fun h1 => absurd h1 (nI_nle hp (by omega))) (fun _ => ?_)
        refine lv_iconst (v := 1) hx hb dL_law_582 (by decide) ?_
        refine lv_aload_n hx hb dL_law_583 rfl (lv_at hl 13 rfl) ?_
        refine lv_iload hx hb dL_law_584 (lv_at hl 7 rfl) ?_
        have hq9 := (qr_n (f := fun r => nI (lh (tids (T r)).length)) hr6)
        refine cVx S (c_X2_leastHeight (row := nI r) hst hc) (cwV 1 hts gL_law_X2_leastHeight rfl rfl rfl (by decide +kernel) ⟨Nat.le_of_ble_eq_true rfl, Nat.le_of_ble_eq_true rfl⟩) hK hH hX.1 (Hp_recv hK hH hc.1.1.1 hc.1.1.2 rfl) hS rfl hl.1 rfl (by simp [cat_rf, Value.category]) dL_law_586 ⟨(by show k0 + 3000 * r + 2401 + 1 + 1 + 1 + 1 + 1 + 1 + 1 ≤ 967961; omega), (by show n0 + 18000 * r + 14406 + 6 + 6 + 6 + 6 + 6 + 6 + 6 ≤ 6197586; omega)⟩ (fun E9 Z1 H locs ce q9 hpx hH hS hce hcv hcl => (PxQ hpx hq9).elim) (fun v Z1 H locs hpost hH hS => ?_)
        obtain ⟨rfl, L, K, si, P, rfl, hc⟩ := PoQ hpost hq9
        refine lv_iconst (v := 1) hx hb dL_law_589 (by decide) ?_
        refine lv_isub hx hb dL_law_590 ?_
        refine lv_ishl hx hb dL_law_591 ?_
        refine lv_iload hx hb dL_law_592 (lv_at hl 6 rfl) ?_
        refine lv_icmp_le (tgt := 599) hx hb dL_law_594 (by decide) (fun _ => ?_) (fun h1 => absurd (lh_b _ (by omega) hp) h1)
        refine lv_iload hx hb dL_law_599 (lv_at hl 6 rfl) ?_
        refine lv_if_ne (tgt := 607) hx hb dL_law_601 (by decide) (fun _ => ?_) (fun h1 => absurd h1 hz0)
        refine W.widen (k := k0 + 3000 * r + 2420) (n := n0 + 18000 * r + 14700) (by show k0 + 3000 * r + 2401 + 1 + 1 + 1 + 1 + 1 + 1 + 1 ≤ k0 + 3000 * r + 2420; omega) (by show n0 + 18000 * r + 14406 + 6 + 6 + 6 + 6 + 6 + 6 + 6 ≤ n0 + 18000 * r + 14700; omega) ?_
        exact k607 hp _ H locs ls ⟨L, K, si, P, rfl, hc⟩ hH hS (lv_sub hl [6, 7, 8, 9, 10, 11, 12, 13, 14] rfl)
    intro Z H locs ls hcs hH hS hl
    obtain ⟨L, K, si, P, rfl, hc⟩ := hcs
    refine lv_iload hx hb dL_law_92 (lv_at hl 0 rfl) ?_
    refine lv_bipush (v := 6) hx hb dL_law_94 (by decide +kernel) ?_
    refine lv_icmp_ge (tgt := 820) hx hb dL_law_96 (by decide) (fun h1 => absurd h1 (nI_ge hr6 (by decide))) (fun _ => ?_)
    refine lv_aload_n hx hb dL_law_99 rfl (lv_at hl 6 rfl) ?_
    refine lv_iload hx hb dL_law_100 (lv_at hl 0 rfl) ?_
    have hq9 := (qr_n (f := fun r => nI (tids (T r)).length) hr6)
    refine cVx S (c_X2_sizeOf (row := nI r) hst hc) (cwV 1 hts gL_law_X2_sizeOf rfl rfl rfl (by decide +kernel) ⟨Nat.le_of_ble_eq_true rfl, Nat.le_of_ble_eq_true rfl⟩) hK hH hX.1 (Hp_recv hK hH hc.1.1.1 hc.1.1.2 rfl) hS rfl hl.1 rfl (by simp [cat_rf, Value.category]) dL_law_102 ⟨(by show k0 + 3000 * r + 1 ≤ 967961; omega), (by show n0 + 18000 * r + 6 ≤ 6197586; omega)⟩ (fun E9 Z1 H locs ce q9 hpx hH hS hce hcv hcl => (PxQ hpx hq9).elim) (fun v Z1 H locs hpost hH hS => ?_)
    obtain ⟨rfl, L, K, si, P, rfl, hc⟩ := PoQ hpost hq9
    refine lv_istore (lv' := [(9, .int (nI (tids (T r)).length)), (8, .int (nI r)), (7, .int (nI A)), (5, .long d5), (4, .int x4), (3, .int x3), (2, .ref sa), (1, .ref o), (0, .ref b9)]) hx hb dL_law_105 hl (by decide) rfl (fun ls hl => ?_)
    refine lv_iconst (v := 0) hx hb dL_law_107 (by decide) ?_
    refine lv_istore (lv' := [(10, .int 0), (9, .int (nI (tids (T r)).length)), (8, .int (nI r)), (7, .int (nI A)), (5, .long d5), (4, .int x4), (3, .int x3), (2, .ref sa), (1, .ref o), (0, .ref b9)]) hx hb dL_law_108 hl (by decide) rfl (fun ls hl => ?_)
    refine lv_iconst (v := 0) hx hb dL_law_110 (by decide) ?_
    refine lv_istore (lv' := [(11, .int 0), (10, .int 0), (9, .int (nI (tids (T r)).length)), (8, .int (nI r)), (7, .int (nI A)), (5, .long d5), (4, .int x4), (3, .int x3), (2, .ref sa), (1, .ref o), (0, .ref b9)]) hx hb dL_law_111 hl (by decide) rfl (fun ls hl => ?_)
    refine lv_iconst (v := 0) hx hb dL_law_113 (by decide) ?_
    refine lv_istore (lv' := [(12, .int 0), (11, .int 0), (10, .int 0), (9, .int (nI (tids (T r)).length)), (8, .int (nI r)), (7, .int (nI A)), (5, .long d5), (4, .int x4), (3, .int x3), (2, .ref sa), (1, .ref o), (0, .ref b9)]) hx hb dL_law_114 hl (by decide) rfl (fun ls hl => ?_)
    refine lv_iconst (v := -1) hx hb dL_law_116 (by decide) ?_
    refine lv_istore (lv' := [(13, .int (-1)), (12, .int 0), (11, .int 0), (10, .int 0), (9, .int (nI (tids (T r)).length)), (8, .int (nI r)), (7, .int (nI A)), (5, .long d5), (4, .int x4), (3, .int x3), (2, .ref sa), (1, .ref o), (0, .ref b9)]) hx hb dL_law_117 hl (by decide) rfl (fun ls hl => ?_)
    refine lv_iconst (v := 0) hx hb dL_law_119 (by decide) ?_
    refine lv_istore (lv' := [(14, .int 0), (13, .int (-1)), (12, .int 0), (11, .int 0), (10, .int 0), (9, .int (nI (tids (T r)).length)), (8, .int (nI r)), (7, .int (nI A)), (5, .long d5), (4, .int x4), (3, .int x3), (2, .ref sa), (1, .ref o), (0, .ref b9)]) hx hb dL_law_120 hl (by decide) rfl (fun ls hl => ?_)
    refine lv_iload hx hb dL_law_122 (lv_at hl 7 rfl) ?_
    refine lv_iload hx hb dL_law_124 (lv_at hl 5 rfl) ?_
    refine lv_iadd hx hb dL_law_126 ?_
    rw [show nI A + nI (tids (T r)).length = nI (A + (tids (T r)).length) from nI_add _ _]
    refine lv_istore (lv' := [(7, .int (nI (A + (tids (T r)).length))), (14, .int 0), (13, .int (-1)), (12, .int 0), (11, .int 0), (10, .int 0), (9, .int (nI (tids (T r)).length)), (8, .int (nI r)), (5, .long d5), (4, .int x4), (3, .int x3), (2, .ref sa), (1, .ref o), (0, .ref b9)]) hx hb dL_law_127 hl (by decide) rfl (fun ls hl => ?_)
    refine lv_iconst (v := 0) hx hb dL_law_129 (by decide) ?_
    refine lv_istore (lv' := [(15, .int 0), (7, .int (nI (A + (tids (T r)).length))), (14, .int 0), (13, .int (-1)), (12, .int 0), (11, .int 0), (10, .int 0), (9, .int (nI (tids (T r)).length)), (8, .int (nI r)), (5, .long d5), (4, .int x4), (3, .int x3), (2, .ref sa), (1, .ref o), (0, .ref b9)]) hx hb dL_law_130 hl (by decide) rfl (fun ls hl => ?_)
    rw [show (-1 : Int32) = nI (mxa (T r) 0) - 1 from (by show (-1 : Int32) = nI 0 - 1; decide)] at hl
    have hl : lv_has ls 21 [(15, .int (nI 0)), (14, .int (nI (acc (T r) fT 0))), (13, .int (nI (mxa (T r) 0) - 1)), (12, .int (nI (acc (T r) fL 0))), (11, .int (nI (acc (T r) fH 0))), (10, .int (nI (acc (T r) fD 0))), (9, .int (nI (tids (T r)).length)), (8, .int (nI r)), (7, .int (nI (A + (tids (T r)).length))), (5, .long d5), (4, .int x4), (3, .int x3), (2, .ref sa), (1, .ref o), (0, .ref b9)] := lv_sub hl [0, 2, 3, 4, 5, 6, 7, 8, 1, 9, 10, 11, 12, 13, 14] rfl
    exact law_apples S hK hX hst hO hb31 hr6 (k0 := k0 + 3000 * r + 1) (n0 := n0 + 18000 * r + 6) (by omega) (by omega) k492 (tids (T r)).length 0 rfl (Nat.zero_le _) _ H locs ls ⟨L, K, si, P, rfl, hc⟩ hH hS hl
