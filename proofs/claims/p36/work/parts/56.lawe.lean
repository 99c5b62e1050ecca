/-! THE LAW: the apples of a row -/
def fD (z : Zi) : Nat := z.2.2.2.length
def fH (z : Zi) : Nat := (tids z.2.1).length + (tids z.2.2.1).length
def fL (z : Zi) : Nat := if (isE z.2.1 && isE z.2.2.1) = true then 1 else 0
def fT (z : Zi) : Nat := if parC z.2.2.2 = none then 1 else 0
theorem tr_cs (t : Tr) : t = .leaf () ∨ ∃ b l1 l2, t = .branch b l1 l2 := by
  cases t with
  | leaf u => exact Or.inl rfl
  | branch b x y => exact Or.inr ⟨b, x, y, rfl⟩
theorem cx_cs (C : Cx) : C = [] ∨ ∃ s p u X, C = (s, p, u) :: X := by
  cases C with
  | nil => exact Or.inl rfl
  | cons f X => exact Or.inr ⟨f.1, f.2.1, f.2.2, X, rfl⟩
theorem er_neg {n : Nat} (h : n < 1000) : (-1 : Int32) < nI n := Int32.lt_of_lt_of_le (by decide) (nI_pos' (n := n) (by omega))
theorem mx_i {m c : Nat} (hm : m < 1000) (hc : c < 1000) : (if nI m - 1 < nI c then nI c else nI m - 1) = nI (max m (c + 1)) - 1 := by
  cases m with
  | zero => rw [if_pos (show nI 0 - 1 < nI c from er_neg hc), Nat.zero_max, nI_pred]
  | succ k =>
    rw [nI_pred]
    by_cases h : k < c
    · rw [if_pos (nI_lt h (by omega)), Nat.max_eq_right (by omega), nI_pred]
    · rw [if_neg (nI_nlt (by omega) (by omega)), Nat.max_eq_left (by omega), nI_pred]
set_option maxRecDepth 100000 in
set_option maxHeartbeats 4000000 in
theorem law_apples {p : Program} {l : Launch} {e : Env} {s : State} {m : MethodId} {args : Array Value} {below : List Frame} {meth : Method} {c : Code} {Q : State → Prop} {D : va_G} {lo : Nat} {Γ : GT} {V : Int64 × UInt64} {b9 o sa r A k0 n0 tu : Nat} {x3 x4 : Int32} {d5 : Int64} {T : Nat → Tr} {sz bi : Nat → Nat} {M : MW} (S : CallFix p m c cL_law 21 s args wsL_law RL) (hK : va_K D vwCl (TY Γ) s) (hX : YE lo s s.heap) (hst : l.stackTraces = false) (hO : SO sz T) (hb31 : ∀ a ∈ gids T, bi a < 2 ^ 31) (hr6 : r < 6) (hk0 : k0 + 2400 ≤ 967961) (hn0 : n0 + 14400 ≤ 6197586)
    (kk : ∀ (Z : WS) (H : Heap) (locs : List Loc) (ls : Array Slot), CSW Γ o T sz bi tu M V Z → Hp D lo Γ Z H → va_S (lA lo) s.heap H locs → lv_has ls 21 [(15, .int (nI ((tids (T r)).length))), (14, .int (nI (acc (T r) fT ((tids (T r)).length)))), (13, .int (nI (mxa (T r) ((tids (T r)).length)) - 1)), (12, .int (nI (acc (T r) fL ((tids (T r)).length)))), (11, .int (nI (acc (T r) fH ((tids (T r)).length)))), (10, .int (nI (acc (T r) fD ((tids (T r)).length)))), (9, .int (nI (tids (T r)).length)), (8, .int (nI r)), (7, .int (nI A)), (5, .long d5), (4, .int x4), (3, .int x3), (2, .ref sa), (1, .ref o), (0, .ref b9)] → W p l e room_1 s m args below meth c H locs (k0 + 60 * (tids (T r)).length) (n0 + 360 * (tids (T r)).length) Q (F0 m 492 ls [])) :
    ∀ (N j : Nat), N + j = (tids (T r)).length → mxa (T r) j ≤ 40 → ∀ (Z : WS) (H : Heap) (locs : List Loc) (ls : Array Slot), CSW Γ o T sz bi tu M V Z → Hp D lo Γ Z H → va_S (lA lo) s.heap H locs → lv_has ls 21 [(15, .int (nI j)), (14, .int (nI (acc (T r) fT j))), (13, .int (nI (mxa (T r) j) - 1)), (12, .int (nI (acc (T r) fL j))), (11, .int (nI (acc (T r) fH j))), (10, .int (nI (acc (T r) fD j))), (9, .int (nI (tids (T r)).length)), (8, .int (nI r)), (7, .int (nI A)), (5, .long d5), (4, .int x4), (3, .int x3), (2, .ref sa), (1, .ref o), (0, .ref b9)] → W p l e room_1 s m args below meth c H locs (k0 + 60 * j) (n0 + 360 * j) Q (F0 m 132 ls []) := by
  have hx := S.1
  have hb := S.2.1
  have hts := S.2.2.2.2
  have w1 : (Cond.methodLink RL 113 Lib.Math.max.name).before args s = true := hts _ (List.mem_of_getElem? (i := 3) (by decide +kernel))
  have w2 : (Cond.static Lib.Math.max.name).before args s = true := hts _ (List.mem_of_getElem? (i := 4) (by decide +kernel))
  have w3 : (Cond.initialized "java/lang/Math").before args s = true := hts _ (List.mem_of_getElem? (i := 5) (by decide +kernel))
  have w4 : (Cond.code Lib.Math.max.name Lib.Math.max.code 2 (some .int)).before args s = true := hts _ (List.mem_of_getElem? (i := 6) (by decide +kernel))
  obtain ⟨hnd, hs, hz1, hn40, hh40, -⟩ := SO_at hO hr6
  intro N
  induction N with
  | zero =>
    intro j hj hm
    have hj : j = (tids (T r)).length := by omega
    subst hj
    intro Z H locs ls hcs hH hS hl
    obtain ⟨L, K, si, P, rfl, hc⟩ := hcs
    refine lv_iload hx hb dL_law_132 (lv_at hl 0 rfl) ?_
    refine lv_iload hx hb dL_law_134 (lv_at hl 6 rfl) ?_
    refine lv_icmp_ge (tgt := 492) hx hb dL_law_136 (by decide) (fun _ => ?_) (fun h1 => absurd (Int32.le_refl _) h1)
    exact kk _ H locs ls ⟨L, K, si, P, rfl, hc⟩ hH hS (lv_sub hl [0, 1, 2, 3, 4, 5, 6, 7, 8, 9, 10, 11, 12, 13, 14] rfl)
  | succ N ih =>
    intro j hj hm Z0 H0 locs0 ls0 hcs0 hH0 hS0 hl0
    have hjn : j < (tids (T r)).length := by omega
    obtain ⟨a, hat⟩ : ∃ a, (tids (T r))[j]? = some a := ⟨_, List.getElem?_eq_getElem hjn⟩
    have ha := List.mem_of_getElem? hat
    have hsa : sz a < 1000 := hz1 a ha
    have hfa : fnd sz (sz a : Int) (T r) = some a := fnd_of (T r) a hs ha rfl
    obtain ⟨tl, tr, C, hz⟩ := zof_e ha
    have hzj : (zs (T r) [])[j]? = some (a, tl, tr, C) := by rw [← hz]; exact zs_jn hnd hat
    have hD : acc (T r) fD (j + 1) = acc (T r) fD j + C.length := acc_s hzj
    have hH9 : acc (T r) fH (j + 1) = acc (T r) fH j + ((tids tl).length + (tids tr).length) := acc_s hzj
    have hL9 : acc (T r) fL (j + 1) = acc (T r) fL j + (if (isE tl && isE tr) = true then 1 else 0) := acc_s hzj
    have hT9 : acc (T r) fT (j + 1) = acc (T r) fT j + (if parC C = none then 1 else 0) := acc_s hzj
    have hM9 : mxa (T r) (j + 1) = max (mxa (T r) j) (C.length + 1) := mxa_s hzj
    obtain ⟨zl1, zl2⟩ := zof_len ha
    rw [hz] at zl1 zl2
    dsimp only at zl1 zl2
    have hC40 : C.length < 40 := by omega
    obtain ⟨slo, shi⟩ := zof_lr hs ha hz
    have hbi : bi a < 2 ^ 31 := hb31 a (gids_mem.mpr ⟨r, hr6, ha⟩)
    have hk9 : k0 + 60 * j + 60 ≤ 967961 := by omega
    have hn9 : n0 + 360 * j + 360 ≤ 6197586 := by omega
    have hpl : ∀ b, b ∈ tids tl → b ∈ tids (T r) := fun b hb9 => by rw [← zof_pl ha hz, tids_plug]; simp [tids, hb9]
    have hpr : ∀ b, b ∈ tids tr → b ∈ tids (T r) := fun b hb9 => by rw [← zof_pl ha hz, tids_plug]; simp [tids, hb9]
    have k480 : ∀ (Z : WS) (H : Heap) (locs : List Loc) (ls : Array Slot), CSW Γ o T sz bi tu M V Z → Hp D lo Γ Z H → va_S (lA lo) s.heap H locs → lv_has ls 21 [(20, .int (nI C.length)), (19, .int (er ((rt tr).map sz))), (18, .int (er ((rt tl).map sz))), (17, .int (er ((parC C).map sz))), (16, .int (nI (sz a))), (15, .int (nI j)), (14, .int (nI (acc (T r) fT (j + 1)))), (13, .int (nI (mxa (T r) (j + 1)) - 1)), (12, .int (nI (acc (T r) fL (j + 1)))), (11, .int (nI (acc (T r) fH (j + 1)))), (10, .int (nI (acc (T r) fD (j + 1)))), (9, .int (nI (tids (T r)).length)), (8, .int (nI r)), (7, .int (nI A)), (5, .long d5), (4, .int x4), (3, .int x3), (2, .ref sa), (1, .ref o), (0, .ref b9)] → W p l e room_1 s m args below meth c H locs (k0 + 60 * j + 29) (n0 + 360 * j + 174) Q (F0 m 480 ls [.int (nI (tids tr).length), .int (nI (tids tl).length), .int (nI ((tids tl).length + (tids tr).length))]) := by
      intro Z H locs ls hcs hH hS hl
      obtain ⟨L, K, si, P, rfl, hc⟩ := hcs
      refine lv_iadd hx hb dL_law_480 ?_
      refine lv_icmp_eq (tgt := 486) hx hb dL_law_481 (by decide) (fun _ => ?_) (fun h1 => absurd (by rw [nI_add]) h1)
      refine lv_iinc (v := nI (j + 1)) (lv' := [(15, .int (nI (j + 1))), (20, .int (nI C.length)), (19, .int (er ((rt tr).map sz))), (18, .int (er ((rt tl).map sz))), (17, .int (er ((parC C).map sz))), (16, .int (nI (sz a))), (14, .int (nI (acc (T r) fT (j + 1)))), (13, .int (nI (mxa (T r) (j + 1)) - 1)), (12, .int (nI (acc (T r) fL (j + 1)))), (11, .int (nI (acc (T r) fH (j + 1)))), (10, .int (nI (acc (T r) fD (j + 1)))), (9, .int (nI (tids (T r)).length)), (8, .int (nI r)), (7, .int (nI A)), (5, .long d5), (4, .int x4), (3, .int x3), (2, .ref sa), (1, .ref o), (0, .ref b9)]) hx hb dL_law_486 hl (k := 5) rfl (nI_1 j) (by decide) rfl (fun ls hl => ?_)
      refine lv_goto (tgt := 132) hx hb dL_law_489 (by decide) ?_
      refine W.widen (k := k0 + 60 * (j + 1)) (n := n0 + 360 * (j + 1)) (by show k0 + 60 * j + 29 ≤ k0 + 60 * (j + 1); omega) (by show n0 + 360 * j + 174 ≤ n0 + 360 * (j + 1); omega) ?_
      exact ih (j + 1) (by omega) (by omega) _ H locs ls ⟨L, K, si, P, rfl, hc⟩ hH hS (lv_sub hl [0, 6, 7, 8, 9, 10, 11, 12, 13, 14, 15, 16, 17, 18, 19] rfl)
    have k461 : ∀ (Z : WS) (H : Heap) (locs : List Loc) (ls : Array Slot), CSW Γ o T sz bi tu M V Z → Hp D lo Γ Z H → va_S (lA lo) s.heap H locs → lv_has ls 21 [(20, .int (nI C.length)), (19, .int (er ((rt tr).map sz))), (18, .int (er ((rt tl).map sz))), (17, .int (er ((parC C).map sz))), (16, .int (nI (sz a))), (15, .int (nI j)), (14, .int (nI (acc (T r) fT (j + 1)))), (13, .int (nI (mxa (T r) (j + 1)) - 1)), (12, .int (nI (acc (T r) fL (j + 1)))), (11, .int (nI (acc (T r) fH (j + 1)))), (10, .int (nI (acc (T r) fD (j + 1)))), (9, .int (nI (tids (T r)).length)), (8, .int (nI r)), (7, .int (nI A)), (5, .long d5), (4, .int x4), (3, .int x3), (2, .ref sa), (1, .ref o), (0, .ref b9)] → W p l e room_1 s m args below meth c H locs (k0 + 60 * j + 27) (n0 + 360 * j + 162) Q (F0 m 461 ls [.int (nI (tids tl).length), .int (nI ((tids tl).length + (tids tr).length))]) := by
      intro Z H locs ls hcs hH hS hl
      obtain ⟨L, K, si, P, rfl, hc⟩ := hcs
      refine lv_iload hx hb dL_law_461 (lv_at hl 1 rfl) ?_
      rcases tr_cs tr with e9 | ⟨b, l1, l2, e9⟩
      · skip
        have hE : er ((rt tr).map sz) = -1 := by rw [e9]; rfl
        have hn0 : nI (tids tr).length = 0 := by rw [e9]; rfl
        refine lv_if_ge (tgt := 470) hx hb dL_law_463 (by decide) (fun h1 => absurd h1 (by rw [hE]; decide)) (fun _ => ?_)
        refine lv_iconst (v := 0) hx hb dL_law_466 (by decide) ?_
        refine lv_goto (tgt := 480) hx hb dL_law_467 (by decide) ?_
        rw [← hn0]
        refine W.widen (k := k0 + 60 * j + 29) (n := n0 + 360 * j + 174) (by show k0 + 60 * j + 27 ≤ k0 + 60 * j + 29; omega) (by show n0 + 360 * j + 162 ≤ n0 + 360 * j + 174; omega) ?_
        exact k480 _ H locs ls ⟨L, K, si, P, rfl, hc⟩ hH hS (lv_sub hl [0, 1, 2, 3, 4, 5, 6, 7, 8, 9, 10, 11, 12, 13, 14, 15, 16, 17, 18, 19] rfl)
      · skip
        have hE : er ((rt tr).map sz) = nI (sz b) := by rw [e9]; rfl
        have hbt : b ∈ tids (T r) := hpr b (by rw [e9]; simp [tids])
        have hsb : sz b < 1000 := hz1 b hbt
        have hfb : fnd sz (sz b : Int) (T r) = some b := fnd_of (T r) b hs hbt rfl
        have hzb := zof_rc hnd ha (by rw [hz, e9])
        have hn0 : nI 1 + nI ((tids l1).length + (tids l2).length) = nI (tids tr).length := by rw [nI_add, e9, tids_branch, List.length_append, List.length_cons]; exact congrArg nI (by omega)
        refine lv_if_ge (tgt := 470) hx hb dL_law_463 (by decide) (fun _ => ?_) (fun h1 => absurd (by rw [hE]; exact nI_pos' (by omega)) h1)
        refine lv_iconst (v := 1) hx hb dL_law_470 (by decide) ?_
        refine lv_aload_n hx hb dL_law_471 rfl (lv_at hl 18 rfl) ?_
        refine lv_iload hx hb dL_law_472 (lv_at hl 12 rfl) ?_
        refine lv_iload hx hb dL_law_474 (lv_at hl 1 rfl) ?_
        rw [hE]
        have hq9 := ((qa_n (f := fun r a => nI ((tids (zof (T r) a).2.1).length + (tids (zof (T r) a).2.2.1).length)) (n := sz b) hr6 (by omega) hfb).trans (congrArg (fun z : Zi => ((0 : Nat), nI ((tids z.2.1).length + (tids z.2.2.1).length))) hzb) : _ = ((0 : Nat), nI ((tids l1).length + (tids l2).length)))
        refine cVx S (c_X2_below (row := nI r) (x := nI (sz b)) hst hc) (cwV 2 hts gL_law_X2_below rfl rfl rfl (by decide +kernel) ⟨Nat.le_of_ble_eq_true rfl, Nat.le_of_ble_eq_true rfl⟩) hK hH hX.1 (Hp_recv hK hH hc.1.1.1 hc.1.1.2 rfl) hS rfl hl.1 rfl (by simp [cat_rf, Value.category]) dL_law_476 ⟨(by show k0 + 60 * j + 27 + 2 ≤ 967961; omega), (by show n0 + 360 * j + 162 + 12 ≤ 6197586; omega)⟩ (fun E9 Z1 H locs ce q9 hpx hH hS hce hcv hcl => (PxQ hpx hq9).elim) (fun v Z1 H locs hpost hH hS => ?_)
        obtain ⟨rfl, L, K, si, P, rfl, hc⟩ := PoQ hpost hq9
        refine lv_iadd hx hb dL_law_479 ?_
        rw [show (1 : Int32) + nI ((tids l1).length + (tids l2).length) = nI (tids tr).length from hn0]
        refine W.widen (k := k0 + 60 * j + 29) (n := n0 + 360 * j + 174) (by show k0 + 60 * j + 27 + 2 ≤ k0 + 60 * j + 29; omega) (by show n0 + 360 * j + 162 + 12 ≤ n0 + 360 * j + 174; omega) ?_
        exact k480 _ H locs ls ⟨L, K, si, P, rfl, hc⟩ hH hS (lv_sub hl [0, 1, 2, 3, 4, 5, 6, 7, 8, 9, 10, 11, 12, 13, 14, 15, 16, 17, 18, 19] rfl)
    have k434 : ∀ (Z : WS) (H : Heap) (locs : List Loc) (ls : Array Slot), CSW Γ o T sz bi tu M V Z → Hp D lo Γ Z H → va_S (lA lo) s.heap H locs → lv_has ls 21 [(20, .int (nI C.length)), (19, .int (er ((rt tr).map sz))), (18, .int (er ((rt tl).map sz))), (17, .int (er ((parC C).map sz))), (16, .int (nI (sz a))), (15, .int (nI j)), (14, .int (nI (acc (T r) fT (j + 1)))), (13, .int (nI (mxa (T r) (j + 1)) - 1)), (12, .int (nI (acc (T r) fL (j + 1)))), (11, .int (nI (acc (T r) fH (j + 1)))), (10, .int (nI (acc (T r) fD (j + 1)))), (9, .int (nI (tids (T r)).length)), (8, .int (nI r)), (7, .int (nI A)), (5, .long d5), (4, .int x4), (3, .int x3), (2, .ref sa), (1, .ref o), (0, .ref b9)] → W p l e room_1 s m args below meth c H locs (k0 + 60 * j + 23) (n0 + 360 * j + 138) Q (F0 m 434 ls []) := by
      intro Z H locs ls hcs hH hS hl
      obtain ⟨L, K, si, P, rfl, hc⟩ := hcs
      refine lv_aload_n hx hb dL_law_434 rfl (lv_at hl 18 rfl) ?_
      refine lv_iload hx hb dL_law_435 (lv_at hl 12 rfl) ?_
      refine lv_iload hx hb dL_law_437 (lv_at hl 4 rfl) ?_
      have hq9 := ((qa_n (f := fun r a => nI ((tids (zof (T r) a).2.1).length + (tids (zof (T r) a).2.2.1).length)) (n := sz a) hr6 (by omega) hfa).trans (congrArg (fun z : Zi => ((0 : Nat), nI ((tids z.2.1).length + (tids z.2.2.1).length))) hz) : _ = ((0 : Nat), nI ((tids tl).length + (tids tr).length)))
      refine cVx S (c_X2_below (row := nI r) (x := nI (sz a)) hst hc) (cwV 2 hts gL_law_X2_below rfl rfl rfl (by decide +kernel) ⟨Nat.le_of_ble_eq_true rfl, Nat.le_of_ble_eq_true rfl⟩) hK hH hX.1 (Hp_recv hK hH hc.1.1.1 hc.1.1.2 rfl) hS rfl hl.1 rfl (by simp [cat_rf, Value.category]) dL_law_439 ⟨(by show k0 + 60 * j + 23 + 2 ≤ 967961; omega), (by show n0 + 360 * j + 138 + 12 ≤ 6197586; omega)⟩ (fun E9 Z1 H locs ce q9 hpx hH hS hce hcv hcl => (PxQ hpx hq9).elim) (fun v Z1 H locs hpost hH hS => ?_)
      obtain ⟨rfl, L, K, si, P, rfl, hc⟩ := PoQ hpost hq9
      have hgo := hH
      refine lv_iload hx hb dL_law_442 (lv_at hl 2 rfl) ?_
      rcases tr_cs tl with e9 | ⟨b, l1, l2, e9⟩
      · skip
        have hE : er ((rt tl).map sz) = -1 := by rw [e9]; rfl
        have hn0 : nI (tids tl).length = 0 := by rw [e9]; rfl
        refine lv_if_ge (tgt := 451) hx hb dL_law_444 (by decide) (fun h1 => absurd h1 (by rw [hE]; decide)) (fun _ => ?_)
        refine lv_iconst (v := 0) hx hb dL_law_447 (by decide) ?_
        refine lv_goto (tgt := 461) hx hb dL_law_448 (by decide) ?_
        rw [← hn0]
        refine W.widen (k := k0 + 60 * j + 27) (n := n0 + 360 * j + 162) (by show k0 + 60 * j + 23 + 2 ≤ k0 + 60 * j + 27; omega) (by show n0 + 360 * j + 138 + 12 ≤ n0 + 360 * j + 162; omega) ?_
        exact k461 _ H locs ls ⟨L, K, si, P, rfl, hc⟩ hH hS (lv_sub hl [0, 1, 2, 3, 4, 5, 6, 7, 8, 9, 10, 11, 12, 13, 14, 15, 16, 17, 18, 19] rfl)
      · skip
        have hE : er ((rt tl).map sz) = nI (sz b) := by rw [e9]; rfl
        have hbt : b ∈ tids (T r) := hpl b (by rw [e9]; simp [tids])
        have hsb : sz b < 1000 := hz1 b hbt
        have hfb : fnd sz (sz b : Int) (T r) = some b := fnd_of (T r) b hs hbt rfl
        have hzb := zof_lc hnd ha (by rw [hz, e9])
        have hn0 : nI 1 + nI ((tids l1).length + (tids l2).length) = nI (tids tl).length := by rw [nI_add, e9, tids_branch, List.length_append, List.length_cons]; exact congrArg nI (by omega)
        refine lv_if_ge (tgt := 451) hx hb dL_law_444 (by decide) (fun _ => ?_) (fun h1 => absurd (by rw [hE]; exact nI_pos' (by omega)) h1)
        refine lv_iconst (v := 1) hx hb dL_law_451 (by decide) ?_
        refine lv_aload_n hx hb dL_law_452 rfl (lv_at hl 18 rfl) ?_
        refine lv_iload hx hb dL_law_453 (lv_at hl 12 rfl) ?_
        refine lv_iload hx hb dL_law_455 (lv_at hl 2 rfl) ?_
        rw [hE]
        have hq9 := ((qa_n (f := fun r a => nI ((tids (zof (T r) a).2.1).length + (tids (zof (T r) a).2.2.1).length)) (n := sz b) hr6 (by omega) hfb).trans (congrArg (fun z : Zi => ((0 : Nat), nI ((tids z.2.1).length + (tids z.2.2.1).length))) hzb) : _ = ((0 : Nat), nI ((tids l1).length + (tids l2).length)))
        refine cVx S (c_X2_below (row := nI r) (x := nI (sz b)) hst hc) (cwV 2 hts gL_law_X2_below rfl rfl rfl (by decide +kernel) ⟨Nat.le_of_ble_eq_true rfl, Nat.le_of_ble_eq_true rfl⟩) hK hH hX.1 (Hp_recv hK hH hc.1.1.1 hc.1.1.2 rfl) hS rfl hl.1 rfl (by simp [cat_rf, Value.category]) dL_law_457 ⟨(by show k0 + 60 * j + 23 + 2 + 2 ≤ 967961; omega), (by show n0 + 360 * j + 138 + 12 + 12 ≤ 6197586; omega)⟩ (fun E9 Z1 H locs ce q9 hpx hH hS hce hcv hcl => (PxQ hpx hq9).elim) (fun v Z1 H locs hpost hH hS => ?_)
        obtain ⟨rfl, L, K, si, P, rfl, hc⟩ := PoQ hpost hq9
        refine lv_iadd hx hb dL_law_460 ?_
        rw [show (1 : Int32) + nI ((tids l1).length + (tids l2).length) = nI (tids tl).length from hn0]
        refine W.widen (k := k0 + 60 * j + 27) (n := n0 + 360 * j + 162) (by show k0 + 60 * j + 23 + 2 + 2 ≤ k0 + 60 * j + 27; omega) (by show n0 + 360 * j + 138 + 12 + 12 ≤ n0 + 360 * j + 162; omega) ?_
        exact k461 _ H locs ls ⟨L, K, si, P, rfl, hc⟩ hH hS (lv_sub hl [0, 1, 2, 3, 4, 5, 6, 7, 8, 9, 10, 11, 12, 13, 14, 15, 16, 17, 18, 19] rfl)
    have k413 : ∀ (Z : WS) (H : Heap) (locs : List Loc) (ls : Array Slot), CSW Γ o T sz bi tu M V Z → Hp D lo Γ Z H → va_S (lA lo) s.heap H locs → lv_has ls 21 [(20, .int (nI C.length)), (19, .int (er ((rt tr).map sz))), (18, .int (er ((rt tl).map sz))), (17, .int (er ((parC C).map sz))), (16, .int (nI (sz a))), (15, .int (nI j)), (14, .int (nI (acc (T r) fT (j + 1)))), (13, .int (nI (mxa (T r) (j + 1)) - 1)), (12, .int (nI (acc (T r) fL (j + 1)))), (11, .int (nI (acc (T r) fH (j + 1)))), (10, .int (nI (acc (T r) fD (j + 1)))), (9, .int (nI (tids (T r)).length)), (8, .int (nI r)), (7, .int (nI A)), (5, .long d5), (4, .int x4), (3, .int x3), (2, .ref sa), (1, .ref o), (0, .ref b9)] → W p l e room_1 s m args below meth c H locs (k0 + 60 * j + 23) (n0 + 360 * j + 138) Q (F0 m 413 ls []) := by
      intro Z H locs ls hcs hH hS hl
      obtain ⟨L, K, si, P, rfl, hc⟩ := hcs
      have hlo9 : er ((rt tl).map sz) < nI (sz a) := by
        rcases tr_cs tl with e9 | ⟨b, l1, l2, e9⟩
        · rw [e9]; exact er_neg hsa
        · have h9 := slo b (by rw [e9]; simp [tids])
          rw [e9]; exact nI_lt h9 (by omega)
      refine lv_iload hx hb dL_law_413 (lv_at hl 2 rfl) ?_
      refine lv_iload hx hb dL_law_415 (lv_at hl 4 rfl) ?_
      refine lv_icmp_ge (tgt := 432) hx hb dL_law_417 (by decide) (fun h1 => absurd h1 (Int32.not_le.mpr hlo9)) (fun _ => ?_)
      refine lv_iload hx hb dL_law_420 (lv_at hl 1 rfl) ?_
      rcases tr_cs tr with e9 | ⟨b, l1, l2, e9⟩
      · skip
        have hE : er ((rt tr).map sz) = -1 := by rw [e9]; rfl
        refine lv_if_lt (tgt := 434) hx hb dL_law_422 (by decide) (fun _ => ?_) (fun h1 => absurd (by rw [hE]; decide) h1)
        refine W.widen (k := k0 + 60 * j + 23) (n := n0 + 360 * j + 138) (by show k0 + 60 * j + 23 ≤ k0 + 60 * j + 23; omega) (by show n0 + 360 * j + 138 ≤ n0 + 360 * j + 138; omega) ?_
        exact k434 _ H locs ls ⟨L, K, si, P, rfl, hc⟩ hH hS (lv_sub hl [0, 1, 2, 3, 4, 5, 6, 7, 8, 9, 10, 11, 12, 13, 14, 15, 16, 17, 18, 19] rfl)
      · skip
        have hE : er ((rt tr).map sz) = nI (sz b) := by rw [e9]; rfl
        have hbr := shi b (by rw [e9]; simp [tids])
        have hsb : sz b < 1000 := hz1 b (hpr b (by rw [e9]; simp [tids]))
        refine lv_if_lt (tgt := 434) hx hb dL_law_422 (by decide) (fun h1 => absurd h1 (by rw [hE]; exact nI_pos (by omega))) (fun _ => ?_)
        refine lv_iload hx hb dL_law_425 (lv_at hl 1 rfl) ?_
        refine lv_iload hx hb dL_law_427 (lv_at hl 4 rfl) ?_
        refine lv_icmp_gt (tgt := 434) hx hb dL_law_429 (by decide) (fun _ => ?_) (fun h1 => absurd (by rw [hE]; exact nI_lt hbr (by omega)) h1)
        refine W.widen (k := k0 + 60 * j + 23) (n := n0 + 360 * j + 138) (by show k0 + 60 * j + 23 ≤ k0 + 60 * j + 23; omega) (by show n0 + 360 * j + 138 ≤ n0 + 360 * j + 138; omega) ?_
        exact k434 _ H locs ls ⟨L, K, si, P, rfl, hc⟩ hH hS (lv_sub hl [0, 1, 2, 3, 4, 5, 6, 7, 8, 9, 10, 11, 12, 13, 14, 15, 16, 17, 18, 19] rfl)
    have k273 : ∀ (Z : WS) (H : Heap) (locs : List Loc) (ls : Array Slot), CSW Γ o T sz bi tu M V Z → Hp D lo Γ Z H → va_S (lA lo) s.heap H locs → lv_has ls 21 [(20, .int (nI C.length)), (19, .int (er ((rt tr).map sz))), (18, .int (er ((rt tl).map sz))), (17, .int (er ((parC C).map sz))), (16, .int (nI (sz a))), (15, .int (nI j)), (14, .int (nI (acc (T r) fT (j + 1)))), (13, .int (nI (mxa (T r) (j + 1)) - 1)), (12, .int (nI (acc (T r) fL (j + 1)))), (11, .int (nI (acc (T r) fH (j + 1)))), (10, .int (nI (acc (T r) fD (j + 1)))), (9, .int (nI (tids (T r)).length)), (8, .int (nI r)), (7, .int (nI A)), (5, .long d5), (4, .int x4), (3, .int x3), (2, .ref sa), (1, .ref o), (0, .ref b9)] → W p l e room_1 s m args below meth c H locs (k0 + 60 * j + 14) (n0 + 360 * j + 84) Q (F0 m 273 ls []) := by
      intro Z H locs ls hcs hH hS hl
      obtain ⟨L, K, si, P, rfl, hc⟩ := hcs
      refine lv_aload_n hx hb dL_law_273 rfl (lv_at hl 18 rfl) ?_
      refine lv_iload hx hb dL_law_274 (lv_at hl 12 rfl) ?_
      refine lv_iload hx hb dL_law_276 (lv_at hl 4 rfl) ?_
      have hq9 := ((qr_n (f := fun r => if (fnd sz (nI (sz a)).toInt (T r)).isSome then 1 else 0) hr6).trans (by rw [nI_toInt (by omega), hfa]; rfl) : _ = ((0 : Nat), (1 : Int32)))
      refine cVx S (c_X2_has (row := nI r) (x := nI (sz a)) hst hc) (cwV 2 hts gL_law_X2_has rfl rfl rfl (by decide +kernel) ⟨Nat.le_of_ble_eq_true rfl, Nat.le_of_ble_eq_true rfl⟩) hK hH hX.1 (Hp_recv hK hH hc.1.1.1 hc.1.1.2 rfl) hS rfl hl.1 rfl (by simp [cat_rf, Value.category]) dL_law_278 ⟨(by show k0 + 60 * j + 14 + 1 ≤ 967961; omega), (by show n0 + 360 * j + 84 + 6 ≤ 6197586; omega)⟩ (fun E9 Z1 H locs ce q9 hpx hH hS hce hcv hcl => (PxQ hpx hq9).elim) (fun v Z1 H locs hpost hH hS => ?_)
      obtain ⟨rfl, L, K, si, P, rfl, hc⟩ := PoQ hpost hq9
      refine lv_if_eq (tgt := 360) hx hb dL_law_281 (by decide) (fun h1 => absurd h1 (by decide)) (fun _ => ?_)
      refine lv_aload_n hx hb dL_law_284 rfl (lv_at hl 18 rfl) ?_
      refine lv_iload hx hb dL_law_285 (lv_at hl 12 rfl) ?_
      refine lv_iload hx hb dL_law_287 (lv_at hl 4 rfl) ?_
      have hq9 := ((qr_n (f := fun r => nI (blw sz (nI (sz a)).toInt (T r)).length) hr6).trans (by rw [nI_toInt (by omega), blw, tw_len _ j hs hat]) : _ = ((0 : Nat), nI j))
      refine cVx S (c_X2_smaller (row := nI r) (x := nI (sz a)) hst hc) (cwV 2 hts gL_law_X2_smaller rfl rfl rfl (by decide +kernel) ⟨Nat.le_of_ble_eq_true rfl, Nat.le_of_ble_eq_true rfl⟩) hK hH hX.1 (Hp_recv hK hH hc.1.1.1 hc.1.1.2 rfl) hS rfl hl.1 rfl (by simp [cat_rf, Value.category]) dL_law_289 ⟨(by show k0 + 60 * j + 14 + 1 + 1 ≤ 967961; omega), (by show n0 + 360 * j + 84 + 6 + 6 ≤ 6197586; omega)⟩ (fun E9 Z1 H locs ce q9 hpx hH hS hce hcv hcl => (PxQ hpx hq9).elim) (fun v Z1 H locs hpost hH hS => ?_)
      obtain ⟨rfl, L, K, si, P, rfl, hc⟩ := PoQ hpost hq9
      refine lv_iload hx hb dL_law_292 (lv_at hl 5 rfl) ?_
      refine lv_icmp_ne (tgt := 360) hx hb dL_law_294 (by decide) (fun h1 => absurd h1 (fun h => h rfl)) (fun _ => ?_)
      refine lv_aload_n hx hb dL_law_297 rfl (lv_at hl 18 rfl) ?_
      refine lv_iload hx hb dL_law_298 (lv_at hl 12 rfl) ?_
      refine lv_iload hx hb dL_law_300 (lv_at hl 4 rfl) ?_
      have hq9 := (qa_n (f := fun r a => nI (bi a)) (n := (sz a)) hr6 (by omega) hfa)
      refine cVx S (c_X2_eaten (row := nI r) (x := nI (sz a)) hst hc) (cwV 2 hts gL_law_X2_eaten rfl rfl rfl (by decide +kernel) ⟨Nat.le_of_ble_eq_true rfl, Nat.le_of_ble_eq_true rfl⟩) hK hH hX.1 (Hp_recv hK hH hc.1.1.1 hc.1.1.2 rfl) hS rfl hl.1 rfl (by simp [cat_rf, Value.category]) dL_law_302 ⟨(by show k0 + 60 * j + 14 + 1 + 1 + 2 ≤ 967961; omega), (by show n0 + 360 * j + 84 + 6 + 6 + 12 ≤ 6197586; omega)⟩ (fun E9 Z1 H locs ce q9 hpx hH hS hce hcv hcl => (PxQ hpx hq9).elim) (fun v Z1 H locs hpost hH hS => ?_)
      obtain ⟨rfl, L, K, si, P, rfl, hc⟩ := PoQ hpost hq9
      refine lv_if_lt (tgt := 360) hx hb dL_law_305 (by decide) (fun h1 => absurd h1 (nI_pos hbi)) (fun _ => ?_)
      refine lv_iload hx hb dL_law_308 (lv_at hl 3 rfl) ?_
      rcases cx_cs C with e9 | ⟨s9, p9, u9, X9, e9⟩
      · skip
        have hE : er ((parC C).map sz) = -1 := by rw [e9]; rfl
        have htp : rt (T r) = some a := (zof_tp hnd ha hz).mpr e9
        have hl0 : nI C.length = 0 := by rw [e9]; rfl
        refine lv_if_ge (tgt := 317) hx hb dL_law_310 (by decide) (fun h1 => absurd h1 (by rw [hE]; decide)) (fun _ => ?_)
        refine lv_iconst (v := 1) hx hb dL_law_313 (by decide) ?_
        refine lv_goto (tgt := 318) hx hb dL_law_314 (by decide) ?_
        refine lv_aload_n hx hb dL_law_318 rfl (lv_at hl 18 rfl) ?_
        refine lv_iload hx hb dL_law_319 (lv_at hl 12 rfl) ?_
        have hq9 := ((qr_n (f := fun r => er ((rt (T r)).map sz)) hr6).trans (by rw [htp]; rfl) : _ = ((0 : Nat), nI (sz a)))
        refine cVx S (c_X2_top (row := nI r) hst hc) (cwV 1 hts gL_law_X2_top rfl rfl rfl (by decide +kernel) ⟨Nat.le_of_ble_eq_true rfl, Nat.le_of_ble_eq_true rfl⟩) hK hH hX.1 (Hp_recv hK hH hc.1.1.1 hc.1.1.2 rfl) hS rfl hl.1 rfl (by simp [cat_rf, Value.category]) dL_law_321 ⟨(by show k0 + 60 * j + 14 + 1 + 1 + 2 + 1 ≤ 967961; omega), (by show n0 + 360 * j + 84 + 6 + 6 + 12 + 6 ≤ 6197586; omega)⟩ (fun E9 Z1 H locs ce q9 hpx hH hS hce hcv hcl => (PxQ hpx hq9).elim) (fun v Z1 H locs hpost hH hS => ?_)
        obtain ⟨rfl, L, K, si, P, rfl, hc⟩ := PoQ hpost hq9
        refine lv_iload hx hb dL_law_324 (lv_at hl 4 rfl) ?_
        refine lv_icmp_ne (tgt := 333) hx hb dL_law_326 (by decide) (fun h1 => absurd h1 (fun h => h rfl)) (fun _ => ?_)
        refine lv_iconst (v := 1) hx hb dL_law_329 (by decide) ?_
        refine lv_goto (tgt := 334) hx hb dL_law_330 (by decide) ?_
        refine lv_icmp_ne (tgt := 360) hx hb dL_law_334 (by decide) (fun h1 => absurd h1 (fun h => h rfl)) (fun _ => ?_)
        refine lv_iload hx hb dL_law_337 (lv_at hl 0 rfl) ?_
        refine lv_if_ne (tgt := 346) hx hb dL_law_339 (by decide) (fun h1 => absurd h1 (fun h => h hl0)) (fun _ => ?_)
        refine lv_iconst (v := 1) hx hb dL_law_342 (by decide) ?_
        refine lv_goto (tgt := 347) hx hb dL_law_343 (by decide) ?_
        refine lv_iload hx hb dL_law_347 (lv_at hl 3 rfl) ?_
        refine lv_if_ge (tgt := 356) hx hb dL_law_349 (by decide) (fun h1 => absurd h1 (by rw [hE]; decide)) (fun _ => ?_)
        refine lv_iconst (v := 1) hx hb dL_law_352 (by decide) ?_
        refine lv_goto (tgt := 357) hx hb dL_law_353 (by decide) ?_
        refine lv_icmp_eq (tgt := 362) hx hb dL_law_357 (by decide) (fun _ => ?_) (fun h1 => absurd rfl h1)
        refine lv_iload hx hb dL_law_362 (lv_at hl 3 rfl) ?_
        refine lv_if_lt (tgt := 413) hx hb dL_law_364 (by decide) (fun _ => ?_) (fun h1 => absurd (by rw [hE]; decide) h1)
        refine W.widen (k := k0 + 60 * j + 23) (n := n0 + 360 * j + 138) (by show k0 + 60 * j + 14 + 1 + 1 + 2 + 1 ≤ k0 + 60 * j + 23; omega) (by show n0 + 360 * j + 84 + 6 + 6 + 12 + 6 ≤ n0 + 360 * j + 138; omega) ?_
        exact k413 _ H locs ls ⟨L, K, si, P, rfl, hc⟩ hH hS (lv_sub hl [0, 1, 2, 3, 4, 5, 6, 7, 8, 9, 10, 11, 12, 13, 14, 15, 16, 17, 18, 19] rfl)
      · skip
        have hE : er ((parC C).map sz) = nI (sz p9) := by rw [e9]; rfl
        have hz9 : zof (T r) a = (a, tl, tr, (s9, p9, u9) :: X9) := by rw [hz, e9]
        have hpt : p9 ∈ tids (T r) := zof_sub ha (Or.inl (by rw [hz9]; rfl))
        have hsp : sz p9 < 1000 := hz1 p9 hpt
        have hfp : fnd sz (sz p9 : Int) (T r) = some p9 := fnd_of (T r) p9 hs hpt rfl
        have hzp := zof_par hnd ha hz9
        have hup := zof_up hs ha hz9
        have hlx : C.length = X9.length + 1 := by rw [e9]; rfl
        have hl0 : ¬ nI C.length = 0 := nI_ne0 (by omega) (by omega)
        obtain ⟨b, hb9⟩ : ∃ b, rt (T r) = some b := by
          rcases tr_cs (T r) with h9 | ⟨b, l1, l2, h9⟩
          · rw [h9] at ha; cases ha
          · exact ⟨b, by rw [h9]; rfl⟩
        have hbt := rt_mem hb9
        have hsb : sz b < 1000 := hz1 b hbt
        have hne : ¬ nI (sz b) = nI (sz a) := fun h9 => by
          have h8 := srt_inj hs hbt ha ((nI_eq (by omega) (by omega)).mp h9)
          rw [h8] at hb9
          have h7 := (zof_tp hnd ha hz).mp hb9
          rw [e9] at h7
          cases h7
        refine lv_if_ge (tgt := 317) hx hb dL_law_310 (by decide) (fun _ => ?_) (fun h1 => absurd (by rw [hE]; exact nI_pos' (by omega)) h1)
        refine lv_iconst (v := 0) hx hb dL_law_317 (by decide) ?_
        refine lv_aload_n hx hb dL_law_318 rfl (lv_at hl 18 rfl) ?_
        refine lv_iload hx hb dL_law_319 (lv_at hl 12 rfl) ?_
        have hq9 := ((qr_n (f := fun r => er ((rt (T r)).map sz)) hr6).trans (by rw [hb9]; rfl) : _ = ((0 : Nat), nI (sz b)))
        refine cVx S (c_X2_top (row := nI r) hst hc) (cwV 1 hts gL_law_X2_top rfl rfl rfl (by decide +kernel) ⟨Nat.le_of_ble_eq_true rfl, Nat.le_of_ble_eq_true rfl⟩) hK hH hX.1 (Hp_recv hK hH hc.1.1.1 hc.1.1.2 rfl) hS rfl hl.1 rfl (by simp [cat_rf, Value.category]) dL_law_321 ⟨(by show k0 + 60 * j + 14 + 1 + 1 + 2 + 1 ≤ 967961; omega), (by show n0 + 360 * j + 84 + 6 + 6 + 12 + 6 ≤ 6197586; omega)⟩ (fun E9 Z1 H locs ce q9 hpx hH hS hce hcv hcl => (PxQ hpx hq9).elim) (fun v Z1 H locs hpost hH hS => ?_)
        obtain ⟨rfl, L, K, si, P, rfl, hc⟩ := PoQ hpost hq9
        refine lv_iload hx hb dL_law_324 (lv_at hl 4 rfl) ?_
        refine lv_icmp_ne (tgt := 333) hx hb dL_law_326 (by decide) (fun _ => ?_) (fun h1 => absurd h1 hne)
        refine lv_iconst (v := 0) hx hb dL_law_333 (by decide) ?_
        refine lv_icmp_ne (tgt := 360) hx hb dL_law_334 (by decide) (fun h1 => absurd h1 (fun h => h rfl)) (fun _ => ?_)
        refine lv_iload hx hb dL_law_337 (lv_at hl 0 rfl) ?_
        refine lv_if_ne (tgt := 346) hx hb dL_law_339 (by decide) (fun _ => ?_) (fun h1 => absurd h1 hl0)
        refine lv_iconst (v := 0) hx hb dL_law_346 (by decide) ?_
        refine lv_iload hx hb dL_law_347 (lv_at hl 3 rfl) ?_
        refine lv_if_ge (tgt := 356) hx hb dL_law_349 (by decide) (fun _ => ?_) (fun h1 => absurd (by rw [hE]; exact nI_pos' (by omega)) h1)
        refine lv_iconst (v := 0) hx hb dL_law_356 (by decide) ?_
        refine lv_icmp_eq (tgt := 362) hx hb dL_law_357 (by decide) (fun _ => ?_) (fun h1 => absurd rfl h1)
        refine lv_iload hx hb dL_law_362 (lv_at hl 3 rfl) ?_
        refine lv_if_lt (tgt := 413) hx hb dL_law_364 (by decide) (fun h1 => absurd h1 (by rw [hE]; exact nI_pos (by omega))) (fun _ => ?_)
        refine lv_aload_n hx hb dL_law_367 rfl (lv_at hl 18 rfl) ?_
        refine lv_iload hx hb dL_law_368 (lv_at hl 12 rfl) ?_
        refine lv_iload hx hb dL_law_370 (lv_at hl 3 rfl) ?_
        rw [hE]
        have hq9 := ((qa_n (f := fun r a => nI (zof (T r) a).2.2.2.length) (n := sz p9) hr6 (by omega) hfp).trans (congrArg (fun z : Zi => ((0 : Nat), nI z.2.2.2.length)) hzp) : _ = ((0 : Nat), nI X9.length))
        refine cVx S (c_X2_depthOf (row := nI r) (x := nI (sz p9)) hst hc) (cwV 2 hts gL_law_X2_depthOf rfl rfl rfl (by decide +kernel) ⟨Nat.le_of_ble_eq_true rfl, Nat.le_of_ble_eq_true rfl⟩) hK hH hX.1 (Hp_recv hK hH hc.1.1.1 hc.1.1.2 rfl) hS rfl hl.1 rfl (by simp [cat_rf, Value.category]) dL_law_372 ⟨(by show k0 + 60 * j + 14 + 1 + 1 + 2 + 1 + 2 ≤ 967961; omega), (by show n0 + 360 * j + 84 + 6 + 6 + 12 + 6 + 12 ≤ 6197586; omega)⟩ (fun E9 Z1 H locs ce q9 hpx hH hS hce hcv hcl => (PxQ hpx hq9).elim) (fun v Z1 H locs hpost hH hS => ?_)
        obtain ⟨rfl, L, K, si, P, rfl, hc⟩ := PoQ hpost hq9
        refine lv_iload hx hb dL_law_375 (lv_at hl 0 rfl) ?_
        refine lv_iconst (v := 1) hx hb dL_law_377 (by decide) ?_
        refine lv_isub hx hb dL_law_378 ?_
        refine lv_icmp_ne (tgt := 432) hx hb dL_law_379 (by decide) (fun h1 => absurd h1 (fun h => h (by rw [hlx, nI_pred]))) (fun _ => ?_)
        refine lv_iload hx hb dL_law_382 (lv_at hl 4 rfl) ?_
        refine lv_iload hx hb dL_law_384 (lv_at hl 3 rfl) ?_
        cases s9 with
        | false =>
          refine lv_icmp_ge (tgt := 400) hx hb dL_law_386 (by decide) (fun h1 => absurd h1 (by rw [hE]; exact nI_ge hup (by omega))) (fun _ => ?_)
          refine lv_aload_n hx hb dL_law_389 rfl (lv_at hl 18 rfl) ?_
          refine lv_iload hx hb dL_law_390 (lv_at hl 12 rfl) ?_
          refine lv_iload hx hb dL_law_392 (lv_at hl 3 rfl) ?_
          rw [hE]
          have hq9 := ((qa_n (f := fun r a => er ((rt (zof (T r) a).2.1).map sz)) (n := sz p9) hr6 (by omega) hfp).trans (congrArg (fun z : Zi => ((0 : Nat), er ((rt z.2.1).map sz))) hzp) : _ = ((0 : Nat), nI (sz a)))
          refine cVx S (c_X2_leftOf (row := nI r) (x := nI (sz p9)) hst hc) (cwV 2 hts gL_law_X2_leftOf rfl rfl rfl (by decide +kernel) ⟨Nat.le_of_ble_eq_true rfl, Nat.le_of_ble_eq_true rfl⟩) hK hH hX.1 (Hp_recv hK hH hc.1.1.1 hc.1.1.2 rfl) hS rfl hl.1 rfl (by simp [cat_rf, Value.category]) dL_law_394 ⟨(by show k0 + 60 * j + 14 + 1 + 1 + 2 + 1 + 2 + 2 ≤ 967961; omega), (by show n0 + 360 * j + 84 + 6 + 6 + 12 + 6 + 12 + 12 ≤ 6197586; omega)⟩ (fun E9 Z1 H locs ce q9 hpx hH hS hce hcv hcl => (PxQ hpx hq9).elim) (fun v Z1 H locs hpost hH hS => ?_)
          obtain ⟨rfl, L, K, si, P, rfl, hc⟩ := PoQ hpost hq9
          refine lv_goto (tgt := 408) hx hb dL_law_397 (by decide) ?_
          refine lv_iload hx hb dL_law_408 (lv_at hl 4 rfl) ?_
          refine lv_icmp_ne (tgt := 432) hx hb dL_law_410 (by decide) (fun h1 => absurd h1 (fun h => h rfl)) (fun _ => ?_)
          refine W.widen (k := k0 + 60 * j + 23) (n := n0 + 360 * j + 138) (by show k0 + 60 * j + 14 + 1 + 1 + 2 + 1 + 2 + 2 ≤ k0 + 60 * j + 23; omega) (by show n0 + 360 * j + 84 + 6 + 6 + 12 + 6 + 12 + 12 ≤ n0 + 360 * j + 138; omega) ?_
          exact k413 _ H locs ls ⟨L, K, si, P, rfl, hc⟩ hH hS (lv_sub hl [0, 1, 2, 3, 4, 5, 6, 7, 8, 9, 10, 11, 12, 13, 14, 15, 16, 17, 18, 19] rfl)
        | true =>
          refine lv_icmp_ge (tgt := 400) hx hb dL_law_386 (by decide) (fun _ => ?_) (fun h1 => absurd (by rw [hE]; exact nI_le (Nat.le_of_lt hup) (by omega)) h1)
          refine lv_aload_n hx hb dL_law_400 rfl (lv_at hl 18 rfl) ?_
          refine lv_iload hx hb dL_law_401 (lv_at hl 12 rfl) ?_
          refine lv_iload hx hb dL_law_403 (lv_at hl 3 rfl) ?_
          rw [hE]
          have hq9 := ((qa_n (f := fun r a => er ((rt (zof (T r) a).2.2.1).map sz)) (n := sz p9) hr6 (by omega) hfp).trans (congrArg (fun z : Zi => ((0 : Nat), er ((rt z.2.2.1).map sz))) hzp) : _ = ((0 : Nat), nI (sz a)))
          refine cVx S (c_X2_rightOf (row := nI r) (x := nI (sz p9)) hst hc) (cwV 2 hts gL_law_X2_rightOf rfl rfl rfl (by decide +kernel) ⟨Nat.le_of_ble_eq_true rfl, Nat.le_of_ble_eq_true rfl⟩) hK hH hX.1 (Hp_recv hK hH hc.1.1.1 hc.1.1.2 rfl) hS rfl hl.1 rfl (by simp [cat_rf, Value.category]) dL_law_405 ⟨(by show k0 + 60 * j + 14 + 1 + 1 + 2 + 1 + 2 + 2 ≤ 967961; omega), (by show n0 + 360 * j + 84 + 6 + 6 + 12 + 6 + 12 + 12 ≤ 6197586; omega)⟩ (fun E9 Z1 H locs ce q9 hpx hH hS hce hcv hcl => (PxQ hpx hq9).elim) (fun v Z1 H locs hpost hH hS => ?_)
          obtain ⟨rfl, L, K, si, P, rfl, hc⟩ := PoQ hpost hq9
          refine lv_iload hx hb dL_law_408 (lv_at hl 4 rfl) ?_
          refine lv_icmp_ne (tgt := 432) hx hb dL_law_410 (by decide) (fun h1 => absurd h1 (fun h => h rfl)) (fun _ => ?_)
          refine W.widen (k := k0 + 60 * j + 23) (n := n0 + 360 * j + 138) (by show k0 + 60 * j + 14 + 1 + 1 + 2 + 1 + 2 + 2 ≤ k0 + 60 * j + 23; omega) (by show n0 + 360 * j + 84 + 6 + 6 + 12 + 6 + 12 + 12 ≤ n0 + 360 * j + 138; omega) ?_
          exact k413 _ H locs ls ⟨L, K, si, P, rfl, hc⟩ hH hS (lv_sub hl [0, 1, 2, 3, 4, 5, 6, 7, 8, 9, 10, 11, 12, 13, 14, 15, 16, 17, 18, 19] rfl)
    revert Z0 H0 locs0 ls0
    intro Z H locs ls hcs hH hS hl
    obtain ⟨L, K, si, P, rfl, hc⟩ := hcs
    refine lv_iload hx hb dL_law_132 (lv_at hl 0 rfl) ?_
    refine lv_iload hx hb dL_law_134 (lv_at hl 6 rfl) ?_
    refine lv_icmp_ge (tgt := 492) hx hb dL_law_136 (by decide) (fun h1 => absurd h1 (nI_ge hjn (by omega))) (fun _ => ?_)
    refine lv_aload_n hx hb dL_law_139 rfl (lv_at hl 13 rfl) ?_
    refine lv_iload hx hb dL_law_140 (lv_at hl 7 rfl) ?_
    refine lv_iload hx hb dL_law_142 (lv_at hl 0 rfl) ?_
    have hq9 := (qo_n (sz := sz) (j := j) hr6 ⟨by omega, by omega⟩ hat)
    refine cVx S (c_X2_inOrder (row := nI r) (x := nI j) hst hc) (cwV 2 hts gL_law_X2_inOrder rfl rfl rfl (by decide +kernel) ⟨Nat.le_of_ble_eq_true rfl, Nat.le_of_ble_eq_true rfl⟩) hK hH hX.1 (Hp_recv hK hH hc.1.1.1 hc.1.1.2 rfl) hS rfl hl.1 rfl (by simp [cat_rf, Value.category]) dL_law_144 ⟨(by show k0 + 60 * j + 2 ≤ 967961; omega), (by show n0 + 360 * j + 12 ≤ 6197586; omega)⟩ (fun E9 Z1 H locs ce q9 hpx hH hS hce hcv hcl => (PxQ hpx hq9).elim) (fun v Z1 H locs hpost hH hS => ?_)
    obtain ⟨rfl, L, K, si, P, rfl, hc⟩ := PoQ hpost hq9
    refine lv_istore (lv' := [(16, .int (nI (sz a))), (15, .int (nI j)), (14, .int (nI (acc (T r) fT j))), (13, .int (nI (mxa (T r) j) - 1)), (12, .int (nI (acc (T r) fL j))), (11, .int (nI (acc (T r) fH j))), (10, .int (nI (acc (T r) fD j))), (9, .int (nI (tids (T r)).length)), (8, .int (nI r)), (7, .int (nI A)), (5, .long d5), (4, .int x4), (3, .int x3), (2, .ref sa), (1, .ref o), (0, .ref b9)]) hx hb dL_law_147 hl (by decide) rfl (fun ls hl => ?_)
    refine lv_aload_n hx hb dL_law_149 rfl (lv_at hl 14 rfl) ?_
    refine lv_iload hx hb dL_law_150 (lv_at hl 8 rfl) ?_
    refine lv_iload hx hb dL_law_152 (lv_at hl 0 rfl) ?_
    have hq9 := ((qa_n (f := fun r a => er ((parC (zof (T r) a).2.2.2).map sz)) (n := sz a) hr6 (by omega) hfa).trans (congrArg (fun z : Zi => ((0 : Nat), er ((parC z.2.2.2).map sz))) hz) : _ = ((0 : Nat), er ((parC C).map sz)))
    refine cVx S (c_X2_above (row := nI r) (x := nI (sz a)) hst hc) (cwV 2 hts gL_law_X2_above rfl rfl rfl (by decide +kernel) ⟨Nat.le_of_ble_eq_true rfl, Nat.le_of_ble_eq_true rfl⟩) hK hH hX.1 (Hp_recv hK hH hc.1.1.1 hc.1.1.2 rfl) hS rfl hl.1 rfl (by simp [cat_rf, Value.category]) dL_law_154 ⟨(by show k0 + 60 * j + 2 + 2 ≤ 967961; omega), (by show n0 + 360 * j + 12 + 12 ≤ 6197586; omega)⟩ (fun E9 Z1 H locs ce q9 hpx hH hS hce hcv hcl => (PxQ hpx hq9).elim) (fun v Z1 H locs hpost hH hS => ?_)
    obtain ⟨rfl, L, K, si, P, rfl, hc⟩ := PoQ hpost hq9
    refine lv_istore (lv' := [(17, .int (er ((parC C).map sz))), (16, .int (nI (sz a))), (15, .int (nI j)), (14, .int (nI (acc (T r) fT j))), (13, .int (nI (mxa (T r) j) - 1)), (12, .int (nI (acc (T r) fL j))), (11, .int (nI (acc (T r) fH j))), (10, .int (nI (acc (T r) fD j))), (9, .int (nI (tids (T r)).length)), (8, .int (nI r)), (7, .int (nI A)), (5, .long d5), (4, .int x4), (3, .int x3), (2, .ref sa), (1, .ref o), (0, .ref b9)]) hx hb dL_law_157 hl (by decide) rfl (fun ls hl => ?_)
    refine lv_aload_n hx hb dL_law_159 rfl (lv_at hl 15 rfl) ?_
    refine lv_iload hx hb dL_law_160 (lv_at hl 9 rfl) ?_
    refine lv_iload hx hb dL_law_162 (lv_at hl 1 rfl) ?_
    have hq9 := ((qa_n (f := fun r a => er ((rt (zof (T r) a).2.1).map sz)) (n := sz a) hr6 (by omega) hfa).trans (congrArg (fun z : Zi => ((0 : Nat), er ((rt z.2.1).map sz))) hz) : _ = ((0 : Nat), er ((rt tl).map sz)))
    refine cVx S (c_X2_leftOf (row := nI r) (x := nI (sz a)) hst hc) (cwV 2 hts gL_law_X2_leftOf rfl rfl rfl (by decide +kernel) ⟨Nat.le_of_ble_eq_true rfl, Nat.le_of_ble_eq_true rfl⟩) hK hH hX.1 (Hp_recv hK hH hc.1.1.1 hc.1.1.2 rfl) hS rfl hl.1 rfl (by simp [cat_rf, Value.category]) dL_law_164 ⟨(by show k0 + 60 * j + 2 + 2 + 2 ≤ 967961; omega), (by show n0 + 360 * j + 12 + 12 + 12 ≤ 6197586; omega)⟩ (fun E9 Z1 H locs ce q9 hpx hH hS hce hcv hcl => (PxQ hpx hq9).elim) (fun v Z1 H locs hpost hH hS => ?_)
    obtain ⟨rfl, L, K, si, P, rfl, hc⟩ := PoQ hpost hq9
    refine lv_istore (lv' := [(18, .int (er ((rt tl).map sz))), (17, .int (er ((parC C).map sz))), (16, .int (nI (sz a))), (15, .int (nI j)), (14, .int (nI (acc (T r) fT j))), (13, .int (nI (mxa (T r) j) - 1)), (12, .int (nI (acc (T r) fL j))), (11, .int (nI (acc (T r) fH j))), (10, .int (nI (acc (T r) fD j))), (9, .int (nI (tids (T r)).length)), (8, .int (nI r)), (7, .int (nI A)), (5, .long d5), (4, .int x4), (3, .int x3), (2, .ref sa), (1, .ref o), (0, .ref b9)]) hx hb dL_law_167 hl (by decide) rfl (fun ls hl => ?_)
    refine lv_aload_n hx hb dL_law_169 rfl (lv_at hl 16 rfl) ?_
    refine lv_iload hx hb dL_law_170 (lv_at hl 10 rfl) ?_
    refine lv_iload hx hb dL_law_172 (lv_at hl 2 rfl) ?_
    have hq9 := ((qa_n (f := fun r a => er ((rt (zof (T r) a).2.2.1).map sz)) (n := sz a) hr6 (by omega) hfa).trans (congrArg (fun z : Zi => ((0 : Nat), er ((rt z.2.2.1).map sz))) hz) : _ = ((0 : Nat), er ((rt tr).map sz)))
    refine cVx S (c_X2_rightOf (row := nI r) (x := nI (sz a)) hst hc) (cwV 2 hts gL_law_X2_rightOf rfl rfl rfl (by decide +kernel) ⟨Nat.le_of_ble_eq_true rfl, Nat.le_of_ble_eq_true rfl⟩) hK hH hX.1 (Hp_recv hK hH hc.1.1.1 hc.1.1.2 rfl) hS rfl hl.1 rfl (by simp [cat_rf, Value.category]) dL_law_174 ⟨(by show k0 + 60 * j + 2 + 2 + 2 + 2 ≤ 967961; omega), (by show n0 + 360 * j + 12 + 12 + 12 + 12 ≤ 6197586; omega)⟩ (fun E9 Z1 H locs ce q9 hpx hH hS hce hcv hcl => (PxQ hpx hq9).elim) (fun v Z1 H locs hpost hH hS => ?_)
    obtain ⟨rfl, L, K, si, P, rfl, hc⟩ := PoQ hpost hq9
    refine lv_istore (lv' := [(19, .int (er ((rt tr).map sz))), (18, .int (er ((rt tl).map sz))), (17, .int (er ((parC C).map sz))), (16, .int (nI (sz a))), (15, .int (nI j)), (14, .int (nI (acc (T r) fT j))), (13, .int (nI (mxa (T r) j) - 1)), (12, .int (nI (acc (T r) fL j))), (11, .int (nI (acc (T r) fH j))), (10, .int (nI (acc (T r) fD j))), (9, .int (nI (tids (T r)).length)), (8, .int (nI r)), (7, .int (nI A)), (5, .long d5), (4, .int x4), (3, .int x3), (2, .ref sa), (1, .ref o), (0, .ref b9)]) hx hb dL_law_177 hl (by decide) rfl (fun ls hl => ?_)
    refine lv_aload_n hx hb dL_law_179 rfl (lv_at hl 17 rfl) ?_
    refine lv_iload hx hb dL_law_180 (lv_at hl 11 rfl) ?_
    refine lv_iload hx hb dL_law_182 (lv_at hl 3 rfl) ?_
    have hq9 := ((qa_n (f := fun r a => nI (zof (T r) a).2.2.2.length) (n := sz a) hr6 (by omega) hfa).trans (congrArg (fun z : Zi => ((0 : Nat), nI z.2.2.2.length)) hz) : _ = ((0 : Nat), nI C.length))
    refine cVx S (c_X2_depthOf (row := nI r) (x := nI (sz a)) hst hc) (cwV 2 hts gL_law_X2_depthOf rfl rfl rfl (by decide +kernel) ⟨Nat.le_of_ble_eq_true rfl, Nat.le_of_ble_eq_true rfl⟩) hK hH hX.1 (Hp_recv hK hH hc.1.1.1 hc.1.1.2 rfl) hS rfl hl.1 rfl (by simp [cat_rf, Value.category]) dL_law_184 ⟨(by show k0 + 60 * j + 2 + 2 + 2 + 2 + 2 ≤ 967961; omega), (by show n0 + 360 * j + 12 + 12 + 12 + 12 + 12 ≤ 6197586; omega)⟩ (fun E9 Z1 H locs ce q9 hpx hH hS hce hcv hcl => (PxQ hpx hq9).elim) (fun v Z1 H locs hpost hH hS => ?_)
    obtain ⟨rfl, L, K, si, P, rfl, hc⟩ := PoQ hpost hq9
    refine lv_istore (lv' := [(20, .int (nI C.length)), (19, .int (er ((rt tr).map sz))), (18, .int (er ((rt tl).map sz))), (17, .int (er ((parC C).map sz))), (16, .int (nI (sz a))), (15, .int (nI j)), (14, .int (nI (acc (T r) fT j))), (13, .int (nI (mxa (T r) j) - 1)), (12, .int (nI (acc (T r) fL j))), (11, .int (nI (acc (T r) fH j))), (10, .int (nI (acc (T r) fD j))), (9, .int (nI (tids (T r)).length)), (8, .int (nI r)), (7, .int (nI A)), (5, .long d5), (4, .int x4), (3, .int x3), (2, .ref sa), (1, .ref o), (0, .ref b9)]) hx hb dL_law_187 hl (by decide) rfl (fun ls hl => ?_)
    refine lv_iload hx hb dL_law_189 (lv_at hl 10 rfl) ?_
    refine lv_iload hx hb dL_law_191 (lv_at hl 0 rfl) ?_
    refine lv_iadd hx hb dL_law_193 ?_
    rw [show nI (acc (T r) fD j) + nI C.length = nI (acc (T r) fD (j + 1)) from by rw [nI_add, hD]]
    refine lv_istore (lv' := [(10, .int (nI (acc (T r) fD (j + 1)))), (20, .int (nI C.length)), (19, .int (er ((rt tr).map sz))), (18, .int (er ((rt tl).map sz))), (17, .int (er ((parC C).map sz))), (16, .int (nI (sz a))), (15, .int (nI j)), (14, .int (nI (acc (T r) fT j))), (13, .int (nI (mxa (T r) j) - 1)), (12, .int (nI (acc (T r) fL j))), (11, .int (nI (acc (T r) fH j))), (9, .int (nI (tids (T r)).length)), (8, .int (nI r)), (7, .int (nI A)), (5, .long d5), (4, .int x4), (3, .int x3), (2, .ref sa), (1, .ref o), (0, .ref b9)]) hx hb dL_law_194 hl (by decide) rfl (fun ls hl => ?_)
    refine lv_iload hx hb dL_law_196 (lv_at hl 10 rfl) ?_
    refine lv_aload_n hx hb dL_law_198 rfl (lv_at hl 18 rfl) ?_
    refine lv_iload hx hb dL_law_199 (lv_at hl 12 rfl) ?_
    refine lv_iload hx hb dL_law_201 (lv_at hl 5 rfl) ?_
    have hq9 := ((qa_n (f := fun r a => nI ((tids (zof (T r) a).2.1).length + (tids (zof (T r) a).2.2.1).length)) (n := sz a) hr6 (by omega) hfa).trans (congrArg (fun z : Zi => ((0 : Nat), nI ((tids z.2.1).length + (tids z.2.2.1).length))) hz) : _ = ((0 : Nat), nI ((tids tl).length + (tids tr).length)))
    refine cVx S (c_X2_below (row := nI r) (x := nI (sz a)) hst hc) (cwV 2 hts gL_law_X2_below rfl rfl rfl (by decide +kernel) ⟨Nat.le_of_ble_eq_true rfl, Nat.le_of_ble_eq_true rfl⟩) hK hH hX.1 (Hp_recv hK hH hc.1.1.1 hc.1.1.2 rfl) hS rfl hl.1 rfl (by simp [cat_rf, Value.category]) dL_law_203 ⟨(by show k0 + 60 * j + 2 + 2 + 2 + 2 + 2 + 2 ≤ 967961; omega), (by show n0 + 360 * j + 12 + 12 + 12 + 12 + 12 + 12 ≤ 6197586; omega)⟩ (fun E9 Z1 H locs ce q9 hpx hH hS hce hcv hcl => (PxQ hpx hq9).elim) (fun v Z1 H locs hpost hH hS => ?_)
    obtain ⟨rfl, L, K, si, P, rfl, hc⟩ := PoQ hpost hq9
    refine lv_iadd hx hb dL_law_206 ?_
    rw [show nI (acc (T r) fH j) + nI ((tids tl).length + (tids tr).length) = nI (acc (T r) fH (j + 1)) from by rw [nI_add, hH9]]
    refine lv_istore (lv' := [(11, .int (nI (acc (T r) fH (j + 1)))), (10, .int (nI (acc (T r) fD (j + 1)))), (20, .int (nI C.length)), (19, .int (er ((rt tr).map sz))), (18, .int (er ((rt tl).map sz))), (17, .int (er ((parC C).map sz))), (16, .int (nI (sz a))), (15, .int (nI j)), (14, .int (nI (acc (T r) fT j))), (13, .int (nI (mxa (T r) j) - 1)), (12, .int (nI (acc (T r) fL j))), (9, .int (nI (tids (T r)).length)), (8, .int (nI r)), (7, .int (nI A)), (5, .long d5), (4, .int x4), (3, .int x3), (2, .ref sa), (1, .ref o), (0, .ref b9)]) hx hb dL_law_207 hl (by decide) rfl (fun ls hl => ?_)
    refine lv_iload hx hb dL_law_209 (lv_at hl 9 rfl) ?_
    refine lv_iload hx hb dL_law_211 (lv_at hl 2 rfl) ?_
    refine va_mmax hx hb (S.2.2.1.trans hl.1.symm) S.2.2.2.1 w1 w2 w3 w4 (Nat.le_of_ble_eq_true rfl) (Nat.le_of_ble_eq_true rfl) (by show k0 + 60 * j + 2 + 2 + 2 + 2 + 2 + 2 ≤ 967961; omega) (by show n0 + 360 * j + 12 + 12 + 12 + 12 + 12 + 12 ≤ 6197586; omega) dL_law_213 ?_
    rw [mx_i (by omega) (by omega), ← hM9]
    refine lv_istore (lv' := [(13, .int (nI (mxa (T r) (j + 1)) - 1)), (11, .int (nI (acc (T r) fH (j + 1)))), (10, .int (nI (acc (T r) fD (j + 1)))), (20, .int (nI C.length)), (19, .int (er ((rt tr).map sz))), (18, .int (er ((rt tl).map sz))), (17, .int (er ((parC C).map sz))), (16, .int (nI (sz a))), (15, .int (nI j)), (14, .int (nI (acc (T r) fT j))), (12, .int (nI (acc (T r) fL j))), (9, .int (nI (tids (T r)).length)), (8, .int (nI r)), (7, .int (nI A)), (5, .long d5), (4, .int x4), (3, .int x3), (2, .ref sa), (1, .ref o), (0, .ref b9)]) hx hb dL_law_216 hl (by decide) rfl (fun ls hl => ?_)
    refine lv_iload hx hb dL_law_218 (lv_at hl 10 rfl) ?_
    refine lv_iload hx hb dL_law_220 (lv_at hl 5 rfl) ?_
    have kL : ∀ v : Int32, nI (acc (T r) fL j) + v = nI (acc (T r) fL (j + 1)) → ∀ ls, lv_has ls 21 [(13, .int (nI (mxa (T r) (j + 1)) - 1)), (11, .int (nI (acc (T r) fH (j + 1)))), (10, .int (nI (acc (T r) fD (j + 1)))), (20, .int (nI C.length)), (19, .int (er ((rt tr).map sz))), (18, .int (er ((rt tl).map sz))), (17, .int (er ((parC C).map sz))), (16, .int (nI (sz a))), (15, .int (nI j)), (14, .int (nI (acc (T r) fT j))), (12, .int (nI (acc (T r) fL j))), (9, .int (nI (tids (T r)).length)), (8, .int (nI r)), (7, .int (nI A)), (5, .long d5), (4, .int x4), (3, .int x3), (2, .ref sa), (1, .ref o), (0, .ref b9)] → W p l e room_1 s m args below meth c H locs (k0 + 60 * j + 2 + 2 + 2 + 2 + 2 + 2) (n0 + 360 * j + 12 + 12 + 12 + 12 + 12 + 12) Q (F0 m 235 ls [.int v, .int (nI (acc (T r) fL j))]) := by
      intro v hv ls hl
      refine lv_iadd hx hb dL_law_235 ?_
      rw [hv]
      refine lv_istore (lv' := [(12, .int (nI (acc (T r) fL (j + 1)))), (13, .int (nI (mxa (T r) (j + 1)) - 1)), (11, .int (nI (acc (T r) fH (j + 1)))), (10, .int (nI (acc (T r) fD (j + 1)))), (20, .int (nI C.length)), (19, .int (er ((rt tr).map sz))), (18, .int (er ((rt tl).map sz))), (17, .int (er ((parC C).map sz))), (16, .int (nI (sz a))), (15, .int (nI j)), (14, .int (nI (acc (T r) fT j))), (9, .int (nI (tids (T r)).length)), (8, .int (nI r)), (7, .int (nI A)), (5, .long d5), (4, .int x4), (3, .int x3), (2, .ref sa), (1, .ref o), (0, .ref b9)]) hx hb dL_law_236 hl (by decide) rfl (fun ls hl => ?_)
      refine lv_iload hx hb dL_law_238 (lv_at hl 10 rfl) ?_
      refine lv_iload hx hb dL_law_240 (lv_at hl 7 rfl) ?_
      have kT : ∀ v : Int32, nI (acc (T r) fT j) + v = nI (acc (T r) fT (j + 1)) → ∀ ls, lv_has ls 21 [(12, .int (nI (acc (T r) fL (j + 1)))), (13, .int (nI (mxa (T r) (j + 1)) - 1)), (11, .int (nI (acc (T r) fH (j + 1)))), (10, .int (nI (acc (T r) fD (j + 1)))), (20, .int (nI C.length)), (19, .int (er ((rt tr).map sz))), (18, .int (er ((rt tl).map sz))), (17, .int (er ((parC C).map sz))), (16, .int (nI (sz a))), (15, .int (nI j)), (14, .int (nI (acc (T r) fT j))), (9, .int (nI (tids (T r)).length)), (8, .int (nI r)), (7, .int (nI A)), (5, .long d5), (4, .int x4), (3, .int x3), (2, .ref sa), (1, .ref o), (0, .ref b9)] → W p l e room_1 s m args below meth c H locs (k0 + 60 * j + 2 + 2 + 2 + 2 + 2 + 2) (n0 + 360 * j + 12 + 12 + 12 + 12 + 12 + 12) Q (F0 m 250 ls [.int v, .int (nI (acc (T r) fT j))]) := by
        intro v hv ls hl
        refine lv_iadd hx hb dL_law_250 ?_
        rw [hv]
        refine lv_istore (lv' := [(14, .int (nI (acc (T r) fT (j + 1)))), (12, .int (nI (acc (T r) fL (j + 1)))), (13, .int (nI (mxa (T r) (j + 1)) - 1)), (11, .int (nI (acc (T r) fH (j + 1)))), (10, .int (nI (acc (T r) fD (j + 1)))), (20, .int (nI C.length)), (19, .int (er ((rt tr).map sz))), (18, .int (er ((rt tl).map sz))), (17, .int (er ((parC C).map sz))), (16, .int (nI (sz a))), (15, .int (nI j)), (9, .int (nI (tids (T r)).length)), (8, .int (nI r)), (7, .int (nI A)), (5, .long d5), (4, .int x4), (3, .int x3), (2, .ref sa), (1, .ref o), (0, .ref b9)]) hx hb dL_law_251 hl (by decide) rfl (fun ls hl => ?_)
        refine lv_iload hx hb dL_law_253 (lv_at hl 10 rfl) ?_
        by_cases hj0 : j = 0
        · skip
          refine lv_if_le (tgt := 273) hx hb dL_law_255 (by decide) (fun _ => ?_) (fun h1 => absurd (by rw [hj0]; decide) h1)
          refine W.widen (k := k0 + 60 * j + 14) (n := n0 + 360 * j + 84) (by show k0 + 60 * j + 2 + 2 + 2 + 2 + 2 + 2 ≤ k0 + 60 * j + 14; omega) (by show n0 + 360 * j + 12 + 12 + 12 + 12 + 12 + 12 ≤ n0 + 360 * j + 84; omega) ?_
          exact k273 _ H locs ls ⟨L, K, si, P, rfl, hc⟩ hH hS (lv_sub hl [5, 6, 7, 8, 9, 10, 0, 2, 1, 3, 4, 11, 12, 13, 14, 15, 16, 17, 18, 19] rfl)
        · skip
          have hjm : (tids (T r))[j - 1]? = some (tids (T r))[j - 1] := List.getElem?_eq_getElem (by omega)
          generalize (tids (T r))[j - 1] = a0 at hjm
          have hlt := srt_lt hs (show j - 1 < j by omega) hjm hat
          have hs0 : sz a0 < 1000 := hz1 a0 (List.mem_of_getElem? hjm)
          refine lv_if_le (tgt := 273) hx hb dL_law_255 (by decide) (fun h1 => absurd h1 (nI_nle (by omega) (by omega))) (fun _ => ?_)
          refine lv_aload_n hx hb dL_law_258 rfl (lv_at hl 18 rfl) ?_
          refine lv_iload hx hb dL_law_259 (lv_at hl 12 rfl) ?_
          refine lv_iload hx hb dL_law_261 (lv_at hl 10 rfl) ?_
          refine lv_iconst (v := 1) hx hb dL_law_263 (by decide) ?_
          refine lv_isub hx hb dL_law_264 ?_
          rw [show nI j - 1 = nI (j - 1) from nI_pm (by omega)]
          have hq9 := (qo_n (sz := sz) (j := (j - 1)) hr6 ⟨by omega, by omega⟩ hjm)
          refine cVx S (c_X2_inOrder (row := nI r) (x := nI (j - 1)) hst hc) (cwV 2 hts gL_law_X2_inOrder rfl rfl rfl (by decide +kernel) ⟨Nat.le_of_ble_eq_true rfl, Nat.le_of_ble_eq_true rfl⟩) hK hH hX.1 (Hp_recv hK hH hc.1.1.1 hc.1.1.2 rfl) hS rfl hl.1 rfl (by simp [cat_rf, Value.category]) dL_law_265 ⟨(by show k0 + 60 * j + 2 + 2 + 2 + 2 + 2 + 2 + 2 ≤ 967961; omega), (by show n0 + 360 * j + 12 + 12 + 12 + 12 + 12 + 12 + 12 ≤ 6197586; omega)⟩ (fun E9 Z1 H locs ce q9 hpx hH hS hce hcv hcl => (PxQ hpx hq9).elim) (fun v Z1 H locs hpost hH hS => ?_)
          obtain ⟨rfl, L, K, si, P, rfl, hc⟩ := PoQ hpost hq9
          refine lv_iload hx hb dL_law_268 (lv_at hl 9 rfl) ?_
          refine lv_icmp_ge (tgt := 360) hx hb dL_law_270 (by decide) (fun h1 => absurd h1 (nI_ge hlt (by omega))) (fun _ => ?_)
          refine W.widen (k := k0 + 60 * j + 14) (n := n0 + 360 * j + 84) (by show k0 + 60 * j + 2 + 2 + 2 + 2 + 2 + 2 + 2 ≤ k0 + 60 * j + 14; omega) (by show n0 + 360 * j + 12 + 12 + 12 + 12 + 12 + 12 + 12 ≤ n0 + 360 * j + 84; omega) ?_
          exact k273 _ H locs ls ⟨L, K, si, P, rfl, hc⟩ hH hS (lv_sub hl [5, 6, 7, 8, 9, 10, 0, 2, 1, 3, 4, 11, 12, 13, 14, 15, 16, 17, 18, 19] rfl)
      rcases cx_cs C with e9 | ⟨s9, p9, u9, X9, e9⟩
      · skip
        have hE : er ((parC C).map sz) = -1 := by rw [e9]; rfl
        refine lv_if_ge (tgt := 249) hx hb dL_law_242 (by decide) (fun h1 => absurd h1 (by rw [hE]; decide)) (fun _ => ?_)
        refine lv_iconst (v := 1) hx hb dL_law_245 (by decide) ?_
        refine lv_goto (tgt := 250) hx hb dL_law_246 (by decide) ?_
        exact kT 1 (by rw [hT9, if_pos (by rw [e9]; rfl)]; exact nI_1 _) ls hl
      · skip
        have hE : er ((parC C).map sz) = nI (sz p9) := by rw [e9]; rfl
        have hpt : p9 ∈ tids (T r) := zof_sub ha (Or.inl (by rw [hz, e9]; rfl))
        have hsp : sz p9 < 1000 := hz1 p9 hpt
        refine lv_if_ge (tgt := 249) hx hb dL_law_242 (by decide) (fun _ => ?_) (fun h1 => absurd (by rw [hE]; exact nI_pos' (by omega)) h1)
        refine lv_iconst (v := 0) hx hb dL_law_249 (by decide) ?_
        exact kT 0 (by rw [hT9, if_neg (by rw [e9]; intro h9; cases h9)]; exact nI_add _ 0) ls hl
    rcases tr_cs tl with e9 | ⟨b, l1, l2, e9⟩
    · skip
      have hE : er ((rt tl).map sz) = -1 := by rw [e9]; rfl
      refine lv_if_ge (tgt := 234) hx hb dL_law_222 (by decide) (fun h1 => absurd h1 (by rw [hE]; decide)) (fun _ => ?_)
      refine lv_iload hx hb dL_law_225 (lv_at hl 4 rfl) ?_
      rcases tr_cs tr with e8 | ⟨b, l1, l2, e8⟩
      · skip
        have hE2 : er ((rt tr).map sz) = -1 := by rw [e8]; rfl
        refine lv_if_ge (tgt := 234) hx hb dL_law_227 (by decide) (fun h1 => absurd h1 (by rw [hE2]; decide)) (fun _ => ?_)
        refine lv_iconst (v := 1) hx hb dL_law_230 (by decide) ?_
        refine lv_goto (tgt := 235) hx hb dL_law_231 (by decide) ?_
        exact kL 1 (by rw [hL9, if_pos (by rw [e9, e8]; rfl)]; exact nI_1 _) ls hl
      · skip
        have hE2 : er ((rt tr).map sz) = nI (sz b) := by rw [e8]; rfl
        have hsb : sz b < 1000 := hz1 b (hpr b (by rw [e8]; simp [tids]))
        refine lv_if_ge (tgt := 234) hx hb dL_law_227 (by decide) (fun _ => ?_) (fun h1 => absurd (by rw [hE2]; exact nI_pos' (by omega)) h1)
        refine lv_iconst (v := 0) hx hb dL_law_234 (by decide) ?_
        exact kL 0 (by rw [hL9, if_neg (by rw [e9, e8]; intro h9; cases h9)]; exact nI_add _ 0) ls hl
    · skip
      have hE : er ((rt tl).map sz) = nI (sz b) := by rw [e9]; rfl
      have hsb : sz b < 1000 := hz1 b (hpl b (by rw [e9]; simp [tids]))
      refine lv_if_ge (tgt := 234) hx hb dL_law_222 (by decide) (fun _ => ?_) (fun h1 => absurd (by rw [hE]; exact nI_pos' (by omega)) h1)
      refine lv_iconst (v := 0) hx hb dL_law_234 (by decide) ?_
      exact kL 0 (by rw [hL9, if_neg (by rw [e9]; intro h9; cases h9)]; exact nI_add _ 0) ls hl
