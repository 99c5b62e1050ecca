/-! THE LAW: its six times -/
set_option maxRecDepth 100000 in
set_option maxHeartbeats 4000000 in
theorem law_times {p : Program} {l : Launch} {e : Env} {s : State} {m : MethodId} {args : Array Value} {below : List Frame} {meth : Method} {c : Code} {Q : State → Prop} {D : va_G} {lo : Nat} {Γ : GT} {V : Int64 × UInt64} {b9 o sa ta N9 : Nat} {xs : Nat → Int32} (S : CallFix p m c cL_law 21 s args wsL_law RL) (hK : va_K D vwCl (TY Γ) s) (hXC : YC lo b9 N9 xs s s.heap) (hN9 : N9 < 2 ^ 31) (hst : l.stackTraces = false)
    (fin : ∀ (H : Heap) (locs : List Loc) (ls : Array Slot), va_S (lA lo) s.heap H locs → ls.size = 21 → W p l e room_1 s m args below meth c H locs (31000 + 25000 * 6 + 3700) (1207000 + 280000 * 6 + 30400) Q (F0 m 1282 ls [.int 1])) :
    ∀ (N i : Nat), N + i = 6 → ∀ (Z : WS) (H : Heap) (locs : List Loc) (ls : Array Slot), JX Γ o sa ta (30 + 5 * i) V Z → Hp D lo Γ Z H → va_S (lA lo) s.heap H locs → lv_has ls 21 [(3, .int (nI i)), (2, .ref sa), (1, .ref o), (0, .ref b9)] → W p l e room_1 s m args below meth c H locs (31000 + 25000 * i) (1207000 + 280000 * i) Q (F0 m 22 ls []) := by
  have hX := hXC.1
  have hx := S.1
  have hb := S.2.1
  have hts := S.2.2.2.2
  have hi4 : ∀ w ∈ wsX40, w ∈ wsL_law := inlX4
  have f15 : (Cond.fieldLink RL 15 "SplayOrchardLaw$Sim" "tops" "[LSplayOrchardLaw$Apple;").before args s = true := hts _ (List.mem_of_getElem? (i := 10) (by decide +kernel))
  intro N
  induction N with
  | zero =>
    intro i hi Z H locs ls hJX hH hS hl
    have hi : i = 6 := by omega
    subst hi
    have hJX0 := hJX
    obtain ⟨T, L, K, sz, si, P, bi, tu, U, E, zz, ee, φ, rfl, hc, hI, hJ⟩ := hJX
    refine lv_iload_n hx hb dL_law_22 rfl (lv_at hl 0 rfl) ?_
    refine lv_bipush (v := 6) hx hb dL_law_23 (by decide +kernel) ?_
    refine lv_icmp_ge (tgt := 1277) hx hb dL_law_25 (by decide) (fun _ => ?_) (fun h1 => absurd (by decide) h1)
    refine lv_aload_n hx hb dL_law_1277 rfl (lv_at hl 1 rfl) ?_
    refine lv_aload_n hx hb dL_law_1278 rfl (lv_at hl 2 rfl) ?_
    have rc9 := rec9 hK hH hI.1 hI.2.1 (q := (RX4, TX4, 2)) rfl
    refine cyV S (c_X4_isSame hst hJX0) (cwV 1 hts gL_law_X4_isSame rfl rfl rfl (by decide +kernel) ⟨Nat.le_of_ble_eq_true rfl, Nat.le_of_ble_eq_true rfl⟩) hK hH hX rc9 hS rfl hl.1 rfl (by simp [cat_rf, Value.category]) dL_law_1279 ⟨(by show 31000 + 25000 * 6 + 3700 ≤ 967961; omega), (by show 1207000 + 280000 * 6 + 30400 ≤ 6197586; omega)⟩ (fun v Z1 H locs hpost hH hS => ?_)
    subst hpost
    exact fin H locs ls hS hl.1
  | succ N ih =>
    intro i hi Z H locs ls hJX hH hS hl
    have hi6 : i < 6 := by omega
    refine lv_iload_n hx hb dL_law_22 rfl (lv_at hl 0 rfl) ?_
    refine lv_bipush (v := 6) hx hb dL_law_23 (by decide +kernel) ?_
    refine lv_icmp_ge (tgt := 1277) hx hb dL_law_25 (by decide) (fun h1 => absurd h1 (nI_ge hi6 (by decide))) (fun _ => ?_)
    refine lv_aload_n hx hb dL_law_28 rfl (lv_at hl 3 rfl) ?_
    refine lv_iload_n hx hb dL_law_29 rfl (lv_at hl 0 rfl) ?_
    refine ccS S (c_L_cell (k := i) hN9 (by omega)) (va_cwS 2 hts gL_law_L_cell rfl rfl rfl (by decide +kernel) ⟨Nat.le_of_ble_eq_true rfl, Nat.le_of_ble_eq_true rfl⟩) hK hH hXC hS rfl hl.1 rfl (by simp [cat_rf, Value.category]) dL_law_30 ⟨(by show 31000 + 25000 * i + 0 ≤ 967961; omega), (by show 1207000 + 280000 * i + 0 ≤ 6197586; omega)⟩ (fun v Z1 H locs hpost hH hS => ?_)
    obtain ⟨y0, rfl, hz9⟩ := hpost
    rw [hz9] at hH
    refine lv_iconst (v := 2) hx hb dL_law_33 (by decide) ?_
    refine lv_ishr hx hb dL_law_34 ?_
    refine lv_bipush (v := 53) hx hb dL_law_35 (by decide +kernel) ?_
    refine lv_iload_n hx hb dL_law_37 rfl (lv_at hl 0 rfl) ?_
    refine lv_imul hx hb dL_law_38 ?_
    refine lv_iadd hx hb dL_law_39 ?_
    generalize ((y0 >>> (2 &&& 31)) + (53 * nI i)) = x4
    refine lv_istore (lv' := [(4, .int x4), (3, .int (nI i)), (2, .ref sa), (1, .ref o), (0, .ref b9)]) hx hb dL_law_40 hl (by decide) rfl (fun ls hl => ?_)
    refine lv_iconst (v := 0) hx hb dL_law_42 (by decide) ?_
    refine lv_istore (lv' := [(5, .int 0), (4, .int x4), (3, .int (nI i)), (2, .ref sa), (1, .ref o), (0, .ref b9)]) hx hb dL_law_43 hl (by decide) rfl (fun ls hl => ?_)
    refine W.widen (k := 31000 + 25000 * i) (n := 1207000 + 280000 * i) (by show 31000 + 25000 * i + 0 ≤ 31000 + 25000 * i; omega) (by show 1207000 + 280000 * i + 0 ≤ 1207000 + 280000 * i; omega) ?_
    have k80 : ∀ (Z : WS) (H : Heap) (locs : List Loc) (ls : Array Slot), JX Γ o sa ta (30 + 5 * i + 4) V Z → Hp D lo Γ Z H → va_S (lA lo) s.heap H locs → lv_has ls 21 [(4, .int x4), (3, .int (nI i)), (2, .ref sa), (1, .ref o), (0, .ref b9)] → W p l e room_1 s m args below meth c H locs (31000 + 25000 * i + 4040) (1207000 + 280000 * i + 160800) Q (F0 m 80 ls []) := by
      intro Z H locs ls hJX hH hS hl
      obtain ⟨T, L, K, sz, si, P, bi, tu, U, E, zz, ee, φ, rfl, hc, hI, hJ⟩ := hJX
      have hO := CI_SO hc
      have hg40 := hO.2.2.2
      have hb31 : ∀ a ∈ gids T, bi a < 2 ^ 31 := fun a ha => by have := hJ.2.2.1 a ha; omega
      refine lv_aload_n hx hb dL_law_80 rfl (lv_at hl 3 rfl) ?_
      refine cVx S (c_X2_digest hst hc) (cwV 0 hts gL_law_X2_digest rfl rfl rfl (by decide +kernel) ⟨Nat.le_of_ble_eq_true rfl, Nat.le_of_ble_eq_true rfl⟩) hK hH hX.1 (Hp_recv hK hH hc.1.1.1 hc.1.1.2 rfl) hS rfl hl.1 rfl (by simp [Value.category]) dL_law_81 ⟨(by show 31000 + 25000 * i + 4040 + 48 ≤ 967961; omega), (by show 1207000 + 280000 * i + 160800 + 288 ≤ 6197586; omega)⟩ (fun E9 Z1 H locs ce q9 hpx hH hS hce hcv hcl => hpx.elim) (fun v Z1 H locs hpost hH hS => ?_)
      obtain ⟨rfl, L, K, si, P, rfl, hc⟩ := hpost
      refine lv_lstore (lv' := [(5, .long (dgV T sz bi tu)), (4, .int x4), (3, .int (nI i)), (2, .ref sa), (1, .ref o), (0, .ref b9)]) hx hb dL_law_84 hl (by decide) rfl (fun ls hl => ?_)
      refine lv_iconst (v := 0) hx hb dL_law_86 (by decide) ?_
      refine lv_istore (lv' := [(7, .int 0), (5, .long (dgV T sz bi tu)), (4, .int x4), (3, .int (nI i)), (2, .ref sa), (1, .ref o), (0, .ref b9)]) hx hb dL_law_87 hl (by decide) rfl (fun ls hl => ?_)
      refine lv_iconst (v := 0) hx hb dL_law_89 (by decide) ?_
      refine lv_istore (lv' := [(8, .int 0), (7, .int 0), (5, .long (dgV T sz bi tu)), (4, .int x4), (3, .int (nI i)), (2, .ref sa), (1, .ref o), (0, .ref b9)]) hx hb dL_law_90 hl (by decide) rfl (fun ls hl => ?_)
      obtain ⟨d5, hd5⟩ : ∃ d, d = dgV T sz bi tu := ⟨_, rfl⟩
      rw [← hd5] at hl
      refine W.widen (k := 31000 + 25000 * i + 4100) (n := 1207000 + 280000 * i + 161200) (by show 31000 + 25000 * i + 4040 + 48 ≤ 31000 + 25000 * i + 4100; omega) (by show 1207000 + 280000 * i + 160800 + 288 ≤ 1207000 + 280000 * i + 161200; omega) ?_
      have k863 : ∀ r, r < 6 → ∀ (Z : WS) (H : Heap) (locs : List Loc) (ls : Array Slot), CSW Γ o T sz bi tu (U, E) V Z → Hp D lo Γ Z H → va_S (lA lo) s.heap H locs → lv_has ls 21 [(8, .int (nI r)), (7, .int (nI (gids T).length)), (5, .long d5), (4, .int x4), (3, .int (nI i)), (2, .ref sa), (1, .ref o), (0, .ref b9)] → W p l e room_1 s m args below meth c H locs (31000 + 25000 * i + 22200) (1207000 + 280000 * i + 269400) Q (F0 m 863 ls []) := by
        intro r hr6
        intro Z H locs ls hcs hH hS hl
        obtain ⟨L, K, si, P, rfl, hc⟩ := hcs
        refine law_bite S hK hX hst hr6 (k0 := 31000 + 25000 * i + 22200) (n0 := 1207000 + 280000 * i + 269400) (by omega) (by omega) hc hI hJ hd5 hH hS hl (fun Z9 H locs ls hJX hH hS hl => ?_)
        refine lv_iinc (v := nI (i + 1)) (lv' := [(3, .int (nI (i + 1))), (2, .ref sa), (1, .ref o), (0, .ref b9)]) hx hb dL_law_1271 hl (k := 0) rfl (nI_1 i) (by decide) rfl (fun ls hl => ?_)
        refine lv_goto (tgt := 22) hx hb dL_law_1274 (by decide) ?_
        refine W.widen (k := 31000 + 25000 * (i + 1)) (n := 1207000 + 280000 * (i + 1)) (by show 31000 + 25000 * i + 22200 + 600 ≤ 31000 + 25000 * (i + 1); omega) (by show 1207000 + 280000 * i + 269400 + 3500 ≤ 1207000 + 280000 * (i + 1); omega) ?_
        exact ih (i + 1) (by omega) Z9 H locs ls (JX_up hJX (by omega)) hH hS (lv_sub hl [0, 1, 2, 3] rfl)
      have find : ∀ (N r : Nat), N + r = 5 → ∀ (Z : WS) (H : Heap) (locs : List Loc) (ls : Array Slot), CSW Γ o T sz bi tu (U, E) V Z → Hp D lo Γ Z H → va_S (lA lo) s.heap H locs → lv_has ls 21 [(8, .int (nI r)), (7, .int (nI (gids T).length)), (5, .long d5), (4, .int x4), (3, .int (nI i)), (2, .ref sa), (1, .ref o), (0, .ref b9)] → W p l e room_1 s m args below meth c H locs (31000 + 25000 * i + (22190 + r)) (1207000 + 280000 * i + (269340 + 6 * r)) Q (F0 m 841 ls []) := by
        intro N
        induction N with
        | zero =>
          intro r hr
          have hr : r = 5 := by omega
          subst hr
          intro Z H locs ls hcs hH hS hl
          obtain ⟨L, K, si, P, rfl, hc⟩ := hcs
          refine lv_iload hx hb dL_law_841 (lv_at hl 0 rfl) ?_
          refine lv_iconst (v := 5) hx hb dL_law_843 (by decide) ?_
          refine lv_icmp_ge (tgt := 863) hx hb dL_law_844 (by decide) (fun _ => ?_) (fun h1 => absurd (by decide) h1)
          refine W.widen (k := 31000 + 25000 * i + 22200) (n := 1207000 + 280000 * i + 269400) (by show 31000 + 25000 * i + (22190 + 5) ≤ 31000 + 25000 * i + 22200; omega) (by show 1207000 + 280000 * i + (269340 + 6 * 5) ≤ 1207000 + 280000 * i + 269400; omega) ?_
          exact k863 5 (by omega) _ H locs ls ⟨L, K, si, P, rfl, hc⟩ hH hS (lv_sub hl [0, 1, 2, 3, 4, 5, 6, 7] rfl)
        | succ N ih2 =>
          intro r hr
          have hr6 : r < 6 := by omega
          intro Z H locs ls hcs hH hS hl
          obtain ⟨L, K, si, P, rfl, hc⟩ := hcs
          refine lv_iload hx hb dL_law_841 (lv_at hl 0 rfl) ?_
          refine lv_iconst (v := 5) hx hb dL_law_843 (by decide) ?_
          refine lv_icmp_ge (tgt := 863) hx hb dL_law_844 (by decide) (fun h1 => absurd h1 (show ¬ nI 5 ≤ _ from nI_ge (by omega) (by decide))) (fun _ => ?_)
          refine lv_aload_n hx hb dL_law_847 rfl (lv_at hl 6 rfl) ?_
          refine lv_iload hx hb dL_law_848 (lv_at hl 0 rfl) ?_
          have hl40 := (SO_at hO hr6).2.2.2.1
          have hq9 := (qr_n (f := fun r => nI (tids (T r)).length) hr6)
          refine cVx S (c_X2_sizeOf (row := nI r) hst hc) (cwV 1 hts gL_law_X2_sizeOf rfl rfl rfl (by decide +kernel) ⟨Nat.le_of_ble_eq_true rfl, Nat.le_of_ble_eq_true rfl⟩) hK hH hX.1 (Hp_recv hK hH hc.1.1.1 hc.1.1.2 rfl) hS rfl hl.1 rfl (by simp [cat_rf, Value.category]) dL_law_850 ⟨(by show 31000 + 25000 * i + (22190 + r) + 1 ≤ 967961; omega), (by show 1207000 + 280000 * i + (269340 + 6 * r) + 6 ≤ 6197586; omega)⟩ (fun E9 Z1 H locs ce q9 hpx hH hS hce hcv hcl => (PxQ hpx hq9).elim) (fun v Z1 H locs hpost hH hS => ?_)
          obtain ⟨rfl, L, K, si, P, rfl, hc⟩ := PoQ hpost hq9
          refine lv_iconst (v := 2) hx hb dL_law_853 (by decide) ?_
          by_cases h2 : 2 ≤ (tids (T r)).length
          · skip
            refine lv_icmp_ge (tgt := 863) hx hb dL_law_854 (by decide) (fun _ => ?_) (fun h1 => absurd (show nI 2 ≤ _ from nI_le h2 (by omega)) h1)
            refine W.widen (k := 31000 + 25000 * i + 22200) (n := 1207000 + 280000 * i + 269400) (by show 31000 + 25000 * i + (22190 + r) + 1 ≤ 31000 + 25000 * i + 22200; omega) (by show 1207000 + 280000 * i + (269340 + 6 * r) + 6 ≤ 1207000 + 280000 * i + 269400; omega) ?_
            exact k863 r (by omega) _ H locs ls ⟨L, K, si, P, rfl, hc⟩ hH hS (lv_sub hl [0, 1, 2, 3, 4, 5, 6, 7] rfl)
          · skip
            refine lv_icmp_ge (tgt := 863) hx hb dL_law_854 (by decide) (fun h1 => absurd h1 (show ¬ nI 2 ≤ _ from nI_ge (by omega) (by decide))) (fun _ => ?_)
            refine lv_iinc (v := nI (r + 1)) (lv' := [(8, .int (nI (r + 1))), (7, .int (nI (gids T).length)), (5, .long d5), (4, .int x4), (3, .int (nI i)), (2, .ref sa), (1, .ref o), (0, .ref b9)]) hx hb dL_law_857 hl (k := 0) rfl (nI_1 r) (by decide) rfl (fun ls hl => ?_)
            refine lv_goto (tgt := 841) hx hb dL_law_860 (by decide) ?_
            refine W.widen (k := 31000 + 25000 * i + (22190 + (r + 1))) (n := 1207000 + 280000 * i + (269340 + 6 * (r + 1))) (by show 31000 + 25000 * i + (22190 + r) + 1 ≤ 31000 + 25000 * i + (22190 + (r + 1)); omega) (by show 1207000 + 280000 * i + (269340 + 6 * r) + 6 ≤ 1207000 + 280000 * i + (269340 + 6 * (r + 1)); omega) ?_
            exact ih2 (r + 1) (by omega) _ H locs ls ⟨L, K, si, P, rfl, hc⟩ hH hS (lv_sub hl [0, 1, 2, 3, 4, 5, 6, 7] rfl)
      have k820 : ∀ (Z : WS) (H : Heap) (locs : List Loc) (ls : Array Slot), CSW Γ o T sz bi tu (U, E) V Z → Hp D lo Γ Z H → va_S (lA lo) s.heap H locs → lv_has ls 21 [(8, .int (nI 6)), (7, .int (nI (gids T).length)), (5, .long d5), (4, .int x4), (3, .int (nI i)), (2, .ref sa), (1, .ref o), (0, .ref b9)] → W p l e room_1 s m args below meth c H locs (31000 + 25000 * i + 4100 + 3000 * 6) (1207000 + 280000 * i + 161200 + 18000 * 6) Q (F0 m 820 ls []) := by
        intro Z H locs ls hcs hH hS hl
        obtain ⟨L, K, si, P, rfl, hc⟩ := hcs
        refine lv_iload hx hb dL_law_820 (lv_at hl 1 rfl) ?_
        refine lv_aload_n hx hb dL_law_822 rfl (lv_at hl 6 rfl) ?_
        refine cV S (c_X2_apples hc) (cwV 0 hts gL_law_X2_apples rfl rfl rfl (by decide +kernel) ⟨Nat.le_of_ble_eq_true rfl, Nat.le_of_ble_eq_true rfl⟩) hK hH (Hp_recv hK hH hc.1.1.1 hc.1.1.2 rfl) hS rfl hl.1 rfl (by simp [Value.category]) dL_law_823 ⟨(by show 31000 + 25000 * i + 4100 + 3000 * 6 + 0 ≤ 967961; omega), (by show 1207000 + 280000 * i + 161200 + 18000 * 6 + 0 ≤ 6197586; omega)⟩ (fun v Z1 H locs hpost hH hS => ?_)
        obtain ⟨rfl, rfl⟩ := hpost
        refine lv_icmp_ne (tgt := 836) hx hb dL_law_826 (by decide) (fun h1 => absurd h1 (fun h => h (rfl))) (fun _ => ?_)
        refine lv_iload hx hb dL_law_829 (lv_at hl 1 rfl) ?_
        refine lv_bipush (v := 40) hx hb dL_law_831 (by decide +kernel) ?_
        refine lv_icmp_le (tgt := 838) hx hb dL_law_833 (by decide) (fun _ => ?_) (fun h1 => absurd (show _ ≤ nI 40 from nI_le (by omega) (by decide)) h1)
        refine lv_iconst (v := 0) hx hb dL_law_838 (by decide) ?_
        refine lv_istore (lv' := [(8, .int 0), (7, .int (nI (gids T).length)), (5, .long d5), (4, .int x4), (3, .int (nI i)), (2, .ref sa), (1, .ref o), (0, .ref b9)]) hx hb dL_law_839 hl (by decide) rfl (fun ls hl => ?_)
        refine W.widen (k := 31000 + 25000 * i + (22190 + 0)) (n := 1207000 + 280000 * i + (269340 + 6 * 0)) (by show 31000 + 25000 * i + 4100 + 3000 * 6 + 0 ≤ 31000 + 25000 * i + (22190 + 0); omega) (by show 1207000 + 280000 * i + 161200 + 18000 * 6 + 0 ≤ 1207000 + 280000 * i + (269340 + 6 * 0); omega) ?_
        exact find 5 0 rfl _ H locs ls ⟨L, K, si, P, rfl, hc⟩ hH hS (lv_sub hl [0, 1, 2, 3, 4, 5, 6, 7] rfl)
      exact law_rows S hK hX hst hO hb31 (k0 := 31000 + 25000 * i + 4100) (n0 := 1207000 + 280000 * i + 161200) (by omega) (by omega) k820 6 0 0 rfl (by rw [cntF_0, Nat.zero_add]) _ H locs ls ⟨L, K, si, P, rfl, hc⟩ hH hS (lv_sub hl [0, 1, 2, 3, 4, 5, 6, 7] rfl)
    have acts : ∀ (N k9 : Nat), N + k9 = 4 → ∀ (Z : WS) (H : Heap) (locs : List Loc) (ls : Array Slot), JX Γ o sa ta (30 + 5 * i + k9) V Z → Hp D lo Γ Z H → va_S (lA lo) s.heap H locs → lv_has ls 21 [(5, .int (nI k9)), (4, .int x4), (3, .int (nI i)), (2, .ref sa), (1, .ref o), (0, .ref b9)] → W p l e room_1 s m args below meth c H locs (31000 + 25000 * i + 1010 * k9) (1207000 + 280000 * i + 40200 * k9) Q (F0 m 45 ls []) := by
      intro N
      induction N with
      | zero =>
        intro k9 hk
        have hk : k9 = 4 := by omega
        subst hk
        intro Z H locs ls hJX hH hS hl
        refine lv_iload hx hb dL_law_45 (lv_at hl 0 rfl) ?_
        refine lv_iconst (v := 4) hx hb dL_law_47 (by decide) ?_
        refine lv_icmp_ge (tgt := 80) hx hb dL_law_48 (by decide) (fun _ => ?_) (fun h1 => absurd (by decide) h1)
        refine W.widen (k := 31000 + 25000 * i + 4040) (n := 1207000 + 280000 * i + 160800) (by show 31000 + 25000 * i + 1010 * 4 ≤ 31000 + 25000 * i + 4040; omega) (by show 1207000 + 280000 * i + 40200 * 4 ≤ 1207000 + 280000 * i + 160800; omega) ?_
        exact k80 Z H locs ls hJX hH hS (lv_sub hl [1, 2, 3, 4, 5] rfl)
      | succ N ih2 =>
        intro k9 hk
        have hk4 : k9 < 4 := by omega
        intro Z H locs ls hJX hH hS hl
        refine lv_iload hx hb dL_law_45 (lv_at hl 0 rfl) ?_
        refine lv_iconst (v := 4) hx hb dL_law_47 (by decide) ?_
        refine lv_icmp_ge (tgt := 80) hx hb dL_law_48 (by decide) (fun h1 => absurd h1 (nI_ge hk4 (by decide))) (fun _ => ?_)
        refine lv_aload_n hx hb dL_law_51 rfl (lv_at hl 4 rfl) ?_
        refine lv_aload_n hx hb dL_law_52 rfl (lv_at hl 3 rfl) ?_
        refine lv_iload hx hb dL_law_53 (lv_at hl 1 rfl) ?_
        refine lv_iconst (v := 3) hx hb dL_law_55 (by decide) ?_
        refine lv_iload hx hb dL_law_56 (lv_at hl 0 rfl) ?_
        refine lv_imul hx hb dL_law_58 ?_
        refine lv_ishr hx hb dL_law_59 ?_
        refine lv_bipush (v := 29) hx hb dL_law_60 (by decide +kernel) ?_
        refine lv_iload hx hb dL_law_62 (lv_at hl 0 rfl) ?_
        refine lv_imul hx hb dL_law_64 ?_
        refine lv_iadd hx hb dL_law_65 ?_
        refine cySW S (c_L_act (x := ((x4 >>> ((3 * nI k9) &&& 31)) + (29 * nI k9))) hst hJX) (vx_cwSW 3 hts gL_law_L_act rfl rfl rfl (by decide +kernel) ⟨Nat.le_of_ble_eq_true rfl, Nat.le_of_ble_eq_true rfl⟩) hK hH hX hS rfl hl.1 rfl (by simp [cat_rf, Value.category]) dL_law_66 ⟨(by show 31000 + 25000 * i + 1010 * k9 + 1010 ≤ 967961; omega), (by show 1207000 + 280000 * i + 40200 * k9 + 40200 ≤ 6197586; omega)⟩ (fun v Z1 H locs hpost hH hS => ?_)
        obtain ⟨rfl, hJX⟩ := hpost
        refine lv_if_ne (tgt := 74) hx hb dL_law_69 (by decide) (fun _ => ?_) (fun h1 => absurd h1 (by decide))
        refine lv_iinc (v := nI (k9 + 1)) (lv' := [(5, .int (nI (k9 + 1))), (4, .int x4), (3, .int (nI i)), (2, .ref sa), (1, .ref o), (0, .ref b9)]) hx hb dL_law_74 hl (k := 0) rfl (nI_1 k9) (by decide) rfl (fun ls hl => ?_)
        refine lv_goto (tgt := 45) hx hb dL_law_77 (by decide) ?_
        refine W.widen (k := 31000 + 25000 * i + 1010 * (k9 + 1)) (n := 1207000 + 280000 * i + 40200 * (k9 + 1)) (by show 31000 + 25000 * i + 1010 * k9 + 1010 ≤ 31000 + 25000 * i + 1010 * (k9 + 1); omega) (by show 1207000 + 280000 * i + 40200 * k9 + 40200 ≤ 1207000 + 280000 * i + 40200 * (k9 + 1); omega) ?_
        exact ih2 (k9 + 1) (by omega) Z1 H locs ls hJX hH hS (lv_sub hl [0, 1, 2, 3, 4, 5] rfl)
    refine W.widen (k := 31000 + 25000 * i + 1010 * 0) (n := 1207000 + 280000 * i + 40200 * 0) (by show 31000 + 25000 * i ≤ 31000 + 25000 * i + 1010 * 0; omega) (by show 1207000 + 280000 * i ≤ 1207000 + 280000 * i + 40200 * 0; omega) ?_
    exact acts 4 0 rfl Z H locs ls hJX hH hS (lv_sub hl [0, 1, 2, 3, 4, 5] rfl)
