/-! THE LAW: planted and picked again -/
theorem spl_rt (k : Nat) : ∀ (C : Cx) (l r : Tr), rt (spl k C l r) = some k := by
  have key : ∀ (n : Nat) (C : Cx) (l r : Tr), C.length ≤ n → rt (spl k C l r) = some k := by
    intro n
    induction n with
    | zero =>
      intro C l r hl
      have : C = [] := List.length_eq_zero_iff.mp (by omega)
      subst this
      rfl
    | succ n ih =>
      intro C l r hl
      match C, hl with
      | [], _ => rfl
      | [(s, p, u)], _ => rfl
      | (s1, p1, u1) :: (s2, p2, u2) :: C, hl =>
        have hl2 : C.length ≤ n := by simp only [List.length_cons] at hl; omega
        unfold spl
        split
        · exact ih C _ _ hl2
        · exact ih C _ _ hl2
  intro C l r
  exact key _ C l r (Nat.le_refl _)
theorem inc_ids (a : Nat) (sz : Nat → Nat) (z : Int) (t : Tr) : (tids (spl a (inc sz z t []) (.leaf ()) (.leaf ()))).length = (tids t).length + 1 := by
  have h8 := congrArg (fun x => (tids x).length) (plug_inc (sz := sz) (z := z) t [])
  have h8 : (tids (plug (.leaf ()) (inc sz z t []))).length = (tids t).length := h8
  rw [tids_plug] at h8
  rw [spl_ids, tids_plug]
  simp only [tids, List.length_append, List.length_cons, List.length_nil] at h8 ⊢
  omega
theorem cx_ln : ∀ C : Cx, C.length ≤ (cL C).length + (cR C).length := by
  intro C
  induction C with
  | nil => exact Nat.le_refl _
  | cons f C ih =>
    obtain ⟨s, p, u⟩ := f
    cases s <;> simp only [cL, cR, cond_true, cond_false, List.length_append, List.length_cons, List.length_nil] <;> omega
theorem inc_lt {sz : Nat → Nat} {z : Int} {t : Tr} (h : (tids t).length ≤ 40) : (inc sz z t []).length < 1000 := by
  have h8 : (tids (plug (.leaf ()) (inc sz z t []))).length = (tids t).length := congrArg (fun x => (tids x).length) (plug_inc (sz := sz) (z := z) t [])
  have h9 := cx_ln (inc sz z t [])
  rw [tids_plug] at h8
  simp only [tids, List.length_append, List.length_nil] at h8
  omega
theorem qp_n {T : Nat → Tr} {sz : Nat → Nat} {r n : Nat} (hr : r < 6) (hn : n < 1000) (hf : fnd sz (n : Int) (T r) = none) : qp T sz (nI r) (nI n) = (0, nI (inc sz (n : Int) (T r) []).length) := by
  rw [qp, rowN_nI hr]
  dsimp only
  rw [szN_nI hn]
  dsimp only
  rw [hf]
  rfl
set_option maxRecDepth 100000 in
set_option maxHeartbeats 4000000 in
theorem law_plant {p : Program} {l : Launch} {e : Env} {s : State} {m : MethodId} {args : Array Value} {below : List Frame} {meth : Method} {c : Code} {Q : State → Prop} {D : va_G} {lo : Nat} {Γ : GT} {V : Int64 × UInt64} {b9 o sa ta k r n G k0 n0 : Nat} {x3 x4 : Int32} {T : Nat → Tr} {L : List Nat} {K sz : Nat → Nat} {si : Nat → Option Nat} {P : PF} {bi : Nat → Nat} {tu : Nat} {U : List Nat} {E : Nat → va_E} {zz ee φ : Nat → Nat} {H : Heap} {locs : List Loc} {ls : Array Slot} (S : CallFix p m c cL_law 21 s args wsL_law RL) (hK : va_K D vwCl (TY Γ) s) (hX : YE lo s s.heap) (hst : l.stackTraces = false) (hr6 : r < 6) (hk0 : k0 + 100 ≤ 967961) (hn0 : n0 + 1000 ≤ 6197586) (hn : n = (tids (T r)).length) (hG : G = (gids T).length) (hc : CI Γ o T L K sz si P) (hI : SI Γ (U, E) sa ta (mpT φ T) zz ee tu) (hJ : JR T sz bi zz ee φ k)
    (hH : Hp D lo Γ ((L, K, sz, si, P, bi, tu), (U, E), V) H) (hS : va_S (lA lo) s.heap H locs) (hl : lv_has ls 21 [(9, .int (nI n)), (8, .int (nI r)), (7, .int (nI G)), (4, .int x4), (3, .int x3), (2, .ref sa), (1, .ref o), (0, .ref b9)])
    (kk : ∀ (Z : WS) (H : Heap) (locs : List Loc) (ls : Array Slot), JX Γ o sa ta k V Z → Hp D lo Γ Z H → va_S (lA lo) s.heap H locs → lv_has ls 21 [(3, .int x3), (2, .ref sa), (1, .ref o), (0, .ref b9)] → W p l e room_1 s m args below meth c H locs (k0 + 100) (n0 + 1000) Q (F0 m 1271 ls [])) : W p l e room_1 s m args below meth c H locs k0 n0 Q (F0 m 1120 ls []) := by
  have hx := S.1
  have hb := S.2.1
  have hts := S.2.2.2.2
  have hi4 : ∀ w ∈ wsX40, w ∈ wsL_law := inlX4
  have f15 : (Cond.fieldLink RL 15 "SplayOrchardLaw$Sim" "tops" "[LSplayOrchardLaw$Apple;").before args s = true := hts _ (List.mem_of_getElem? (i := 10) (by decide +kernel))
  have hOc := CI_SO hc
  have hOm := JR_SO hJ hOc
  have hg40 := hOc.2.2.2
  have hlen : (gids (mpT φ T)).length = (gids T).length := by rw [gids_mp, List.length_map]
  obtain ⟨hnd, hs, hz1, hn40, hh40, -⟩ := SO_at hOc hr6
  refine lv_iload hx hb dL_law_1120 (lv_at hl 3 rfl) ?_
  refine lv_iconst (v := 5) hx hb dL_law_1122 (by decide) ?_
  refine lv_ishr hx hb dL_law_1123 ?_
  refine lv_sipush (v := 1000) hx hb dL_law_1124 (by decide +kernel) ?_
  refine cyS S (c_L_below (n := 1000) (by decide) (by decide)) (va_cwS 2 hts gL_law_L_below rfl rfl rfl (by decide +kernel) ⟨Nat.le_of_ble_eq_true rfl, Nat.le_of_ble_eq_true rfl⟩) hK hH hX hS rfl hl.1 rfl (by simp [cat_rf, Value.category]) dL_law_1127 ⟨(by show k0 + 0 ≤ 967961; omega), (by show n0 + 0 ≤ 6197586; omega)⟩ (fun v Z1 H locs hpost hH hS => ?_)
  obtain ⟨n9, hn9, rfl, rfl⟩ := hpost
  refine lv_istore (lv' := [(10, .int (nI n9)), (9, .int (nI n)), (8, .int (nI r)), (7, .int (nI G)), (4, .int x4), (3, .int x3), (2, .ref sa), (1, .ref o), (0, .ref b9)]) hx hb dL_law_1130 hl (by decide) rfl (fun ls hl => ?_)
  refine lv_iload hx hb dL_law_1132 (lv_at hl 3 rfl) ?_
  refine lv_bipush (v := 40) hx hb dL_law_1134 (by decide +kernel) ?_
  by_cases hG40 : G = 40
  · skip
    refine lv_icmp_eq (tgt := 1271) hx hb dL_law_1136 (by decide) (fun _ => ?_) (fun h1 => absurd (by rw [hG40]; decide) h1)
    refine W.widen (k := k0 + 100) (n := n0 + 1000) (by show k0 + 0 ≤ k0 + 100; omega) (by show n0 + 0 ≤ n0 + 1000; omega) ?_
    exact kk _ H locs ls ⟨T, L, K, sz, si, P, bi, tu, U, E, zz, ee, φ, rfl, hc, hI, hJ⟩ hH hS (lv_sub hl [5, 6, 7, 8] rfl)
  · skip
    have h40 : (gids T).length < 40 := by omega
    refine lv_icmp_eq (tgt := 1271) hx hb dL_law_1136 (by decide) (fun h1 => absurd h1 (fun h => hG40 ((nI_eq (b := 40) (by omega) (by decide)).mp h))) (fun _ => ?_)
    refine lv_aload_n hx hb dL_law_1139 rfl (lv_at hl 7 rfl) ?_
    refine lv_iload hx hb dL_law_1140 (lv_at hl 2 rfl) ?_
    refine lv_iload hx hb dL_law_1142 (lv_at hl 0 rfl) ?_
    cases hf : fnd sz (n9 : Int) (T r) with
    | some a0 =>
      have hq9 := ((qr_n (f := fun r => if (fnd sz (nI n9).toInt (T r)).isSome then 1 else 0) hr6).trans (by rw [nI_toInt (by omega), hf]; rfl) : _ = ((0 : Nat), (1 : Int32)))
      refine cVx S (c_X2_has (row := nI r) (x := nI n9) hst hc) (cwV 2 hts gL_law_X2_has rfl rfl rfl (by decide +kernel) ⟨Nat.le_of_ble_eq_true rfl, Nat.le_of_ble_eq_true rfl⟩) hK hH hX.1 (Hp_recv hK hH hc.1.1.1 hc.1.1.2 rfl) hS rfl hl.1 rfl (by simp [cat_rf, Value.category]) dL_law_1144 ⟨(by show k0 + 0 + 1 ≤ 967961; omega), (by show n0 + 0 + 6 ≤ 6197586; omega)⟩ (fun E9 Z1 H locs ce q9 hpx hH hS hce hcv hcl => (PxQ hpx hq9).elim) (fun v Z1 H locs hpost hH hS => ?_)
      obtain ⟨rfl, L, K, si, P, rfl, hc⟩ := PoQ hpost hq9
      refine lv_if_eq (tgt := 1153) hx hb dL_law_1147 (by decide) (fun h1 => absurd h1 (by decide)) (fun _ => ?_)
      refine lv_goto (tgt := 1271) hx hb dL_law_1150 (by decide) ?_
      refine W.widen (k := k0 + 100) (n := n0 + 1000) (by show k0 + 0 + 1 ≤ k0 + 100; omega) (by show n0 + 0 + 6 ≤ n0 + 1000; omega) ?_
      exact kk _ H locs ls ⟨T, L, K, sz, si, P, bi, tu, U, E, zz, ee, φ, rfl, hc, hI, hJ⟩ hH hS (lv_sub hl [5, 6, 7, 8] rfl)
    | none =>
      have hq9 := ((qr_n (f := fun r => if (fnd sz (nI n9).toInt (T r)).isSome then 1 else 0) hr6).trans (by rw [nI_toInt (by omega), hf]; rfl) : _ = ((0 : Nat), (0 : Int32)))
      refine cVx S (c_X2_has (row := nI r) (x := nI n9) hst hc) (cwV 2 hts gL_law_X2_has rfl rfl rfl (by decide +kernel) ⟨Nat.le_of_ble_eq_true rfl, Nat.le_of_ble_eq_true rfl⟩) hK hH hX.1 (Hp_recv hK hH hc.1.1.1 hc.1.1.2 rfl) hS rfl hl.1 rfl (by simp [cat_rf, Value.category]) dL_law_1144 ⟨(by show k0 + 0 + 1 ≤ 967961; omega), (by show n0 + 0 + 6 ≤ 6197586; omega)⟩ (fun E9 Z1 H locs ce q9 hpx hH hS hce hcv hcl => (PxQ hpx hq9).elim) (fun v Z1 H locs hpost hH hS => ?_)
      obtain ⟨rfl, L, K, si, P, rfl, hc⟩ := PoQ hpost hq9
      refine lv_if_eq (tgt := 1153) hx hb dL_law_1147 (by decide) (fun _ => ?_) (fun h1 => absurd rfl h1)
      refine lv_aload_n hx hb dL_law_1153 rfl (lv_at hl 7 rfl) ?_
      refine lv_iload hx hb dL_law_1154 (lv_at hl 2 rfl) ?_
      refine lv_iload hx hb dL_law_1156 (lv_at hl 0 rfl) ?_
      have hfm : fnd zz (n9 : Int) (mpT φ T r) = none := by have h9 := J_fnd hJ hr6 (n9 : Int); rw [hf] at h9; exact h9
      have hinc : (inc zz (n9 : Int) (mpT φ T r) []).length = (inc sz (n9 : Int) (T r) []).length := by rw [J_inc hJ hr6]; exact mpC_length φ _
      have hin40 : (inc sz (n9 : Int) (T r) []).length < 1000 := inc_lt hn40
      have hq9 := (qp_n hr6 hn9 hf)
      refine cVx S (c_X2_plantDepth (row := nI r) (x := nI n9) hst hc) (cwV 2 hts gL_law_X2_plantDepth rfl rfl rfl (by decide +kernel) ⟨Nat.le_of_ble_eq_true rfl, Nat.le_of_ble_eq_true rfl⟩) hK hH hX.1 (Hp_recv hK hH hc.1.1.1 hc.1.1.2 rfl) hS rfl hl.1 rfl (by simp [cat_rf, Value.category]) dL_law_1158 ⟨(by show k0 + 0 + 1 + 2 ≤ 967961; omega), (by show n0 + 0 + 6 + 12 ≤ 6197586; omega)⟩ (fun E9 Z1 H locs ce q9 hpx hH hS hce hcv hcl => (PxQ hpx hq9).elim) (fun v Z1 H locs hpost hH hS => ?_)
      obtain ⟨rfl, L, K, si, P, rfl, hc⟩ := PoQ hpost hq9
      refine lv_istore (lv' := [(11, .int (nI (inc sz (n9 : Int) (T r) []).length)), (10, .int (nI n9)), (9, .int (nI n)), (8, .int (nI r)), (7, .int (nI G)), (4, .int x4), (3, .int x3), (2, .ref sa), (1, .ref o), (0, .ref b9)]) hx hb dL_law_1161 hl (by decide) rfl (fun ls hl => ?_)
      refine lv_aload_n hx hb dL_law_1163 rfl (lv_at hl 7 rfl) ?_
      refine lv_iload hx hb dL_law_1164 (lv_at hl 3 rfl) ?_
      refine lv_iload hx hb dL_law_1166 (lv_at hl 1 rfl) ?_
      have hI0 := hI
      have rc9 := rec9 hK hH hI.1 hI.2.1 (q := (RX4, TX4, 2)) rfl
      refine cyV S (c_X4_plant hI hOm hr6 hn9 hfm (by rw [hlen]; exact h40)) (cwV 2 hts gL_law_X4_plant rfl rfl rfl (by decide +kernel) ⟨Nat.le_of_ble_eq_true rfl, Nat.le_of_ble_eq_true rfl⟩) hK hH hX rc9 hS rfl hl.1 rfl (by simp [cat_rf, Value.category]) dL_law_1168 ⟨(by show k0 + 0 + 1 + 2 + 3 ≤ 967961; omega), (by show n0 + 0 + 6 + 12 + 84 ≤ 6197586; omega)⟩ (fun v Z1 H locs hpost hH hS => ?_)
      obtain ⟨rfl, C1, U1, E1, a2, rfl, hx9, hg9, fra, hI⟩ := hpost
      obtain ⟨L, K, rfl, hce⟩ := Ext_open hx9
      have hc := hce _ _ _ hc
      refine lv_pop hx hb dL_law_1171 rfl ?_
      refine lv_iload hx hb dL_law_1172 (lv_at hl 0 rfl) ?_
      refine lv_if_lt (tgt := 1225) hx hb dL_law_1174 (by decide) (fun h1 => absurd h1 (nI_pos (by omega))) (fun _ => ?_)
      refine lv_aload_n hx hb dL_law_1177 rfl (lv_at hl 8 rfl) ?_
      refine lv_iload hx hb dL_law_1178 (lv_at hl 3 rfl) ?_
      refine lv_iload hx hb dL_law_1180 (lv_at hl 1 rfl) ?_
      refine cVx S (c_X2_plant (row := nI r) (x := nI n9) hst hc) (cwV 2 hts gL_law_X2_plant rfl rfl rfl (by decide +kernel) ⟨Nat.le_of_ble_eq_true rfl, Nat.le_of_ble_eq_true rfl⟩) hK hH hX.1 (Hp_recv hK hH hc.1.1.1 hc.1.1.2 rfl) hS rfl hl.1 rfl (by simp [cat_rf, Value.category]) dL_law_1182 ⟨(by show k0 + 0 + 1 + 2 + 3 + 4 ≤ 967961; omega), (by show n0 + 0 + 6 + 12 + 84 + 24 ≤ 6197586; omega)⟩ (fun E9 Z1 H locs ce q9 hpx hH hS hce hcv hcl => ?_) (fun v Z1 H locs hpost hH hS => ?_)
      · exfalso
        obtain ⟨hp, -⟩ := hpx
        rcases hp with ⟨-, h1⟩ | ⟨-, -, h1⟩ | ⟨-, r1, n1, h1, h2, h3⟩
        · rw [rowN_nI hr6] at h1; cases h1
        · rw [szN_nI hn9] at h1; cases h1
        · rw [rowN_nI hr6] at h1
          cases h1
          rw [szN_nI hn9] at h2
          cases h2
          rcases h3 with h3 | ⟨a1, h3⟩
          · exact absurd h40 h3
          · rw [hf] at h3; cases h3
      obtain ⟨r1, n1, a1, sz1, bi1, e1, e2, e3, e4, e5, e6, e7, e8, e9, L2, K2, si2, P2, rfl, hc2⟩ := hpost
      rw [rowN_nI hr6] at e1
      cases e1
      rw [szN_nI hn9] at e2
      cases e2
      subst e5
      obtain ⟨hJ2, hY2⟩ := JR_plant (a' := a2) hJ hr6 e6 e7 e8 e9 (fun b hb9 h9 => by
        obtain ⟨i, hi, hm⟩ := gids_mem.mp hb9
        exact fra (by rw [← h9]; exact (sT_at _ (hI0.2.2.2.2 i hi) (φ b) (by show φ b ∈ tids (mp φ (T i)); rw [mp_tids]; exact List.mem_map.mpr ⟨b, hm, rfl⟩)).1))
      rw [hinc] at hI
      have hI : SI Γ (U1, E1) sa ta (mpT (va_up φ a1 a2) (va_up T r (spl a1 (inc sz (n9 : Int) (T r) []) (.leaf ()) (.leaf ())))) (va_up zz a2 n9) (va_up ee a2 0) (tu + (inc sz (n9 : Int) (T r) []).length) := by rw [hY2]; exact hI
      obtain ⟨T1, hT1⟩ : ∃ T1, T1 = va_up T r (spl a1 (inc sz (n9 : Int) (T r) []) (.leaf ()) (.leaf ())) := ⟨_, rfl⟩
      have hTr : T1 r = spl a1 (inc sz (n9 : Int) (T r) []) (.leaf ()) (.leaf ()) := by rw [hT1, va_up_self]
      rw [← hT1] at hI hJ2 hc2
      have htp : rt (T1 r) = some a1 := by rw [hTr]; exact spl_rt _ _ _ _
      have hl1 : (tids (T1 r)).length = n + 1 := by rw [hTr, hn]; exact inc_ids a1 sz _ (T r)
      obtain ⟨U, hU⟩ : ∃ U, U = U1 := ⟨_, rfl⟩
      obtain ⟨E, hE⟩ : ∃ E, E = E1 := ⟨_, rfl⟩
      have hc := hc2
      clear hY2 e9 hc2
      obtain ⟨φ1, hφ⟩ : ∃ f, f = va_up φ a1 a2 := ⟨_, rfl⟩
      rw [← hφ] at hI hJ2
      obtain ⟨zz1, hzz⟩ : ∃ f, f = va_up zz a2 n9 := ⟨_, rfl⟩
      rw [← hzz] at hI hJ2
      obtain ⟨ee1, hee⟩ : ∃ f, f = va_up ee a2 0 := ⟨_, rfl⟩
      rw [← hee] at hI hJ2
      have hOc1 := CI_SO hc
      have hOm1 := JR_SO hJ2 hOc1
      obtain ⟨hnd1, hs1, hz11, hn41, hh41, -⟩ := SO_at hOc1 hr6
      have ha1 : a1 ∈ tids (T1 r) := rt_mem htp
      have hf1 : fnd sz1 (n9 : Int) (T1 r) = some a1 := fnd_of (T1 r) a1 hs1 ha1 (by rw [e7])
      refine lv_iload hx hb dL_law_1185 (lv_at hl 0 rfl) ?_
      refine lv_icmp_ne (tgt := 1225) hx hb dL_law_1187 (by decide) (fun h1 => absurd h1 (fun h => h (rfl))) (fun _ => ?_)
      refine lv_aload_n hx hb dL_law_1190 rfl (lv_at hl 8 rfl) ?_
      refine lv_iload hx hb dL_law_1191 (lv_at hl 3 rfl) ?_
      generalize hL9 : L2 = L at hc hH
      generalize hK9 : K2 = K at hc hH
      generalize hsi9 : si2 = si at hc hH
      generalize hP9 : P2 = P at hc hH
      have hq9 := ((qr_n (f := fun r => er ((rt (T1 r)).map sz1)) hr6).trans (by rw [htp]; show ((0 : Nat), nI (sz1 a1)) = _; rw [e7]) : _ = ((0 : Nat), nI n9))
      refine cVx S (c_X2_top (row := nI r) hst hc) (cwV 1 hts gL_law_X2_top rfl rfl rfl (by decide +kernel) ⟨Nat.le_of_ble_eq_true rfl, Nat.le_of_ble_eq_true rfl⟩) hK hH hX.1 (Hp_recv hK hH hc.1.1.1 hc.1.1.2 rfl) hS rfl hl.1 rfl (by simp [cat_rf, Value.category]) dL_law_1193 ⟨(by show k0 + 0 + 1 + 2 + 3 + 4 + 1 ≤ 967961; omega), (by show n0 + 0 + 6 + 12 + 84 + 24 + 6 ≤ 6197586; omega)⟩ (fun E9 Z1 H locs ce q9 hpx hH hS hce hcv hcl => (PxQ hpx hq9).elim) (fun v Z1 H locs hpost hH hS => ?_)
      obtain ⟨rfl, L, K, si, P, rfl, hc⟩ := PoQ hpost hq9
      refine lv_iload hx hb dL_law_1196 (lv_at hl 1 rfl) ?_
      refine lv_icmp_ne (tgt := 1225) hx hb dL_law_1198 (by decide) (fun h1 => absurd h1 (fun h => h (rfl))) (fun _ => ?_)
      refine lv_aload_n hx hb dL_law_1201 rfl (lv_at hl 8 rfl) ?_
      refine lv_iload hx hb dL_law_1202 (lv_at hl 3 rfl) ?_
      have hq9 := ((qr_n (f := fun r => nI (tids (T1 r)).length) hr6).trans (by rw [hl1]) : _ = ((0 : Nat), nI (n + 1)))
      refine cVx S (c_X2_sizeOf (row := nI r) hst hc) (cwV 1 hts gL_law_X2_sizeOf rfl rfl rfl (by decide +kernel) ⟨Nat.le_of_ble_eq_true rfl, Nat.le_of_ble_eq_true rfl⟩) hK hH hX.1 (Hp_recv hK hH hc.1.1.1 hc.1.1.2 rfl) hS rfl hl.1 rfl (by simp [cat_rf, Value.category]) dL_law_1204 ⟨(by show k0 + 0 + 1 + 2 + 3 + 4 + 1 + 1 ≤ 967961; omega), (by show n0 + 0 + 6 + 12 + 84 + 24 + 6 + 6 ≤ 6197586; omega)⟩ (fun E9 Z1 H locs ce q9 hpx hH hS hce hcv hcl => (PxQ hpx hq9).elim) (fun v Z1 H locs hpost hH hS => ?_)
      obtain ⟨rfl, L, K, si, P, rfl, hc⟩ := PoQ hpost hq9
      refine lv_iload hx hb dL_law_1207 (lv_at hl 2 rfl) ?_
      refine lv_iconst (v := 1) hx hb dL_law_1209 (by decide) ?_
      refine lv_iadd hx hb dL_law_1210 ?_
      refine lv_icmp_ne (tgt := 1225) hx hb dL_law_1211 (by decide) (fun h1 => absurd h1 (fun h => h ((nI_1 n).symm))) (fun _ => ?_)
      refine lv_aload_n hx hb dL_law_1214 rfl (lv_at hl 8 rfl) ?_
      refine lv_iload hx hb dL_law_1215 (lv_at hl 3 rfl) ?_
      refine lv_iload hx hb dL_law_1217 (lv_at hl 1 rfl) ?_
      have hq9 := ((qa_n (f := fun r a => nI (bi1 a)) (n := n9) hr6 (by omega) hf1).trans (by rw [e8]; rfl) : _ = ((0 : Nat), (0 : Int32)))
      refine cVx S (c_X2_eaten (row := nI r) (x := nI n9) hst hc) (cwV 2 hts gL_law_X2_eaten rfl rfl rfl (by decide +kernel) ⟨Nat.le_of_ble_eq_true rfl, Nat.le_of_ble_eq_true rfl⟩) hK hH hX.1 (Hp_recv hK hH hc.1.1.1 hc.1.1.2 rfl) hS rfl hl.1 rfl (by simp [cat_rf, Value.category]) dL_law_1219 ⟨(by show k0 + 0 + 1 + 2 + 3 + 4 + 1 + 1 + 2 ≤ 967961; omega), (by show n0 + 0 + 6 + 12 + 84 + 24 + 6 + 6 + 12 ≤ 6197586; omega)⟩ (fun E9 Z1 H locs ce q9 hpx hH hS hce hcv hcl => (PxQ hpx hq9).elim) (fun v Z1 H locs hpost hH hS => ?_)
      obtain ⟨rfl, L, K, si, P, rfl, hc⟩ := PoQ hpost hq9
      refine lv_if_eq (tgt := 1227) hx hb dL_law_1222 (by decide) (fun _ => ?_) (fun h1 => absurd rfl h1)
      refine lv_aload_n hx hb dL_law_1227 rfl (lv_at hl 7 rfl) ?_
      refine lv_iload hx hb dL_law_1228 (lv_at hl 3 rfl) ?_
      refine lv_iload hx hb dL_law_1230 (lv_at hl 1 rfl) ?_
      have hfm1 : fnd zz1 (n9 : Int) (mpT φ1 T1 r) = some (φ1 a1) := by have h9 := J_fnd hJ2 hr6 (n9 : Int); rw [hf1] at h9; exact h9
      obtain ⟨j1, j2, j3⟩ := J_spz hJ2 hOc1 hr6 ha1
      obtain ⟨L9, R9, hsp, -, htd⟩ := spz_rt ha1
      have hspm : spz (zof (mpT φ1 T1 r) (φ1 a1)) = .branch (φ1 a1) (mp φ1 L9) (mp φ1 R9) := by rw [show spz (zof (mpT φ1 T1 r) (φ1 a1)) = mp φ1 (spz (zof (T1 r) a1)) from j2, hsp]; rfl
      have hnL : ((tids L9).map φ1).Nodup := by
        have q1 := JR_nd hJ2 hOc1 hr6
        rw [← htd, List.map_append, List.nodup_append] at q1
        exact q1.1
      have hjn : tids (jn L9 R9) = tids L9 ++ tids R9 := jn_tids (nd_map hnL)
      have hti : (nI n9).toInt = (n9 : Int) := nI_toInt (by omega)
      have rc9 := rec9 hK hH hI.1 hI.2.1 (q := (RX4, TX4, 2)) rfl
      refine cyV S (c_X4_pick hI hOm1 hr6 hn9 hfm1 hspm) (cwV 2 hts gL_law_X4_pick rfl rfl rfl (by decide +kernel) ⟨Nat.le_of_ble_eq_true rfl, Nat.le_of_ble_eq_true rfl⟩) hK hH hX rc9 hS rfl hl.1 rfl (by simp [cat_rf, Value.category]) dL_law_1232 ⟨(by show k0 + 0 + 1 + 2 + 3 + 4 + 1 + 1 + 2 + 2 ≤ 967961; omega), (by show n0 + 0 + 6 + 12 + 84 + 24 + 6 + 6 + 12 + 80 ≤ 6197586; omega)⟩ (fun v Z1 H locs hpost hH hS => ?_)
      obtain ⟨rfl, C1, U2, E2, rfl, hx9, hg9, hI⟩ := hpost
      obtain ⟨L, K, rfl, hce⟩ := Ext_open hx9
      have hc := hce _ _ _ hc
      refine lv_pop hx hb dL_law_1235 rfl ?_
      refine lv_aload_n hx hb dL_law_1236 rfl (lv_at hl 8 rfl) ?_
      refine lv_iload hx hb dL_law_1237 (lv_at hl 3 rfl) ?_
      refine lv_iload hx hb dL_law_1239 (lv_at hl 1 rfl) ?_
      refine cVx S (c_X2_pick (row := nI r) (x := nI n9) hst hc) (cwV 2 hts gL_law_X2_pick rfl rfl rfl (by decide +kernel) ⟨Nat.le_of_ble_eq_true rfl, Nat.le_of_ble_eq_true rfl⟩) hK hH hX.1 (Hp_recv hK hH hc.1.1.1 hc.1.1.2 rfl) hS rfl hl.1 rfl (by simp [cat_rf, Value.category]) dL_law_1241 ⟨(by show k0 + 0 + 1 + 2 + 3 + 4 + 1 + 1 + 2 + 2 + 2 ≤ 967961; omega), (by show n0 + 0 + 6 + 12 + 84 + 24 + 6 + 6 + 12 + 80 + 12 ≤ 6197586; omega)⟩ (fun E9 Z1 H locs ce q9 hpx hH hS hce hcv hcl => ?_) (fun v Z1 H locs hpost hH hS => ?_)
      · exfalso
        obtain ⟨hp, -⟩ := hpx
        rcases hp with ⟨-, h1⟩ | ⟨-, r1, h1, h2⟩
        · rw [rowN_nI hr6] at h1; cases h1
        · rw [rowN_nI hr6] at h1
          cases h1
          rw [hti, hf1] at h2
          cases h2
      obtain ⟨r1, a3, L8, R8, e1, e2, e3, e4, L3, K3, si3, P3, rfl, hc3⟩ := hpost
      rw [rowN_nI hr6] at e1
      cases e1
      rw [hti, hf1] at e2
      cases e2
      rw [hsp] at e3
      cases e3
      rw [e8] at e4
      subst e4
      have hJ3 : JR (va_up T1 r (jn L9 R9)) sz1 bi1 zz1 ee1 φ1 k := JR_sub hJ2 (gids_up1 hr6 (fun b hb9 => by
        rw [hjn] at hb9
        rw [← htd]
        rcases List.mem_append.mp hb9 with h | h
        · simp [h]
        · simp [h])) (up6 hJ2.2.2.2 hr6) (Nat.le_refl _)
      have hI : SI Γ (U2, E2) sa ta (mpT φ1 (va_up T1 r (jn L9 R9))) zz1 ee1 (tu + (inc sz (n9 : Int) (T r) []).length + (zof (T1 r) a1).2.2.2.length + appN L9) := by
        have q1 : mpT φ1 (va_up T1 r (jn L9 R9)) = va_up (mpT φ1 T1) r (jn (mp φ1 L9) (mp φ1 R9)) := by rw [jn_mp hnL]; exact va_mp
        rw [q1, ← j3, ← appN_mp (φ := φ1) hnL]
        exact hI
      obtain ⟨T3, hT3⟩ : ∃ T3, T3 = va_up T1 r (jn L9 R9) := ⟨_, rfl⟩
      have hTr3 : T3 r = jn L9 R9 := by rw [hT3, va_up_self]
      rw [← hT3] at hI hJ3 hc3
      have hl3 : (tids (T3 r)).length = n := by
        have q1 := congrArg List.length htd
        rw [List.length_append, List.length_cons] at q1
        rw [hTr3, hjn, List.length_append]
        omega
      have hf3 : fnd sz1 (n9 : Int) (T3 r) = none := fnd_no (fun b hb9 h9 => by
        rw [hTr3, hjn] at hb9
        have hbm : b ∈ tids (T1 r) := by
          rw [← htd]
          rcases List.mem_append.mp hb9 with h | h
          · simp [h]
          · simp [h]
        have hba : b = a1 := srt_inj hs1 hbm ha1 (by rw [h9, e7])
        subst hba
        have q1 := hnd1
        rw [← htd] at q1
        have q2 := (List.nodup_append.mp q1)
        rcases List.mem_append.mp hb9 with h | h
        · exact absurd rfl (q2.2.2 b h b (by simp))
        · exact (List.nodup_cons.mp q2.2.1).1 h)
      generalize hL8 : L3 = L at hc3 hH
      generalize hK8 : K3 = K at hc3 hH
      generalize hsi8 : si3 = si at hc3 hH
      generalize hP8 : P3 = P at hc3 hH
      have hc := hc3
      refine lv_if_ne (tgt := 1269) hx hb dL_law_1244 (by decide) (fun h1 => absurd h1 (fun h => h rfl)) (fun _ => ?_)
      refine lv_aload_n hx hb dL_law_1247 rfl (lv_at hl 8 rfl) ?_
      refine lv_iload hx hb dL_law_1248 (lv_at hl 3 rfl) ?_
      refine lv_iload hx hb dL_law_1250 (lv_at hl 1 rfl) ?_
      have hq9 := ((qr_n (f := fun r => if (fnd sz1 (nI n9).toInt (T3 r)).isSome then 1 else 0) hr6).trans (by rw [hti, hf3]; rfl) : _ = ((0 : Nat), (0 : Int32)))
      refine cVx S (c_X2_has (row := nI r) (x := nI n9) hst hc) (cwV 2 hts gL_law_X2_has rfl rfl rfl (by decide +kernel) ⟨Nat.le_of_ble_eq_true rfl, Nat.le_of_ble_eq_true rfl⟩) hK hH hX.1 (Hp_recv hK hH hc.1.1.1 hc.1.1.2 rfl) hS rfl hl.1 rfl (by simp [cat_rf, Value.category]) dL_law_1252 ⟨(by show k0 + 0 + 1 + 2 + 3 + 4 + 1 + 1 + 2 + 2 + 2 + 1 ≤ 967961; omega), (by show n0 + 0 + 6 + 12 + 84 + 24 + 6 + 6 + 12 + 80 + 12 + 6 ≤ 6197586; omega)⟩ (fun E9 Z1 H locs ce q9 hpx hH hS hce hcv hcl => (PxQ hpx hq9).elim) (fun v Z1 H locs hpost hH hS => ?_)
      obtain ⟨rfl, L, K, si, P, rfl, hc⟩ := PoQ hpost hq9
      refine lv_if_ne (tgt := 1269) hx hb dL_law_1255 (by decide) (fun h1 => absurd h1 (fun h => h rfl)) (fun _ => ?_)
      refine lv_aload_n hx hb dL_law_1258 rfl (lv_at hl 8 rfl) ?_
      refine lv_iload hx hb dL_law_1259 (lv_at hl 3 rfl) ?_
      have hq9 := ((qr_n (f := fun r => nI (tids (T3 r)).length) hr6).trans (by rw [hl3]) : _ = ((0 : Nat), nI n))
      refine cVx S (c_X2_sizeOf (row := nI r) hst hc) (cwV 1 hts gL_law_X2_sizeOf rfl rfl rfl (by decide +kernel) ⟨Nat.le_of_ble_eq_true rfl, Nat.le_of_ble_eq_true rfl⟩) hK hH hX.1 (Hp_recv hK hH hc.1.1.1 hc.1.1.2 rfl) hS rfl hl.1 rfl (by simp [cat_rf, Value.category]) dL_law_1261 ⟨(by show k0 + 0 + 1 + 2 + 3 + 4 + 1 + 1 + 2 + 2 + 2 + 1 + 1 ≤ 967961; omega), (by show n0 + 0 + 6 + 12 + 84 + 24 + 6 + 6 + 12 + 80 + 12 + 6 + 6 ≤ 6197586; omega)⟩ (fun E9 Z1 H locs ce q9 hpx hH hS hce hcv hcl => (PxQ hpx hq9).elim) (fun v Z1 H locs hpost hH hS => ?_)
      obtain ⟨rfl, L, K, si, P, rfl, hc⟩ := PoQ hpost hq9
      refine lv_iload hx hb dL_law_1264 (lv_at hl 2 rfl) ?_
      refine lv_icmp_eq (tgt := 1271) hx hb dL_law_1266 (by decide) (fun _ => ?_) (fun h1 => absurd rfl h1)
      refine W.widen (k := k0 + 100) (n := n0 + 1000) (by show k0 + 0 + 1 + 2 + 3 + 4 + 1 + 1 + 2 + 2 + 2 + 1 + 1 ≤ k0 + 100; omega) (by show n0 + 0 + 6 + 12 + 84 + 24 + 6 + 6 + 12 + 80 + 12 + 6 + 6 ≤ n0 + 1000; omega) ?_
      exact kk _ H locs ls ⟨T3, L, K, sz1, si, P, bi1, _, U2, E2, zz1, ee1, φ1, rfl, hc, hI, hJ3⟩ hH hS (lv_sub hl [6, 7, 8, 9] rfl)
