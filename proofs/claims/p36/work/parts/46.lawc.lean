/-! THE LAW: the orchard that the cells choose -/
section MLaw3
variable {l : Launch} {D : va_G} {lo : Nat} {Γ : GT} {C : CW} {V : Int64 × UInt64} {U : List Nat} {E : Nat → va_E} {zz ee : Nat → Nat}
set_option maxRecDepth 100000 in
set_option maxHeartbeats 4000000 in
theorem c_L_build {o b9 N9 : Nat} {xs : Nat → Int32} {L : List Nat} {K sz : Nat → Nat} {si : Nat → Option Nat} {P : PF} {bi : Nat → Nat} {U : List Nat} {E : Nat → va_E} (hN9 : N9 < 2 ^ 31) (hst : l.stackTraces = false) (hc : CI Γ o (fun _ => .leaf ()) L K sz si P) : Mc l yL_build wsL_build (rmL 52 30308 1206010) D lo Γ b9 N9 xs [.ref o, .ref b9] ((L, K, sz, si, P, bi, 0), (U, E), V) (fun v Z' => ∃ sa ta, v = some (.ref sa) ∧ JX Γ o sa ta 30 V Z') := by
  refine Mc_of (cc := cL_build) (maxL := 6) (ret := (some (.object "SplayOrchardLaw$Sim"))) (by decide) rfl (Nat.le_of_ble_eq_true rfl) ?_
  intro p e s m args below meth c ls S hr hlocks hK hH hS hXC hl
  have hX := hXC.1
  have hx := S.1
  have hb := S.2.1
  have hts := S.2.2.2.2
  have hi4 : ∀ w ∈ wsX40, w ∈ wsL_build := by decide +kernel
  have hlo : lo ≤ s.heap.size := hH.2.2.1.1
  have hg : Gr (U, E) (U, E) [] := Gr.rf _ _
  have hE : Ext (L, K, sz, si, P, bi, 0) (L, K, sz, si, P, bi, 0) := Ext.rf _
  have hl : lv_has ls 6 [(0, .ref o), (1, .ref b9)] := hl
  refine nM S hi4 (hts _ (List.mem_of_getElem? (i := 1) rfl)) (hts _ (List.mem_of_getElem? (i := 2) rfl)) (hts _ (List.mem_of_getElem? (i := 3) rfl)) hK hH hlo hS (Nat.le_of_ble_eq_true rfl) (Nat.le_of_ble_eq_true rfl) dL_build_0 (fun sa C3 U2 E1 H fr hx9 m_sa su e_sa ho hH hS => ?_)
  have hg := hg.new fr su ho
  have hE := hE.tr hx9
  have fr0 := fr
  refine lv_dup hx hb dL_build_3 rfl ?_
  refine cyIN S (c_X4_init m_sa e_sa) ⟨va_cnB 0 hts gL_build_X4_init_n75 rfl rfl rfl hXC.2.2.2 (hts _ (List.mem_of_getElem? (i := 3) rfl)) (by decide +kernel) ⟨Nat.le_of_ble_eq_true rfl, Nat.le_of_ble_eq_true rfl⟩, rfl, hts _ (List.mem_of_getElem? (i := 4) rfl)⟩ hK hH hX hS rfl hl.1 rfl (by simp [cat_rf, Value.category]) dL_build_4 ⟨Nat.le_of_ble_eq_true rfl, Nat.le_of_ble_eq_true rfl⟩ (fun v Z1 H locs hpost hH hS => ?_)
  obtain ⟨rfl, C2, U2, E2, ta, rfl, hx9, hg9, frt, m_ta, e_ta, e_sa⟩ := hpost
  have m_sa := hg9.1 sa m_sa
  have hE := hE.tr hx9
  obtain ⟨L2, K2, eC, hce⟩ := Ext_open hE
  rw [eC] at hH
  have hc := hce _ _ _ hc
  have hI : SI Γ (U2, E2) sa ta (mpT (fun _ => 0) (fun _ => .leaf ())) (fun _ => 0) (fun _ => 0) 0 := ⟨m_sa, e_sa, m_ta, e_ta, fun _ _ => trivial⟩
  have hJ : JR (fun _ => .leaf ()) sz bi (fun _ => 0) (fun _ => 0) (fun _ => 0) 0 := ⟨fun _ h => (by cases h), fun _ h => (by cases h), fun _ h => (by cases h), fun _ _ => rfl⟩
  have hJX : JX Γ o sa ta 0 V ((L2, K2, sz, si, P, bi, 0), (U2, E2), V) := ⟨_, L2, K2, sz, si, P, bi, 0, U2, E2, _, _, _, rfl, hc, hI, hJ⟩
  generalize ((L2, K2, sz, si, P, bi, 0), (U2, E2), V) = Z at hH hJX
  refine W.widen (k := 8) (n := 10) (Nat.le_of_ble_eq_true rfl) (Nat.le_of_ble_eq_true rfl) ?_
  refine lv_astore_n (lv' := [(2, .ref sa), (0, .ref o), (1, .ref b9)]) hx hb dL_build_7 rfl hl (by decide) rfl (fun ls hl => ?_)
  refine lv_bipush (v := 6) hx hb dL_build_8 (by decide +kernel) ?_
  refine lv_aload_n hx hb dL_build_10 rfl (lv_at hl 2 rfl) ?_
  refine lv_iconst (v := 0) hx hb dL_build_11 (by decide) ?_
  refine ccS S (c_L_cell (k := 0) hN9 (by decide)) (va_cwS 2 hts gL_build_L_cell rfl rfl rfl (by decide +kernel) ⟨Nat.le_of_ble_eq_true rfl, Nat.le_of_ble_eq_true rfl⟩) hK hH hXC hS rfl hl.1 rfl (by simp [cat_rf, Value.category]) dL_build_12 ⟨Nat.le_of_ble_eq_true rfl, Nat.le_of_ble_eq_true rfl⟩ (fun v Z1 H locs hpost hH hS => ?_)
  obtain ⟨y0, rfl, hz9⟩ := hpost
  rw [hz9] at hH
  refine lv_bipush (v := 24) hx hb dL_build_15 (by decide +kernel) ?_
  refine cyS S (c_L_below (n := 24) (by decide) (by decide)) (va_cwS 2 hts gL_build_L_below rfl rfl rfl (by decide +kernel) ⟨Nat.le_of_ble_eq_true rfl, Nat.le_of_ble_eq_true rfl⟩) hK hH hX hS rfl hl.1 rfl (by simp [cat_rf, Value.category]) dL_build_17 ⟨Nat.le_of_ble_eq_true rfl, Nat.le_of_ble_eq_true rfl⟩ (fun v Z1 H locs hpost hH hS => ?_)
  obtain ⟨j0, hj0, rfl, hz9⟩ := hpost
  rw [hz9] at hH
  refine lv_iadd hx hb dL_build_20 ?_
  rw [show ((6 : Int32) + nI j0) = nI (6 + j0) from nI_add 6 j0]
  refine lv_istore_n (lv' := [(3, .int (nI (6 + j0))), (2, .ref sa), (0, .ref o), (1, .ref b9)]) hx hb dL_build_21 rfl hl (by decide) rfl (fun ls hl => ?_)
  refine lv_iconst (v := 0) hx hb dL_build_22 (by decide) ?_
  refine lv_istore (lv' := [(4, .int 0), (3, .int (nI (6 + j0))), (2, .ref sa), (0, .ref o), (1, .ref b9)]) hx hb dL_build_23 hl (by decide) rfl (fun ls hl => ?_)
  have loop : ∀ (n k9 : Nat) (Z : WS), n + k9 = 6 + j0 → JX Γ o sa ta k9 V Z → ∀ H locs, Hp D lo Γ Z H → va_S (lA lo) s.heap H locs → ∀ ls, lv_has ls 6 [(4, .int (nI k9)), (3, .int (nI (6 + j0))), (2, .ref sa), (0, .ref o), (1, .ref b9)] → W p l e (rmL 52 30308 1206010) s m args below meth c H locs (8 + 1010 * k9) (10 + 40200 * k9) (MQ below (Qz D lo Γ (fun v Z' => ∃ sa ta, v = some (.ref sa) ∧ JX Γ o sa ta 30 V Z')) args s ((rmL 52 30308 1206010) : Room).cells ((rmL 52 30308 1206010) : Room).slots (lA lo)) (F0 m 25 ls []) := by
    intro n
    induction n with
    | zero =>
      intro k9 Z hk hJX H locs hH hS ls hl
      have hk : k9 = 6 + j0 := by omega
      subst hk
      refine lv_iload hx hb dL_build_25 (lv_at hl 0 rfl) ?_
      refine lv_iload_n hx hb dL_build_27 rfl (lv_at hl 1 rfl) ?_
      refine lv_icmp_ge (tgt := 107) hx hb dL_build_28 (by decide) (fun _ => ?_) (fun h1 => absurd (Int32.le_refl _) h1)
      refine lv_aload_n hx hb dL_build_107 rfl (lv_at hl 2 rfl) ?_
      refine W.widen (k := ((rmL 52 30308 1206010) : Room).cells) (n := ((rmL 52 30308 1206010) : Room).slots) (by show 8 + 1010 * (6 + j0) ≤ 30308; omega) (by show 10 + 40200 * (6 + j0) ≤ 1206010; omega) ?_
      exact eA S hr hlocks (some sa) rfl hH hS ⟨sa, ta, rfl, JX_up hJX (by omega)⟩ dL_build_108
    | succ n ih =>
      intro k9 Z hk hJX H locs hH hS ls hl
      have hk9 : k9 < 6 + j0 := by omega
      refine lv_iload hx hb dL_build_25 (lv_at hl 0 rfl) ?_
      refine lv_iload_n hx hb dL_build_27 rfl (lv_at hl 1 rfl) ?_
      refine lv_icmp_ge (tgt := 107) hx hb dL_build_28 (by decide) (fun h1 => absurd h1 (nI_ge hk9 (by omega))) (fun _ => ?_)
      refine lv_aload_n hx hb dL_build_31 rfl (lv_at hl 4 rfl) ?_
      refine lv_iconst (v := 1) hx hb dL_build_32 (by decide) ?_
      refine lv_iload hx hb dL_build_33 (lv_at hl 0 rfl) ?_
      refine lv_bipush (v := nI 15) hx hb dL_build_35 (by decide +kernel) ?_
      refine lv_irem hx hb dL_build_37 (nI_ne0 (by decide) (by decide)) ?_
      rw [pk_rem (by omega) (by decide) (by decide)]
      refine lv_iadd hx hb dL_build_38 ?_
      rw [show ((1 : Int32) + nI (k9 % 15)) = nI (1 + k9 % 15) from nI_add 1 _]
      refine ccS S (c_L_cell (k := 1 + k9 % 15) hN9 (by omega)) (va_cwS 2 hts gL_build_L_cell rfl rfl rfl (by decide +kernel) ⟨Nat.le_of_ble_eq_true rfl, Nat.le_of_ble_eq_true rfl⟩) hK hH hXC hS rfl hl.1 rfl (by simp [cat_rf, Value.category]) dL_build_39 ⟨(by show 8 + 1010 * k9 + 0 ≤ 30308; omega), (by show 10 + 40200 * k9 + 0 ≤ 1206010; omega)⟩ (fun v Z1 H locs hpost hH hS => ?_)
      obtain ⟨y1, rfl, hz9⟩ := hpost
      rw [hz9] at hH
      refine lv_iload hx hb dL_build_42 (lv_at hl 0 rfl) ?_
      refine lv_bipush (v := 15) hx hb dL_build_44 (by decide +kernel) ?_
      refine lv_idiv hx hb dL_build_46 (by decide) ?_
      refine lv_iconst (v := 3) hx hb dL_build_47 (by decide) ?_
      refine lv_imul hx hb dL_build_48 ?_
      refine lv_ishr hx hb dL_build_49 ?_
      refine lv_bipush (v := 37) hx hb dL_build_50 (by decide +kernel) ?_
      refine lv_iload hx hb dL_build_52 (lv_at hl 0 rfl) ?_
      refine lv_imul hx hb dL_build_54 ?_
      refine lv_iadd hx hb dL_build_55 ?_
      generalize hx5 : ((y1 >>> (((nI k9 / 15) * 3) &&& 31)) + (37 * nI k9)) = x5
      refine lv_istore (lv' := [(5, .int x5), (4, .int (nI k9)), (3, .int (nI (6 + j0))), (2, .ref sa), (0, .ref o), (1, .ref b9)]) hx hb dL_build_56 hl (by decide) rfl (fun ls hl => ?_)
      refine lv_aload_n hx hb dL_build_58 rfl (lv_at hl 4 rfl) ?_
      refine lv_aload_n hx hb dL_build_59 rfl (lv_at hl 3 rfl) ?_
      refine lv_iload hx hb dL_build_60 (lv_at hl 1 rfl) ?_
      refine lv_iconst (v := 4) hx hb dL_build_62 (by decide) ?_
      refine lv_irem hx hb dL_build_63 (by decide) ?_
      refine lv_iconst (v := 3) hx hb dL_build_64 (by decide) ?_
      refine lv_icmp_ge (tgt := 91) hx hb dL_build_65 (by decide) (fun h1 => ?_) (fun h1 => ?_)
      · skip
        refine lv_iload hx hb dL_build_91 (lv_at hl 0 rfl) ?_
        refine cySW S (c_L_act (x := x5) hst hJX) (vx_cwSW 3 hts gL_build_L_act rfl rfl rfl (by decide +kernel) ⟨Nat.le_of_ble_eq_true rfl, Nat.le_of_ble_eq_true rfl⟩) hK hH hX hS rfl hl.1 rfl (by simp [cat_rf, Value.category]) dL_build_93 ⟨(by show 8 + 1010 * k9 + 0 + 1010 ≤ 30308; omega), (by show 10 + 40200 * k9 + 0 + 40200 ≤ 1206010; omega)⟩ (fun v Z1 H locs hpost hH hS => ?_)
        obtain ⟨rfl, hJX⟩ := hpost
        refine lv_if_ne (tgt := 101) hx hb dL_build_96 (by decide) (fun _ => ?_) (fun h1 => absurd h1 (by decide))
        refine lv_iinc (v := nI (k9 + 1)) (lv' := [(4, .int (nI (k9 + 1))), (5, .int x5), (3, .int (nI (6 + j0))), (2, .ref sa), (0, .ref o), (1, .ref b9)]) hx hb dL_build_101 hl (k := 1) rfl (nI_1 k9) (by decide) rfl (fun ls hl => ?_)
        refine lv_goto (tgt := 25) hx hb dL_build_104 (by decide) ?_
        refine W.widen (k := 8 + 1010 * (k9 + 1)) (n := 10 + 40200 * (k9 + 1)) (by show 8 + 1010 * k9 + 0 + 1010 ≤ _; omega) (by show 10 + 40200 * k9 + 0 + 40200 ≤ _; omega) ?_
        exact ih (k9 + 1) Z1 (by omega) hJX H locs hH hS ls (lv_sub hl [0, 2, 3, 4, 5] rfl)
      · skip
        refine lv_iload hx hb dL_build_68 (lv_at hl 0 rfl) ?_
        refine lv_iload hx hb dL_build_70 (lv_at hl 0 rfl) ?_
        refine lv_bipush (v := 14) hx hb dL_build_72 (by decide +kernel) ?_
        refine cyS S (c_L_below (n := 14) (by decide) (by decide)) (va_cwS 2 hts gL_build_L_below rfl rfl rfl (by decide +kernel) ⟨Nat.le_of_ble_eq_true rfl, Nat.le_of_ble_eq_true rfl⟩) hK hH hX hS rfl hl.1 rfl (by simp [cat_rf, Value.category]) dL_build_74 ⟨(by show 8 + 1010 * k9 + 0 ≤ 30308; omega), (by show 10 + 40200 * k9 + 0 ≤ 1206010; omega)⟩ (fun v Z1 H locs hpost hH hS => ?_)
        obtain ⟨j1, hj1, rfl, hz9⟩ := hpost
        rw [hz9] at hH
        refine lv_isub hx hb dL_build_77 ?_
        refine lv_iload hx hb dL_build_78 (lv_at hl 0 rfl) ?_
        refine lv_iconst (v := 5) hx hb dL_build_80 (by decide) ?_
        refine lv_ishr hx hb dL_build_81 ?_
        refine lv_bipush (v := 7) hx hb dL_build_82 (by decide +kernel) ?_
        refine cyS S (c_L_below (n := 7) (by decide) (by decide)) (va_cwS 2 hts gL_build_L_below rfl rfl rfl (by decide +kernel) ⟨Nat.le_of_ble_eq_true rfl, Nat.le_of_ble_eq_true rfl⟩) hK hH hX hS rfl hl.1 rfl (by simp [cat_rf, Value.category]) dL_build_84 ⟨(by show 8 + 1010 * k9 + 0 + 0 ≤ 30308; omega), (by show 10 + 40200 * k9 + 0 + 0 ≤ 1206010; omega)⟩ (fun v Z1 H locs hpost hH hS => ?_)
        obtain ⟨j2, hj2, rfl, hz9⟩ := hpost
        rw [hz9] at hH
        refine lv_iadd hx hb dL_build_87 ?_
        refine lv_goto (tgt := 93) hx hb dL_build_88 (by decide) ?_
        refine cySW S (c_L_act (x := ((x5 - nI j1) + nI j2)) hst hJX) (vx_cwSW 3 hts gL_build_L_act rfl rfl rfl (by decide +kernel) ⟨Nat.le_of_ble_eq_true rfl, Nat.le_of_ble_eq_true rfl⟩) hK hH hX hS rfl hl.1 rfl (by simp [cat_rf, Value.category]) dL_build_93 ⟨(by show 8 + 1010 * k9 + 0 + 0 + 0 + 1010 ≤ 30308; omega), (by show 10 + 40200 * k9 + 0 + 0 + 0 + 40200 ≤ 1206010; omega)⟩ (fun v Z1 H locs hpost hH hS => ?_)
        obtain ⟨rfl, hJX⟩ := hpost
        refine lv_if_ne (tgt := 101) hx hb dL_build_96 (by decide) (fun _ => ?_) (fun h1 => absurd h1 (by decide))
        refine lv_iinc (v := nI (k9 + 1)) (lv' := [(4, .int (nI (k9 + 1))), (5, .int x5), (3, .int (nI (6 + j0))), (2, .ref sa), (0, .ref o), (1, .ref b9)]) hx hb dL_build_101 hl (k := 1) rfl (nI_1 k9) (by decide) rfl (fun ls hl => ?_)
        refine lv_goto (tgt := 25) hx hb dL_build_104 (by decide) ?_
        refine W.widen (k := 8 + 1010 * (k9 + 1)) (n := 10 + 40200 * (k9 + 1)) (by show 8 + 1010 * k9 + 0 + 0 + 0 + 1010 ≤ _; omega) (by show 10 + 40200 * k9 + 0 + 0 + 0 + 40200 ≤ _; omega) ?_
        exact ih (k9 + 1) Z1 (by omega) hJX H locs hH hS ls (lv_sub hl [0, 2, 3, 4, 5] rfl)
  exact loop (6 + j0) 0 _ rfl hJX _ _ hH hS ls (lv_sub hl [0, 1, 2, 3, 4] rfl)
end MLaw3
