/-! THE LAW: what its queries answer; all as by hand -/
theorem nI_pm {n : Nat} (h : 0 < n) : nI n - 1 = nI (n - 1) := by
  obtain ⟨k, rfl⟩ : ∃ k, n = k + 1 := ⟨n - 1, by omega⟩
  exact nI_pred k
theorem PoQ {Γ : GT} {o : Nat} {T : Nat → Tr} {sz bi : Nat → Nat} {tu : Nat} {M : MW} {V : Int64 × UInt64} {rs : Nat × Int32} {x : Int32} {v : Option Value} {Z : WS} (h : PoI Γ o T sz bi tu M V rs v Z) (e : rs = (0, x)) : v = some (.int x) ∧ CSW Γ o T sz bi tu M V Z := by
  subst e
  exact h.2
theorem PxQ {Γ : GT} {o : Nat} {T : Nat → Tr} {sz bi : Nat → Nat} {tu : Nat} {M : MW} {V : Int64 × UInt64} {rs : Nat × Int32} {x : Int32} {en : Nat → String} {E : String} {Z : WS} (h : PxI Γ o T sz bi tu M V rs en E Z) (e : rs = (0, x)) : False := by
  subst e
  exact h.1 rfl
theorem qr_n {f : Nat → Int32} {r : Nat} (hr : r < 6) : qr (nI r) f = (0, f r) := by rw [qr, rowN_nI hr]
theorem qa_n {T : Nat → Tr} {sz : Nat → Nat} {f : Nat → Nat → Int32} {r n a : Nat} (hr : r < 6) (hn : n < 2 ^ 31) (hf : fnd sz (n : Int) (T r) = some a) : qa T sz (nI r) (nI n) f = (0, f r a) := by
  rw [qa, rowN_nI hr, nI_toInt hn]
  dsimp only
  rw [hf]
theorem atL_n : ∀ (l : List Nat) (i j : Nat), i + l.length < 2 ^ 31 → i ≤ j → j < 2 ^ 31 → atL l (nI j) i = l[j - i]? := by
  intro l
  induction l with
  | nil => intro i j _ _ _; rfl
  | cons b l ih =>
    intro i j hi hij hj
    rw [List.length_cons] at hi
    rw [atL]
    by_cases e : i = j
    · subst e
      rw [if_pos rfl, Nat.sub_self]; rfl
    · rw [if_neg (fun h => e ((nI_eq (by omega) hj).mp h)), ih (i + 1) j (by omega) (by omega) hj, show j - i = (j - (i + 1)) + 1 by omega]
      rfl
theorem qo_n {T : Nat → Tr} {sz : Nat → Nat} {r j a : Nat} (hr : r < 6) (hj : (tids (T r)).length < 2 ^ 31 ∧ j < 2 ^ 31) (ha : (tids (T r))[j]? = some a) : qo T sz (nI r) (nI j) = (0, nI (sz a)) := by
  rw [qo, rowN_nI hr]
  dsimp only
  rw [atL_n _ 0 j (by omega) (Nat.zero_le _) hj.2, Nat.sub_zero, ha]
theorem sT_zof {M : MW} {zz ee : Nat → Nat} {t : Tr} {a : Nat} (h : sT M zz ee t) (ha : a ∈ tids t) : (a ∈ M.1 ∧ M.2 a = aC zz ee a (rt (zof t a).2.1) (rt (zof t a).2.2.1)) ∧ sT M zz ee (zof t a).2.1 ∧ sT M zz ee (zof t a).2.2.1 := by
  have h1 := (sZ_plug (zof t a).2.2.2 (.branch a (zof t a).2.1 (zof t a).2.2.1)).mpr (by rw [zof_plug ha]; exact h)
  exact h1.1
theorem zof_len {t : Tr} {a : Nat} (ha : a ∈ tids t) : (tids (zof t a).2.1).length + (tids (zof t a).2.2.1).length + 1 ≤ (tids t).length ∧ (zof t a).2.2.2.length + 1 ≤ hgt t := by
  refine ⟨?_, ?_⟩
  · have h1 : (tids (plug (.branch a (zof t a).2.1 (zof t a).2.2.1) (zof t a).2.2.2)).length = (tids t).length := congrArg (fun u => (tids u).length) (zof_plug ha)
    rw [tids_plug] at h1
    simp only [tids, List.length_append, List.length_cons] at h1
    omega
  · have key : ∀ (C : Cx) (u : Tr), hgt u + C.length ≤ hgt (plug u C) := by
      intro C
      induction C with
      | nil => intro u; exact Nat.le_refl _
      | cons f C ih =>
        intro u
        obtain ⟨s, p, w⟩ := f
        have h1 := ih (nd s p u w)
        have h2 : hgt u + 1 ≤ hgt (nd s p u w) := by cases s <;> simp only [nd, cond_true, cond_false, hgt] <;> omega
        rw [plug, List.length_cons]
        omega
    have h1 := key (zof t a).2.2.2 (.branch a (zof t a).2.1 (zof t a).2.2.1)
    rw [zof_plug ha, hgt] at h1
    omega
theorem mdp_ok {t : Tr} (hn : 0 < (tids t).length) (h31 : (tids t).length < 2 ^ 31) : Op.cmpValue (FP.dcmp (mdp t) (FP.ddiv (FP.i2d (nI (dsm t 0))) (FP.i2d (nI (tids t).length)))) .l = 0 := by
  have e : mdp t = FP.ddiv (FP.i2d (nI (dsm t 0))) (FP.i2d (nI (tids t).length)) := by rw [mdp, if_neg (by omega)]
  rw [e]
  have h := Fl.dcmp_of_noNaN64 (Fl.ddiv_out (Fl.i2d_fin (nI (dsm t 0))).noNaN (Fl.i2d_fin (nI (tids t).length)) (Fl.i2d_nz (nI_ne0 hn h31)))
  revert h
  cases FP.dcmp (FP.ddiv (FP.i2d (nI (dsm t 0))) (FP.i2d (nI (tids t).length))) (FP.ddiv (FP.i2d (nI (dsm t 0))) (FP.i2d (nI (tids t).length))) with
  | none => intro h; exact absurd h (by decide)
  | some o => cases o <;> intro h <;> first | rfl | exact absurd h (by decide)
theorem mdp_0 {t : Tr} (hn : (tids t).length = 0) : Op.cmpValue (FP.dcmp (mdp t) FP.dconst0) .l = 0 := by
  rw [mdp, if_pos hn]
  decide +kernel
section MLaw4
variable {l : Launch} {D : va_G} {lo : Nat} {Γ : GT} {C : CW} {V : Int64 × UInt64} {U : List Nat} {E : Nat → va_E} {zz ee : Nat → Nat}
set_option maxRecDepth 100000 in
set_option maxHeartbeats 4000000 in
theorem c_X4_isSame {o sa ta k : Nat} {Z : WS} (hst : l.stackTraces = false) (hZ : JX Γ o sa ta k V Z) : My l yX4_isSame wsX4_isSame (rmL 50 3700 30400) D lo Γ [.ref sa, .ref o] Z (fun v Z' => v = some (.int 1)) := by
  obtain ⟨T, L, K, sz, si, P, bi, tu, U, E, zz, ee, φ, rfl, hc, hI, hJ⟩ := hZ
  refine My_of (cc := cX4_isSame) (maxL := 9) (ret := (some .boolean)) (by decide) rfl (Nat.le_of_ble_eq_true rfl) ?_
  intro p e s m args below meth c ls hname S hr hlocks hK hH hS hX hl
  have hx := S.1
  have hb := S.2.1
  have hts := S.2.2.2.2
  have f9 : (Cond.fieldLink RX4 9 (TX4 0).1 (TX4 0).2.1 (TX4 0).2.2.1).before args s = true := hts _ (List.mem_of_getElem? (i := 1) rfl)
  have f24 : (Cond.fieldLink RX4 24 (TX3 0).1 (TX3 0).2.1 (TX3 0).2.2.1).before args s = true := hts _ (List.mem_of_getElem? (i := 3) rfl)
  have f33 : (Cond.fieldLink RX4 33 (TX3 2).1 (TX3 2).2.1 (TX3 2).2.2.1).before args s = true := hts _ (List.mem_of_getElem? (i := 4) rfl)
  have f37 : (Cond.fieldLink RX4 37 (TX3 3).1 (TX3 3).2.1 (TX3 3).2.2.1).before args s = true := hts _ (List.mem_of_getElem? (i := 5) rfl)
  have f30 : (Cond.fieldLink RX4 30 (TX3 1).1 (TX3 1).2.1 (TX3 1).2.2.1).before args s = true := hts _ (List.mem_of_getElem? (i := 6) rfl)
  have f20 : (Cond.fieldLink RX4 20 (TX4 1).1 (TX4 1).2.1 (TX4 1).2.2.1).before args s = true := hts _ (List.mem_of_getElem? (i := 7) rfl)
  have hi3 : ∀ w ∈ wsX30, w ∈ wsX4_isSame := by decide +kernel
  have hi4 : ∀ w ∈ wsX40, w ∈ wsX4_isSame := by decide +kernel
  have hlo : lo ≤ s.heap.size := hH.2.2.1.1
  have hOc := CI_SO hc
  have hOm := JR_SO hJ hOc
  have hlen : (gids (mpT φ T)).length = (gids T).length := by rw [gids_mp, List.length_map]
  have hh40 : ∀ i, i < 6 → hgt (mpT φ T i) ≤ 40 := fun i hi => (SO_at hOm hi).2.2.2.2.1
  have hw40 : ∀ i n, i < 6 → (wy zz n (mpT φ T i)).length ≤ 40 := fun i n hi => (SO_at hOm hi).2.2.2.2.2 n
  have hz1 : ∀ i, i < 6 → ∀ b ∈ tids (mpT φ T i), zz b < 1000 := fun i hi => (SO_at hOm hi).2.2.1
  have hl : lv_has ls 9 [(0, .ref sa), (1, .ref o)] := hl
  have fin : ∀ (L : List Nat) (K : Nat → Nat) (si : Nat → Option Nat) (P : PF) (U : List Nat) (E : Nat → va_E), CI Γ o T L K sz si P → SI Γ (U, E) sa ta (mpT φ T) zz ee tu → ∀ H locs, Hp D lo Γ ((L, K, sz, si, P, bi, tu), (U, E), V) H → va_S (lA lo) s.heap H locs → ∀ ls, lv_has ls 9 [(2, .int (nI 6)), (0, .ref sa), (1, .ref o)] → W p l e (rmL 50 3700 30400) s m args below meth c H locs 3660 30360 (MQ below (Qz D lo Γ (fun v Z' => v = some (.int 1))) args s ((rmL 50 3700 30400) : Room).cells ((rmL 50 3700 30400) : Room).slots (lA lo)) (F0 m 2 ls []) := by
    intro L K si P U E hc hI H locs hH hS ls hl
    have m_sa := hI.1
    have e_sa := hI.2.1
    have m_ta := hI.2.2.1
    have e_ta := hI.2.2.2.1
    have hY := hI.2.2.2.2
    refine lv_iload_n hx hb dX4_isSame_2 rfl (lv_at hl 0 rfl) ?_
    refine lv_bipush (v := 6) hx hb dX4_isSame_3 (by decide +kernel) ?_
    refine lv_icmp_ge (tgt := 397) hx hb dX4_isSame_5 (by decide) (fun _ => ?_) (fun h1 => absurd (by decide) h1)
    refine lv_aload_n hx hb dX4_isSame_397 rfl (lv_at hl 2 rfl) ?_
    refine cV S (c_X2_apples hc) (cwV 0 hts gX4_isSame_X2_apples rfl rfl rfl (by decide +kernel) ⟨Nat.le_of_ble_eq_true rfl, Nat.le_of_ble_eq_true rfl⟩) hK hH (Hp_recv hK hH hc.1.1.1 hc.1.1.2 rfl) hS rfl hl.1 rfl (by simp [Value.category]) dX4_isSame_398 ⟨Nat.le_of_ble_eq_true rfl, Nat.le_of_ble_eq_true rfl⟩ (fun v Z1 H locs hpost hH hS => ?_)
    obtain ⟨rfl, rfl⟩ := hpost
    refine lv_aload_n hx hb dX4_isSame_401 rfl (lv_at hl 1 rfl) ?_
    have rc9 := rec9 hK hH hI.1 hI.2.1 (q := (RX4, TX4, 2)) rfl
    refine cyV S (c_X4_all hI hOm.2.2.2 hh40) (cwV 0 hts gX4_isSame_X4_all rfl rfl rfl (by decide +kernel) ⟨Nat.le_of_ble_eq_true rfl, Nat.le_of_ble_eq_true rfl⟩) hK hH hX rc9 hS rfl hl.1 rfl (by simp [cat_rf, Value.category]) dX4_isSame_402 ⟨Nat.le_of_ble_eq_true rfl, Nat.le_of_ble_eq_true rfl⟩ (fun v Z1 H locs hpost hH hS => ?_)
    obtain ⟨rfl, rfl⟩ := hpost
    refine lv_icmp_ne (tgt := 423) hx hb dX4_isSame_405 (by decide) (fun h1 => absurd h1 (fun h => h (by rw [hlen]))) (fun _ => ?_)
    refine lv_aload_n hx hb dX4_isSame_408 rfl (lv_at hl 2 rfl) ?_
    refine cV S (c_X2_turnings hc.1.1) (cwV 0 hts gX4_isSame_X2_turnings rfl rfl rfl (by decide +kernel) ⟨Nat.le_of_ble_eq_true rfl, Nat.le_of_ble_eq_true rfl⟩) hK hH (Hp_recv hK hH hc.1.1.1 hc.1.1.2 rfl) hS rfl hl.1 rfl (by simp [Value.category]) dX4_isSame_409 ⟨Nat.le_of_ble_eq_true rfl, Nat.le_of_ble_eq_true rfl⟩ (fun v Z1 H locs hpost hH hS => ?_)
    obtain ⟨rfl, rfl⟩ := hpost
    refine lv_aload_n hx hb dX4_isSame_412 rfl (lv_at hl 1 rfl) ?_
    refine gM S hi4 hK hH m_sa e_sa 1 (by decide) f20 (v := .int (nI tu)) rfl dX4_isSame_413 ?_
    refine lv_icmp_ne (tgt := 423) hx hb dX4_isSame_416 (by decide) (fun h1 => absurd h1 (fun h => h rfl)) (fun _ => ?_)
    refine lv_iconst (v := 1) hx hb dX4_isSame_419 (by decide) ?_
    refine lv_goto (tgt := 424) hx hb dX4_isSame_420 (by decide) ?_
    refine W.widen (k := ((rmL 50 3700 30400) : Room).cells) (n := ((rmL 50 3700 30400) : Room).slots) (Nat.le_of_ble_eq_true rfl) (Nat.le_of_ble_eq_true rfl) ?_
    exact eZ S hr hlocks (Or.inr rfl) hH hS rfl dX4_isSame_424
  have loop : ∀ (N r : Nat), N + r = 6 → ∀ (L : List Nat) (K : Nat → Nat) (si : Nat → Option Nat) (P : PF) (U : List Nat) (E : Nat → va_E), CI Γ o T L K sz si P → SI Γ (U, E) sa ta (mpT φ T) zz ee tu → ∀ H locs, Hp D lo Γ ((L, K, sz, si, P, bi, tu), (U, E), V) H → va_S (lA lo) s.heap H locs → ∀ ls, lv_has ls 9 [(2, .int (nI r)), (0, .ref sa), (1, .ref o)] → W p l e (rmL 50 3700 30400) s m args below meth c H locs (610 * r) (5060 * r) (MQ below (Qz D lo Γ (fun v Z' => v = some (.int 1))) args s ((rmL 50 3700 30400) : Room).cells ((rmL 50 3700 30400) : Room).slots (lA lo)) (F0 m 2 ls []) := by
    intro N
    induction N with
    | zero =>
      intro r hr
      have hr : r = 6 := by omega
      subst hr
      exact fin
    | succ N ih =>
      intro r hk6 L K si P U E hc hI H locs hH hS ls hl
      have hr6 : r < 6 := by omega
      have m_sa := hI.1
      have e_sa := hI.2.1
      have m_ta := hI.2.2.1
      have e_ta := hI.2.2.2.1
      have hY := hI.2.2.2.2
      obtain ⟨o1, o2, o3, o4, o5, o6⟩ := SO_at hOc hr6
      obtain ⟨j1, j2, j3, j4⟩ := JR_at hJ hr6
      have hln : (tids (mpT φ T r)).length = (tids (T r)).length := by show (tids (mp φ (T r))).length = _; rw [mp_tids, List.length_map]
      have hlt : (tids (T r)).length < 2 ^ 31 := by omega
      refine lv_iload_n hx hb dX4_isSame_2 rfl (lv_at hl 0 rfl) ?_
      refine lv_bipush (v := 6) hx hb dX4_isSame_3 (by decide +kernel) ?_
      refine lv_icmp_ge (tgt := 397) hx hb dX4_isSame_5 (by decide) (fun h1 => absurd h1 (nI_ge hr6 (by decide))) (fun _ => ?_)
      refine lv_aload_n hx hb dX4_isSame_8 rfl (lv_at hl 1 rfl) ?_
      refine gM S hi4 hK hH m_sa e_sa 0 (by decide) f9 (v := .ref ta) rfl dX4_isSame_9 ?_
      refine lv_iload_n hx hb dX4_isSame_12 rfl (lv_at hl 0 rfl) ?_
      refine gQ S hK hH m_ta e_ta (j := r) rfl hr6 (by decide) (r := (rt (mpT φ T r))) rfl dX4_isSame_13 ?_
      refine lq_astore_n (i := 3) (lv' := [(2, .int (nI r)), (0, .ref sa), (1, .ref o)]) S dX4_isSame_14 rfl hl (by decide) rfl (fun ls hl => ?_)
      refine lq_aload_n S dX4_isSame_15 rfl (lv_at hl 0 rfl) ?_
      refine cyS S (c_X4_count (mpT φ T r) 40 (hh40 r hr6) (hY r hr6)) (va_cwS 1 hts gX4_isSame_X4_count rfl rfl rfl (by decide +kernel) ⟨Nat.le_of_ble_eq_true rfl, Nat.le_of_ble_eq_true rfl⟩) hK hH hX hS rfl hl.1 rfl (by simp [cat_rf, Value.category]) dX4_isSame_16 ⟨(by show 610 * r + 0 ≤ 3700; omega), (by show 5060 * r + 0 ≤ 30400; omega)⟩ (fun v Z1 H locs hpost hH hS => ?_)
      obtain ⟨rfl, rfl⟩ := hpost
      rw [hln]
      refine lv_istore (lv' := [(4, .int (nI (tids (T r)).length)), (3, va_rf (rt (mpT φ T r))), (2, .int (nI r)), (0, .ref sa), (1, .ref o)]) hx hb dX4_isSame_19 hl (by decide) (by simp [cat_rf, cat_a, cat_i, cat_n] <;> decide) (fun ls hl => ?_)
      refine lv_iload hx hb dX4_isSame_21 (lv_at hl 0 rfl) ?_
      have hg : Gr (U, E) (U, E) [] := Gr.rf _ _
      have hE : Ext (L, K, sz, si, P, bi, tu) (L, K, sz, si, P, bi, tu) := Ext.rf _
      have htr := hY r hr6
      refine nQ S (hts _ (List.mem_of_getElem? (i := 2) rfl)) hX hK hH hlo hS (n := (tids (T r)).length) rfl (by omega) (by show 610 * r + 0 + 1 ≤ 3700; omega) (by show 5060 * r + 0 + (tids (T r)).length ≤ 30400; omega) dX4_isSame_23 (fun row C4 U3 E2 H fr hx9 m_row su e_row ho hH hS => ?_)
      have n9_sa : sa ≠ row := fun e9 => fr (by rw [← e9]; exact m_sa)
      have e_sa : E2 sa = .inr (4, [.ref ta, .int (nI tu)]) := (ho sa n9_sa).trans e_sa
      have m_sa := su sa m_sa
      have n9_sa_row := n9_sa
      have n9_ta : ta ≠ row := fun e9 => fr (by rw [← e9]; exact m_ta)
      have e_ta : E2 ta = qE Γ 6 (fun i => rt (mpT φ T i)) := (ho ta n9_ta).trans e_ta
      have m_ta := su ta m_ta
      have n9_ta_row := n9_ta
      have hg := hg.new fr su ho
      have hE := hE.tr hx9
      have w_row : row ∉ (U, E).1 := fr
      have htr := sT_gr htr hg (by simp)
      refine lv_astore (lv' := [(5, .ref row), (4, .int (nI (tids (T r)).length)), (3, va_rf (rt (mpT φ T r))), (2, .int (nI r)), (0, .ref sa), (1, .ref o)]) hx hb dX4_isSame_26 hl (by decide) rfl (fun ls hl => ?_)
      refine lq_aload_n S dX4_isSame_28 rfl (lv_at hl 2 rfl) ?_
      refine lv_aload hx hb dX4_isSame_29 (lv_at hl 0 rfl) ?_
      refine lv_iconst (v := 0) hx hb dX4_isSame_31 (by decide) ?_
      refine cyS S (c_X4_order (mpT φ T r) 40 0 E2 (fun _ => none) (hh40 r hr6) htr m_row e_row (by omega) (by omega)) (va_cwS 3 hts gX4_isSame_X4_order rfl rfl rfl (by decide +kernel) ⟨Nat.le_of_ble_eq_true rfl, Nat.le_of_ble_eq_true rfl⟩) hK hH hX hS rfl hl.1 rfl (by simp [cat_rf, Value.category]) dX4_isSame_32 ⟨(by show 610 * r + 0 + 1 + 0 ≤ 3700; omega), (by show 5060 * r + 0 + (tids (T r)).length + 0 ≤ 30400; omega)⟩ (fun v Z1 H locs hpost hH hS => ?_)
      obtain ⟨rfl, E9, rfl, e_row, ho⟩ := hpost
      have hg := hg.put' w_row ho
      obtain ⟨L1, K1, e9c, hce⟩ := Ext_open hE
      have hc := hce _ _ _ hc
      rw [e9c] at hH
      have hI := SI_gr hI hg
      have m_row : row ∈ U3 := m_row
      have hl40 : (tids (mpT φ T r)).length ≤ 40 := by omega
      generalize U3 = U at hI hH m_row
      generalize E9 = E at hI hH e_row
      generalize L1 = L at hc hH
      generalize K1 = K at hc hH
      have m_sa := hI.1
      have e_sa := hI.2.1
      have m_ta := hI.2.2.1
      have e_ta := hI.2.2.2.1
      have hY := hI.2.2.2.2
      refine W.widen (k := 610 * r + 1) (n := 5060 * r + 40) (by show 610 * r + 0 + 1 + 0 ≤ 610 * r + 1; omega) (by show 5060 * r + 0 + (tids (T r)).length + 0 ≤ 5060 * r + 40; omega) ?_
      have inner : ∀ (N j : Nat), N + j = (tids (T r)).length → ∀ (L : List Nat) (K : Nat → Nat) (si : Nat → Option Nat) (P : PF) (U : List Nat) (E : Nat → va_E), CI Γ o T L K sz si P → SI Γ (U, E) sa ta (mpT φ T) zz ee tu → row ∈ U → E row = qE Γ (tids (T r)).length (oF (fun _ => none) 0 (tids (mpT φ T r))) → ∀ H locs, Hp D lo Γ ((L, K, sz, si, P, bi, tu), (U, E), V) H → va_S (lA lo) s.heap H locs → ∀ ls, lv_has ls 9 [(6, .int (nI j)), (5, .ref row), (4, .int (nI (tids (T r)).length)), (3, va_rf (rt (mpT φ T r))), (2, .int (nI r)), (0, .ref sa), (1, .ref o)] → W p l e (rmL 50 3700 30400) s m args below meth c H locs (610 * r + 9 + 15 * j) (5060 * r + 88 + 124 * j) (MQ below (Qz D lo Γ (fun v Z' => v = some (.int 1))) args s ((rmL 50 3700 30400) : Room).cells ((rmL 50 3700 30400) : Room).slots (lA lo)) (F0 m 186 ls []) := by
        intro N
        induction N with
        | zero =>
          intro j hj L K si P U E hc hI m_row e_row H locs hH hS ls hl
          have hj : j = (tids (T r)).length := by omega
          subst hj
          refine lv_iload hx hb dX4_isSame_186 (lv_at hl 0 rfl) ?_
          refine lv_iload hx hb dX4_isSame_188 (lv_at hl 2 rfl) ?_
          refine lv_icmp_ge (tgt := 391) hx hb dX4_isSame_190 (by decide) (fun _ => ?_) (fun h1 => absurd (Int32.le_refl _) h1)
          refine lv_iinc (v := nI (r + 1)) (lv' := [(2, .int (nI (r + 1))), (6, .int (nI (tids (T r)).length)), (5, .ref row), (4, .int (nI (tids (T r)).length)), (3, va_rf (rt (mpT φ T r))), (0, .ref sa), (1, .ref o)]) hx hb dX4_isSame_391 hl (k := 4) rfl (nI_1 r) (by decide) rfl (fun ls hl => ?_)
          refine lv_goto (tgt := 2) hx hb dX4_isSame_394 (by decide) ?_
          refine W.widen (k := 610 * (r + 1)) (n := 5060 * (r + 1)) (by show 610 * r + 9 + 15 * (tids (T r)).length ≤ 610 * (r + 1); omega) (by show 5060 * r + 88 + 124 * (tids (T r)).length ≤ 5060 * (r + 1); omega) ?_
          exact ih (r + 1) (by omega) L K si P U E hc hI H locs hH hS ls (lv_sub hl [0, 5, 6] rfl)
        | succ N ih2 =>
          intro j hj L K si P U E hc hI m_row e_row H locs hH hS ls hl
          have hjn : j < (tids (T r)).length := by omega
          obtain ⟨a, hat⟩ : ∃ a, (tids (T r))[j]? = some a := ⟨_, List.getElem?_eq_getElem hjn⟩
          have ha := List.mem_of_getElem? hat
          have hatm : (tids (mpT φ T r))[j]? = some (φ a) := by show (tids (mp φ (T r)))[j]? = _; rw [mp_tids, List.getElem?_map, hat]; rfl
          have ham : φ a ∈ tids (mpT φ T r) := List.mem_of_getElem? hatm
          have hoj : oF (fun _ => none) 0 (tids (mpT φ T r)) j = some (φ a) := by have h9 := oF_at (tids (mpT φ T r)) (fun _ => none) 0 j (by omega); rw [Nat.zero_add] at h9; rw [h9]; exact hatm
          obtain ⟨q1, q2, q3⟩ := J_spz hJ hOc hr6 ha
          have hza : zz (φ a) = sz a := j1 a ha
          have hsa : sz a < 1000 := o3 a ha
          have hfa : fnd sz (sz a : Int) (T r) = some a := fnd_of (T r) a o2 ha rfl
          have hwy : wy zz (zz (φ a)) (mpT φ T r) = anc (zof (mpT φ T r) (φ a)).2.2.2 ++ [φ a] := by
            have h1 := wy_zs (mpT φ T r) [] (SO_at hOm hr6).2.1 _ (zof_in ham).1
            rw [anc_nil, List.nil_append, (zof_in ham).2] at h1
            exact h1
          have hwl : (wy zz (zz (φ a)) (mpT φ T r)).length = (zof (T r) a).2.2.2.length + 1 := by rw [hwy, List.length_append, anc_len]; show (zof (mp φ (T r)) (φ a)).2.2.2.length + 1 = _; rw [q3]
          obtain ⟨zl1, zl2⟩ := zof_len ha
          have m_sa := hI.1
          have e_sa := hI.2.1
          have m_ta := hI.2.2.1
          have e_ta := hI.2.2.2.1
          have hY := hI.2.2.2.2
          obtain ⟨⟨m_b, e_b⟩, hTl, hTr⟩ := sT_zof (hY r hr6) ham
          have e_b : E (φ a) = .inr (3, [.int (nI (zz (φ a))), .int (nI (ee (φ a))), va_rf (rt (zof (mpT φ T r) (φ a)).2.1), va_rf (rt (zof (mpT φ T r) (φ a)).2.2.1)]) := e_b
          have m__φ_a_ := m_b
          have e__φ_a_ := e_b
          refine lv_iload hx hb dX4_isSame_186 (lv_at hl 0 rfl) ?_
          refine lv_iload hx hb dX4_isSame_188 (lv_at hl 2 rfl) ?_
          refine lv_icmp_ge (tgt := 391) hx hb dX4_isSame_190 (by decide) (fun h1 => absurd h1 (nI_ge hjn (by omega))) (fun _ => ?_)
          refine lv_aload hx hb dX4_isSame_193 (lv_at hl 1 rfl) ?_
          refine lv_iload hx hb dX4_isSame_195 (lv_at hl 0 rfl) ?_
          refine gQ S hK hH m_row e_row (j := j) rfl hjn (by omega) (r := (some (φ a))) hoj dX4_isSame_197 ?_
          refine lv_astore (lv' := [(7, .ref (φ a)), (6, .int (nI j)), (5, .ref row), (4, .int (nI (tids (T r)).length)), (3, va_rf (rt (mpT φ T r))), (2, .int (nI r)), (0, .ref sa), (1, .ref o)]) hx hb dX4_isSame_198 hl (by decide) rfl (fun ls hl => ?_)
          refine lq_aload_n S dX4_isSame_200 rfl (lv_at hl 4 rfl) ?_
          refine lv_aload hx hb dX4_isSame_201 (lv_at hl 0 rfl) ?_
          refine gB S hi3 hK hH m__φ_a_ e__φ_a_ 0 (by decide) f24 (v := .int (nI (zz (φ a)))) rfl dX4_isSame_203 ?_
          refine cyS S (c_X4_path (hY r hr6) (hz1 r hr6) (n := zz (φ a)) (by omega) (hw40 r _ hr6)) (va_cwS 2 hts gX4_isSame_X4_path rfl rfl rfl (by decide +kernel) ⟨Nat.le_of_ble_eq_true rfl, Nat.le_of_ble_eq_true rfl⟩) hK hH hX hS rfl hl.1 rfl (by simp [cat_rf, Value.category]) dX4_isSame_206 ⟨(by show 610 * r + 9 + 15 * j + 1 ≤ 3700; omega), (by show 5060 * r + 88 + 124 * j + 40 ≤ 30400; omega)⟩ (fun v Z1 H locs hpost hH hS => ?_)
          obtain ⟨C1, U1, E1, q, rfl, rfl, hx9, hg9, fr9, m_q, e_q⟩ := hpost
          obtain ⟨L, K, rfl, hce⟩ := Ext_open hx9
          have hc := hce _ _ _ hc
          have hI := SI_gr hI hg9
          have e_row : E1 row = qE Γ (tids (T r)).length (oF (fun _ => none) 0 (tids (mpT φ T r))) := (hg9.2 row m_row (by simp)).trans e_row
          have m_row := hg9.1 row m_row
          rw [hwl, hwy] at e_q
          generalize U1 = U at hI hH m_row m_q
          generalize E1 = E at hI hH e_row e_q
          have m_sa := hI.1
          have e_sa := hI.2.1
          have m_ta := hI.2.2.1
          have e_ta := hI.2.2.2.1
          have hY := hI.2.2.2.2
          obtain ⟨⟨m_b, e_b⟩, hTl, hTr⟩ := sT_zof (hY r hr6) ham
          have e_b : E (φ a) = .inr (3, [.int (nI (zz (φ a))), .int (nI (ee (φ a))), va_rf (rt (zof (mpT φ T r) (φ a)).2.1), va_rf (rt (zof (mpT φ T r) (φ a)).2.2.1)]) := e_b
          have m__φ_a_ := m_b
          have e__φ_a_ := e_b
          refine lv_astore (lv' := [(8, .ref q), (7, .ref (φ a)), (6, .int (nI j)), (5, .ref row), (4, .int (nI (tids (T r)).length)), (3, va_rf (rt (mpT φ T r))), (2, .int (nI r)), (0, .ref sa), (1, .ref o)]) hx hb dX4_isSame_209 hl (by decide) rfl (fun ls hl => ?_)
          have k345 : ∀ (L : List Nat) (K : Nat → Nat) (si : Nat → Option Nat) (P : PF), CI Γ o T L K sz si P → ∀ H locs, Hp D lo Γ ((L, K, sz, si, P, bi, tu), (U, E), V) H → va_S (lA lo) s.heap H locs → ∀ ls, lv_has ls 9 [(8, .ref q), (7, .ref (φ a)), (6, .int (nI j)), (5, .ref row), (4, .int (nI (tids (T r)).length)), (3, va_rf (rt (mpT φ T r))), (2, .int (nI r)), (0, .ref sa), (1, .ref o)] → W p l e (rmL 50 3700 30400) s m args below meth c H locs (610 * r + 9 + 15 * j + 11) (5060 * r + 88 + 124 * j + 100) (MQ below (Qz D lo Γ (fun v Z' => v = some (.int 1))) args s ((rmL 50 3700 30400) : Room).cells ((rmL 50 3700 30400) : Room).slots (lA lo)) (F0 m 345 ls []) := by
            intro L K si P hc H locs hH hS ls hl
            refine lv_aload_n hx hb dX4_isSame_345 rfl (lv_at hl 8 rfl) ?_
            refine lv_iload_n hx hb dX4_isSame_346 rfl (lv_at hl 6 rfl) ?_
            refine lv_aload hx hb dX4_isSame_347 (lv_at hl 1 rfl) ?_
            refine gB S hi3 hK hH m__φ_a_ e__φ_a_ 0 (by decide) f24 (v := .int (nI (zz (φ a)))) rfl dX4_isSame_349 ?_
            rw [hza]
            have hq9 := (qa_n (f := fun r a => nI ((tids (zof (T r) a).2.1).length + (tids (zof (T r) a).2.2.1).length)) (n := (sz a)) hr6 (by omega) hfa)
            refine cVx S (c_X2_below (row := nI r) (x := nI (sz a)) hst hc) (cwV 2 hts gX4_isSame_X2_below rfl rfl rfl (by decide +kernel) ⟨Nat.le_of_ble_eq_true rfl, Nat.le_of_ble_eq_true rfl⟩) hK hH hX.1 (Hp_recv hK hH hc.1.1.1 hc.1.1.2 rfl) hS rfl hl.1 rfl (by simp [cat_rf, Value.category]) dX4_isSame_352 ⟨(by show 610 * r + 9 + 15 * j + 11 + 2 ≤ 3700; omega), (by show 5060 * r + 88 + 124 * j + 100 + 12 ≤ 30400; omega)⟩ (fun E9 Z1 H locs ce q9 hpx hH hS hce hcv hcl => (PxQ hpx hq9).elim) (fun v Z1 H locs hpost hH hS => ?_)
            obtain ⟨rfl, L, K, si, P, rfl, hc⟩ := PoQ hpost hq9
            refine lv_aload hx hb dX4_isSame_355 (lv_at hl 1 rfl) ?_
            have hcb : sT (U, E) zz ee (.branch (φ a) (zof (mpT φ T r) (φ a)).2.1 (zof (mpT φ T r) (φ a)).2.2.1) := ⟨⟨m_b, e_b⟩, hTl, hTr⟩
            have hzm : zof (mpT φ T r) (φ a) = mpZ φ (zof (T r) a) := q1
            have hcl9 : (tids (.branch (φ a) (zof (mpT φ T r) (φ a)).2.1 (zof (mpT φ T r) (φ a)).2.2.1)).length = (tids (zof (T r) a).2.1).length + (tids (zof (T r) a).2.2.1).length + 1 := by rw [hzm]; simp only [mpZ, tids, List.length_append, List.length_cons, mp_tids, List.length_map]; omega
            refine cyS S (c_X4_count (.branch (φ a) (zof (mpT φ T r) (φ a)).2.1 (zof (mpT φ T r) (φ a)).2.2.1) 40 (by have := hgt_len (.branch (φ a) (zof (mpT φ T r) (φ a)).2.1 (zof (mpT φ T r) (φ a)).2.2.1); omega) hcb) (va_cwS 1 hts gX4_isSame_X4_count rfl rfl rfl (by decide +kernel) ⟨Nat.le_of_ble_eq_true rfl, Nat.le_of_ble_eq_true rfl⟩) hK hH hX hS rfl hl.1 rfl (by simp [cat_rf, Value.category]) dX4_isSame_357 ⟨(by show 610 * r + 9 + 15 * j + 11 + 2 + 0 ≤ 3700; omega), (by show 5060 * r + 88 + 124 * j + 100 + 12 + 0 ≤ 30400; omega)⟩ (fun v Z1 H locs hpost hH hS => ?_)
            obtain ⟨rfl, rfl⟩ := hpost
            refine lv_iconst (v := 1) hx hb dX4_isSame_360 (by decide) ?_
            refine lv_isub hx hb dX4_isSame_361 ?_
            refine lv_icmp_ne (tgt := 383) hx hb dX4_isSame_362 (by decide) (fun h1 => absurd h1 (fun h => h (by rw [hcl9]; exact (nI_pred _).symm))) (fun _ => ?_)
            refine lv_aload_n hx hb dX4_isSame_365 rfl (lv_at hl 8 rfl) ?_
            refine lv_iload_n hx hb dX4_isSame_366 rfl (lv_at hl 6 rfl) ?_
            refine lv_aload hx hb dX4_isSame_367 (lv_at hl 1 rfl) ?_
            refine gB S hi3 hK hH m__φ_a_ e__φ_a_ 0 (by decide) f24 (v := .int (nI (zz (φ a)))) rfl dX4_isSame_369 ?_
            rw [hza]
            have hq9 := (qa_n (f := fun r a => nI (bi a)) (n := (sz a)) hr6 (by omega) hfa)
            refine cVx S (c_X2_eaten (row := nI r) (x := nI (sz a)) hst hc) (cwV 2 hts gX4_isSame_X2_eaten rfl rfl rfl (by decide +kernel) ⟨Nat.le_of_ble_eq_true rfl, Nat.le_of_ble_eq_true rfl⟩) hK hH hX.1 (Hp_recv hK hH hc.1.1.1 hc.1.1.2 rfl) hS rfl hl.1 rfl (by simp [cat_rf, Value.category]) dX4_isSame_372 ⟨(by show 610 * r + 9 + 15 * j + 11 + 2 + 0 + 2 ≤ 3700; omega), (by show 5060 * r + 88 + 124 * j + 100 + 12 + 0 + 12 ≤ 30400; omega)⟩ (fun E9 Z1 H locs ce q9 hpx hH hS hce hcv hcl => (PxQ hpx hq9).elim) (fun v Z1 H locs hpost hH hS => ?_)
            obtain ⟨rfl, L, K, si, P, rfl, hc⟩ := PoQ hpost hq9
            refine lv_aload hx hb dX4_isSame_375 (lv_at hl 1 rfl) ?_
            refine gB S hi3 hK hH m__φ_a_ e__φ_a_ 1 (by decide) f30 (v := .int (nI (ee (φ a)))) rfl dX4_isSame_377 ?_
            refine lv_icmp_eq (tgt := 385) hx hb dX4_isSame_380 (by decide) (fun _ => ?_) (fun h1 => absurd (by rw [j2 a ha]) h1)
            refine lv_iinc (v := nI (j + 1)) (lv' := [(6, .int (nI (j + 1))), (8, .ref q), (7, .ref (φ a)), (5, .ref row), (4, .int (nI (tids (T r)).length)), (3, va_rf (rt (mpT φ T r))), (2, .int (nI r)), (0, .ref sa), (1, .ref o)]) hx hb dX4_isSame_385 hl (k := 2) rfl (nI_1 j) (by decide) rfl (fun ls hl => ?_)
            refine lv_goto (tgt := 186) hx hb dX4_isSame_388 (by decide) ?_
            refine W.widen (k := 610 * r + 9 + 15 * (j + 1)) (n := 5060 * r + 88 + 124 * (j + 1)) (by show 610 * r + 9 + 15 * j + 11 + 2 + 0 + 2 ≤ 610 * r + 9 + 15 * (j + 1); omega) (by show 5060 * r + 88 + 124 * j + 100 + 12 + 0 + 12 ≤ 5060 * r + 88 + 124 * (j + 1); omega) ?_
            exact ih2 (j + 1) (by omega) L K si P U E hc hI m_row e_row H locs hH hS ls (lv_sub hl [0, 3, 4, 5, 6, 7, 8] rfl)
          have k312 : ∀ (L : List Nat) (K : Nat → Nat) (si : Nat → Option Nat) (P : PF), CI Γ o T L K sz si P → ∀ H locs, Hp D lo Γ ((L, K, sz, si, P, bi, tu), (U, E), V) H → va_S (lA lo) s.heap H locs → ∀ ls, lv_has ls 9 [(8, .ref q), (7, .ref (φ a)), (6, .int (nI j)), (5, .ref row), (4, .int (nI (tids (T r)).length)), (3, va_rf (rt (mpT φ T r))), (2, .int (nI r)), (0, .ref sa), (1, .ref o)] → W p l e (rmL 50 3700 30400) s m args below meth c H locs (610 * r + 9 + 15 * j + 9) (5060 * r + 88 + 124 * j + 88) (MQ below (Qz D lo Γ (fun v Z' => v = some (.int 1))) args s ((rmL 50 3700 30400) : Room).cells ((rmL 50 3700 30400) : Room).slots (lA lo)) (F0 m 312 ls []) := by
            intro L K si P hc H locs hH hS ls hl
            refine lv_aload_n hx hb dX4_isSame_312 rfl (lv_at hl 8 rfl) ?_
            refine lv_iload_n hx hb dX4_isSame_313 rfl (lv_at hl 6 rfl) ?_
            refine lv_aload hx hb dX4_isSame_314 (lv_at hl 1 rfl) ?_
            refine gB S hi3 hK hH m__φ_a_ e__φ_a_ 0 (by decide) f24 (v := .int (nI (zz (φ a)))) rfl dX4_isSame_316 ?_
            rw [hza]
            have hq9 := (qa_n (f := fun r a => er ((rt (zof (T r) a).2.2.1).map sz)) (n := (sz a)) hr6 (by omega) hfa)
            refine cVx S (c_X2_rightOf (row := nI r) (x := nI (sz a)) hst hc) (cwV 2 hts gX4_isSame_X2_rightOf rfl rfl rfl (by decide +kernel) ⟨Nat.le_of_ble_eq_true rfl, Nat.le_of_ble_eq_true rfl⟩) hK hH hX.1 (Hp_recv hK hH hc.1.1.1 hc.1.1.2 rfl) hS rfl hl.1 rfl (by simp [cat_rf, Value.category]) dX4_isSame_319 ⟨(by show 610 * r + 9 + 15 * j + 9 + 2 ≤ 3700; omega), (by show 5060 * r + 88 + 124 * j + 88 + 12 ≤ 30400; omega)⟩ (fun E9 Z1 H locs ce q9 hpx hH hS hce hcv hcl => (PxQ hpx hq9).elim) (fun v Z1 H locs hpost hH hS => ?_)
            obtain ⟨rfl, L, K, si, P, rfl, hc⟩ := PoQ hpost hq9
            have hzm : (zof (mpT φ T r) (φ a)).2.2.1 = mp φ (zof (T r) a).2.2.1 := by show (zof (mp φ (T r)) (φ a)).2.2.1 = _; rw [q1]; rfl
            cases hs9 : (zof (T r) a).2.2.1 with
            | leaf u9 =>
              have e__φ_a_ : E (φ a) = .inr (3, [.int (nI (zz (φ a))), .int (nI (ee (φ a))), va_rf (rt (zof (mpT φ T r) (φ a)).2.1), .null]) := by rw [e__φ_a_, hzm, hs9]; rfl
              refine lv_aload hx hb dX4_isSame_322 (lv_at hl 1 rfl) ?_
              refine gB S hi3 hK hH m__φ_a_ e__φ_a_ 3 (by decide) f37 (v := .null) rfl dX4_isSame_324 ?_
              refine lv_ifnonnullN hx hb dX4_isSame_327 ?_
              refine lv_iconst (v := -1) hx hb dX4_isSame_330 (by decide) ?_
              refine lv_goto (tgt := 342) hx hb dX4_isSame_331 (by decide) ?_
              refine lv_icmp_ne (tgt := 383) hx hb dX4_isSame_342 (by decide) (fun h1 => absurd h1 (fun h => h (by first | rfl | (rw [hs9]; rfl)))) (fun _ => ?_)
              refine W.widen (k := 610 * r + 9 + 15 * j + 11) (n := 5060 * r + 88 + 124 * j + 100) (by show 610 * r + 9 + 15 * j + 9 + 2 ≤ 610 * r + 9 + 15 * j + 11; omega) (by show 5060 * r + 88 + 124 * j + 88 + 12 ≤ 5060 * r + 88 + 124 * j + 100; omega) ?_
              exact k345 L K si P hc H locs hH hS ls (lv_sub hl [0, 1, 2, 3, 4, 5, 6, 7, 8] rfl)
            | branch b x9 y9 =>
              have hbt : b ∈ tids (T r) := zof_sub ha (Or.inr (Or.inr (by rw [hs9]; rfl)))
              have hb3 : φ b ∈ tids (mpT φ T r) := by show φ b ∈ tids (mp φ (T r)); rw [mp_tids]; exact List.mem_map.mpr ⟨b, hbt, rfl⟩
              obtain ⟨m__φ_b_, x8, y8, e__φ_b_⟩ := sT_at _ (hY r hr6) (φ b) hb3
              have e__φ_a_ : E (φ a) = .inr (3, [.int (nI (zz (φ a))), .int (nI (ee (φ a))), va_rf (rt (zof (mpT φ T r) (φ a)).2.1), .ref (φ b)]) := by rw [e__φ_a_, hzm, hs9]; rfl
              refine lv_aload hx hb dX4_isSame_322 (lv_at hl 1 rfl) ?_
              refine gB S hi3 hK hH m__φ_a_ e__φ_a_ 3 (by decide) f37 (v := .ref (φ b)) rfl dX4_isSame_324 ?_
              refine lv_ifnonnull hx hb dX4_isSame_327 (tgt := 334) (by decide) ?_
              refine lv_aload hx hb dX4_isSame_334 (lv_at hl 1 rfl) ?_
              refine gB S hi3 hK hH m__φ_a_ e__φ_a_ 3 (by decide) f37 (v := .ref (φ b)) rfl dX4_isSame_336 ?_
              refine gB S hi3 hK hH m__φ_b_ e__φ_b_ 0 (by decide) f24 (v := .int (nI (zz (φ b)))) rfl dX4_isSame_339 ?_
              refine lv_icmp_ne (tgt := 383) hx hb dX4_isSame_342 (by decide) (fun h1 => absurd h1 (fun h => h (by first | exact congrArg nI (j1 b hbt).symm | (rw [hs9]; exact congrArg nI (j1 b hbt).symm)))) (fun _ => ?_)
              refine W.widen (k := 610 * r + 9 + 15 * j + 11) (n := 5060 * r + 88 + 124 * j + 100) (by show 610 * r + 9 + 15 * j + 9 + 2 ≤ 610 * r + 9 + 15 * j + 11; omega) (by show 5060 * r + 88 + 124 * j + 88 + 12 ≤ 5060 * r + 88 + 124 * j + 100; omega) ?_
              exact k345 L K si P hc H locs hH hS ls (lv_sub hl [0, 1, 2, 3, 4, 5, 6, 7, 8] rfl)
          have k279 : ∀ (L : List Nat) (K : Nat → Nat) (si : Nat → Option Nat) (P : PF), CI Γ o T L K sz si P → ∀ H locs, Hp D lo Γ ((L, K, sz, si, P, bi, tu), (U, E), V) H → va_S (lA lo) s.heap H locs → ∀ ls, lv_has ls 9 [(8, .ref q), (7, .ref (φ a)), (6, .int (nI j)), (5, .ref row), (4, .int (nI (tids (T r)).length)), (3, va_rf (rt (mpT φ T r))), (2, .int (nI r)), (0, .ref sa), (1, .ref o)] → W p l e (rmL 50 3700 30400) s m args below meth c H locs (610 * r + 9 + 15 * j + 7) (5060 * r + 88 + 124 * j + 76) (MQ below (Qz D lo Γ (fun v Z' => v = some (.int 1))) args s ((rmL 50 3700 30400) : Room).cells ((rmL 50 3700 30400) : Room).slots (lA lo)) (F0 m 279 ls []) := by
            intro L K si P hc H locs hH hS ls hl
            refine lv_aload_n hx hb dX4_isSame_279 rfl (lv_at hl 8 rfl) ?_
            refine lv_iload_n hx hb dX4_isSame_280 rfl (lv_at hl 6 rfl) ?_
            refine lv_aload hx hb dX4_isSame_281 (lv_at hl 1 rfl) ?_
            refine gB S hi3 hK hH m__φ_a_ e__φ_a_ 0 (by decide) f24 (v := .int (nI (zz (φ a)))) rfl dX4_isSame_283 ?_
            rw [hza]
            have hq9 := (qa_n (f := fun r a => er ((rt (zof (T r) a).2.1).map sz)) (n := (sz a)) hr6 (by omega) hfa)
            refine cVx S (c_X2_leftOf (row := nI r) (x := nI (sz a)) hst hc) (cwV 2 hts gX4_isSame_X2_leftOf rfl rfl rfl (by decide +kernel) ⟨Nat.le_of_ble_eq_true rfl, Nat.le_of_ble_eq_true rfl⟩) hK hH hX.1 (Hp_recv hK hH hc.1.1.1 hc.1.1.2 rfl) hS rfl hl.1 rfl (by simp [cat_rf, Value.category]) dX4_isSame_286 ⟨(by show 610 * r + 9 + 15 * j + 7 + 2 ≤ 3700; omega), (by show 5060 * r + 88 + 124 * j + 76 + 12 ≤ 30400; omega)⟩ (fun E9 Z1 H locs ce q9 hpx hH hS hce hcv hcl => (PxQ hpx hq9).elim) (fun v Z1 H locs hpost hH hS => ?_)
            obtain ⟨rfl, L, K, si, P, rfl, hc⟩ := PoQ hpost hq9
            have hzm : (zof (mpT φ T r) (φ a)).2.1 = mp φ (zof (T r) a).2.1 := by show (zof (mp φ (T r)) (φ a)).2.1 = _; rw [q1]; rfl
            cases hs9 : (zof (T r) a).2.1 with
            | leaf u9 =>
              have e__φ_a_ : E (φ a) = .inr (3, [.int (nI (zz (φ a))), .int (nI (ee (φ a))), .null, va_rf (rt (zof (mpT φ T r) (φ a)).2.2.1)]) := by rw [e__φ_a_, hzm, hs9]; rfl
              refine lv_aload hx hb dX4_isSame_289 (lv_at hl 1 rfl) ?_
              refine gB S hi3 hK hH m__φ_a_ e__φ_a_ 2 (by decide) f33 (v := .null) rfl dX4_isSame_291 ?_
              refine lv_ifnonnullN hx hb dX4_isSame_294 ?_
              refine lv_iconst (v := -1) hx hb dX4_isSame_297 (by decide) ?_
              refine lv_goto (tgt := 309) hx hb dX4_isSame_298 (by decide) ?_
              refine lv_icmp_ne (tgt := 383) hx hb dX4_isSame_309 (by decide) (fun h1 => absurd h1 (fun h => h (by first | rfl | (rw [hs9]; rfl)))) (fun _ => ?_)
              refine W.widen (k := 610 * r + 9 + 15 * j + 9) (n := 5060 * r + 88 + 124 * j + 88) (by show 610 * r + 9 + 15 * j + 7 + 2 ≤ 610 * r + 9 + 15 * j + 9; omega) (by show 5060 * r + 88 + 124 * j + 76 + 12 ≤ 5060 * r + 88 + 124 * j + 88; omega) ?_
              exact k312 L K si P hc H locs hH hS ls (lv_sub hl [0, 1, 2, 3, 4, 5, 6, 7, 8] rfl)
            | branch b x9 y9 =>
              have hbt : b ∈ tids (T r) := zof_sub ha (Or.inr (Or.inl (by rw [hs9]; rfl)))
              have hb3 : φ b ∈ tids (mpT φ T r) := by show φ b ∈ tids (mp φ (T r)); rw [mp_tids]; exact List.mem_map.mpr ⟨b, hbt, rfl⟩
              obtain ⟨m__φ_b_, x8, y8, e__φ_b_⟩ := sT_at _ (hY r hr6) (φ b) hb3
              have e__φ_a_ : E (φ a) = .inr (3, [.int (nI (zz (φ a))), .int (nI (ee (φ a))), .ref (φ b), va_rf (rt (zof (mpT φ T r) (φ a)).2.2.1)]) := by rw [e__φ_a_, hzm, hs9]; rfl
              refine lv_aload hx hb dX4_isSame_289 (lv_at hl 1 rfl) ?_
              refine gB S hi3 hK hH m__φ_a_ e__φ_a_ 2 (by decide) f33 (v := .ref (φ b)) rfl dX4_isSame_291 ?_
              refine lv_ifnonnull hx hb dX4_isSame_294 (tgt := 301) (by decide) ?_
              refine lv_aload hx hb dX4_isSame_301 (lv_at hl 1 rfl) ?_
              refine gB S hi3 hK hH m__φ_a_ e__φ_a_ 2 (by decide) f33 (v := .ref (φ b)) rfl dX4_isSame_303 ?_
              refine gB S hi3 hK hH m__φ_b_ e__φ_b_ 0 (by decide) f24 (v := .int (nI (zz (φ b)))) rfl dX4_isSame_306 ?_
              refine lv_icmp_ne (tgt := 383) hx hb dX4_isSame_309 (by decide) (fun h1 => absurd h1 (fun h => h (by first | exact congrArg nI (j1 b hbt).symm | (rw [hs9]; exact congrArg nI (j1 b hbt).symm)))) (fun _ => ?_)
              refine W.widen (k := 610 * r + 9 + 15 * j + 9) (n := 5060 * r + 88 + 124 * j + 88) (by show 610 * r + 9 + 15 * j + 7 + 2 ≤ 610 * r + 9 + 15 * j + 9; omega) (by show 5060 * r + 88 + 124 * j + 76 + 12 ≤ 5060 * r + 88 + 124 * j + 88; omega) ?_
              exact k312 L K si P hc H locs hH hS ls (lv_sub hl [0, 1, 2, 3, 4, 5, 6, 7, 8] rfl)
          refine lv_aload_n hx hb dX4_isSame_211 rfl (lv_at hl 8 rfl) ?_
          refine lv_iload_n hx hb dX4_isSame_212 rfl (lv_at hl 6 rfl) ?_
          refine lv_iload hx hb dX4_isSame_213 (lv_at hl 2 rfl) ?_
          have hq9 := (qo_n (sz := sz) (j := j) hr6 ⟨hlt, by omega⟩ hat)
          refine cVx S (c_X2_inOrder (row := nI r) (x := nI j) hst hc) (cwV 2 hts gX4_isSame_X2_inOrder rfl rfl rfl (by decide +kernel) ⟨Nat.le_of_ble_eq_true rfl, Nat.le_of_ble_eq_true rfl⟩) hK hH hX.1 (Hp_recv hK hH hc.1.1.1 hc.1.1.2 rfl) hS rfl hl.1 rfl (by simp [cat_rf, Value.category]) dX4_isSame_215 ⟨(by show 610 * r + 9 + 15 * j + 1 + 2 ≤ 3700; omega), (by show 5060 * r + 88 + 124 * j + 40 + 12 ≤ 30400; omega)⟩ (fun E9 Z1 H locs ce q9 hpx hH hS hce hcv hcl => (PxQ hpx hq9).elim) (fun v Z1 H locs hpost hH hS => ?_)
          obtain ⟨rfl, L, K, si, P, rfl, hc⟩ := PoQ hpost hq9
          refine lv_aload hx hb dX4_isSame_218 (lv_at hl 1 rfl) ?_
          refine gB S hi3 hK hH m__φ_a_ e__φ_a_ 0 (by decide) f24 (v := .int (nI (zz (φ a)))) rfl dX4_isSame_220 ?_
          refine lv_icmp_ne (tgt := 383) hx hb dX4_isSame_223 (by decide) (fun h1 => absurd h1 (fun h => h (by rw [hza]))) (fun _ => ?_)
          refine lv_aload_n hx hb dX4_isSame_226 rfl (lv_at hl 8 rfl) ?_
          refine lv_iload_n hx hb dX4_isSame_227 rfl (lv_at hl 6 rfl) ?_
          refine lv_aload hx hb dX4_isSame_228 (lv_at hl 1 rfl) ?_
          refine gB S hi3 hK hH m__φ_a_ e__φ_a_ 0 (by decide) f24 (v := .int (nI (zz (φ a)))) rfl dX4_isSame_230 ?_
          rw [hza]
          have hq9 := (qa_n (f := fun r a => nI (zof (T r) a).2.2.2.length) (n := (sz a)) hr6 (by omega) hfa)
          refine cVx S (c_X2_depthOf (row := nI r) (x := nI (sz a)) hst hc) (cwV 2 hts gX4_isSame_X2_depthOf rfl rfl rfl (by decide +kernel) ⟨Nat.le_of_ble_eq_true rfl, Nat.le_of_ble_eq_true rfl⟩) hK hH hX.1 (Hp_recv hK hH hc.1.1.1 hc.1.1.2 rfl) hS rfl hl.1 rfl (by simp [cat_rf, Value.category]) dX4_isSame_233 ⟨(by show 610 * r + 9 + 15 * j + 1 + 2 + 2 ≤ 3700; omega), (by show 5060 * r + 88 + 124 * j + 40 + 12 + 12 ≤ 30400; omega)⟩ (fun E9 Z1 H locs ce q9 hpx hH hS hce hcv hcl => (PxQ hpx hq9).elim) (fun v Z1 H locs hpost hH hS => ?_)
          obtain ⟨rfl, L, K, si, P, rfl, hc⟩ := PoQ hpost hq9
          refine lv_aload hx hb dX4_isSame_236 (lv_at hl 0 rfl) ?_
          refine lQ S hK hH m_q e_q dX4_isSame_238 ?_
          refine lv_iconst (v := 1) hx hb dX4_isSame_239 (by decide) ?_
          refine lv_isub hx hb dX4_isSame_240 ?_
          refine lv_icmp_ne (tgt := 383) hx hb dX4_isSame_241 (by decide) (fun h1 => absurd h1 (fun h => h (nI_pred _).symm)) (fun _ => ?_)
          refine lv_aload_n hx hb dX4_isSame_244 rfl (lv_at hl 8 rfl) ?_
          refine lv_iload_n hx hb dX4_isSame_245 rfl (lv_at hl 6 rfl) ?_
          refine lv_aload hx hb dX4_isSame_246 (lv_at hl 1 rfl) ?_
          refine gB S hi3 hK hH m__φ_a_ e__φ_a_ 0 (by decide) f24 (v := .int (nI (zz (φ a)))) rfl dX4_isSame_248 ?_
          rw [hza]
          have hq9 := (qa_n (f := fun r a => er ((parC (zof (T r) a).2.2.2).map sz)) (n := (sz a)) hr6 (by omega) hfa)
          refine cVx S (c_X2_above (row := nI r) (x := nI (sz a)) hst hc) (cwV 2 hts gX4_isSame_X2_above rfl rfl rfl (by decide +kernel) ⟨Nat.le_of_ble_eq_true rfl, Nat.le_of_ble_eq_true rfl⟩) hK hH hX.1 (Hp_recv hK hH hc.1.1.1 hc.1.1.2 rfl) hS rfl hl.1 rfl (by simp [cat_rf, Value.category]) dX4_isSame_251 ⟨(by show 610 * r + 9 + 15 * j + 1 + 2 + 2 + 2 ≤ 3700; omega), (by show 5060 * r + 88 + 124 * j + 40 + 12 + 12 + 12 ≤ 30400; omega)⟩ (fun E9 Z1 H locs ce q9 hpx hH hS hce hcv hcl => (PxQ hpx hq9).elim) (fun v Z1 H locs hpost hH hS => ?_)
          obtain ⟨rfl, L, K, si, P, rfl, hc⟩ := PoQ hpost hq9
          have hXm : (zof (mpT φ T r) (φ a)).2.2.2 = mpC φ (zof (T r) a).2.2.2 := by show (zof (mp φ (T r)) (φ a)).2.2.2 = _; rw [q1]; rfl
          cases hC9 : (zof (T r) a).2.2.2 with
          | nil =>
            have e_q : E q = qE Γ 1 (fun i => (anc (zof (mpT φ T r) (φ a)).2.2.2 ++ [φ a])[i]?) := by rw [e_q, hC9]; rfl
            refine lv_aload hx hb dX4_isSame_254 (lv_at hl 0 rfl) ?_
            refine lQ S hK hH m_q e_q dX4_isSame_256 ?_
            refine lv_iconst (v := 2) hx hb dX4_isSame_257 (by decide) ?_
            refine lv_icmp_ge (tgt := 265) hx hb dX4_isSame_258 (by decide) (fun h1 => absurd h1 (by decide)) (fun _ => ?_)
            refine lv_iconst (v := -1) hx hb dX4_isSame_261 (by decide) ?_
            refine lv_goto (tgt := 276) hx hb dX4_isSame_262 (by decide) ?_
            refine lv_icmp_ne (tgt := 383) hx hb dX4_isSame_276 (by decide) (fun h1 => absurd h1 (fun h => h (by first | rfl | (rw [hC9]; rfl)))) (fun _ => ?_)
            refine W.widen (k := 610 * r + 9 + 15 * j + 7) (n := 5060 * r + 88 + 124 * j + 76) (by show 610 * r + 9 + 15 * j + 1 + 2 + 2 + 2 ≤ 610 * r + 9 + 15 * j + 7; omega) (by show 5060 * r + 88 + 124 * j + 40 + 12 + 12 + 12 ≤ 5060 * r + 88 + 124 * j + 76; omega) ?_
            exact k279 L K si P hc H locs hH hS ls (lv_sub hl [0, 1, 2, 3, 4, 5, 6, 7, 8] rfl)
          | cons f9 X9 =>
            obtain ⟨s9, p9, u9⟩ := f9
            have hbt : p9 ∈ tids (T r) := zof_sub ha (Or.inl (by rw [hC9]; rfl))
            have hb3 : φ p9 ∈ tids (mpT φ T r) := by show φ p9 ∈ tids (mp φ (T r)); rw [mp_tids]; exact List.mem_map.mpr ⟨p9, hbt, rfl⟩
            obtain ⟨m__φ_p9_, x8, y8, e__φ_p9_⟩ := sT_at _ (hY r hr6) (φ p9) hb3
            have hX9 : X9.length + 1 + 1 ≤ 40 := by rw [hC9] at zl2; simp only [List.length_cons] at zl2; omega
            have hw9 : (anc (zof (mpT φ T r) (φ a)).2.2.2 ++ [φ a])[X9.length]? = some (φ p9) := by
              rw [hXm, hC9]
              show (anc ((s9, φ p9, mp φ u9) :: mpC φ X9) ++ [φ a])[X9.length]? = _
              rw [anc_cons, List.append_assoc, List.getElem?_append_right (by rw [anc_len, mpC_length]; omega), anc_len, mpC_length, Nat.sub_self]
              rfl
            have e_q : E q = qE Γ (X9.length + 1 + 1) (fun i => (anc (zof (mpT φ T r) (φ a)).2.2.2 ++ [φ a])[i]?) := by rw [e_q, hC9]; rfl
            refine lv_aload hx hb dX4_isSame_254 (lv_at hl 0 rfl) ?_
            refine lQ S hK hH m_q e_q dX4_isSame_256 ?_
            refine lv_iconst (v := 2) hx hb dX4_isSame_257 (by decide) ?_
            refine lv_icmp_ge (tgt := 265) hx hb dX4_isSame_258 (by decide) (fun _ => ?_) (fun h1 => absurd (show nI 2 ≤ nI (X9.length + 1 + 1) from nI_le (by omega) (by omega)) h1)
            refine lv_aload hx hb dX4_isSame_265 (lv_at hl 0 rfl) ?_
            refine lv_aload hx hb dX4_isSame_267 (lv_at hl 0 rfl) ?_
            refine lQ S hK hH m_q e_q dX4_isSame_269 ?_
            refine lv_iconst (v := 2) hx hb dX4_isSame_270 (by decide) ?_
            refine lv_isub hx hb dX4_isSame_271 ?_
            refine gQ S hK hH m_q e_q (j := X9.length) (nI_sub X9.length 2) (by omega) (by omega) (r := (some (φ p9))) hw9 dX4_isSame_272 ?_
            refine gB S hi3 hK hH m__φ_p9_ e__φ_p9_ 0 (by decide) f24 (v := .int (nI (zz (φ p9)))) rfl dX4_isSame_273 ?_
            refine lv_icmp_ne (tgt := 383) hx hb dX4_isSame_276 (by decide) (fun h1 => absurd h1 (fun h => h (by first | exact congrArg nI (j1 p9 hbt).symm | (rw [hC9]; exact congrArg nI (j1 p9 hbt).symm)))) (fun _ => ?_)
            refine W.widen (k := 610 * r + 9 + 15 * j + 7) (n := 5060 * r + 88 + 124 * j + 76) (by show 610 * r + 9 + 15 * j + 1 + 2 + 2 + 2 ≤ 610 * r + 9 + 15 * j + 7; omega) (by show 5060 * r + 88 + 124 * j + 40 + 12 + 12 + 12 ≤ 5060 * r + 88 + 124 * j + 76; omega) ?_
            exact k279 L K si P hc H locs hH hS ls (lv_sub hl [0, 1, 2, 3, 4, 5, 6, 7, 8] rfl)
      refine lv_pop hx hb dX4_isSame_35 rfl ?_
      refine lv_aload_n hx hb dX4_isSame_36 rfl (lv_at hl 5 rfl) ?_
      refine lv_iload_n hx hb dX4_isSame_37 rfl (lv_at hl 3 rfl) ?_
      have hq9 := (qr_n (f := fun r => nI (tids (T r)).length) hr6)
      refine cVx S (c_X2_sizeOf (row := nI r) hst hc) (cwV 1 hts gX4_isSame_X2_sizeOf rfl rfl rfl (by decide +kernel) ⟨Nat.le_of_ble_eq_true rfl, Nat.le_of_ble_eq_true rfl⟩) hK hH hX.1 (Hp_recv hK hH hc.1.1.1 hc.1.1.2 rfl) hS rfl hl.1 rfl (by simp [cat_rf, Value.category]) dX4_isSame_38 ⟨(by show 610 * r + 1 + 1 ≤ 3700; omega), (by show 5060 * r + 40 + 6 ≤ 30400; omega)⟩ (fun E9 Z1 H locs ce q9 hpx hH hS hce hcv hcl => (PxQ hpx hq9).elim) (fun v Z1 H locs hpost hH hS => ?_)
      obtain ⟨rfl, L, K, si, P, rfl, hc⟩ := PoQ hpost hq9
      refine lv_iload hx hb dX4_isSame_41 (lv_at hl 1 rfl) ?_
      refine lv_icmp_ne (tgt := 181) hx hb dX4_isSame_43 (by decide) (fun h1 => absurd h1 (fun h => h rfl)) (fun _ => ?_)
      refine lv_aload_n hx hb dX4_isSame_46 rfl (lv_at hl 5 rfl) ?_
      refine lv_iload_n hx hb dX4_isSame_47 rfl (lv_at hl 3 rfl) ?_
      have hq9 := (qr_n (f := fun r => er ((rt (T r)).map sz)) hr6)
      refine cVx S (c_X2_top (row := nI r) hst hc) (cwV 1 hts gX4_isSame_X2_top rfl rfl rfl (by decide +kernel) ⟨Nat.le_of_ble_eq_true rfl, Nat.le_of_ble_eq_true rfl⟩) hK hH hX.1 (Hp_recv hK hH hc.1.1.1 hc.1.1.2 rfl) hS rfl hl.1 rfl (by simp [cat_rf, Value.category]) dX4_isSame_48 ⟨(by show 610 * r + 1 + 1 + 1 ≤ 3700; omega), (by show 5060 * r + 40 + 6 + 6 ≤ 30400; omega)⟩ (fun E9 Z1 H locs ce q9 hpx hH hS hce hcv hcl => (PxQ hpx hq9).elim) (fun v Z1 H locs hpost hH hS => ?_)
      obtain ⟨rfl, L, K, si, P, rfl, hc⟩ := PoQ hpost hq9
      rcases hTr9 : T r with u9 | ⟨k0, x0, y0⟩
      · skip
        have hn0 : (tids (T r)).length = 0 := by rw [hTr9]; rfl
        have hYn : rt (mpT φ T r) = none := by show rt (mp φ (T r)) = none; rw [hTr9]; rfl
        have hz0 : nI (tids (T r)).length = 0 := by rw [hn0]; rfl
        refine lv_iload hx hb dX4_isSame_51 (lv_at hl 1 rfl) ?_
        refine lv_if_ne (tgt := 60) hx hb dX4_isSame_53 (by decide) (fun h1 => absurd h1 (fun h => h hz0)) (fun _ => ?_)
        refine lv_iconst (v := -1) hx hb dX4_isSame_56 (by decide) ?_
        refine lv_goto (tgt := 64) hx hb dX4_isSame_57 (by decide) ?_
        refine lv_icmp_ne (tgt := 181) hx hb dX4_isSame_64 (by decide) (fun h1 => absurd h1 (fun h => h (rfl))) (fun _ => ?_)
        refine lv_aload_n hx hb dX4_isSame_67 rfl (lv_at hl 5 rfl) ?_
        refine lv_iload_n hx hb dX4_isSame_68 rfl (lv_at hl 3 rfl) ?_
        have hq9 := (qr_n (f := fun r => nI (hgt (T r))) hr6)
        refine cVx S (c_X2_height (row := nI r) hst hc) (cwV 1 hts gX4_isSame_X2_height rfl rfl rfl (by decide +kernel) ⟨Nat.le_of_ble_eq_true rfl, Nat.le_of_ble_eq_true rfl⟩) hK hH hX.1 (Hp_recv hK hH hc.1.1.1 hc.1.1.2 rfl) hS rfl hl.1 rfl (by simp [cat_rf, Value.category]) dX4_isSame_69 ⟨(by show 610 * r + 1 + 1 + 1 + 1 ≤ 3700; omega), (by show 5060 * r + 40 + 6 + 6 + 6 ≤ 30400; omega)⟩ (fun E9 Z1 H locs ce q9 hpx hH hS hce hcv hcl => (PxQ hpx hq9).elim) (fun v Z1 H locs hpost hH hS => ?_)
        obtain ⟨rfl, L, K, si, P, rfl, hc⟩ := PoQ hpost hq9
        refine lq_aload_n S dX4_isSame_72 rfl (lv_at hl 2 rfl) ?_
        refine cyS S (c_X4_height (mpT φ T r) 40 (hh40 r hr6) (hY r hr6) (by have := hh40 r hr6; omega)) (va_cwS 1 hts gX4_isSame_X4_height rfl rfl rfl (by decide +kernel) ⟨Nat.le_of_ble_eq_true rfl, Nat.le_of_ble_eq_true rfl⟩) hK hH hX hS rfl hl.1 rfl (by simp [cat_rf, Value.category]) dX4_isSame_73 ⟨(by show 610 * r + 1 + 1 + 1 + 1 + 0 ≤ 3700; omega), (by show 5060 * r + 40 + 6 + 6 + 6 + 0 ≤ 30400; omega)⟩ (fun v Z1 H locs hpost hH hS => ?_)
        obtain ⟨rfl, rfl⟩ := hpost
        refine lv_icmp_ne (tgt := 181) hx hb dX4_isSame_76 (by decide) (fun h1 => absurd h1 (fun h => h (congrArg nI (mp_hgt φ (T r)).symm))) (fun _ => ?_)
        refine lv_aload_n hx hb dX4_isSame_79 rfl (lv_at hl 5 rfl) ?_
        refine lv_iload_n hx hb dX4_isSame_80 rfl (lv_at hl 3 rfl) ?_
        have hq9 := (qr_n (f := fun r => nI (dsm (T r) 0)) hr6)
        refine cVx S (c_X2_depths (row := nI r) hst hc) (cwV 1 hts gX4_isSame_X2_depths rfl rfl rfl (by decide +kernel) ⟨Nat.le_of_ble_eq_true rfl, Nat.le_of_ble_eq_true rfl⟩) hK hH hX.1 (Hp_recv hK hH hc.1.1.1 hc.1.1.2 rfl) hS rfl hl.1 rfl (by simp [cat_rf, Value.category]) dX4_isSame_81 ⟨(by show 610 * r + 1 + 1 + 1 + 1 + 0 + 1 ≤ 3700; omega), (by show 5060 * r + 40 + 6 + 6 + 6 + 0 + 6 ≤ 30400; omega)⟩ (fun E9 Z1 H locs ce q9 hpx hH hS hce hcv hcl => (PxQ hpx hq9).elim) (fun v Z1 H locs hpost hH hS => ?_)
        obtain ⟨rfl, L, K, si, P, rfl, hc⟩ := PoQ hpost hq9
        refine lq_aload_n S dX4_isSame_84 rfl (lv_at hl 2 rfl) ?_
        refine cyS S (c_X4_depths (mpT φ T r) 40 (hh40 r hr6) (hY r hr6)) (va_cwS 1 hts gX4_isSame_X4_depths rfl rfl rfl (by decide +kernel) ⟨Nat.le_of_ble_eq_true rfl, Nat.le_of_ble_eq_true rfl⟩) hK hH hX hS rfl hl.1 rfl (by simp [cat_rf, Value.category]) dX4_isSame_85 ⟨(by show 610 * r + 1 + 1 + 1 + 1 + 0 + 1 + 0 ≤ 3700; omega), (by show 5060 * r + 40 + 6 + 6 + 6 + 0 + 6 + 0 ≤ 30400; omega)⟩ (fun v Z1 H locs hpost hH hS => ?_)
        obtain ⟨rfl, rfl⟩ := hpost
        refine lv_icmp_ne (tgt := 181) hx hb dX4_isSame_88 (by decide) (fun h1 => absurd h1 (fun h => h (congrArg nI (mp_dsm φ (T r) 0).symm))) (fun _ => ?_)
        refine lv_aload_n hx hb dX4_isSame_91 rfl (lv_at hl 5 rfl) ?_
        refine lv_iload_n hx hb dX4_isSame_92 rfl (lv_at hl 3 rfl) ?_
        have hq9 := (qr_n (f := fun r => nI (lvs (T r))) hr6)
        refine cVx S (c_X2_leaves (row := nI r) hst hc) (cwV 1 hts gX4_isSame_X2_leaves rfl rfl rfl (by decide +kernel) ⟨Nat.le_of_ble_eq_true rfl, Nat.le_of_ble_eq_true rfl⟩) hK hH hX.1 (Hp_recv hK hH hc.1.1.1 hc.1.1.2 rfl) hS rfl hl.1 rfl (by simp [cat_rf, Value.category]) dX4_isSame_93 ⟨(by show 610 * r + 1 + 1 + 1 + 1 + 0 + 1 + 0 + 1 ≤ 3700; omega), (by show 5060 * r + 40 + 6 + 6 + 6 + 0 + 6 + 0 + 6 ≤ 30400; omega)⟩ (fun E9 Z1 H locs ce q9 hpx hH hS hce hcv hcl => (PxQ hpx hq9).elim) (fun v Z1 H locs hpost hH hS => ?_)
        obtain ⟨rfl, L, K, si, P, rfl, hc⟩ := PoQ hpost hq9
        refine lq_aload_n S dX4_isSame_96 rfl (lv_at hl 2 rfl) ?_
        refine cyS S (c_X4_leaves (mpT φ T r) 40 (hh40 r hr6) (hY r hr6)) (va_cwS 1 hts gX4_isSame_X4_leaves rfl rfl rfl (by decide +kernel) ⟨Nat.le_of_ble_eq_true rfl, Nat.le_of_ble_eq_true rfl⟩) hK hH hX hS rfl hl.1 rfl (by simp [cat_rf, Value.category]) dX4_isSame_97 ⟨(by show 610 * r + 1 + 1 + 1 + 1 + 0 + 1 + 0 + 1 + 0 ≤ 3700; omega), (by show 5060 * r + 40 + 6 + 6 + 6 + 0 + 6 + 0 + 6 + 0 ≤ 30400; omega)⟩ (fun v Z1 H locs hpost hH hS => ?_)
        obtain ⟨rfl, rfl⟩ := hpost
        refine lv_icmp_ne (tgt := 181) hx hb dX4_isSame_100 (by decide) (fun h1 => absurd h1 (fun h => h (congrArg nI (mp_lvs φ (T r)).symm))) (fun _ => ?_)
        refine lv_aload_n hx hb dX4_isSame_103 rfl (lv_at hl 5 rfl) ?_
        refine lv_iload_n hx hb dX4_isSame_104 rfl (lv_at hl 3 rfl) ?_
        have hq9 := (qr_n (f := fun r => er (((tids (T r)).head?).map sz)) hr6)
        refine cVx S (c_X2_smallest (row := nI r) hst hc) (cwV 1 hts gX4_isSame_X2_smallest rfl rfl rfl (by decide +kernel) ⟨Nat.le_of_ble_eq_true rfl, Nat.le_of_ble_eq_true rfl⟩) hK hH hX.1 (Hp_recv hK hH hc.1.1.1 hc.1.1.2 rfl) hS rfl hl.1 rfl (by simp [cat_rf, Value.category]) dX4_isSame_105 ⟨(by show 610 * r + 1 + 1 + 1 + 1 + 0 + 1 + 0 + 1 + 0 + 1 ≤ 3700; omega), (by show 5060 * r + 40 + 6 + 6 + 6 + 0 + 6 + 0 + 6 + 0 + 6 ≤ 30400; omega)⟩ (fun E9 Z1 H locs ce q9 hpx hH hS hce hcv hcl => (PxQ hpx hq9).elim) (fun v Z1 H locs hpost hH hS => ?_)
        obtain ⟨rfl, L, K, si, P, rfl, hc⟩ := PoQ hpost hq9
        refine lv_iload hx hb dX4_isSame_108 (lv_at hl 1 rfl) ?_
        refine lv_if_ne (tgt := 117) hx hb dX4_isSame_110 (by decide) (fun h1 => absurd h1 (fun h => h hz0)) (fun _ => ?_)
        refine lv_iconst (v := -1) hx hb dX4_isSame_113 (by decide) ?_
        refine lv_goto (tgt := 124) hx hb dX4_isSame_114 (by decide) ?_
        refine lv_icmp_ne (tgt := 181) hx hb dX4_isSame_124 (by decide) (fun h1 => absurd h1 (fun h => h (by rw [hTr9]; rfl))) (fun _ => ?_)
        refine lv_aload_n hx hb dX4_isSame_127 rfl (lv_at hl 5 rfl) ?_
        refine lv_iload_n hx hb dX4_isSame_128 rfl (lv_at hl 3 rfl) ?_
        have hq9 := (qr_n (f := fun r => er (((tids (T r)).getLast?).map sz)) hr6)
        refine cVx S (c_X2_greatest (row := nI r) hst hc) (cwV 1 hts gX4_isSame_X2_greatest rfl rfl rfl (by decide +kernel) ⟨Nat.le_of_ble_eq_true rfl, Nat.le_of_ble_eq_true rfl⟩) hK hH hX.1 (Hp_recv hK hH hc.1.1.1 hc.1.1.2 rfl) hS rfl hl.1 rfl (by simp [cat_rf, Value.category]) dX4_isSame_129 ⟨(by show 610 * r + 1 + 1 + 1 + 1 + 0 + 1 + 0 + 1 + 0 + 1 + 1 ≤ 3700; omega), (by show 5060 * r + 40 + 6 + 6 + 6 + 0 + 6 + 0 + 6 + 0 + 6 + 6 ≤ 30400; omega)⟩ (fun E9 Z1 H locs ce q9 hpx hH hS hce hcv hcl => (PxQ hpx hq9).elim) (fun v Z1 H locs hpost hH hS => ?_)
        obtain ⟨rfl, L, K, si, P, rfl, hc⟩ := PoQ hpost hq9
        refine lv_iload hx hb dX4_isSame_132 (lv_at hl 1 rfl) ?_
        refine lv_if_ne (tgt := 141) hx hb dX4_isSame_134 (by decide) (fun h1 => absurd h1 (fun h => h hz0)) (fun _ => ?_)
        refine lv_iconst (v := -1) hx hb dX4_isSame_137 (by decide) ?_
        refine lv_goto (tgt := 151) hx hb dX4_isSame_138 (by decide) ?_
        refine lv_icmp_ne (tgt := 181) hx hb dX4_isSame_151 (by decide) (fun h1 => absurd h1 (fun h => h (by rw [hTr9]; rfl))) (fun _ => ?_)
        refine lv_aload_n hx hb dX4_isSame_154 rfl (lv_at hl 5 rfl) ?_
        refine lv_iload_n hx hb dX4_isSame_155 rfl (lv_at hl 3 rfl) ?_
        refine cVx S (c_X2_meanDepth (row := nI r) hst hc) (cwV 1 hts gX4_isSame_X2_meanDepth rfl rfl rfl (by decide +kernel) ⟨Nat.le_of_ble_eq_true rfl, Nat.le_of_ble_eq_true rfl⟩) hK hH hX.1 (Hp_recv hK hH hc.1.1.1 hc.1.1.2 rfl) hS rfl hl.1 rfl (by simp [Value.category]) dX4_isSame_156 ⟨(by show 610 * r + 1 + 1 + 1 + 1 + 0 + 1 + 0 + 1 + 0 + 1 + 1 + 1 ≤ 3700; omega), (by show 5060 * r + 40 + 6 + 6 + 6 + 0 + 6 + 0 + 6 + 0 + 6 + 6 + 6 ≤ 30400; omega)⟩ (fun E9 Z1 H locs ce q9 hpx hH hS hce hcv hcl => absurd hpx.1.2 (by rw [rowN_nI hr6]; simp)) (fun v Z1 H locs hpost hH hS => ?_)
        obtain ⟨r1, e1, rfl, L, K, si, P, rfl, hc⟩ := hpost
        rw [rowN_nI hr6] at e1
        cases e1
        refine lv_iload hx hb dX4_isSame_159 (lv_at hl 1 rfl) ?_
        refine lv_if_ne (tgt := 168) hx hb dX4_isSame_161 (by decide) (fun h1 => absurd h1 (fun h => h hz0)) (fun _ => ?_)
        refine lv_dconst0 hx hb dX4_isSame_164 ?_
        refine lv_goto (tgt := 177) hx hb dX4_isSame_165 (by decide) ?_
        refine lv_dcmp hx hb dX4_isSame_177 ?_
        rw [mdp_0 hn0]
        refine lv_if_eq (tgt := 183) hx hb dX4_isSame_178 (by decide) (fun _ => ?_) (fun h1 => absurd rfl h1)
        refine lv_iconst (v := 0) hx hb dX4_isSame_183 (by decide) ?_
        refine lv_istore (lv' := [(6, .int 0), (5, .ref row), (4, .int (nI (tids (T r)).length)), (3, va_rf (rt (mpT φ T r))), (2, .int (nI r)), (0, .ref sa), (1, .ref o)]) hx hb dX4_isSame_184 hl (by decide) rfl (fun ls hl => ?_)
        refine W.widen (k := 610 * r + 9 + 15 * 0) (n := 5060 * r + 88 + 124 * 0) (by show 610 * r + 1 + 1 + 1 + 1 + 0 + 1 + 0 + 1 + 0 + 1 + 1 + 1 ≤ 610 * r + 9 + 15 * 0; omega) (by show 5060 * r + 40 + 6 + 6 + 6 + 0 + 6 + 0 + 6 + 0 + 6 + 6 + 6 ≤ 5060 * r + 88 + 124 * 0; omega) ?_
        exact inner (tids (T r)).length 0 rfl L K si P U E hc hI m_row e_row H locs hH hS ls (lv_sub hl [0, 1, 2, 3, 4, 5, 6] rfl)
      · skip
        have hn0 : 0 < (tids (T r)).length := by rw [hTr9, tids_branch, List.length_append, List.length_cons]; omega
        have hz0 : ¬ nI (tids (T r)).length = 0 := nI_ne0 hn0 hlt
        have hYs : rt (mpT φ T r) = some (φ k0) := by show rt (mp φ (T r)) = _; rw [hTr9]; rfl
        have hk0 : k0 ∈ tids (T r) := by rw [hTr9]; simp [tids]
        have hk1 : φ k0 ∈ tids (mpT φ T r) := rt_mem hYs
        obtain ⟨m__φ_k0_, x8, y8, e__φ_k0_⟩ := sT_at _ (hY r hr6) (φ k0) hk1
        have hl9 := hl
        rw [hYs] at hl9
        obtain ⟨aF, haF⟩ : ∃ aF, (tids (T r))[0]? = some aF := ⟨_, List.getElem?_eq_getElem hn0⟩
        obtain ⟨aG, haG⟩ : ∃ aG, (tids (T r))[(tids (T r)).length - 1]? = some aG := ⟨_, List.getElem?_eq_getElem (by omega)⟩
        have hmm : ∀ (j b : Nat), (tids (T r))[j]? = some b → j < (tids (T r)).length → oF (fun _ => none) 0 (tids (mpT φ T r)) j = some (φ b) ∧ φ b ∈ tids (mpT φ T r) := fun j b hb9 hj9 => by
          have h8 : (tids (mpT φ T r))[j]? = some (φ b) := by show (tids (mp φ (T r)))[j]? = _; rw [mp_tids, List.getElem?_map, hb9]; rfl
          have h9 := oF_at (tids (mpT φ T r)) (fun _ => none) 0 j (by omega)
          rw [Nat.zero_add] at h9
          exact ⟨h9.trans h8, List.mem_of_getElem? h8⟩
        obtain ⟨hoF, hmF⟩ := hmm 0 aF haF hn0
        obtain ⟨hoG, hmG⟩ := hmm _ aG haG (by omega)
        have htF := List.mem_of_getElem? haF
        have htG := List.mem_of_getElem? haG
        obtain ⟨m__φ_aF_, xF, yF, e__φ_aF_⟩ := sT_at _ (hY r hr6) (φ aF) hmF
        obtain ⟨m__φ_aG_, xG, yG, e__φ_aG_⟩ := sT_at _ (hY r hr6) (φ aG) hmG
        refine lv_iload hx hb dX4_isSame_51 (lv_at hl 1 rfl) ?_
        refine lv_if_ne (tgt := 60) hx hb dX4_isSame_53 (by decide) (fun _ => ?_) (fun h1 => absurd h1 hz0)
        rw [hYs] at hl
        refine lv_aload_n hx hb dX4_isSame_60 rfl (lv_at hl 2 rfl) ?_
        refine gB S hi3 hK hH m__φ_k0_ e__φ_k0_ 0 (by decide) f24 (v := .int (nI (zz (φ k0)))) rfl dX4_isSame_61 ?_
        refine lv_icmp_ne (tgt := 181) hx hb dX4_isSame_64 (by decide) (fun h1 => absurd h1 (fun h => h (congrArg nI (j1 k0 hk0).symm))) (fun _ => ?_)
        rw [← hYs] at hl
        refine lv_aload_n hx hb dX4_isSame_67 rfl (lv_at hl 5 rfl) ?_
        refine lv_iload_n hx hb dX4_isSame_68 rfl (lv_at hl 3 rfl) ?_
        have hq9 := (qr_n (f := fun r => nI (hgt (T r))) hr6)
        refine cVx S (c_X2_height (row := nI r) hst hc) (cwV 1 hts gX4_isSame_X2_height rfl rfl rfl (by decide +kernel) ⟨Nat.le_of_ble_eq_true rfl, Nat.le_of_ble_eq_true rfl⟩) hK hH hX.1 (Hp_recv hK hH hc.1.1.1 hc.1.1.2 rfl) hS rfl hl.1 rfl (by simp [cat_rf, Value.category]) dX4_isSame_69 ⟨(by show 610 * r + 1 + 1 + 1 + 1 ≤ 3700; omega), (by show 5060 * r + 40 + 6 + 6 + 6 ≤ 30400; omega)⟩ (fun E9 Z1 H locs ce q9 hpx hH hS hce hcv hcl => (PxQ hpx hq9).elim) (fun v Z1 H locs hpost hH hS => ?_)
        obtain ⟨rfl, L, K, si, P, rfl, hc⟩ := PoQ hpost hq9
        refine lq_aload_n S dX4_isSame_72 rfl (lv_at hl 2 rfl) ?_
        refine cyS S (c_X4_height (mpT φ T r) 40 (hh40 r hr6) (hY r hr6) (by have := hh40 r hr6; omega)) (va_cwS 1 hts gX4_isSame_X4_height rfl rfl rfl (by decide +kernel) ⟨Nat.le_of_ble_eq_true rfl, Nat.le_of_ble_eq_true rfl⟩) hK hH hX hS rfl hl.1 rfl (by simp [cat_rf, Value.category]) dX4_isSame_73 ⟨(by show 610 * r + 1 + 1 + 1 + 1 + 0 ≤ 3700; omega), (by show 5060 * r + 40 + 6 + 6 + 6 + 0 ≤ 30400; omega)⟩ (fun v Z1 H locs hpost hH hS => ?_)
        obtain ⟨rfl, rfl⟩ := hpost
        refine lv_icmp_ne (tgt := 181) hx hb dX4_isSame_76 (by decide) (fun h1 => absurd h1 (fun h => h (congrArg nI (mp_hgt φ (T r)).symm))) (fun _ => ?_)
        refine lv_aload_n hx hb dX4_isSame_79 rfl (lv_at hl 5 rfl) ?_
        refine lv_iload_n hx hb dX4_isSame_80 rfl (lv_at hl 3 rfl) ?_
        have hq9 := (qr_n (f := fun r => nI (dsm (T r) 0)) hr6)
        refine cVx S (c_X2_depths (row := nI r) hst hc) (cwV 1 hts gX4_isSame_X2_depths rfl rfl rfl (by decide +kernel) ⟨Nat.le_of_ble_eq_true rfl, Nat.le_of_ble_eq_true rfl⟩) hK hH hX.1 (Hp_recv hK hH hc.1.1.1 hc.1.1.2 rfl) hS rfl hl.1 rfl (by simp [cat_rf, Value.category]) dX4_isSame_81 ⟨(by show 610 * r + 1 + 1 + 1 + 1 + 0 + 1 ≤ 3700; omega), (by show 5060 * r + 40 + 6 + 6 + 6 + 0 + 6 ≤ 30400; omega)⟩ (fun E9 Z1 H locs ce q9 hpx hH hS hce hcv hcl => (PxQ hpx hq9).elim) (fun v Z1 H locs hpost hH hS => ?_)
        obtain ⟨rfl, L, K, si, P, rfl, hc⟩ := PoQ hpost hq9
        refine lq_aload_n S dX4_isSame_84 rfl (lv_at hl 2 rfl) ?_
        refine cyS S (c_X4_depths (mpT φ T r) 40 (hh40 r hr6) (hY r hr6)) (va_cwS 1 hts gX4_isSame_X4_depths rfl rfl rfl (by decide +kernel) ⟨Nat.le_of_ble_eq_true rfl, Nat.le_of_ble_eq_true rfl⟩) hK hH hX hS rfl hl.1 rfl (by simp [cat_rf, Value.category]) dX4_isSame_85 ⟨(by show 610 * r + 1 + 1 + 1 + 1 + 0 + 1 + 0 ≤ 3700; omega), (by show 5060 * r + 40 + 6 + 6 + 6 + 0 + 6 + 0 ≤ 30400; omega)⟩ (fun v Z1 H locs hpost hH hS => ?_)
        obtain ⟨rfl, rfl⟩ := hpost
        refine lv_icmp_ne (tgt := 181) hx hb dX4_isSame_88 (by decide) (fun h1 => absurd h1 (fun h => h (congrArg nI (mp_dsm φ (T r) 0).symm))) (fun _ => ?_)
        refine lv_aload_n hx hb dX4_isSame_91 rfl (lv_at hl 5 rfl) ?_
        refine lv_iload_n hx hb dX4_isSame_92 rfl (lv_at hl 3 rfl) ?_
        have hq9 := (qr_n (f := fun r => nI (lvs (T r))) hr6)
        refine cVx S (c_X2_leaves (row := nI r) hst hc) (cwV 1 hts gX4_isSame_X2_leaves rfl rfl rfl (by decide +kernel) ⟨Nat.le_of_ble_eq_true rfl, Nat.le_of_ble_eq_true rfl⟩) hK hH hX.1 (Hp_recv hK hH hc.1.1.1 hc.1.1.2 rfl) hS rfl hl.1 rfl (by simp [cat_rf, Value.category]) dX4_isSame_93 ⟨(by show 610 * r + 1 + 1 + 1 + 1 + 0 + 1 + 0 + 1 ≤ 3700; omega), (by show 5060 * r + 40 + 6 + 6 + 6 + 0 + 6 + 0 + 6 ≤ 30400; omega)⟩ (fun E9 Z1 H locs ce q9 hpx hH hS hce hcv hcl => (PxQ hpx hq9).elim) (fun v Z1 H locs hpost hH hS => ?_)
        obtain ⟨rfl, L, K, si, P, rfl, hc⟩ := PoQ hpost hq9
        refine lq_aload_n S dX4_isSame_96 rfl (lv_at hl 2 rfl) ?_
        refine cyS S (c_X4_leaves (mpT φ T r) 40 (hh40 r hr6) (hY r hr6)) (va_cwS 1 hts gX4_isSame_X4_leaves rfl rfl rfl (by decide +kernel) ⟨Nat.le_of_ble_eq_true rfl, Nat.le_of_ble_eq_true rfl⟩) hK hH hX hS rfl hl.1 rfl (by simp [cat_rf, Value.category]) dX4_isSame_97 ⟨(by show 610 * r + 1 + 1 + 1 + 1 + 0 + 1 + 0 + 1 + 0 ≤ 3700; omega), (by show 5060 * r + 40 + 6 + 6 + 6 + 0 + 6 + 0 + 6 + 0 ≤ 30400; omega)⟩ (fun v Z1 H locs hpost hH hS => ?_)
        obtain ⟨rfl, rfl⟩ := hpost
        refine lv_icmp_ne (tgt := 181) hx hb dX4_isSame_100 (by decide) (fun h1 => absurd h1 (fun h => h (congrArg nI (mp_lvs φ (T r)).symm))) (fun _ => ?_)
        refine lv_aload_n hx hb dX4_isSame_103 rfl (lv_at hl 5 rfl) ?_
        refine lv_iload_n hx hb dX4_isSame_104 rfl (lv_at hl 3 rfl) ?_
        have hq9 := (qr_n (f := fun r => er (((tids (T r)).head?).map sz)) hr6)
        refine cVx S (c_X2_smallest (row := nI r) hst hc) (cwV 1 hts gX4_isSame_X2_smallest rfl rfl rfl (by decide +kernel) ⟨Nat.le_of_ble_eq_true rfl, Nat.le_of_ble_eq_true rfl⟩) hK hH hX.1 (Hp_recv hK hH hc.1.1.1 hc.1.1.2 rfl) hS rfl hl.1 rfl (by simp [cat_rf, Value.category]) dX4_isSame_105 ⟨(by show 610 * r + 1 + 1 + 1 + 1 + 0 + 1 + 0 + 1 + 0 + 1 ≤ 3700; omega), (by show 5060 * r + 40 + 6 + 6 + 6 + 0 + 6 + 0 + 6 + 0 + 6 ≤ 30400; omega)⟩ (fun E9 Z1 H locs ce q9 hpx hH hS hce hcv hcl => (PxQ hpx hq9).elim) (fun v Z1 H locs hpost hH hS => ?_)
        obtain ⟨rfl, L, K, si, P, rfl, hc⟩ := PoQ hpost hq9
        refine lv_iload hx hb dX4_isSame_108 (lv_at hl 1 rfl) ?_
        refine lv_if_ne (tgt := 117) hx hb dX4_isSame_110 (by decide) (fun _ => ?_) (fun h1 => absurd h1 hz0)
        refine lv_aload hx hb dX4_isSame_117 (lv_at hl 0 rfl) ?_
        refine lv_iconst (v := 0) hx hb dX4_isSame_119 (by decide) ?_
        refine gQ S hK hH m_row e_row (j := 0) rfl hn0 hlt (r := (some (φ aF))) hoF dX4_isSame_120 ?_
        refine gB S hi3 hK hH m__φ_aF_ e__φ_aF_ 0 (by decide) f24 (v := .int (nI (zz (φ aF)))) rfl dX4_isSame_121 ?_
        refine lv_icmp_ne (tgt := 181) hx hb dX4_isSame_124 (by decide) (fun h1 => absurd h1 (fun h => h (by rw [List.head?_eq_getElem?, haF]; exact congrArg nI (j1 aF htF).symm))) (fun _ => ?_)
        refine lv_aload_n hx hb dX4_isSame_127 rfl (lv_at hl 5 rfl) ?_
        refine lv_iload_n hx hb dX4_isSame_128 rfl (lv_at hl 3 rfl) ?_
        have hq9 := (qr_n (f := fun r => er (((tids (T r)).getLast?).map sz)) hr6)
        refine cVx S (c_X2_greatest (row := nI r) hst hc) (cwV 1 hts gX4_isSame_X2_greatest rfl rfl rfl (by decide +kernel) ⟨Nat.le_of_ble_eq_true rfl, Nat.le_of_ble_eq_true rfl⟩) hK hH hX.1 (Hp_recv hK hH hc.1.1.1 hc.1.1.2 rfl) hS rfl hl.1 rfl (by simp [cat_rf, Value.category]) dX4_isSame_129 ⟨(by show 610 * r + 1 + 1 + 1 + 1 + 0 + 1 + 0 + 1 + 0 + 1 + 1 ≤ 3700; omega), (by show 5060 * r + 40 + 6 + 6 + 6 + 0 + 6 + 0 + 6 + 0 + 6 + 6 ≤ 30400; omega)⟩ (fun E9 Z1 H locs ce q9 hpx hH hS hce hcv hcl => (PxQ hpx hq9).elim) (fun v Z1 H locs hpost hH hS => ?_)
        obtain ⟨rfl, L, K, si, P, rfl, hc⟩ := PoQ hpost hq9
        refine lv_iload hx hb dX4_isSame_132 (lv_at hl 1 rfl) ?_
        refine lv_if_ne (tgt := 141) hx hb dX4_isSame_134 (by decide) (fun _ => ?_) (fun h1 => absurd h1 hz0)
        refine lv_aload hx hb dX4_isSame_141 (lv_at hl 0 rfl) ?_
        refine lv_iload hx hb dX4_isSame_143 (lv_at hl 1 rfl) ?_
        refine lv_iconst (v := 1) hx hb dX4_isSame_145 (by decide) ?_
        refine lv_isub hx hb dX4_isSame_146 ?_
        refine gQ S hK hH m_row e_row (j := ((tids (T r)).length - 1)) (nI_pm hn0) (by omega) hlt (r := (some (φ aG))) hoG dX4_isSame_147 ?_
        refine gB S hi3 hK hH m__φ_aG_ e__φ_aG_ 0 (by decide) f24 (v := .int (nI (zz (φ aG)))) rfl dX4_isSame_148 ?_
        refine lv_icmp_ne (tgt := 181) hx hb dX4_isSame_151 (by decide) (fun h1 => absurd h1 (fun h => h (by rw [List.getLast?_eq_getElem?, haG]; exact congrArg nI (j1 aG htG).symm))) (fun _ => ?_)
        refine lv_aload_n hx hb dX4_isSame_154 rfl (lv_at hl 5 rfl) ?_
        refine lv_iload_n hx hb dX4_isSame_155 rfl (lv_at hl 3 rfl) ?_
        refine cVx S (c_X2_meanDepth (row := nI r) hst hc) (cwV 1 hts gX4_isSame_X2_meanDepth rfl rfl rfl (by decide +kernel) ⟨Nat.le_of_ble_eq_true rfl, Nat.le_of_ble_eq_true rfl⟩) hK hH hX.1 (Hp_recv hK hH hc.1.1.1 hc.1.1.2 rfl) hS rfl hl.1 rfl (by simp [Value.category]) dX4_isSame_156 ⟨(by show 610 * r + 1 + 1 + 1 + 1 + 0 + 1 + 0 + 1 + 0 + 1 + 1 + 1 ≤ 3700; omega), (by show 5060 * r + 40 + 6 + 6 + 6 + 0 + 6 + 0 + 6 + 0 + 6 + 6 + 6 ≤ 30400; omega)⟩ (fun E9 Z1 H locs ce q9 hpx hH hS hce hcv hcl => absurd hpx.1.2 (by rw [rowN_nI hr6]; simp)) (fun v Z1 H locs hpost hH hS => ?_)
        obtain ⟨r1, e1, rfl, L, K, si, P, rfl, hc⟩ := hpost
        rw [rowN_nI hr6] at e1
        cases e1
        refine lv_iload hx hb dX4_isSame_159 (lv_at hl 1 rfl) ?_
        refine lv_if_ne (tgt := 168) hx hb dX4_isSame_161 (by decide) (fun _ => ?_) (fun h1 => absurd h1 hz0)
        refine lq_aload_n S dX4_isSame_168 rfl (lv_at hl 2 rfl) ?_
        refine cyS S (c_X4_depths (mpT φ T r) 40 (hh40 r hr6) (hY r hr6)) (va_cwS 1 hts gX4_isSame_X4_depths rfl rfl rfl (by decide +kernel) ⟨Nat.le_of_ble_eq_true rfl, Nat.le_of_ble_eq_true rfl⟩) hK hH hX hS rfl hl.1 rfl (by simp [cat_rf, Value.category]) dX4_isSame_169 ⟨(by show 610 * r + 1 + 1 + 1 + 1 + 0 + 1 + 0 + 1 + 0 + 1 + 1 + 1 + 0 ≤ 3700; omega), (by show 5060 * r + 40 + 6 + 6 + 6 + 0 + 6 + 0 + 6 + 0 + 6 + 6 + 6 + 0 ≤ 30400; omega)⟩ (fun v Z1 H locs hpost hH hS => ?_)
        obtain ⟨rfl, rfl⟩ := hpost
        rw [show dsm (mpT φ T r) 0 = dsm (T r) 0 from mp_dsm φ (T r) 0]
        refine lv_i2d hx hb dX4_isSame_172 ?_
        refine lv_iload hx hb dX4_isSame_173 (lv_at hl 1 rfl) ?_
        refine lv_i2d hx hb dX4_isSame_175 ?_
        refine lv_ddiv hx hb dX4_isSame_176 (Fl.ddiv_out (Fl.i2d_fin _).noNaN (Fl.i2d_fin _) (Fl.i2d_nz hz0)) ?_
        refine lv_dcmp hx hb dX4_isSame_177 ?_
        rw [mdp_ok hn0 hlt]
        refine lv_if_eq (tgt := 183) hx hb dX4_isSame_178 (by decide) (fun _ => ?_) (fun h1 => absurd rfl h1)
        refine lv_iconst (v := 0) hx hb dX4_isSame_183 (by decide) ?_
        refine lv_istore (lv' := [(6, .int 0), (5, .ref row), (4, .int (nI (tids (T r)).length)), (3, va_rf (rt (mpT φ T r))), (2, .int (nI r)), (0, .ref sa), (1, .ref o)]) hx hb dX4_isSame_184 hl (by decide) rfl (fun ls hl => ?_)
        refine W.widen (k := 610 * r + 9 + 15 * 0) (n := 5060 * r + 88 + 124 * 0) (by show 610 * r + 1 + 1 + 1 + 1 + 0 + 1 + 0 + 1 + 0 + 1 + 1 + 1 + 0 ≤ 610 * r + 9 + 15 * 0; omega) (by show 5060 * r + 40 + 6 + 6 + 6 + 0 + 6 + 0 + 6 + 0 + 6 + 6 + 6 + 0 ≤ 5060 * r + 88 + 124 * 0; omega) ?_
        exact inner (tids (T r)).length 0 rfl L K si P U E hc hI m_row e_row H locs hH hS ls (lv_sub hl [0, 1, 2, 3, 4, 5, 6] rfl)
  refine lv_iconst (v := 0) hx hb dX4_isSame_0 (by decide) ?_
  refine lv_istore_n (lv' := [(2, .int 0), (0, .ref sa), (1, .ref o)]) hx hb dX4_isSame_1 rfl hl (by decide) rfl (fun ls hl => ?_)
  exact loop 6 0 rfl L K si P U E hc hI _ _ hH hS ls (lv_sub hl [0, 1, 2] rfl)
end MLaw4
