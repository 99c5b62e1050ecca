/-! METHODS of SplayOrchard: its digest -/
/-- what a row adds to the digest ahead of its apples -/
def mxR (t : Tr) (sz bi : Nat → Nat) (d : Int64) : Int64 :=
  mxl (mxl (mxl (mxl (mxl (mxl (mxl (mxl d (nI (tids t).length)) (er ((rt t).map sz))) (nI (hgt t))) (nI (lh (tids t).length))) (nI (dsm t 0))) (nI (lvs t))) (er ((fvs bi none (tids t)).map sz))) (er ((bst t).map sz))
def dgR (T : Nat → Tr) (sz bi : Nat → Nat) : Nat → Nat → Int64 → Int64
  | 0, _, d => d
  | n + 1, r, d => dgR T sz bi n (r + 1) ((tids (T r)).foldl (mxA (T r) sz bi) (mxR (T r) sz bi d))
/-- the digest -/
def dgV (T : Nat → Tr) (sz bi : Nat → Nat) (tu : Nat) : Int64 := dgR T sz bi 6 0 (mxl (mxl 2339 (nI (gids T).length)) (nI tu))
section MOrchW
variable {l : Launch} {D : va_G} {lo : Nat} {Γ : GT} {L : List Nat} {K : Nat → Nat} {sz : Nat → Nat} {si : Nat → Option Nat} {P : PF} {bi : Nat → Nat} {tu : Nat} {M : MW} {V : Int64 × UInt64}
theorem PoI_out {o r : Nat} {T : Nat → Tr} {row : Int32} {f : Nat → Int32} {v : Option Value} {Z : WS} (h : PoI Γ o T sz bi tu M V (qr row f) v Z) (hr : rowN row = some r) : v = some (.int (f r)) ∧ CSW Γ o T sz bi tu M V Z := by
  obtain ⟨-, h1, h2⟩ := h
  have e : qr row f = (0, f r) := by unfold qr; rw [hr]
  rw [e] at h1
  exact ⟨h1, h2⟩
theorem PxI_no {o r : Nat} {T : Nat → Tr} {row : Int32} {f : Nat → Int32} {en : Nat → String} {E : String} {Z : WS} (h : PxI Γ o T sz bi tu M V (qr row f) en E Z) (hr : rowN row = some r) : False := by
  have e : qr row f = (0, f r) := by unfold qr; rw [hr]
  rw [e] at h
  exact h.1 rfl
set_option maxRecDepth 100000 in
set_option maxHeartbeats 4000000 in
theorem c_X2_mixRow {o : Nat} {T : Nat → Tr} {r : Nat} {d : Int64} (hr6 : r < 6) (hst : l.stackTraces = false) (hc : CI Γ o T L K sz si P) : Mx l yX2_mixRow wsX2_mixRow (rmL 8 8 48) D lo Γ [.ref o, .long d, .int (nI r)] ((L, K, sz, si, P, bi, tu), M, V) (fun v Z' => v = some (.long (mxR (T r) sz bi d)) ∧ CSW Γ o T sz bi tu M V Z') (fun _ _ => False) := by
  refine Mx_of (cc := cX2_mixRow) (maxL := 6) (ret := (some .long)) (by decide) rfl (Nat.le_of_ble_eq_true rfl) ?_
  intro p e s m args below meth c ls S hr hlocks hK hH hS hX ht hl
  have hx := S.1
  have hb := S.2.1
  have hts := S.2.2.2.2
  have hl : lv_has ls 6 [(0, .ref o), (1, .long d), (3, .int (nI r))] := hl
  have hrow := rowN_nI hr6
  have ok_o := hc.1.1
  refine lv_lload_n hx hb dX2_mixRow_0 rfl (lv_at hl 1 rfl) ?_
  refine lv_lstore (lv' := [(4, .long d), (0, .ref o), (1, .long d), (3, .int (nI r))]) hx hb dX2_mixRow_1 hl (by decide) rfl (fun ls hl => ?_)
  refine lv_lload hx hb dX2_mixRow_3 (lv_at hl 0 rfl) ?_
  refine lv_aload_n hx hb dX2_mixRow_5 rfl (lv_at hl 1 rfl) ?_
  refine lv_iload_n hx hb dX2_mixRow_6 rfl (lv_at hl 3 rfl) ?_
  refine cVx S (c_X2_sizeOf (l := l) (D := D) (lo := lo) (Γ := Γ) (sz := sz) (si := si) (P := P) (bi := bi) (tu := tu) (M := M) (V := V) (row := nI r) hst hc) (cwV 1 hts gX2_mixRow_X2_sizeOf rfl rfl rfl (by decide +kernel) ⟨Nat.le_of_ble_eq_true rfl, Nat.le_of_ble_eq_true rfl⟩) hK hH hX (Hp_recv hK hH ok_o.1 ok_o.2 rfl) hS rfl hl.1 rfl (by simp [cat_rf, Value.category]) dX2_mixRow_7 ⟨Nat.le_of_ble_eq_true rfl, Nat.le_of_ble_eq_true rfl⟩ (fun E Z1 H locs ce q9 hpx hH hS hce hcv hcl => ?_) (fun v Z1 H locs hpost hH hS => ?_)
  · exact (PxI_no hpx hrow).elim
  obtain ⟨hv9, L, K, si, P, rfl, hc⟩ := PoI_out hpost hrow
  have hv9 : v = some (.int (nI (tids (T r)).length)) := hv9
  subst hv9
  have ok_o := hc.1.1
  refine cSt S (c_X2_mix (l := l) (D := D) (lo := lo) (Γ := Γ) (sz := sz) (si := si) (P := P) (bi := bi) (tu := tu) (M := M) (V := V) (d := d) (x := (nI (tids (T r)).length))) (va_cwS 2 hts gX2_mixRow_X2_mix rfl rfl rfl (by decide +kernel) ⟨Nat.le_of_ble_eq_true rfl, Nat.le_of_ble_eq_true rfl⟩) hK hH hS rfl hl.1 rfl (by simp [cat_rf, Value.category]) dX2_mixRow_10 ⟨Nat.le_of_ble_eq_true rfl, Nat.le_of_ble_eq_true rfl⟩ (fun v Z1 H locs hpost hH hS => ?_)
  obtain ⟨rfl, rfl⟩ := hpost
  refine lv_lstore (lv' := [(4, .long (mxl d (nI (tids (T r)).length))), (0, .ref o), (1, .long d), (3, .int (nI r))]) hx hb dX2_mixRow_13 hl (by decide) rfl (fun ls hl => ?_)
  refine lv_lload hx hb dX2_mixRow_15 (lv_at hl 0 rfl) ?_
  refine lv_aload_n hx hb dX2_mixRow_17 rfl (lv_at hl 1 rfl) ?_
  refine lv_iload_n hx hb dX2_mixRow_18 rfl (lv_at hl 3 rfl) ?_
  refine cVx S (c_X2_top (l := l) (D := D) (lo := lo) (Γ := Γ) (sz := sz) (si := si) (P := P) (bi := bi) (tu := tu) (M := M) (V := V) (row := nI r) hst hc) (cwV 1 hts gX2_mixRow_X2_top rfl rfl rfl (by decide +kernel) ⟨Nat.le_of_ble_eq_true rfl, Nat.le_of_ble_eq_true rfl⟩) hK hH hX (Hp_recv hK hH ok_o.1 ok_o.2 rfl) hS rfl hl.1 rfl (by simp [cat_rf, Value.category]) dX2_mixRow_19 ⟨Nat.le_of_ble_eq_true rfl, Nat.le_of_ble_eq_true rfl⟩ (fun E Z1 H locs ce q9 hpx hH hS hce hcv hcl => ?_) (fun v Z1 H locs hpost hH hS => ?_)
  · exact (PxI_no hpx hrow).elim
  obtain ⟨hv9, L, K, si, P, rfl, hc⟩ := PoI_out hpost hrow
  have hv9 : v = some (.int (er ((rt (T r)).map sz))) := hv9
  subst hv9
  have ok_o := hc.1.1
  refine cSt S (c_X2_mix (l := l) (D := D) (lo := lo) (Γ := Γ) (sz := sz) (si := si) (P := P) (bi := bi) (tu := tu) (M := M) (V := V) (d := (mxl d (nI (tids (T r)).length))) (x := (er ((rt (T r)).map sz)))) (va_cwS 2 hts gX2_mixRow_X2_mix rfl rfl rfl (by decide +kernel) ⟨Nat.le_of_ble_eq_true rfl, Nat.le_of_ble_eq_true rfl⟩) hK hH hS rfl hl.1 rfl (by simp [cat_rf, Value.category]) dX2_mixRow_22 ⟨Nat.le_of_ble_eq_true rfl, Nat.le_of_ble_eq_true rfl⟩ (fun v Z1 H locs hpost hH hS => ?_)
  obtain ⟨rfl, rfl⟩ := hpost
  refine lv_lstore (lv' := [(4, .long (mxl (mxl d (nI (tids (T r)).length)) (er ((rt (T r)).map sz)))), (0, .ref o), (1, .long d), (3, .int (nI r))]) hx hb dX2_mixRow_25 hl (by decide) rfl (fun ls hl => ?_)
  refine lv_lload hx hb dX2_mixRow_27 (lv_at hl 0 rfl) ?_
  refine lv_aload_n hx hb dX2_mixRow_29 rfl (lv_at hl 1 rfl) ?_
  refine lv_iload_n hx hb dX2_mixRow_30 rfl (lv_at hl 3 rfl) ?_
  refine cVx S (c_X2_height (l := l) (D := D) (lo := lo) (Γ := Γ) (sz := sz) (si := si) (P := P) (bi := bi) (tu := tu) (M := M) (V := V) (row := nI r) hst hc) (cwV 1 hts gX2_mixRow_X2_height rfl rfl rfl (by decide +kernel) ⟨Nat.le_of_ble_eq_true rfl, Nat.le_of_ble_eq_true rfl⟩) hK hH hX (Hp_recv hK hH ok_o.1 ok_o.2 rfl) hS rfl hl.1 rfl (by simp [cat_rf, Value.category]) dX2_mixRow_31 ⟨Nat.le_of_ble_eq_true rfl, Nat.le_of_ble_eq_true rfl⟩ (fun E Z1 H locs ce q9 hpx hH hS hce hcv hcl => ?_) (fun v Z1 H locs hpost hH hS => ?_)
  · exact (PxI_no hpx hrow).elim
  obtain ⟨hv9, L, K, si, P, rfl, hc⟩ := PoI_out hpost hrow
  have hv9 : v = some (.int (nI (hgt (T r)))) := hv9
  subst hv9
  have ok_o := hc.1.1
  refine cSt S (c_X2_mix (l := l) (D := D) (lo := lo) (Γ := Γ) (sz := sz) (si := si) (P := P) (bi := bi) (tu := tu) (M := M) (V := V) (d := (mxl (mxl d (nI (tids (T r)).length)) (er ((rt (T r)).map sz)))) (x := (nI (hgt (T r))))) (va_cwS 2 hts gX2_mixRow_X2_mix rfl rfl rfl (by decide +kernel) ⟨Nat.le_of_ble_eq_true rfl, Nat.le_of_ble_eq_true rfl⟩) hK hH hS rfl hl.1 rfl (by simp [cat_rf, Value.category]) dX2_mixRow_34 ⟨Nat.le_of_ble_eq_true rfl, Nat.le_of_ble_eq_true rfl⟩ (fun v Z1 H locs hpost hH hS => ?_)
  obtain ⟨rfl, rfl⟩ := hpost
  refine lv_lstore (lv' := [(4, .long (mxl (mxl (mxl d (nI (tids (T r)).length)) (er ((rt (T r)).map sz))) (nI (hgt (T r))))), (0, .ref o), (1, .long d), (3, .int (nI r))]) hx hb dX2_mixRow_37 hl (by decide) rfl (fun ls hl => ?_)
  refine lv_lload hx hb dX2_mixRow_39 (lv_at hl 0 rfl) ?_
  refine lv_aload_n hx hb dX2_mixRow_41 rfl (lv_at hl 1 rfl) ?_
  refine lv_iload_n hx hb dX2_mixRow_42 rfl (lv_at hl 3 rfl) ?_
  refine cVx S (c_X2_leastHeight (l := l) (D := D) (lo := lo) (Γ := Γ) (sz := sz) (si := si) (P := P) (bi := bi) (tu := tu) (M := M) (V := V) (row := nI r) hst hc) (cwV 1 hts gX2_mixRow_X2_leastHeight rfl rfl rfl (by decide +kernel) ⟨Nat.le_of_ble_eq_true rfl, Nat.le_of_ble_eq_true rfl⟩) hK hH hX (Hp_recv hK hH ok_o.1 ok_o.2 rfl) hS rfl hl.1 rfl (by simp [cat_rf, Value.category]) dX2_mixRow_43 ⟨Nat.le_of_ble_eq_true rfl, Nat.le_of_ble_eq_true rfl⟩ (fun E Z1 H locs ce q9 hpx hH hS hce hcv hcl => ?_) (fun v Z1 H locs hpost hH hS => ?_)
  · exact (PxI_no hpx hrow).elim
  obtain ⟨hv9, L, K, si, P, rfl, hc⟩ := PoI_out hpost hrow
  have hv9 : v = some (.int (nI (lh (tids (T r)).length))) := hv9
  subst hv9
  have ok_o := hc.1.1
  refine cSt S (c_X2_mix (l := l) (D := D) (lo := lo) (Γ := Γ) (sz := sz) (si := si) (P := P) (bi := bi) (tu := tu) (M := M) (V := V) (d := (mxl (mxl (mxl d (nI (tids (T r)).length)) (er ((rt (T r)).map sz))) (nI (hgt (T r))))) (x := (nI (lh (tids (T r)).length)))) (va_cwS 2 hts gX2_mixRow_X2_mix rfl rfl rfl (by decide +kernel) ⟨Nat.le_of_ble_eq_true rfl, Nat.le_of_ble_eq_true rfl⟩) hK hH hS rfl hl.1 rfl (by simp [cat_rf, Value.category]) dX2_mixRow_46 ⟨Nat.le_of_ble_eq_true rfl, Nat.le_of_ble_eq_true rfl⟩ (fun v Z1 H locs hpost hH hS => ?_)
  obtain ⟨rfl, rfl⟩ := hpost
  refine lv_lstore (lv' := [(4, .long (mxl (mxl (mxl (mxl d (nI (tids (T r)).length)) (er ((rt (T r)).map sz))) (nI (hgt (T r)))) (nI (lh (tids (T r)).length)))), (0, .ref o), (1, .long d), (3, .int (nI r))]) hx hb dX2_mixRow_49 hl (by decide) rfl (fun ls hl => ?_)
  refine lv_lload hx hb dX2_mixRow_51 (lv_at hl 0 rfl) ?_
  refine lv_aload_n hx hb dX2_mixRow_53 rfl (lv_at hl 1 rfl) ?_
  refine lv_iload_n hx hb dX2_mixRow_54 rfl (lv_at hl 3 rfl) ?_
  refine cVx S (c_X2_depths (l := l) (D := D) (lo := lo) (Γ := Γ) (sz := sz) (si := si) (P := P) (bi := bi) (tu := tu) (M := M) (V := V) (row := nI r) hst hc) (cwV 1 hts gX2_mixRow_X2_depths rfl rfl rfl (by decide +kernel) ⟨Nat.le_of_ble_eq_true rfl, Nat.le_of_ble_eq_true rfl⟩) hK hH hX (Hp_recv hK hH ok_o.1 ok_o.2 rfl) hS rfl hl.1 rfl (by simp [cat_rf, Value.category]) dX2_mixRow_55 ⟨Nat.le_of_ble_eq_true rfl, Nat.le_of_ble_eq_true rfl⟩ (fun E Z1 H locs ce q9 hpx hH hS hce hcv hcl => ?_) (fun v Z1 H locs hpost hH hS => ?_)
  · exact (PxI_no hpx hrow).elim
  obtain ⟨hv9, L, K, si, P, rfl, hc⟩ := PoI_out hpost hrow
  have hv9 : v = some (.int (nI (dsm (T r) 0))) := hv9
  subst hv9
  have ok_o := hc.1.1
  refine cSt S (c_X2_mix (l := l) (D := D) (lo := lo) (Γ := Γ) (sz := sz) (si := si) (P := P) (bi := bi) (tu := tu) (M := M) (V := V) (d := (mxl (mxl (mxl (mxl d (nI (tids (T r)).length)) (er ((rt (T r)).map sz))) (nI (hgt (T r)))) (nI (lh (tids (T r)).length)))) (x := (nI (dsm (T r) 0)))) (va_cwS 2 hts gX2_mixRow_X2_mix rfl rfl rfl (by decide +kernel) ⟨Nat.le_of_ble_eq_true rfl, Nat.le_of_ble_eq_true rfl⟩) hK hH hS rfl hl.1 rfl (by simp [cat_rf, Value.category]) dX2_mixRow_58 ⟨Nat.le_of_ble_eq_true rfl, Nat.le_of_ble_eq_true rfl⟩ (fun v Z1 H locs hpost hH hS => ?_)
  obtain ⟨rfl, rfl⟩ := hpost
  refine lv_lstore (lv' := [(4, .long (mxl (mxl (mxl (mxl (mxl d (nI (tids (T r)).length)) (er ((rt (T r)).map sz))) (nI (hgt (T r)))) (nI (lh (tids (T r)).length))) (nI (dsm (T r) 0)))), (0, .ref o), (1, .long d), (3, .int (nI r))]) hx hb dX2_mixRow_61 hl (by decide) rfl (fun ls hl => ?_)
  refine lv_lload hx hb dX2_mixRow_63 (lv_at hl 0 rfl) ?_
  refine lv_aload_n hx hb dX2_mixRow_65 rfl (lv_at hl 1 rfl) ?_
  refine lv_iload_n hx hb dX2_mixRow_66 rfl (lv_at hl 3 rfl) ?_
  refine cVx S (c_X2_leaves (l := l) (D := D) (lo := lo) (Γ := Γ) (sz := sz) (si := si) (P := P) (bi := bi) (tu := tu) (M := M) (V := V) (row := nI r) hst hc) (cwV 1 hts gX2_mixRow_X2_leaves rfl rfl rfl (by decide +kernel) ⟨Nat.le_of_ble_eq_true rfl, Nat.le_of_ble_eq_true rfl⟩) hK hH hX (Hp_recv hK hH ok_o.1 ok_o.2 rfl) hS rfl hl.1 rfl (by simp [cat_rf, Value.category]) dX2_mixRow_67 ⟨Nat.le_of_ble_eq_true rfl, Nat.le_of_ble_eq_true rfl⟩ (fun E Z1 H locs ce q9 hpx hH hS hce hcv hcl => ?_) (fun v Z1 H locs hpost hH hS => ?_)
  · exact (PxI_no hpx hrow).elim
  obtain ⟨hv9, L, K, si, P, rfl, hc⟩ := PoI_out hpost hrow
  have hv9 : v = some (.int (nI (lvs (T r)))) := hv9
  subst hv9
  have ok_o := hc.1.1
  refine cSt S (c_X2_mix (l := l) (D := D) (lo := lo) (Γ := Γ) (sz := sz) (si := si) (P := P) (bi := bi) (tu := tu) (M := M) (V := V) (d := (mxl (mxl (mxl (mxl (mxl d (nI (tids (T r)).length)) (er ((rt (T r)).map sz))) (nI (hgt (T r)))) (nI (lh (tids (T r)).length))) (nI (dsm (T r) 0)))) (x := (nI (lvs (T r))))) (va_cwS 2 hts gX2_mixRow_X2_mix rfl rfl rfl (by decide +kernel) ⟨Nat.le_of_ble_eq_true rfl, Nat.le_of_ble_eq_true rfl⟩) hK hH hS rfl hl.1 rfl (by simp [cat_rf, Value.category]) dX2_mixRow_70 ⟨Nat.le_of_ble_eq_true rfl, Nat.le_of_ble_eq_true rfl⟩ (fun v Z1 H locs hpost hH hS => ?_)
  obtain ⟨rfl, rfl⟩ := hpost
  refine lv_lstore (lv' := [(4, .long (mxl (mxl (mxl (mxl (mxl (mxl d (nI (tids (T r)).length)) (er ((rt (T r)).map sz))) (nI (hgt (T r)))) (nI (lh (tids (T r)).length))) (nI (dsm (T r) 0))) (nI (lvs (T r))))), (0, .ref o), (1, .long d), (3, .int (nI r))]) hx hb dX2_mixRow_73 hl (by decide) rfl (fun ls hl => ?_)
  refine lv_lload hx hb dX2_mixRow_75 (lv_at hl 0 rfl) ?_
  refine lv_aload_n hx hb dX2_mixRow_77 rfl (lv_at hl 1 rfl) ?_
  refine lv_iload_n hx hb dX2_mixRow_78 rfl (lv_at hl 3 rfl) ?_
  refine cVx S (c_X2_favourite (l := l) (D := D) (lo := lo) (Γ := Γ) (sz := sz) (si := si) (P := P) (bi := bi) (tu := tu) (M := M) (V := V) (row := nI r) hst hc) (cwV 1 hts gX2_mixRow_X2_favourite rfl rfl rfl (by decide +kernel) ⟨Nat.le_of_ble_eq_true rfl, Nat.le_of_ble_eq_true rfl⟩) hK hH hX (Hp_recv hK hH ok_o.1 ok_o.2 rfl) hS rfl hl.1 rfl (by simp [cat_rf, Value.category]) dX2_mixRow_79 ⟨Nat.le_of_ble_eq_true rfl, Nat.le_of_ble_eq_true rfl⟩ (fun E Z1 H locs ce q9 hpx hH hS hce hcv hcl => ?_) (fun v Z1 H locs hpost hH hS => ?_)
  · exact (PxI_no hpx hrow).elim
  obtain ⟨hv9, L, K, si, P, rfl, hc⟩ := PoI_out hpost hrow
  have hv9 : v = some (.int (er ((fvs bi none (tids (T r))).map sz))) := hv9
  subst hv9
  have ok_o := hc.1.1
  refine cSt S (c_X2_mix (l := l) (D := D) (lo := lo) (Γ := Γ) (sz := sz) (si := si) (P := P) (bi := bi) (tu := tu) (M := M) (V := V) (d := (mxl (mxl (mxl (mxl (mxl (mxl d (nI (tids (T r)).length)) (er ((rt (T r)).map sz))) (nI (hgt (T r)))) (nI (lh (tids (T r)).length))) (nI (dsm (T r) 0))) (nI (lvs (T r))))) (x := (er ((fvs bi none (tids (T r))).map sz)))) (va_cwS 2 hts gX2_mixRow_X2_mix rfl rfl rfl (by decide +kernel) ⟨Nat.le_of_ble_eq_true rfl, Nat.le_of_ble_eq_true rfl⟩) hK hH hS rfl hl.1 rfl (by simp [cat_rf, Value.category]) dX2_mixRow_82 ⟨Nat.le_of_ble_eq_true rfl, Nat.le_of_ble_eq_true rfl⟩ (fun v Z1 H locs hpost hH hS => ?_)
  obtain ⟨rfl, rfl⟩ := hpost
  refine lv_lstore (lv' := [(4, .long (mxl (mxl (mxl (mxl (mxl (mxl (mxl d (nI (tids (T r)).length)) (er ((rt (T r)).map sz))) (nI (hgt (T r)))) (nI (lh (tids (T r)).length))) (nI (dsm (T r) 0))) (nI (lvs (T r)))) (er ((fvs bi none (tids (T r))).map sz)))), (0, .ref o), (1, .long d), (3, .int (nI r))]) hx hb dX2_mixRow_85 hl (by decide) rfl (fun ls hl => ?_)
  refine lv_lload hx hb dX2_mixRow_87 (lv_at hl 0 rfl) ?_
  refine lv_aload_n hx hb dX2_mixRow_89 rfl (lv_at hl 1 rfl) ?_
  refine lv_iload_n hx hb dX2_mixRow_90 rfl (lv_at hl 3 rfl) ?_
  refine cVx S (c_X2_bestToEat (l := l) (D := D) (lo := lo) (Γ := Γ) (sz := sz) (si := si) (P := P) (bi := bi) (tu := tu) (M := M) (V := V) (row := nI r) hst hc) (cwV 1 hts gX2_mixRow_X2_bestToEat rfl rfl rfl (by decide +kernel) ⟨Nat.le_of_ble_eq_true rfl, Nat.le_of_ble_eq_true rfl⟩) hK hH hX (Hp_recv hK hH ok_o.1 ok_o.2 rfl) hS rfl hl.1 rfl (by simp [cat_rf, Value.category]) dX2_mixRow_91 ⟨Nat.le_of_ble_eq_true rfl, Nat.le_of_ble_eq_true rfl⟩ (fun E Z1 H locs ce q9 hpx hH hS hce hcv hcl => ?_) (fun v Z1 H locs hpost hH hS => ?_)
  · exact (PxI_no hpx hrow).elim
  obtain ⟨hv9, L, K, si, P, rfl, hc⟩ := PoI_out hpost hrow
  have hv9 : v = some (.int (er ((bst (T r)).map sz))) := hv9
  subst hv9
  have ok_o := hc.1.1
  refine cSt S (c_X2_mix (l := l) (D := D) (lo := lo) (Γ := Γ) (sz := sz) (si := si) (P := P) (bi := bi) (tu := tu) (M := M) (V := V) (d := (mxl (mxl (mxl (mxl (mxl (mxl (mxl d (nI (tids (T r)).length)) (er ((rt (T r)).map sz))) (nI (hgt (T r)))) (nI (lh (tids (T r)).length))) (nI (dsm (T r) 0))) (nI (lvs (T r)))) (er ((fvs bi none (tids (T r))).map sz)))) (x := (er ((bst (T r)).map sz)))) (va_cwS 2 hts gX2_mixRow_X2_mix rfl rfl rfl (by decide +kernel) ⟨Nat.le_of_ble_eq_true rfl, Nat.le_of_ble_eq_true rfl⟩) hK hH hS rfl hl.1 rfl (by simp [cat_rf, Value.category]) dX2_mixRow_94 ⟨Nat.le_of_ble_eq_true rfl, Nat.le_of_ble_eq_true rfl⟩ (fun v Z1 H locs hpost hH hS => ?_)
  obtain ⟨rfl, rfl⟩ := hpost
  refine W.widen (k := 8) (n := 48) (Nat.le_of_ble_eq_true rfl) (Nat.le_of_ble_eq_true rfl) ?_
  exact vx_ret (eL S hr hlocks hH hS ⟨rfl, L, K, si, P, rfl, hc⟩ dX2_mixRow_97)

set_option maxRecDepth 100000 in
set_option maxHeartbeats 4000000 in
theorem c_X2_digest {o : Nat} {T : Nat → Tr} (hst : l.stackTraces = false) (hc : CI Γ o T L K sz si P) : Mx l yX2_digest wsX2_digest (rmL 9 48 288) D lo Γ [.ref o] ((L, K, sz, si, P, bi, tu), M, V) (fun v Z' => v = some (.long (dgV T sz bi tu)) ∧ CSW Γ o T sz bi tu M V Z') (fun _ _ => False) := by
  refine Mx_of (cc := cX2_digest) (maxL := 5) (ret := (some .long)) (by decide) rfl (Nat.le_of_ble_eq_true rfl) ?_
  intro p e s m args below meth c ls S hr hlocks hK hH hS hX ht hl
  have hx := S.1
  have hb := S.2.1
  have hts := S.2.2.2.2
  have f11 : (Cond.fieldLink RX2 11 (TX2 0).1 (TX2 0).2.1 (TX2 0).2.2.1).before args s = true := hts _ (List.mem_of_getElem? (i := 2) rfl)
  have hi2 : ∀ w ∈ wsX20, w ∈ wsX2_digest := by decide +kernel
  have hl : lv_has ls 5 [(0, .ref o)] := hl
  have hc0 := hc
  obtain ⟨hg, c_t, c_nd, c_si, c_inj, c_40⟩ := hc
  obtain ⟨ok_o, o_u, ok_ra, ok_tt, tt_ne, ta_inj⟩ := hg
  refine lv_ldc2 (v := 2339) hx hb S.2.2.2.1 (hts _ (List.mem_of_getElem? (i := 1) rfl)) dX2_digest_0 ?_
  refine lv_lstore_n (lv' := [(1, .long 2339), (0, .ref o)]) hx hb dX2_digest_3 rfl hl (by decide) rfl (fun ls hl => ?_)
  refine lv_lload_n hx hb dX2_digest_4 rfl (lv_at hl 0 rfl) ?_
  refine lv_aload_n hx hb dX2_digest_5 rfl (lv_at hl 1 rfl) ?_
  refine cV S (c_X2_apples (l := l) (D := D) (lo := lo) (Γ := Γ) (sz := sz) (si := si) (P := P) (bi := bi) (tu := tu) (M := M) (V := V) hc0) (cwV 0 hts gX2_digest_X2_apples rfl rfl rfl (by decide +kernel) ⟨Nat.le_of_ble_eq_true rfl, Nat.le_of_ble_eq_true rfl⟩) hK hH (Hp_recv hK hH ok_o.1 ok_o.2 rfl) hS rfl hl.1 rfl (by simp [cat_rf, Value.category]) dX2_digest_6 ⟨Nat.le_of_ble_eq_true rfl, Nat.le_of_ble_eq_true rfl⟩ (fun v Z1 H locs hpost hH hS => ?_)
  obtain ⟨rfl, rfl⟩ := hpost
  refine cSt S (c_X2_mix (l := l) (D := D) (lo := lo) (Γ := Γ) (sz := sz) (si := si) (P := P) (bi := bi) (tu := tu) (M := M) (V := V) (d := 2339) (x := nI (gids T).length)) (va_cwS 2 hts gX2_digest_X2_mix rfl rfl rfl (by decide +kernel) ⟨Nat.le_of_ble_eq_true rfl, Nat.le_of_ble_eq_true rfl⟩) hK hH hS rfl hl.1 rfl (by simp [cat_rf, Value.category]) dX2_digest_9 ⟨Nat.le_of_ble_eq_true rfl, Nat.le_of_ble_eq_true rfl⟩ (fun v Z1 H locs hpost hH hS => ?_)
  obtain ⟨rfl, rfl⟩ := hpost
  refine lv_lstore_n (lv' := [(1, .long (mxl 2339 (nI (gids T).length))), (0, .ref o)]) hx hb dX2_digest_12 rfl hl (by decide) rfl (fun ls hl => ?_)
  refine lv_lload_n hx hb dX2_digest_13 rfl (lv_at hl 0 rfl) ?_
  refine lv_aload_n hx hb dX2_digest_14 rfl (lv_at hl 1 rfl) ?_
  refine cV S (c_X2_turnings (l := l) (D := D) (lo := lo) (Γ := Γ) (sz := sz) (si := si) (P := P) (bi := bi) (tu := tu) (M := M) (V := V) ok_o) (cwV 0 hts gX2_digest_X2_turnings rfl rfl rfl (by decide +kernel) ⟨Nat.le_of_ble_eq_true rfl, Nat.le_of_ble_eq_true rfl⟩) hK hH (Hp_recv hK hH ok_o.1 ok_o.2 rfl) hS rfl hl.1 rfl (by simp [cat_rf, Value.category]) dX2_digest_15 ⟨Nat.le_of_ble_eq_true rfl, Nat.le_of_ble_eq_true rfl⟩ (fun v Z1 H locs hpost hH hS => ?_)
  obtain ⟨rfl, rfl⟩ := hpost
  refine cSt S (c_X2_mix (l := l) (D := D) (lo := lo) (Γ := Γ) (sz := sz) (si := si) (P := P) (bi := bi) (tu := tu) (M := M) (V := V) (d := (mxl 2339 (nI (gids T).length))) (x := nI tu)) (va_cwS 2 hts gX2_digest_X2_mix rfl rfl rfl (by decide +kernel) ⟨Nat.le_of_ble_eq_true rfl, Nat.le_of_ble_eq_true rfl⟩) hK hH hS rfl hl.1 rfl (by simp [cat_rf, Value.category]) dX2_digest_18 ⟨Nat.le_of_ble_eq_true rfl, Nat.le_of_ble_eq_true rfl⟩ (fun v Z1 H locs hpost hH hS => ?_)
  obtain ⟨rfl, rfl⟩ := hpost
  refine lv_lstore_n (lv' := [(1, .long (mxl (mxl 2339 (nI (gids T).length)) (nI tu))), (0, .ref o)]) hx hb dX2_digest_21 rfl hl (by decide) rfl (fun ls hl => ?_)
  refine lv_iconst (v := 0) hx hb dX2_digest_22 (by decide) ?_
  refine lv_istore_n (lv' := [(3, .int 0), (1, .long (mxl (mxl 2339 (nI (gids T).length)) (nI tu))), (0, .ref o)]) hx hb dX2_digest_23 rfl hl (by decide) rfl (fun ls hl => ?_)
  have loop : ∀ (n r : Nat) (d : Int64), n + r = 6 → dgR T sz bi n r d = dgV T sz bi tu → ∀ (L : List Nat) (K : Nat → Nat) (si : Nat → Option Nat) (P : PF), CI Γ o T L K sz si P → ∀ H locs, Hp D lo Γ ((L, K, sz, si, P, bi, tu), M, V) H → va_S (lA lo) s.heap H locs → ∀ ls, lv_has ls 5 [(3, .int (nI r)), (1, .long d), (0, .ref o)] → W p l e (rmL 9 48 288) s m args below meth c H locs (8 * r) (48 * r) (vx_MQ below (Qz D lo Γ (fun v Z' => v = some (.long (dgV T sz bi tu)) ∧ CSW Γ o T sz bi tu M V Z')) (XCz D lo Γ (fun _ _ => False)) args s ((rmL 9 48 288) : Room).cells ((rmL 9 48 288) : Room).slots (lA lo)) (F0 m 24 ls []) := by
    intro n
    induction n with
    | zero =>
      intro r d hn hd L K si P hc H locs hH hS ls hl
      have hr6 : r = 6 := by omega
      subst hr6
      obtain ⟨⟨ok_o, o_u, ok_ra, ok_tt, tt_ne, ta_inj⟩, c_t, c_nd, c_si, c_inj, c_40⟩ := id hc
      refine lv_iload_n hx hb dX2_digest_24 rfl (lv_at hl 0 rfl) ?_
      refine lv_aload_n hx hb dX2_digest_25 rfl (lv_at hl 2 rfl) ?_
      refine gO S hi2 hK hH ok_o.1 ok_o.2 0 (by decide) f11 (v := .ref (gra Γ)) rfl dX2_digest_26 ?_
      refine gRl S hK hH ok_ra dX2_digest_29 ?_
      refine lv_icmp_ge (tgt := 79) hx hb dX2_digest_30 (by decide) (fun h1 => ?_) (fun h1 => absurd (by decide) h1)
      refine lv_lload_n hx hb dX2_digest_79 rfl (lv_at hl 1 rfl) ?_
      refine W.widen (k := 48) (n := 288) (Nat.le_of_ble_eq_true rfl) (Nat.le_of_ble_eq_true rfl) ?_
      exact vx_ret (eL S hr hlocks hH hS ⟨by rw [← hd]; rfl, L, K, si, P, rfl, hc⟩ dX2_digest_80)
    | succ n ih =>
      intro r d hn hd L K si P hc H locs hH hS ls hl
      have hr6 : r < 6 := by omega
      obtain ⟨⟨ok_o, o_u, ok_ra, ok_tt, tt_ne, ta_inj⟩, c_t, c_nd, c_si, c_inj, c_40⟩ := id hc
      refine lv_iload_n hx hb dX2_digest_24 rfl (lv_at hl 0 rfl) ?_
      refine lv_aload_n hx hb dX2_digest_25 rfl (lv_at hl 2 rfl) ?_
      refine gO S hi2 hK hH ok_o.1 ok_o.2 0 (by decide) f11 (v := .ref (gra Γ)) rfl dX2_digest_26 ?_
      refine gRl S hK hH ok_ra dX2_digest_29 ?_
      refine lv_icmp_ge (tgt := 79) hx hb dX2_digest_30 (by decide) (fun h1 => absurd h1 (fun q => by have := (nI_leI (a := 6) (b := r) (by omega) (by omega)).mp q; omega)) (fun h1 => ?_)
      refine lv_aload_n hx hb dX2_digest_33 rfl (lv_at hl 2 rfl) ?_
      refine lv_lload_n hx hb dX2_digest_34 rfl (lv_at hl 1 rfl) ?_
      refine lv_iload_n hx hb dX2_digest_35 rfl (lv_at hl 0 rfl) ?_
      refine cVx S (c_X2_mixRow (l := l) (D := D) (lo := lo) (Γ := Γ) (sz := sz) (si := si) (P := P) (bi := bi) (tu := tu) (M := M) (V := V) (d := d) hr6 hst hc) (cwV 2 hts gX2_digest_X2_mixRow rfl rfl rfl (by decide +kernel) ⟨Nat.le_of_ble_eq_true rfl, Nat.le_of_ble_eq_true rfl⟩) hK hH hX (Hp_recv hK hH ok_o.1 ok_o.2 rfl) hS rfl hl.1 rfl (by simp [cat_rf, Value.category]) dX2_digest_36 ⟨(by show 8 * r + 8 ≤ 48; omega), (by show 48 * r + 48 ≤ 288; omega)⟩ (fun E Z1 H locs ce q9 hpx hH hS hce hcv hcl => ?_) (fun v Z1 H locs hpost hH hS => ?_)
      · exact hpx.elim
      obtain ⟨rfl, L, K, si, P, rfl, hc⟩ := hpost
      have htr := (hc.2.1 r hr6).1
      have ok_t : gta Γ r ∈ L ∧ K (gta Γ r) = 1 := ⟨htr.1, htr.2.1⟩
      obtain ⟨⟨ok_o, o_u, ok_ra, ok_tt, tt_ne, ta_inj⟩, -⟩ := id hc
      refine W.widen (k := 8 * (r + 1)) (n := 48 * (r + 1)) (by show 8 * r + 8 ≤ 8 * (r + 1); omega) (by show 48 * r + 48 ≤ 48 * (r + 1); omega) ?_
      refine lv_lstore_n (lv' := [(1, .long (mxR (T r) sz bi d)), (3, .int (nI r)), (0, .ref o)]) hx hb dX2_digest_39 rfl hl (by decide) rfl (fun ls hl => ?_)
      refine lv_aload_n hx hb dX2_digest_40 rfl (lv_at hl 2 rfl) ?_
      refine gO S hi2 hK hH ok_o.1 ok_o.2 0 (by decide) f11 (v := .ref (gra Γ)) rfl dX2_digest_41 ?_
      refine lv_iload_n hx hb dX2_digest_44 rfl (lv_at hl 1 rfl) ?_
      refine gR (L := L) (K := K) S hK hH ok_ra hr6 rfl dX2_digest_45 ?_
      refine cV S (c_X1_first (l := l) (D := D) (lo := lo) (Γ := Γ) (sz := sz) (si := si) (P := P) (bi := bi) (tu := tu) (M := M) (V := V) htr) (cwV 0 hts gX2_digest_X1_first rfl rfl rfl (by decide +kernel) ⟨Nat.le_of_ble_eq_true rfl, Nat.le_of_ble_eq_true rfl⟩) hK hH (Hp_recv hK hH ok_t.1 ok_t.2 rfl) hS rfl hl.1 rfl (Nat.le_of_ble_eq_true rfl) dX2_digest_46 ⟨(by show 8 * (r + 1) + 0 ≤ 48; omega), (by show 48 * (r + 1) + 0 ≤ 288; omega)⟩ (fun v Z1 H locs hpost hH hS => ?_)
      obtain ⟨rfl, rfl⟩ := hpost
      refine lq_astore (i := 4) (lv' := [(1, .long (mxR (T r) sz bi d)), (3, .int (nI r)), (0, .ref o)]) S dX2_digest_49 hl (by decide) rfl (fun ls hl => ?_)
      have inner : ∀ (post pre : List Nat) (d9 : Int64), tids (T r) = pre ++ post → dgR T sz bi n (r + 1) (post.foldl (mxA (T r) sz bi) d9) = dgV T sz bi tu → ∀ H locs, Hp D lo Γ ((L, K, sz, si, P, bi, tu), M, V) H → va_S (lA lo) s.heap H locs → ∀ ls, lv_has ls 5 [(4, va_rf (post.head?)), (3, .int (nI r)), (1, .long d9), (0, .ref o)] → W p l e (rmL 9 48 288) s m args below meth c H locs (8 * (r + 1)) (48 * (r + 1)) (vx_MQ below (Qz D lo Γ (fun v Z' => v = some (.long (dgV T sz bi tu)) ∧ CSW Γ o T sz bi tu M V Z')) (XCz D lo Γ (fun _ _ => False)) args s ((rmL 9 48 288) : Room).cells ((rmL 9 48 288) : Room).slots (lA lo)) (F0 m 51 ls []) := by
        intro post
        induction post with
        | nil =>
          intro pre d9 hx2 hd9 H locs hH hS ls hl
          refine lv_aloadN hx hb dX2_digest_51 (lv_at hl 0 rfl) ?_
          refine lv_ifnullN hx hb dX2_digest_53 (tgt := 73) (by decide) ?_
          refine lv_iinc (v := nI (r + 1)) (lv' := [(3, .int (nI (r + 1))), (4, .null), (1, .long d9), (0, .ref o)]) hx hb dX2_digest_73 hl (k := 1) rfl (nI_1 r) (by decide) rfl (fun ls hl => ?_)
          refine lv_goto (tgt := 24) hx hb dX2_digest_76 (by decide) ?_
          exact ih (r + 1) d9 (by omega) hd9 L K si P hc H locs hH hS ls (lv_sub hl [0, 2, 3] rfl)
        | cons b post ihp =>
          intro pre d9 hx2 hd9 H locs hH hS ls hl
          have hin_b : b ∈ tids (T r) := by rw [hx2]; simp
          have ok_b := (htr.2.2.2.2.2 b hin_b).1
          refine lv_aload hx hb dX2_digest_51 (lv_at hl 0 rfl) ?_
          refine lv_ifnull hx hb dX2_digest_53 ?_
          refine lv_lload_n hx hb dX2_digest_56 rfl (lv_at hl 2 rfl) ?_
          refine lv_aload hx hb dX2_digest_57 (lv_at hl 0 rfl) ?_
          refine cSt S (c_X2_mixApple (l := l) (D := D) (lo := lo) (Γ := Γ) (sz := sz) (si := si) (P := P) (bi := bi) (tu := tu) (M := M) (V := V) (d := d9) htr hin_b) (va_cwS 2 hts gX2_digest_X2_mixApple rfl rfl rfl (by decide +kernel) ⟨Nat.le_of_ble_eq_true rfl, Nat.le_of_ble_eq_true rfl⟩) hK hH hS rfl hl.1 rfl (Nat.le_of_ble_eq_true rfl) dX2_digest_59 ⟨(by show 8 * (r + 1) + 0 ≤ 48; omega), (by show 48 * (r + 1) + 0 ≤ 288; omega)⟩ (fun v Z1 H locs hpost hH hS => ?_)
          obtain ⟨rfl, rfl⟩ := hpost
          refine lv_lstore_n (lv' := [(1, .long (mxA (T r) sz bi d9 b)), (4, .ref b), (3, .int (nI r)), (0, .ref o)]) hx hb dX2_digest_62 rfl hl (by decide) rfl (fun ls hl => ?_)
          refine lv_aload hx hb dX2_digest_63 (lv_at hl 1 rfl) ?_
          refine cV S (c_X0_nextL (l := l) (D := D) (lo := lo) (Γ := Γ) (sz := sz) (si := si) (P := P) (bi := bi) (tu := tu) (M := M) (V := V) ok_b htr.2.2.2.1 htr.2.2.2.2.1 hx2) (cwV 0 hts gX2_digest_X0_next rfl rfl rfl (by decide +kernel) ⟨Nat.le_of_ble_eq_true rfl, Nat.le_of_ble_eq_true rfl⟩) hK hH (Hp_recv hK hH ok_b.1 ok_b.2 rfl) hS rfl hl.1 rfl (Nat.le_of_ble_eq_true rfl) dX2_digest_65 ⟨(by show 8 * (r + 1) + 0 ≤ 48; omega), (by show 48 * (r + 1) + 0 ≤ 288; omega)⟩ (fun v Z1 H locs hpost hH hS => ?_)
          obtain ⟨rfl, rfl⟩ := hpost
          refine lq_astore (i := 4) (lv' := [(1, .long (mxA (T r) sz bi d9 b)), (3, .int (nI r)), (0, .ref o)]) S dX2_digest_68 hl (by decide) rfl (fun ls hl => ?_)
          refine lv_goto (tgt := 51) hx hb dX2_digest_70 (by decide) ?_
          exact ihp (pre ++ [b]) _ (by rw [hx2]; simp) hd9 H locs hH hS ls (lv_sub hl [0, 2, 1, 3] rfl)
      exact inner (tids (T r)) [] _ rfl hd _ _ hH hS ls (lv_sub hl [0, 2, 1, 3] rfl)
  exact loop 6 0 _ rfl rfl L K si P hc0 _ _ hH hS ls (lv_sub hl [0, 1, 2] rfl)
end MOrchW
