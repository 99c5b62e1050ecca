/-! CONSTRUCTORS, over raw lists of cells -/
/-- what an array holds beyond its length doesn't matter -/
theorem arrV_cg {cA : ClassId} {n : Nat} {f g : Nat → Value} (h : ∀ j, j < n → f j = g j) : arrV cA n f = arrV cA n g := by
  unfold arrV
  have e : (Array.ofFn (n := n) fun j => f j.val) = Array.ofFn (n := n) fun j => g j.val := by
    congr 1
    funext j
    exact h j.val j.isLt
  rw [e]
set_option maxRecDepth 100000 in
set_option maxHeartbeats 4000000 in
theorem c_X1_init {l : Launch} {b : Nat} : Met l yX1_init wsX1_init (rmL 2 0 0) (va_Pc [.ref b] (fun _ => True)) (va_Qv (fun _ : Unit => True) (fun _ _ => True) (fun _ => False)) 0 0 (fun _ => False) := by
  refine Met.ofW (cc := cX1_init) (maxL := 1) (ret := none) (by decide) rfl ?_
  intro p e s m args below meth c s₁ B hml hv
  obtain ⟨rfl, -⟩ := hv
  have hx := B.exec
  have hb := B.bytes
  have hr := B.returns
  have hts := atoms_spec (ws := wsX1_init) B.pre
  have hown : s.vm.findClass RX1 = some m.cls := findClass_of_methodNamed B.named
  have hlocks := B.notSynchronized
  have hS : va_S (fun _ : Nat => False) s.heap s.heap [] := va_S.rf
  have hl := lv_entry [.ref b] (n := 1) (Nat.le_of_ble_eq_true rfl)
  rw [lg_entry_eq]
  generalize (lg_sl ([.ref b]) ++ List.replicate (1 - (lg_sl ([.ref b])).length) Slot.unset).toArray = ls at hl ⊢
  have hl : lv_has ls 1 [(0, .ref b)] := hl
  refine lv_aload_n hx hb dX1_init_0 rfl (lv_at hl 0 rfl) ?_
  refine W.objInit hx hb hown (hts (.methodLink RX1 1 objectInit) (by decide +kernel)) (hts (.instanceMethod objectInit) (by decide +kernel)) (hts (.code objectInit ⟨#[0xb1]⟩ 1 none) (by decide +kernel)) rfl (by rw [hml]; exact hl.1) rfl dX1_init_1 (Nat.le_of_ble_eq_true rfl) (Nat.le_of_ble_eq_true rfl) ?_
  refine W.eq (g2 := F0 m 4 ls []) rfl ?_
  exact W.vret hx hb hr (fun t ht hW => ⟨⟨(), rfl, trivial, trivial⟩, hS.F ht⟩) hS.2.2 dX1_init_4 hlocks

/-- the orchard's cells when it is new -/
abbrev oL (cT : ClassId) (o ra tt t0 t1 t2 t3 t4 t5 : Nat) : va_W := [(o, .inr (2, [.ref ra, .ref tt, .int 0])), (ra, .inl (cT, 6, .inr (.inr (.inr (.inr ((va_up (va_up (va_up (va_up (va_up (va_up (fun _ => none) 0 (some t0)) 1 (some t1)) 2 (some t2)) 3 (some t3)) 4 (some t4)) 5 (some t5)))))))), (tt, .inr (1, [.null])), (t0, .inr (1, [.null])), (t1, .inr (1, [.null])), (t2, .inr (1, [.null])), (t3, .inr (1, [.null])), (t4, .inr (1, [.null])), (t5, .inr (1, [.null]))]

set_option maxRecDepth 100000 in
set_option maxHeartbeats 4000000 in
theorem c_X2_init {l : Launch} {D : va_G} {lo o : Nat} : Met l yX2_init wsX2_init (rmL 4 8 13) (va_Pc [.ref o] (fun U => lo ≤ U.heap.size ∧ va_P D vwCl [(o, .inr (2, [.null, .null, .int 0]))] U.heap ∧ va_K D vwCl [] U ∧ va_D (lA lo) [(o, .inr (2, [.null, .null, .int 0]))] ∧ va_AO RX1 U ∧ va_Nw (.methodLinkNest RX2 15 yX1_init RX2) U))
    (va_Qv (fun _ : ClassId × Nat × Nat × Nat × Nat × Nat × Nat × Nat × Nat => True) (fun u t => va_P D vwCl (oL u.1 o u.2.1 u.2.2.1 u.2.2.2.1 u.2.2.2.2.1 u.2.2.2.2.2.1 u.2.2.2.2.2.2.1 u.2.2.2.2.2.2.2.1 u.2.2.2.2.2.2.2.2) t.heap ∧ va_K D vwCl [(u.1, .object RX1)] t ∧ va_D (lA lo) (oL u.1 o u.2.1 u.2.2.1 u.2.2.2.1 u.2.2.2.2.1 u.2.2.2.2.2.1 u.2.2.2.2.2.2.1 u.2.2.2.2.2.2.2.1 u.2.2.2.2.2.2.2.2)) (lA lo)) 8 13 (lA lo) := by
  refine Met.ofW (cc := cX2_init) (maxL := 2) (ret := none) (by decide) rfl ?_
  intro p e s m args below meth c s₁ B hml hv
  obtain ⟨rfl, hlo, hP, hK, hD, hao, hnest⟩ := hv
  have hx := B.exec
  have hb := B.bytes
  have hr := B.returns
  have hts := atoms_spec (ws := wsX2_init) B.pre
  have hown : s.vm.findClass RX2 = some m.cls := findClass_of_methodNamed B.named
  have hlocks := B.notSynchronized
  have hname : meth.name = "<init>" := (name_of_methodNamed B.named B.method).1
  have hi2 : ∀ w ∈ wsX20, w ∈ wsX2_init := by decide +kernel
  have hi1 : ∀ w ∈ wsX10, w ∈ wsX2_init := by decide +kernel
  have f11 : (Cond.fieldLink RX2 11 (TX2 0).1 (TX2 0).2.1 (TX2 0).2.2.1).before _ s = true := hts _ (by decide +kernel)
  have f16 : (Cond.fieldLink RX2 16 (TX2 1).1 (TX2 1).2.1 (TX2 1).2.2.1).before _ s = true := hts _ (by decide +kernel)
  have k9 := hts (.classLink RX2 9 RX1) (by decide +kernel)
  have ins := hts (.instantiable RX1 1) (by decide +kernel)
  have ini := hts (.initialized RX1) (by decide +kernel)
  have inm := hts (.instanceMethod yX1_init) (by decide +kernel)
  have hA : ∀ q : Nat, s.heap.size ≤ q → lA lo q := fun q h => Nat.le_trans hlo h
  have hS : va_S (lA lo) s.heap s.heap [] := va_S.rf
  have hl := lv_entry [.ref o] (n := 2) (Nat.le_of_ble_eq_true rfl)
  rw [lg_entry_eq]
  generalize (lg_sl ([.ref o]) ++ List.replicate (2 - (lg_sl ([.ref o])).length) Slot.unset).toArray = ls at hl ⊢
  have hl : lv_has ls 2 [(0, .ref o)] := hl
  have S0 : CallFix p m c cX2_init 2 s _ wsX2_init RX2 := ⟨hx, hb, hml, hown, hts⟩
  refine lv_aload_n hx hb dX2_init_0 rfl (lv_at hl 0 rfl) ?_
  refine W.objInit hx hb hown (hts (.methodLink RX2 1 objectInit) (by decide +kernel)) (hts (.instanceMethod objectInit) (by decide +kernel)) (hts (.code objectInit ⟨#[0xb1]⟩ 1 none) (by decide +kernel)) rfl (by rw [hml]; exact hl.1) rfl dX2_init_1 (Nat.le_of_ble_eq_true rfl) (Nat.le_of_ble_eq_true rfl) ?_
  refine W.eq (g2 := F0 m 4 ls []) rfl ?_
  refine lv_aload_n hx hb dX2_init_4 rfl (lv_at hl 0 rfl) ?_
  refine lv_bipush (v := 6) hx hb dX2_init_5 (by decide) ?_
  refine va_newq hx hb hown k9 hao hK hP hD hS hA (n := 6) (N' := 6) (by decide) (by decide) (by decide) (Nat.le_of_ble_eq_true rfl) (Nat.le_of_ble_eq_true rfl) dX2_init_7 (fun ra cT H hK hP hD hS => ?_)
  have hK : va_K D vwCl [(cT, .object RX1)] s := hK

  have hP : va_P D vwCl [(o, .inr (2, [.null, .null, .int 0])), (ra, .inl (cT, 6, .inr (.inr (.inr (.inr ((fun _ => none)))))))] H := hP
  have hD : va_D (lA lo) [(o, .inr (2, [.null, .null, .int 0])), (ra, .inl (cT, 6, .inr (.inr (.inr (.inr ((fun _ => none)))))))] := hD
  refine va_putF (D := D) hx hb hts hi2 tyX2 tyX2_ok nmX2 hown hK hP hD hS 0 rfl (ci := 2) rfl 0 (by decide) f11 (fun _ h => h) rfl hname rfl (ty := .array (.object "SplayOrchard$Tree")) (by decide +kernel) rfl rfl (by simp) dX2_init_10 (fun H locs hP hD hS => ?_)
  have hP : va_P D vwCl [(o, .inr (2, [.ref ra, .null, .int 0])), (ra, .inl (cT, 6, .inr (.inr (.inr (.inr ((fun _ => none)))))))] H := hP
  have hD : va_D (lA lo) [(o, .inr (2, [.ref ra, .null, .int 0])), (ra, .inl (cT, 6, .inr (.inr (.inr (.inr ((fun _ => none)))))))] := hD
  refine lv_aload_n hx hb dX2_init_13 rfl (lv_at hl 0 rfl) ?_
  refine va_new (D := D) (cl := vwCl) (ci := 1) (fs := [.null]) (C := RX1) (T := TX1) (N := 1) hx hb hts hi1 tyX1 tyX1_ok hown k9 ins ini hK hP hD hS hA rfl (fun j hj => by rcases (show j = 0 by omega) with rfl; rfl) (Nat.le_of_ble_eq_true rfl) (Nat.le_of_ble_eq_true rfl) dX2_init_14 (fun tt H hP hD hS => ?_)
  have hP : va_P D vwCl [(o, .inr (2, [.ref ra, .null, .int 0])), (ra, .inl (cT, 6, .inr (.inr (.inr (.inr ((fun _ => none))))))), (tt, .inr (1, [.null]))] H := hP
  have hD : va_D (lA lo) [(o, .inr (2, [.ref ra, .null, .int 0])), (ra, .inl (cT, 6, .inr (.inr (.inr (.inr ((fun _ => none))))))), (tt, .inr (1, [.null]))] := hD
  refine lv_dup hx hb dX2_init_17 rfl ?_
  refine va_callv (va_runIN (As := []) (rest := [.ref tt, .ref o]) S0 (c_X1_init (l := l) (b := tt)) ⟨va_cnB 0 hts gX2_init_X1_init_n15 rfl rfl rfl hnest ini (by decide +kernel) ⟨Nat.le_of_ble_eq_true rfl, Nat.le_of_ble_eq_true rfl⟩, rfl, inm⟩ ⟨fun a U g mk q => ⟨q.1, trivial⟩, fun U hU hW => ⟨rfl, trivial⟩⟩ rfl rfl hl.1 rfl (lv_room (Nat.le_of_ble_eq_true rfl)) dX2_init_18 ⟨Nat.le_of_ble_eq_true rfl, Nat.le_of_ble_eq_true rfl⟩) hS (fun _ _ h => h.elim) (fun _ h => h.elim) (fun u t H1 locs ht hvm hw hB hz1 hk1 hS => ?_)
  have hP := hP.kept (fun k q hq => hk1 q.1 (hP k q hq).lt (fun h => h))
  generalize H1 = H at hP hS ⊢
  refine va_putF (D := D) hx hb hts hi2 tyX2 tyX2_ok nmX2 hown hK hP hD hS 0 rfl (ci := 2) rfl 1 (by decide) f16 (fun _ h => h) rfl hname rfl (ty := .object "SplayOrchard$Tree") (by decide +kernel) rfl rfl (by simp) dX2_init_21 (fun H locs hP hD hS => ?_)
  have hP : va_P D vwCl [(o, .inr (2, [.ref ra, .ref tt, .int 0])), (ra, .inl (cT, 6, .inr (.inr (.inr (.inr ((fun _ => none))))))), (tt, .inr (1, [.null]))] H := hP
  have hD : va_D (lA lo) [(o, .inr (2, [.ref ra, .ref tt, .int 0])), (ra, .inl (cT, 6, .inr (.inr (.inr (.inr ((fun _ => none))))))), (tt, .inr (1, [.null]))] := hD
  refine lv_iconst (v := 0) hx hb dX2_init_24 (by decide) ?_
  refine lv_istore_n (lv' := [(1, .int 0), (0, .ref o)]) hx hb dX2_init_25 rfl hl (by decide) rfl (fun ls hl => ?_)
  refine lv_iload_n hx hb dX2_init_26 rfl (lv_at hl 0 rfl) ?_
  refine lv_aload_n hx hb dX2_init_27 rfl (lv_at hl 1 rfl) ?_
  refine va_get (D := D) hx hb hts hi2 hown hK hP 0 rfl (ci := 2) rfl 0 (by decide) f11 (fun _ h => h) rfl dX2_init_28 ?_
  refine va_alen hx hb hK hP 1 0 rfl (ty := .object RX1) rfl (v := 6) rfl dX2_init_31 ?_
  refine lv_icmp_ge hx hb dX2_init_32 (tgt := 54) rfl (fun h => absurd h (by decide)) (fun _ => ?_)
  refine lv_aload_n hx hb dX2_init_35 rfl (lv_at hl 1 rfl) ?_
  refine va_get (D := D) hx hb hts hi2 hown hK hP 0 rfl (ci := 2) rfl 0 (by decide) f11 (fun _ h => h) rfl dX2_init_36 ?_
  refine lv_iload_n hx hb dX2_init_39 rfl (lv_at hl 0 rfl) ?_
  refine va_new (D := D) (cl := vwCl) (ci := 1) (fs := [.null]) (C := RX1) (T := TX1) (N := 1) hx hb hts hi1 tyX1 tyX1_ok hown k9 ins ini hK hP hD hS hA rfl (fun j hj => by rcases (show j = 0 by omega) with rfl; rfl) (Nat.le_of_ble_eq_true rfl) (Nat.le_of_ble_eq_true rfl) dX2_init_40 (fun t0 H hP hD hS => ?_)
  have hP : va_P D vwCl [(o, .inr (2, [.ref ra, .ref tt, .int 0])), (ra, .inl (cT, 6, .inr (.inr (.inr (.inr ((fun _ => none))))))), (tt, .inr (1, [.null])), (t0, .inr (1, [.null]))] H := hP
  have hD : va_D (lA lo) [(o, .inr (2, [.ref ra, .ref tt, .int 0])), (ra, .inl (cT, 6, .inr (.inr (.inr (.inr ((fun _ => none))))))), (tt, .inr (1, [.null])), (t0, .inr (1, [.null]))] := hD
  refine lv_dup hx hb dX2_init_43 rfl ?_
  refine va_callv (va_runIN (As := []) (rest := [.ref t0, .int 0, .ref ra]) S0 (c_X1_init (l := l) (b := t0)) ⟨va_cnB 0 hts gX2_init_X1_init_n15 rfl rfl rfl hnest ini (by decide +kernel) ⟨Nat.le_of_ble_eq_true rfl, Nat.le_of_ble_eq_true rfl⟩, rfl, inm⟩ ⟨fun a U g mk q => ⟨q.1, trivial⟩, fun U hU hW => ⟨rfl, trivial⟩⟩ rfl rfl hl.1 rfl (lv_room (Nat.le_of_ble_eq_true rfl)) dX2_init_44 ⟨Nat.le_of_ble_eq_true rfl, Nat.le_of_ble_eq_true rfl⟩) hS (fun _ _ h => h.elim) (fun _ h => h.elim) (fun u t H1 locs ht hvm hw hB hz1 hk1 hS => ?_)
  have hP := hP.kept (fun k q hq => hk1 q.1 (hP k q hq).lt (fun h => h))
  generalize H1 = H at hP hS ⊢
  refine va_astq (D := D) (cl := vwCl) hx hb hK hP hD hS 1 0 3 1 (r := (RX1, TX1, 1)) rfl rfl rfl rfl (vp_in_nI (n := 0) (N := 6) (by decide) (by decide)) dX2_init_47 (fun H locs hP hD hS => ?_)
  have e0 : (0 : Int32).toNatClampNeg = 0 := by decide
  rw [e0] at hP hD
  have hP : va_P D vwCl [(o, .inr (2, [.ref ra, .ref tt, .int 0])), (ra, .inl (cT, 6, .inr (.inr (.inr (.inr ((va_up (fun _ => none) 0 (some t0)))))))), (tt, .inr (1, [.null])), (t0, .inr (1, [.null]))] H := hP
  have hD : va_D (lA lo) [(o, .inr (2, [.ref ra, .ref tt, .int 0])), (ra, .inl (cT, 6, .inr (.inr (.inr (.inr ((va_up (fun _ => none) 0 (some t0)))))))), (tt, .inr (1, [.null])), (t0, .inr (1, [.null]))] := hD
  refine lv_iinc (lv' := [(1, .int 1), (0, .ref o)]) (k := 0) hx hb dX2_init_48 hl rfl (v := 1) (by decide) (by decide) rfl (fun ls hl => ?_)
  refine lv_goto hx hb dX2_init_51 (tgt := 26) rfl ?_
  refine lv_iload_n hx hb dX2_init_26 rfl (lv_at hl 0 rfl) ?_
  refine lv_aload_n hx hb dX2_init_27 rfl (lv_at hl 1 rfl) ?_
  refine va_get (D := D) hx hb hts hi2 hown hK hP 0 rfl (ci := 2) rfl 0 (by decide) f11 (fun _ h => h) rfl dX2_init_28 ?_
  refine va_alen hx hb hK hP 1 0 rfl (ty := .object RX1) rfl (v := 6) rfl dX2_init_31 ?_
  refine lv_icmp_ge hx hb dX2_init_32 (tgt := 54) rfl (fun h => absurd h (by decide)) (fun _ => ?_)
  refine lv_aload_n hx hb dX2_init_35 rfl (lv_at hl 1 rfl) ?_
  refine va_get (D := D) hx hb hts hi2 hown hK hP 0 rfl (ci := 2) rfl 0 (by decide) f11 (fun _ h => h) rfl dX2_init_36 ?_
  refine lv_iload_n hx hb dX2_init_39 rfl (lv_at hl 0 rfl) ?_
  refine va_new (D := D) (cl := vwCl) (ci := 1) (fs := [.null]) (C := RX1) (T := TX1) (N := 1) hx hb hts hi1 tyX1 tyX1_ok hown k9 ins ini hK hP hD hS hA rfl (fun j hj => by rcases (show j = 0 by omega) with rfl; rfl) (Nat.le_of_ble_eq_true rfl) (Nat.le_of_ble_eq_true rfl) dX2_init_40 (fun t1 H hP hD hS => ?_)
  have hP : va_P D vwCl [(o, .inr (2, [.ref ra, .ref tt, .int 0])), (ra, .inl (cT, 6, .inr (.inr (.inr (.inr ((va_up (fun _ => none) 0 (some t0)))))))), (tt, .inr (1, [.null])), (t0, .inr (1, [.null])), (t1, .inr (1, [.null]))] H := hP
  have hD : va_D (lA lo) [(o, .inr (2, [.ref ra, .ref tt, .int 0])), (ra, .inl (cT, 6, .inr (.inr (.inr (.inr ((va_up (fun _ => none) 0 (some t0)))))))), (tt, .inr (1, [.null])), (t0, .inr (1, [.null])), (t1, .inr (1, [.null]))] := hD
  refine lv_dup hx hb dX2_init_43 rfl ?_
  refine va_callv (va_runIN (As := []) (rest := [.ref t1, .int 1, .ref ra]) S0 (c_X1_init (l := l) (b := t1)) ⟨va_cnB 0 hts gX2_init_X1_init_n15 rfl rfl rfl hnest ini (by decide +kernel) ⟨Nat.le_of_ble_eq_true rfl, Nat.le_of_ble_eq_true rfl⟩, rfl, inm⟩ ⟨fun a U g mk q => ⟨q.1, trivial⟩, fun U hU hW => ⟨rfl, trivial⟩⟩ rfl rfl hl.1 rfl (lv_room (Nat.le_of_ble_eq_true rfl)) dX2_init_44 ⟨Nat.le_of_ble_eq_true rfl, Nat.le_of_ble_eq_true rfl⟩) hS (fun _ _ h => h.elim) (fun _ h => h.elim) (fun u t H1 locs ht hvm hw hB hz1 hk1 hS => ?_)
  have hP := hP.kept (fun k q hq => hk1 q.1 (hP k q hq).lt (fun h => h))
  generalize H1 = H at hP hS ⊢
  refine va_astq (D := D) (cl := vwCl) hx hb hK hP hD hS 1 0 4 1 (r := (RX1, TX1, 1)) rfl rfl rfl rfl (vp_in_nI (n := 1) (N := 6) (by decide) (by decide)) dX2_init_47 (fun H locs hP hD hS => ?_)
  have e1 : (1 : Int32).toNatClampNeg = 1 := by decide
  rw [e1] at hP hD
  have hP : va_P D vwCl [(o, .inr (2, [.ref ra, .ref tt, .int 0])), (ra, .inl (cT, 6, .inr (.inr (.inr (.inr ((va_up (va_up (fun _ => none) 0 (some t0)) 1 (some t1)))))))), (tt, .inr (1, [.null])), (t0, .inr (1, [.null])), (t1, .inr (1, [.null]))] H := hP
  have hD : va_D (lA lo) [(o, .inr (2, [.ref ra, .ref tt, .int 0])), (ra, .inl (cT, 6, .inr (.inr (.inr (.inr ((va_up (va_up (fun _ => none) 0 (some t0)) 1 (some t1)))))))), (tt, .inr (1, [.null])), (t0, .inr (1, [.null])), (t1, .inr (1, [.null]))] := hD
  refine lv_iinc (lv' := [(1, .int 2), (0, .ref o)]) (k := 0) hx hb dX2_init_48 hl rfl (v := 2) (by decide) (by decide) rfl (fun ls hl => ?_)
  refine lv_goto hx hb dX2_init_51 (tgt := 26) rfl ?_
  refine lv_iload_n hx hb dX2_init_26 rfl (lv_at hl 0 rfl) ?_
  refine lv_aload_n hx hb dX2_init_27 rfl (lv_at hl 1 rfl) ?_
  refine va_get (D := D) hx hb hts hi2 hown hK hP 0 rfl (ci := 2) rfl 0 (by decide) f11 (fun _ h => h) rfl dX2_init_28 ?_
  refine va_alen hx hb hK hP 1 0 rfl (ty := .object RX1) rfl (v := 6) rfl dX2_init_31 ?_
  refine lv_icmp_ge hx hb dX2_init_32 (tgt := 54) rfl (fun h => absurd h (by decide)) (fun _ => ?_)
  refine lv_aload_n hx hb dX2_init_35 rfl (lv_at hl 1 rfl) ?_
  refine va_get (D := D) hx hb hts hi2 hown hK hP 0 rfl (ci := 2) rfl 0 (by decide) f11 (fun _ h => h) rfl dX2_init_36 ?_
  refine lv_iload_n hx hb dX2_init_39 rfl (lv_at hl 0 rfl) ?_
  refine va_new (D := D) (cl := vwCl) (ci := 1) (fs := [.null]) (C := RX1) (T := TX1) (N := 1) hx hb hts hi1 tyX1 tyX1_ok hown k9 ins ini hK hP hD hS hA rfl (fun j hj => by rcases (show j = 0 by omega) with rfl; rfl) (Nat.le_of_ble_eq_true rfl) (Nat.le_of_ble_eq_true rfl) dX2_init_40 (fun t2 H hP hD hS => ?_)
  have hP : va_P D vwCl [(o, .inr (2, [.ref ra, .ref tt, .int 0])), (ra, .inl (cT, 6, .inr (.inr (.inr (.inr ((va_up (va_up (fun _ => none) 0 (some t0)) 1 (some t1)))))))), (tt, .inr (1, [.null])), (t0, .inr (1, [.null])), (t1, .inr (1, [.null])), (t2, .inr (1, [.null]))] H := hP
  have hD : va_D (lA lo) [(o, .inr (2, [.ref ra, .ref tt, .int 0])), (ra, .inl (cT, 6, .inr (.inr (.inr (.inr ((va_up (va_up (fun _ => none) 0 (some t0)) 1 (some t1)))))))), (tt, .inr (1, [.null])), (t0, .inr (1, [.null])), (t1, .inr (1, [.null])), (t2, .inr (1, [.null]))] := hD
  refine lv_dup hx hb dX2_init_43 rfl ?_
  refine va_callv (va_runIN (As := []) (rest := [.ref t2, .int 2, .ref ra]) S0 (c_X1_init (l := l) (b := t2)) ⟨va_cnB 0 hts gX2_init_X1_init_n15 rfl rfl rfl hnest ini (by decide +kernel) ⟨Nat.le_of_ble_eq_true rfl, Nat.le_of_ble_eq_true rfl⟩, rfl, inm⟩ ⟨fun a U g mk q => ⟨q.1, trivial⟩, fun U hU hW => ⟨rfl, trivial⟩⟩ rfl rfl hl.1 rfl (lv_room (Nat.le_of_ble_eq_true rfl)) dX2_init_44 ⟨Nat.le_of_ble_eq_true rfl, Nat.le_of_ble_eq_true rfl⟩) hS (fun _ _ h => h.elim) (fun _ h => h.elim) (fun u t H1 locs ht hvm hw hB hz1 hk1 hS => ?_)
  have hP := hP.kept (fun k q hq => hk1 q.1 (hP k q hq).lt (fun h => h))
  generalize H1 = H at hP hS ⊢
  refine va_astq (D := D) (cl := vwCl) hx hb hK hP hD hS 1 0 5 1 (r := (RX1, TX1, 1)) rfl rfl rfl rfl (vp_in_nI (n := 2) (N := 6) (by decide) (by decide)) dX2_init_47 (fun H locs hP hD hS => ?_)
  have e2 : (2 : Int32).toNatClampNeg = 2 := by decide
  rw [e2] at hP hD
  have hP : va_P D vwCl [(o, .inr (2, [.ref ra, .ref tt, .int 0])), (ra, .inl (cT, 6, .inr (.inr (.inr (.inr ((va_up (va_up (va_up (fun _ => none) 0 (some t0)) 1 (some t1)) 2 (some t2)))))))), (tt, .inr (1, [.null])), (t0, .inr (1, [.null])), (t1, .inr (1, [.null])), (t2, .inr (1, [.null]))] H := hP
  have hD : va_D (lA lo) [(o, .inr (2, [.ref ra, .ref tt, .int 0])), (ra, .inl (cT, 6, .inr (.inr (.inr (.inr ((va_up (va_up (va_up (fun _ => none) 0 (some t0)) 1 (some t1)) 2 (some t2)))))))), (tt, .inr (1, [.null])), (t0, .inr (1, [.null])), (t1, .inr (1, [.null])), (t2, .inr (1, [.null]))] := hD
  refine lv_iinc (lv' := [(1, .int 3), (0, .ref o)]) (k := 0) hx hb dX2_init_48 hl rfl (v := 3) (by decide) (by decide) rfl (fun ls hl => ?_)
  refine lv_goto hx hb dX2_init_51 (tgt := 26) rfl ?_
  refine lv_iload_n hx hb dX2_init_26 rfl (lv_at hl 0 rfl) ?_
  refine lv_aload_n hx hb dX2_init_27 rfl (lv_at hl 1 rfl) ?_
  refine va_get (D := D) hx hb hts hi2 hown hK hP 0 rfl (ci := 2) rfl 0 (by decide) f11 (fun _ h => h) rfl dX2_init_28 ?_
  refine va_alen hx hb hK hP 1 0 rfl (ty := .object RX1) rfl (v := 6) rfl dX2_init_31 ?_
  refine lv_icmp_ge hx hb dX2_init_32 (tgt := 54) rfl (fun h => absurd h (by decide)) (fun _ => ?_)
  refine lv_aload_n hx hb dX2_init_35 rfl (lv_at hl 1 rfl) ?_
  refine va_get (D := D) hx hb hts hi2 hown hK hP 0 rfl (ci := 2) rfl 0 (by decide) f11 (fun _ h => h) rfl dX2_init_36 ?_
  refine lv_iload_n hx hb dX2_init_39 rfl (lv_at hl 0 rfl) ?_
  refine va_new (D := D) (cl := vwCl) (ci := 1) (fs := [.null]) (C := RX1) (T := TX1) (N := 1) hx hb hts hi1 tyX1 tyX1_ok hown k9 ins ini hK hP hD hS hA rfl (fun j hj => by rcases (show j = 0 by omega) with rfl; rfl) (Nat.le_of_ble_eq_true rfl) (Nat.le_of_ble_eq_true rfl) dX2_init_40 (fun t3 H hP hD hS => ?_)
  have hP : va_P D vwCl [(o, .inr (2, [.ref ra, .ref tt, .int 0])), (ra, .inl (cT, 6, .inr (.inr (.inr (.inr ((va_up (va_up (va_up (fun _ => none) 0 (some t0)) 1 (some t1)) 2 (some t2)))))))), (tt, .inr (1, [.null])), (t0, .inr (1, [.null])), (t1, .inr (1, [.null])), (t2, .inr (1, [.null])), (t3, .inr (1, [.null]))] H := hP
  have hD : va_D (lA lo) [(o, .inr (2, [.ref ra, .ref tt, .int 0])), (ra, .inl (cT, 6, .inr (.inr (.inr (.inr ((va_up (va_up (va_up (fun _ => none) 0 (some t0)) 1 (some t1)) 2 (some t2)))))))), (tt, .inr (1, [.null])), (t0, .inr (1, [.null])), (t1, .inr (1, [.null])), (t2, .inr (1, [.null])), (t3, .inr (1, [.null]))] := hD
  refine lv_dup hx hb dX2_init_43 rfl ?_
  refine va_callv (va_runIN (As := []) (rest := [.ref t3, .int 3, .ref ra]) S0 (c_X1_init (l := l) (b := t3)) ⟨va_cnB 0 hts gX2_init_X1_init_n15 rfl rfl rfl hnest ini (by decide +kernel) ⟨Nat.le_of_ble_eq_true rfl, Nat.le_of_ble_eq_true rfl⟩, rfl, inm⟩ ⟨fun a U g mk q => ⟨q.1, trivial⟩, fun U hU hW => ⟨rfl, trivial⟩⟩ rfl rfl hl.1 rfl (lv_room (Nat.le_of_ble_eq_true rfl)) dX2_init_44 ⟨Nat.le_of_ble_eq_true rfl, Nat.le_of_ble_eq_true rfl⟩) hS (fun _ _ h => h.elim) (fun _ h => h.elim) (fun u t H1 locs ht hvm hw hB hz1 hk1 hS => ?_)
  have hP := hP.kept (fun k q hq => hk1 q.1 (hP k q hq).lt (fun h => h))
  generalize H1 = H at hP hS ⊢
  refine va_astq (D := D) (cl := vwCl) hx hb hK hP hD hS 1 0 6 1 (r := (RX1, TX1, 1)) rfl rfl rfl rfl (vp_in_nI (n := 3) (N := 6) (by decide) (by decide)) dX2_init_47 (fun H locs hP hD hS => ?_)
  have e3 : (3 : Int32).toNatClampNeg = 3 := by decide
  rw [e3] at hP hD
  have hP : va_P D vwCl [(o, .inr (2, [.ref ra, .ref tt, .int 0])), (ra, .inl (cT, 6, .inr (.inr (.inr (.inr ((va_up (va_up (va_up (va_up (fun _ => none) 0 (some t0)) 1 (some t1)) 2 (some t2)) 3 (some t3)))))))), (tt, .inr (1, [.null])), (t0, .inr (1, [.null])), (t1, .inr (1, [.null])), (t2, .inr (1, [.null])), (t3, .inr (1, [.null]))] H := hP
  have hD : va_D (lA lo) [(o, .inr (2, [.ref ra, .ref tt, .int 0])), (ra, .inl (cT, 6, .inr (.inr (.inr (.inr ((va_up (va_up (va_up (va_up (fun _ => none) 0 (some t0)) 1 (some t1)) 2 (some t2)) 3 (some t3)))))))), (tt, .inr (1, [.null])), (t0, .inr (1, [.null])), (t1, .inr (1, [.null])), (t2, .inr (1, [.null])), (t3, .inr (1, [.null]))] := hD
  refine lv_iinc (lv' := [(1, .int 4), (0, .ref o)]) (k := 0) hx hb dX2_init_48 hl rfl (v := 4) (by decide) (by decide) rfl (fun ls hl => ?_)
  refine lv_goto hx hb dX2_init_51 (tgt := 26) rfl ?_
  refine lv_iload_n hx hb dX2_init_26 rfl (lv_at hl 0 rfl) ?_
  refine lv_aload_n hx hb dX2_init_27 rfl (lv_at hl 1 rfl) ?_
  refine va_get (D := D) hx hb hts hi2 hown hK hP 0 rfl (ci := 2) rfl 0 (by decide) f11 (fun _ h => h) rfl dX2_init_28 ?_
  refine va_alen hx hb hK hP 1 0 rfl (ty := .object RX1) rfl (v := 6) rfl dX2_init_31 ?_
  refine lv_icmp_ge hx hb dX2_init_32 (tgt := 54) rfl (fun h => absurd h (by decide)) (fun _ => ?_)
  refine lv_aload_n hx hb dX2_init_35 rfl (lv_at hl 1 rfl) ?_
  refine va_get (D := D) hx hb hts hi2 hown hK hP 0 rfl (ci := 2) rfl 0 (by decide) f11 (fun _ h => h) rfl dX2_init_36 ?_
  refine lv_iload_n hx hb dX2_init_39 rfl (lv_at hl 0 rfl) ?_
  refine va_new (D := D) (cl := vwCl) (ci := 1) (fs := [.null]) (C := RX1) (T := TX1) (N := 1) hx hb hts hi1 tyX1 tyX1_ok hown k9 ins ini hK hP hD hS hA rfl (fun j hj => by rcases (show j = 0 by omega) with rfl; rfl) (Nat.le_of_ble_eq_true rfl) (Nat.le_of_ble_eq_true rfl) dX2_init_40 (fun t4 H hP hD hS => ?_)
  have hP : va_P D vwCl [(o, .inr (2, [.ref ra, .ref tt, .int 0])), (ra, .inl (cT, 6, .inr (.inr (.inr (.inr ((va_up (va_up (va_up (va_up (fun _ => none) 0 (some t0)) 1 (some t1)) 2 (some t2)) 3 (some t3)))))))), (tt, .inr (1, [.null])), (t0, .inr (1, [.null])), (t1, .inr (1, [.null])), (t2, .inr (1, [.null])), (t3, .inr (1, [.null])), (t4, .inr (1, [.null]))] H := hP
  have hD : va_D (lA lo) [(o, .inr (2, [.ref ra, .ref tt, .int 0])), (ra, .inl (cT, 6, .inr (.inr (.inr (.inr ((va_up (va_up (va_up (va_up (fun _ => none) 0 (some t0)) 1 (some t1)) 2 (some t2)) 3 (some t3)))))))), (tt, .inr (1, [.null])), (t0, .inr (1, [.null])), (t1, .inr (1, [.null])), (t2, .inr (1, [.null])), (t3, .inr (1, [.null])), (t4, .inr (1, [.null]))] := hD
  refine lv_dup hx hb dX2_init_43 rfl ?_
  refine va_callv (va_runIN (As := []) (rest := [.ref t4, .int 4, .ref ra]) S0 (c_X1_init (l := l) (b := t4)) ⟨va_cnB 0 hts gX2_init_X1_init_n15 rfl rfl rfl hnest ini (by decide +kernel) ⟨Nat.le_of_ble_eq_true rfl, Nat.le_of_ble_eq_true rfl⟩, rfl, inm⟩ ⟨fun a U g mk q => ⟨q.1, trivial⟩, fun U hU hW => ⟨rfl, trivial⟩⟩ rfl rfl hl.1 rfl (lv_room (Nat.le_of_ble_eq_true rfl)) dX2_init_44 ⟨Nat.le_of_ble_eq_true rfl, Nat.le_of_ble_eq_true rfl⟩) hS (fun _ _ h => h.elim) (fun _ h => h.elim) (fun u t H1 locs ht hvm hw hB hz1 hk1 hS => ?_)
  have hP := hP.kept (fun k q hq => hk1 q.1 (hP k q hq).lt (fun h => h))
  generalize H1 = H at hP hS ⊢
  refine va_astq (D := D) (cl := vwCl) hx hb hK hP hD hS 1 0 7 1 (r := (RX1, TX1, 1)) rfl rfl rfl rfl (vp_in_nI (n := 4) (N := 6) (by decide) (by decide)) dX2_init_47 (fun H locs hP hD hS => ?_)
  have e4 : (4 : Int32).toNatClampNeg = 4 := by decide
  rw [e4] at hP hD
  have hP : va_P D vwCl [(o, .inr (2, [.ref ra, .ref tt, .int 0])), (ra, .inl (cT, 6, .inr (.inr (.inr (.inr ((va_up (va_up (va_up (va_up (va_up (fun _ => none) 0 (some t0)) 1 (some t1)) 2 (some t2)) 3 (some t3)) 4 (some t4)))))))), (tt, .inr (1, [.null])), (t0, .inr (1, [.null])), (t1, .inr (1, [.null])), (t2, .inr (1, [.null])), (t3, .inr (1, [.null])), (t4, .inr (1, [.null]))] H := hP
  have hD : va_D (lA lo) [(o, .inr (2, [.ref ra, .ref tt, .int 0])), (ra, .inl (cT, 6, .inr (.inr (.inr (.inr ((va_up (va_up (va_up (va_up (va_up (fun _ => none) 0 (some t0)) 1 (some t1)) 2 (some t2)) 3 (some t3)) 4 (some t4)))))))), (tt, .inr (1, [.null])), (t0, .inr (1, [.null])), (t1, .inr (1, [.null])), (t2, .inr (1, [.null])), (t3, .inr (1, [.null])), (t4, .inr (1, [.null]))] := hD
  refine lv_iinc (lv' := [(1, .int 5), (0, .ref o)]) (k := 0) hx hb dX2_init_48 hl rfl (v := 5) (by decide) (by decide) rfl (fun ls hl => ?_)
  refine lv_goto hx hb dX2_init_51 (tgt := 26) rfl ?_
  refine lv_iload_n hx hb dX2_init_26 rfl (lv_at hl 0 rfl) ?_
  refine lv_aload_n hx hb dX2_init_27 rfl (lv_at hl 1 rfl) ?_
  refine va_get (D := D) hx hb hts hi2 hown hK hP 0 rfl (ci := 2) rfl 0 (by decide) f11 (fun _ h => h) rfl dX2_init_28 ?_
  refine va_alen hx hb hK hP 1 0 rfl (ty := .object RX1) rfl (v := 6) rfl dX2_init_31 ?_
  refine lv_icmp_ge hx hb dX2_init_32 (tgt := 54) rfl (fun h => absurd h (by decide)) (fun _ => ?_)
  refine lv_aload_n hx hb dX2_init_35 rfl (lv_at hl 1 rfl) ?_
  refine va_get (D := D) hx hb hts hi2 hown hK hP 0 rfl (ci := 2) rfl 0 (by decide) f11 (fun _ h => h) rfl dX2_init_36 ?_
  refine lv_iload_n hx hb dX2_init_39 rfl (lv_at hl 0 rfl) ?_
  refine va_new (D := D) (cl := vwCl) (ci := 1) (fs := [.null]) (C := RX1) (T := TX1) (N := 1) hx hb hts hi1 tyX1 tyX1_ok hown k9 ins ini hK hP hD hS hA rfl (fun j hj => by rcases (show j = 0 by omega) with rfl; rfl) (Nat.le_of_ble_eq_true rfl) (Nat.le_of_ble_eq_true rfl) dX2_init_40 (fun t5 H hP hD hS => ?_)
  have hP : va_P D vwCl [(o, .inr (2, [.ref ra, .ref tt, .int 0])), (ra, .inl (cT, 6, .inr (.inr (.inr (.inr ((va_up (va_up (va_up (va_up (va_up (fun _ => none) 0 (some t0)) 1 (some t1)) 2 (some t2)) 3 (some t3)) 4 (some t4)))))))), (tt, .inr (1, [.null])), (t0, .inr (1, [.null])), (t1, .inr (1, [.null])), (t2, .inr (1, [.null])), (t3, .inr (1, [.null])), (t4, .inr (1, [.null])), (t5, .inr (1, [.null]))] H := hP
  have hD : va_D (lA lo) [(o, .inr (2, [.ref ra, .ref tt, .int 0])), (ra, .inl (cT, 6, .inr (.inr (.inr (.inr ((va_up (va_up (va_up (va_up (va_up (fun _ => none) 0 (some t0)) 1 (some t1)) 2 (some t2)) 3 (some t3)) 4 (some t4)))))))), (tt, .inr (1, [.null])), (t0, .inr (1, [.null])), (t1, .inr (1, [.null])), (t2, .inr (1, [.null])), (t3, .inr (1, [.null])), (t4, .inr (1, [.null])), (t5, .inr (1, [.null]))] := hD
  refine lv_dup hx hb dX2_init_43 rfl ?_
  refine va_callv (va_runIN (As := []) (rest := [.ref t5, .int 5, .ref ra]) S0 (c_X1_init (l := l) (b := t5)) ⟨va_cnB 0 hts gX2_init_X1_init_n15 rfl rfl rfl hnest ini (by decide +kernel) ⟨Nat.le_of_ble_eq_true rfl, Nat.le_of_ble_eq_true rfl⟩, rfl, inm⟩ ⟨fun a U g mk q => ⟨q.1, trivial⟩, fun U hU hW => ⟨rfl, trivial⟩⟩ rfl rfl hl.1 rfl (lv_room (Nat.le_of_ble_eq_true rfl)) dX2_init_44 ⟨Nat.le_of_ble_eq_true rfl, Nat.le_of_ble_eq_true rfl⟩) hS (fun _ _ h => h.elim) (fun _ h => h.elim) (fun u t H1 locs ht hvm hw hB hz1 hk1 hS => ?_)
  have hP := hP.kept (fun k q hq => hk1 q.1 (hP k q hq).lt (fun h => h))
  generalize H1 = H at hP hS ⊢
  refine va_astq (D := D) (cl := vwCl) hx hb hK hP hD hS 1 0 8 1 (r := (RX1, TX1, 1)) rfl rfl rfl rfl (vp_in_nI (n := 5) (N := 6) (by decide) (by decide)) dX2_init_47 (fun H locs hP hD hS => ?_)
  have e5 : (5 : Int32).toNatClampNeg = 5 := by decide
  rw [e5] at hP hD
  have hP : va_P D vwCl [(o, .inr (2, [.ref ra, .ref tt, .int 0])), (ra, .inl (cT, 6, .inr (.inr (.inr (.inr ((va_up (va_up (va_up (va_up (va_up (va_up (fun _ => none) 0 (some t0)) 1 (some t1)) 2 (some t2)) 3 (some t3)) 4 (some t4)) 5 (some t5)))))))), (tt, .inr (1, [.null])), (t0, .inr (1, [.null])), (t1, .inr (1, [.null])), (t2, .inr (1, [.null])), (t3, .inr (1, [.null])), (t4, .inr (1, [.null])), (t5, .inr (1, [.null]))] H := hP
  have hD : va_D (lA lo) [(o, .inr (2, [.ref ra, .ref tt, .int 0])), (ra, .inl (cT, 6, .inr (.inr (.inr (.inr ((va_up (va_up (va_up (va_up (va_up (va_up (fun _ => none) 0 (some t0)) 1 (some t1)) 2 (some t2)) 3 (some t3)) 4 (some t4)) 5 (some t5)))))))), (tt, .inr (1, [.null])), (t0, .inr (1, [.null])), (t1, .inr (1, [.null])), (t2, .inr (1, [.null])), (t3, .inr (1, [.null])), (t4, .inr (1, [.null])), (t5, .inr (1, [.null]))] := hD
  refine lv_iinc (lv' := [(1, .int 6), (0, .ref o)]) (k := 0) hx hb dX2_init_48 hl rfl (v := 6) (by decide) (by decide) rfl (fun ls hl => ?_)
  refine lv_goto hx hb dX2_init_51 (tgt := 26) rfl ?_
  refine lv_iload_n hx hb dX2_init_26 rfl (lv_at hl 0 rfl) ?_
  refine lv_aload_n hx hb dX2_init_27 rfl (lv_at hl 1 rfl) ?_
  refine va_get (D := D) hx hb hts hi2 hown hK hP 0 rfl (ci := 2) rfl 0 (by decide) f11 (fun _ h => h) rfl dX2_init_28 ?_
  refine va_alen hx hb hK hP 1 0 rfl (ty := .object RX1) rfl (v := 6) rfl dX2_init_31 ?_
  refine lv_icmp_ge hx hb dX2_init_32 (tgt := 54) rfl (fun _ => ?_) (fun h => absurd (by decide) h)
  exact W.vret hx hb hr (fun t ht hW => ⟨⟨(cT, ra, tt, t0, t1, t2, t3, t4, t5), rfl, trivial, by rw [ht]; exact hP, va_K.moved hW.alike hK, hD⟩, hS.F ht⟩) hS.2.2 dX2_init_54 hlocks
