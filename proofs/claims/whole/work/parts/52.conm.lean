set_option maxRecDepth 100000 in
set_option maxHeartbeats 4000000 in
theorem c_X3_init {l : Launch} {D : va_G} {lo mo : Nat} {cT : ClassId} {w0 w1 w2 w3 w4 w5 w6 w7 w8 : Nat × va_E} : Met l yX3_init wsX3_init (rmL 2 2 412) (va_Pc [.ref mo] (fun U => lo ≤ U.heap.size ∧ va_P D vwCl [w0, w1, w2, w3, w4, w5, w6, w7, w8, (mo, .inr (3, [.int 0, .int 0, .int 0, .null, .null, .int 0]))] U.heap ∧ va_K D vwCl [(cT, .object RX1)] U ∧ va_D (lA lo) [w0, w1, w2, w3, w4, w5, w6, w7, w8, (mo, .inr (3, [.int 0, .int 0, .int 0, .null, .null, .int 0]))]))
    (va_Qv (fun _ : ClassId × Nat × Nat => True) (fun u t => va_P D vwCl [w0, w1, w2, w3, w4, w5, w6, w7, w8, (mo, .inr (3, [.int 0, .int 0, .int 0, .ref u.2.1, .ref u.2.2, .int 0])), (u.2.1, .inl (u.1, 206, .inl (fun _ => -1))), (u.2.2, .inl (u.1, 206, .inl (fun _ => 0)))] t.heap ∧ va_K D vwCl [(cT, .object RX1), (u.1, .int)] t ∧ va_D (lA lo) [w0, w1, w2, w3, w4, w5, w6, w7, w8, (mo, .inr (3, [.int 0, .int 0, .int 0, .ref u.2.1, .ref u.2.2, .int 0])), (u.2.1, .inl (u.1, 206, .inl (fun _ => -1))), (u.2.2, .inl (u.1, 206, .inl (fun _ => 0)))]) (lA lo)) 2 412 (lA lo) := by
  refine Met.ofW (cc := cX3_init) (maxL := 2) (ret := none) (by decide) rfl ?_
  intro p e s m args below meth c s₁ B hml hv
  obtain ⟨rfl, hlo, hP, hK, hD⟩ := hv
  have hx := B.exec
  have hb := B.bytes
  have hr := B.returns
  have hts := atoms_spec (ws := wsX3_init) B.pre
  have hown : s.vm.findClass RX3 = some m.cls := findClass_of_methodNamed B.named
  have hlocks := B.notSynchronized
  have hname : meth.name = "<init>" := (name_of_methodNamed B.named B.method).1
  have hi3 : ∀ w ∈ wsX30, w ∈ wsX3_init := by decide +kernel
  have f9 : (Cond.fieldLink RX3 9 (TX3 3).1 (TX3 3).2.1 (TX3 3).2.2.1).before _ s = true := hts _ (by decide +kernel)
  have f13 : (Cond.fieldLink RX3 13 (TX3 4).1 (TX3 4).2.1 (TX3 4).2.2.1).before _ s = true := hts _ (by decide +kernel)
  have har := hts (.arrayClass .int) (by decide +kernel)
  have hA : ∀ q : Nat, s.heap.size ≤ q → lA lo q := fun q h => Nat.le_trans hlo h
  have hS : va_S (lA lo) s.heap s.heap [] := va_S.rf
  have hl := lv_entry [.ref mo] (n := 2) (Nat.le_of_ble_eq_true rfl)
  rw [lg_entry_eq]
  generalize (lg_sl ([.ref mo]) ++ List.replicate (2 - (lg_sl ([.ref mo])).length) Slot.unset).toArray = ls at hl ⊢
  have hl : lv_has ls 2 [(0, .ref mo)] := hl
  refine lv_aload_n hx hb dX3_init_0 rfl (lv_at hl 0 rfl) ?_
  refine W.objInit hx hb hown (hts (.methodLink RX3 3 objectInit) (by decide +kernel)) (hts (.instanceMethod objectInit) (by decide +kernel)) (hts (.code objectInit ⟨#[0xb1]⟩ 1 none) (by decide +kernel)) rfl (by rw [hml]; exact hl.1) rfl dX3_init_1 (Nat.le_of_ble_eq_true rfl) (Nat.le_of_ble_eq_true rfl) ?_
  refine W.eq (g2 := F0 m 4 ls []) rfl ?_
  refine lv_aload_n hx hb dX3_init_4 rfl (lv_at hl 0 rfl) ?_
  refine lv_sipush (v := 206) hx hb dX3_init_5 (by decide) ?_
  refine va_newa (atype := .int) hx hb har (ty := .int) rfl hK hP hD hS hA (n := 206) (N' := 206) (a0 := (206, .inl (fun _ => 0))) (fun _ => rfl) (by decide) (by decide) (Nat.le_of_ble_eq_true rfl) (Nat.le_of_ble_eq_true rfl) (Nat.le_of_ble_eq_true rfl) dX3_init_8 (fun na cI H hK hP hD hS => ?_)
  have hP : va_P D vwCl [w0, w1, w2, w3, w4, w5, w6, w7, w8, (mo, .inr (3, [.int 0, .int 0, .int 0, .null, .null, .int 0])), (na, .inl (cI, 206, .inl (fun _ => 0)))] H := hP
  have hD : va_D (lA lo) [w0, w1, w2, w3, w4, w5, w6, w7, w8, (mo, .inr (3, [.int 0, .int 0, .int 0, .null, .null, .int 0])), (na, .inl (cI, 206, .inl (fun _ => 0)))] := hD
  refine va_putF (D := D) hx hb hts hi3 tyX3 tyX3_ok nmX3 hown hK hP hD hS 9 rfl (ci := 3) rfl 3 (by decide) f9 (fun _ h => h) rfl hname rfl (ty := .array .int) (by decide +kernel) rfl rfl (by simp) dX3_init_10 (fun H locs hP hD hS => ?_)
  have hP : va_P D vwCl [w0, w1, w2, w3, w4, w5, w6, w7, w8, (mo, .inr (3, [.int 0, .int 0, .int 0, .ref na, .null, .int 0])), (na, .inl (cI, 206, .inl (fun _ => 0)))] H := hP
  have hD : va_D (lA lo) [w0, w1, w2, w3, w4, w5, w6, w7, w8, (mo, .inr (3, [.int 0, .int 0, .int 0, .ref na, .null, .int 0])), (na, .inl (cI, 206, .inl (fun _ => 0)))] := hD
  refine lv_aload_n hx hb dX3_init_13 rfl (lv_at hl 0 rfl) ?_
  refine lv_sipush (v := 206) hx hb dX3_init_14 (by decide) ?_
  refine va_newa (atype := .int) hx hb har (ty := .int) rfl hK hP hD hS hA (n := 206) (N' := 206) (a0 := (206, .inl (fun _ => 0))) (fun _ => rfl) (by decide) (by decide) (Nat.le_of_ble_eq_true rfl) (Nat.le_of_ble_eq_true rfl) (Nat.le_of_ble_eq_true rfl) dX3_init_17 (fun ka cK H hK hP hD hS => ?_)
  have hP : va_P D vwCl [w0, w1, w2, w3, w4, w5, w6, w7, w8, (mo, .inr (3, [.int 0, .int 0, .int 0, .ref na, .null, .int 0])), (na, .inl (cI, 206, .inl (fun _ => 0))), (ka, .inl (cK, 206, .inl (fun _ => 0)))] H := hP
  have hD : va_D (lA lo) [w0, w1, w2, w3, w4, w5, w6, w7, w8, (mo, .inr (3, [.int 0, .int 0, .int 0, .ref na, .null, .int 0])), (na, .inl (cI, 206, .inl (fun _ => 0))), (ka, .inl (cK, 206, .inl (fun _ => 0)))] := hD
  refine va_putF (D := D) hx hb hts hi3 tyX3 tyX3_ok nmX3 hown hK hP hD hS 9 rfl (ci := 3) rfl 4 (by decide) f13 (fun _ h => h) rfl hname rfl (ty := .array .int) (by decide +kernel) rfl rfl (by simp) dX3_init_19 (fun H locs hP hD hS => ?_)
  have hP : va_P D vwCl [w0, w1, w2, w3, w4, w5, w6, w7, w8, (mo, .inr (3, [.int 0, .int 0, .int 0, .ref na, .ref ka, .int 0])), (na, .inl (cI, 206, .inl (fun _ => 0))), (ka, .inl (cK, 206, .inl (fun _ => 0)))] H := hP
  have hD : va_D (lA lo) [w0, w1, w2, w3, w4, w5, w6, w7, w8, (mo, .inr (3, [.int 0, .int 0, .int 0, .ref na, .ref ka, .int 0])), (na, .inl (cI, 206, .inl (fun _ => 0))), (ka, .inl (cK, 206, .inl (fun _ => 0)))] := hD
  have hK : va_K D vwCl [(cT, .object RX1), (cI, .int), (cK, .int)] s := hK
  have ecc : cI = cK := Option.some.inj (((hK.2 1 _ rfl).2 : s.vm.findClass _ = some cI).symm.trans ((hK.2 2 _ rfl).2 : s.vm.findClass _ = some cK))
  subst ecc
  have hK : va_K D vwCl [(cT, .object RX1), (cI, .int)] s := hK.sub [0, 1] rfl
  refine lv_iconst (v := 0) hx hb dX3_init_22 (by decide) ?_
  refine lv_istore_n (lv' := [(1, .int 0), (0, .ref mo)]) hx hb dX3_init_23 rfl hl (by decide) rfl (fun ls hl => ?_)
  refine W.widen (k := 2) (n := 412) (Nat.le_of_ble_eq_true rfl) (Nat.le_of_ble_eq_true rfl) ?_
  have loop : ∀ (n i : Nat) (f : Nat → Int32) (H : Heap) (locs : List Loc) (ls : Array Slot), i + n = 206 → lv_has ls 2 [(1, .int (nI i)), (0, .ref mo)] → (∀ j, j < i → f j = -1) → va_P D vwCl [w0, w1, w2, w3, w4, w5, w6, w7, w8, (mo, .inr (3, [.int 0, .int 0, .int 0, .ref na, .ref ka, .int 0])), (na, .inl (cI, 206, .inl f)), (ka, .inl (cI, 206, .inl (fun _ => 0)))] H → va_D (lA lo) [w0, w1, w2, w3, w4, w5, w6, w7, w8, (mo, .inr (3, [.int 0, .int 0, .int 0, .ref na, .ref ka, .int 0])), (na, .inl (cI, 206, .inl f)), (ka, .inl (cI, 206, .inl (fun _ => 0)))] → va_S (lA lo) s.heap H locs → W p l e (headSpec wsX3_init (rmL 2 2 412)).room s m [Value.ref mo].toArray below meth c H locs 2 412 (MQ below (va_Qv (fun _ : ClassId × Nat × Nat => True) (fun u t => va_P D vwCl [w0, w1, w2, w3, w4, w5, w6, w7, w8, (mo, .inr (3, [.int 0, .int 0, .int 0, .ref u.2.1, .ref u.2.2, .int 0])), (u.2.1, .inl (u.1, 206, .inl (fun _ => -1))), (u.2.2, .inl (u.1, 206, .inl (fun _ => 0)))] t.heap ∧ va_K D vwCl [(cT, .object RX1), (u.1, .int)] t ∧ va_D (lA lo) [w0, w1, w2, w3, w4, w5, w6, w7, w8, (mo, .inr (3, [.int 0, .int 0, .int 0, .ref u.2.1, .ref u.2.2, .int 0])), (u.2.1, .inl (u.1, 206, .inl (fun _ => -1))), (u.2.2, .inl (u.1, 206, .inl (fun _ => 0)))]) (lA lo)) [Value.ref mo].toArray s 2 412 (lA lo)) (F0 m 24 ls []) := by
    intro n
    induction n with
    | zero =>
      intro i f H locs ls hin hl hf hP hD hS
      have hi : i = 206 := by omega
      subst hi
      refine lv_iload_n hx hb dX3_init_24 rfl (lv_at hl 0 rfl) ?_
      refine lv_sipush (v := 206) hx hb dX3_init_25 (by decide) ?_
      refine lv_icmp_ge hx hb dX3_init_28 (tgt := 44) rfl (fun _ => ?_) (fun h => absurd (by decide) h)
      have hc := hP 10 _ rfl
      have hc2 : va_at D vwCl (na, .inl (cI, 206, .inl (fun _ => -1))) H := by
        show H[na]? = some (vp_cell cI (206, .inl (fun _ => -1)))
        rw [vp_cell_i, ← arrV_cg (f := fun j => .int (f j)) (fun j hj => by rw [hf j hj])]
        exact hc
      have hP9 := hP.set hD (p := 10) rfl hc2 (fun _ _ => rfl)
      have hD9 := hD.set (p := 10) (e := .inl (cI, 206, .inl (fun _ => -1))) rfl
      exact W.vret hx hb hr (fun t ht hW => ⟨⟨(cI, na, ka), rfl, trivial, by rw [ht]; exact hP9, va_K.moved hW.alike hK, hD9⟩, hS.F ht⟩) hS.2.2 dX3_init_44 hlocks
    | succ n ih =>
      intro i f H locs ls hin hl hf hP hD hS
      refine lv_iload_n hx hb dX3_init_24 rfl (lv_at hl 0 rfl) ?_
      refine lv_sipush (v := 206) hx hb dX3_init_25 (by decide) ?_
      refine lv_icmp_ge hx hb dX3_init_28 (tgt := 44) rfl (fun h => absurd h (nI_ge (b := 206) (by omega) (by omega))) (fun _ => ?_)
      refine lv_aload_n hx hb dX3_init_31 rfl (lv_at hl 1 rfl) ?_
      refine va_get (D := D) hx hb hts hi3 hown hK hP 9 rfl (ci := 3) rfl 3 (by decide) f9 (fun _ h => h) rfl dX3_init_32 ?_
      refine lv_iload_n hx hb dX3_init_35 rfl (lv_at hl 0 rfl) ?_
      refine lv_iconst (v := -1) hx hb dX3_init_36 (by decide) ?_
      refine va_iast hx hb hK hP hD hS 10 1 rfl rfl (vp_in_nI (by omega) (by omega)) dX3_init_37 (fun H locs hP hD hS => ?_)
      rw [nI_clamp (by omega)] at hP hD
      refine lv_iinc (lv' := [(1, .int (nI (i + 1))), (0, .ref mo)]) (k := 0) hx hb dX3_init_38 hl rfl (v := nI (i + 1)) (nI_succ i).symm (by decide) rfl (fun ls hl => ?_)
      refine lv_goto hx hb dX3_init_41 (tgt := 24) rfl ?_
      refine ih (i + 1) (upd f i (-1)) H locs ls (by omega) hl (fun j hj => ?_) hP hD hS
      by_cases h : j = i
      · subst h; unfold upd; rw [if_pos rfl]
      · unfold upd; rw [if_neg h]; exact hf j (by omega)
  exact loop 206 0 (fun _ => 0) _ _ _ (by omega) hl (fun j hj => by omega) hP hD hS
