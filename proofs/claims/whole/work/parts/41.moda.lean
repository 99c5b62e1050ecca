/-! METHODS of the reference that change it -/
theorem low_ne {Q : PF} {k : Option Nat} {j x : Nat} (h : j ≠ 2) : low Q k j x = Q j x := by
  cases k with
  | none => rfl
  | some c => exact sP_nk h
theorem low_na {Q : PF} {k : Option Nat} {j x : Nat} (h : k ≠ some x) : low Q k j x = Q j x := by
  cases k with
  | none => rfl
  | some c => exact sP_na (fun e => h (by rw [e]))
theorem low_ok {Q : PF} {t : Tr} {par : Option Nat} (h : rep Q par t) (hn : (tids t).Nodup) : rep (low Q (rt t)) none t := by
  refine rep_re t _ h (fun x _ => ⟨low_ne (by decide), low_ne (by decide), fun hne => low_na hne, fun he => ?_⟩) hn
  rw [he]
  exact sP_eq _ _ _ _
def pkQ (Q : PF) (r a : Nat) (t L9 R9 : Tr) : PF := sP (tgP (low (low (sP (rai a (zof t a).2.2.2 Q) 3 r (some a)) (rt L9)) (rt R9)) L9 (rt R9)) 3 r (tgr L9 (rt R9))
def ptQ (Q : PF) (r q b : Nat) (t R9 : Tr) : PF := sP (sP (low (sP (rai b (zof t b).2.2.2 Q) 3 r (some b)) (rt R9)) 3 q (rt R9)) 1 b none
theorem picked_0 {Q Q1 : PF} {r a : Nat} {t L9 R9 : Tr} (hrep : rep Q none t) (hn : (tids t).Nodup) (ha : a ∈ tids t) (hsp : spz (zof t a) = .branch a L9 R9) (hQ1 : Q1 = sP (rai a (zof t a).2.2.2 Q) 3 r (some a)) : rep Q1 none (.branch a L9 R9) ∧ (tids L9 ++ a :: tids R9).Nodup ∧ tids L9 ++ a :: tids R9 = tids t := by
  obtain ⟨s1, s2, s3, s4, s5⟩ := spz_raise hrep hn ha
  rw [hsp] at s1 s3
  subst hQ1
  refine ⟨rep_congr _ _ s1 (fun x _ => ⟨by rw [sP_nk (by decide)], by rw [sP_nk (by decide)], by rw [sP_nk (by decide)]⟩), ?_, s3⟩
  rw [← tids_branch, s3]
  exact hn
theorem picked_1 {Q Q1 : PF} {r a : Nat} {t L9 R9 : Tr} (hrep : rep Q none t) (hn : (tids t).Nodup) (h40 : ∀ a ∈ tids t, a < 40) (ha : a ∈ tids t) (hsp : spz (zof t a) = .branch a L9 R9) (hQ1 : Q1 = sP (rai a (zof t a).2.2.2 Q) 3 r (some a)) :
    Q1 0 a = rt L9 ∧ Q1 1 a = rt R9 ∧ rep (low (low Q1 (rt L9)) (rt R9)) none L9 ∧ ((tids L9).Nodup ∧ (tids R9).Nodup) ∧ ∀ b, b ∈ tids L9 ∨ b ∈ tids R9 → b < 40 := by
  obtain ⟨g1, g2, g3⟩ := picked_0 hrep hn ha hsp hQ1
  obtain ⟨n1, n2, n3⟩ := List.nodup_append.mp g2
  obtain ⟨n4, n5⟩ := List.nodup_cons.mp n2
  refine ⟨g1.2.1, g1.2.2.1, ?_, ⟨n1, n5⟩, fun b hb => h40 b (by rw [← g3]; rcases hb with h | h <;> simp [h])⟩
  refine rep_congr _ _ (low_ok g1.2.2.2.1 n1) (fun x hx => ?_)
  have hne : rt R9 ≠ some x := fun e => n3 x hx x (by simp [rt_mem e]) rfl
  exact ⟨low_na hne, low_na hne, low_na hne⟩
theorem parted_1 {Q Q1 : PF} {r q a : Nat} {t L9 R9 : Tr} (hrep : rep Q none t) (hn : (tids t).Nodup) (h40 : ∀ a ∈ tids t, a < 40) (ha : a ∈ tids t) (hsp : spz (zof t a) = .branch a L9 R9) (hQ1 : Q1 = sP (rai a (zof t a).2.2.2 Q) 3 r (some a)) :
    sP (sP (low Q1 (rt R9)) 3 q (rt R9)) 1 a none 3 q = rt R9 ∧ rep (sP (sP (low Q1 (rt R9)) 3 q (rt R9)) 1 a none) none R9 := by
  obtain ⟨g1, g2, g3⟩ := picked_0 hrep hn ha hsp hQ1
  obtain ⟨n1, n2, n3⟩ := List.nodup_append.mp g2
  obtain ⟨n4, n5⟩ := List.nodup_cons.mp n2
  refine ⟨by rw [sP_nk (by decide), sP_eq], rep_congr _ _ (low_ok g1.2.2.2.2 n5) (fun x hx => ?_)⟩
  have hxa : x ≠ a := fun e => n4 (by rw [← e]; exact hx)
  exact ⟨by rw [sP_nk (by decide), sP_nk (by decide)], by rw [sP_na hxa, sP_nk (by decide)], by rw [sP_nk (by decide), sP_nk (by decide)]⟩
section MModA
variable {l : Launch} {D : va_G} {lo : Nat} {Γ : GT} {C : CW} {V : Int64 × UInt64} {th mn tm kt : Nat} {Q : PF} {zs : Nat → Option Nat} {be : Nat → Nat} {kp : Nat → Int32}
set_option maxRecDepth 100000 in
set_option maxHeartbeats 4000000 in
theorem c_X3_picked {r a : Nat} {t L9 R9 : Tr} (hr6 : r < 6) (hrep : rep Q none t) (hn : (tids t).Nodup) (h40 : ∀ a ∈ tids t, a < 40) (ha : a ∈ tids t) (hsp : spz (zof t a) = .branch a L9 R9) (hmn : 0 < mn) : Md l yX3_picked wsX3_picked (rmL 6 0 0) D lo Γ [.ref (gxa Γ 3), .int (nI r), .int (nI a)] (C, (th, mn, tm, kt, Q, zs, be, kp), V) (some (.int (nI (be a)))) (C, (th, (mn - 1), (tm + (zof t a).2.2.2.length + appN L9), kt, (pkQ Q r a t L9 R9), (va_up zs a none), be, kp), V) := by
  refine Mz_of (cc := cX3_picked) (maxL := 6) (ret := (some .int)) (by decide) rfl (Nat.le_of_ble_eq_true rfl) ?_
  intro p e s m args below meth c ls S hr hlocks hK hH hS hl
  have hx := S.1
  have hb := S.2.1
  have hts := S.2.2.2.2
  have f9 : (Cond.fieldLink RX3 9 (TX3 3).1 (TX3 3).2.1 (TX3 3).2.2.1).before args s = true := hts _ (List.mem_of_getElem? (i := 1) rfl)
  have f78 : (Cond.fieldLink RX3 78 (TX3 1).1 (TX3 1).2.1 (TX3 1).2.2.1).before args s = true := hts _ (List.mem_of_getElem? (i := 2) rfl)
  have hi3 : ∀ w ∈ wsX30, w ∈ wsX3_picked := by decide +kernel
  have hl : lv_has ls 6 [(0, .ref (gxa Γ 3)), (1, .int (nI r)), (2, .int (nI a))] := hl
  obtain ⟨hz, hzp⟩ := raise_z hrep hn ha
  obtain ⟨Q1, hQ1⟩ : ∃ Q1, Q1 = sP (rai a (zof t a).2.2.2 Q) 3 r (some a) := ⟨_, rfl⟩
  obtain ⟨k1, k2, k3, k4, k5⟩ := picked_1 hrep hn h40 ha hsp hQ1
  have lt_a := h40 a ha
  have kL : ∀ b, rt L9 = some b → b < 40 := fun b h => k5 b (Or.inl (rt_mem h))
  have kR : ∀ b, rt R9 = some b → b < 40 := fun b h => k5 b (Or.inr (rt_mem h))
  have hmn9 : nI mn - 1 = nI (mn - 1) := by show nI mn - nI 1 = _; exact nI_sb hmn
  refine lv_aload_n hx hb dX3_picked_0 rfl (lv_at hl 0 rfl) ?_
  refine lv_iload_n hx hb dX3_picked_1 rfl (lv_at hl 1 rfl) ?_
  refine lv_iload_n hx hb dX3_picked_2 rfl (lv_at hl 2 rfl) ?_
  refine cV S (c_X3_raiseIn (l := l) (D := D) (lo := lo) (Γ := Γ) (C := C) (V := V) (th := th) (mn := mn) (tm := tm) (kt := kt) (Q := Q) (zs := zs) (be := be) (kp := kp) hr6 hz (by rw [hzp]; exact hn) (by rw [hzp]; exact h40)) (cwV 2 hts gX3_picked_X3_raiseIn rfl rfl rfl (by decide +kernel) ⟨Nat.le_of_ble_eq_true rfl, Nat.le_of_ble_eq_true rfl⟩) hK hH (Hp_recv hK hH (gmo hH (j := 3) (by simp)).1 (gmo hH (j := 3) (by simp)).2.1 rfl) hS rfl hl.1 rfl (Nat.le_of_ble_eq_true rfl) dX3_picked_3 ⟨Nat.le_of_ble_eq_true rfl, Nat.le_of_ble_eq_true rfl⟩ (fun v Z1 H locs hpost hH hS => ?_)
  obtain ⟨rfl, rfl⟩ := hpost
  rw [← hQ1] at hH
  refine lv_aload_n hx hb dX3_picked_6 rfl (lv_at hl 0 rfl) ?_
  refine lv_aload_n hx hb dX3_picked_7 rfl (lv_at hl 0 rfl) ?_
  refine gM S hi3 hK hH 3 (by decide) f9 (v := .ref (gna Γ)) rfl dX3_picked_8 ?_
  refine lv_bipush (v := 40) hx hb dX3_picked_11 (by decide +kernel) ?_
  refine lv_iload_n hx hb dX3_picked_13 rfl (lv_at hl 2 rfl) ?_
  refine lv_iadd hx hb dX3_picked_14 ?_
  refine gN S hK hH (n := 40 * (0 + 1) + a) (x := er (rt L9)) (nI_ofadd rfl) (by have := lt_a; omega) ((enc_sd (by decide) lt_a).trans (congrArg er k1)) dX3_picked_15 ?_
  refine cV S (c_X3_lowered (l := l) (D := D) (lo := lo) (Γ := Γ) (C := C) (V := V) (th := th) (mn := mn) (tm := (tm + (zof t a).2.2.2.length)) (kt := kt) (Q := Q1) (zs := zs) (be := be) (kp := kp) kL) (cwV 1 hts gX3_picked_X3_lowered rfl rfl rfl (by decide +kernel) ⟨Nat.le_of_ble_eq_true rfl, Nat.le_of_ble_eq_true rfl⟩) hK hH (Hp_recv hK hH (gmo hH (j := 3) (by simp)).1 (gmo hH (j := 3) (by simp)).2.1 rfl) hS rfl hl.1 rfl (Nat.le_of_ble_eq_true rfl) dX3_picked_16 ⟨Nat.le_of_ble_eq_true rfl, Nat.le_of_ble_eq_true rfl⟩ (fun v Z1 H locs hpost hH hS => ?_)
  obtain ⟨rfl, rfl⟩ := hpost
  have k2b : low Q1 (rt L9) 1 a = rt R9 := by rw [low_ne (by decide)]; exact k2
  refine lv_istore_n (lv' := [(3, .int (er (rt L9))), (0, .ref (gxa Γ 3)), (1, .int (nI r)), (2, .int (nI a))]) hx hb dX3_picked_19 rfl hl (by decide) rfl (fun ls hl => ?_)
  refine lv_aload_n hx hb dX3_picked_20 rfl (lv_at hl 1 rfl) ?_
  refine lv_aload_n hx hb dX3_picked_21 rfl (lv_at hl 1 rfl) ?_
  refine gM S hi3 hK hH 3 (by decide) f9 (v := .ref (gna Γ)) rfl dX3_picked_22 ?_
  refine lv_bipush (v := 80) hx hb dX3_picked_25 (by decide +kernel) ?_
  refine lv_iload_n hx hb dX3_picked_27 rfl (lv_at hl 3 rfl) ?_
  refine lv_iadd hx hb dX3_picked_28 ?_
  refine gN S hK hH (n := 40 * (1 + 1) + a) (x := er (rt R9)) (nI_ofadd rfl) (by have := lt_a; omega) ((enc_sd (by decide) lt_a).trans (congrArg er k2b)) dX3_picked_29 ?_
  refine cV S (c_X3_lowered (l := l) (D := D) (lo := lo) (Γ := Γ) (C := C) (V := V) (th := th) (mn := mn) (tm := (tm + (zof t a).2.2.2.length)) (kt := kt) (Q := (low Q1 (rt L9))) (zs := zs) (be := be) (kp := kp) kR) (cwV 1 hts gX3_picked_X3_lowered rfl rfl rfl (by decide +kernel) ⟨Nat.le_of_ble_eq_true rfl, Nat.le_of_ble_eq_true rfl⟩) hK hH (Hp_recv hK hH (gmo hH (j := 3) (by simp)).1 (gmo hH (j := 3) (by simp)).2.1 rfl) hS rfl hl.1 rfl (Nat.le_of_ble_eq_true rfl) dX3_picked_30 ⟨Nat.le_of_ble_eq_true rfl, Nat.le_of_ble_eq_true rfl⟩ (fun v Z1 H locs hpost hH hS => ?_)
  obtain ⟨rfl, rfl⟩ := hpost
  refine lv_istore (lv' := [(4, .int (er (rt R9))), (3, .int (er (rt L9))), (0, .ref (gxa Γ 3)), (1, .int (nI r)), (2, .int (nI a))]) hx hb dX3_picked_33 hl (by decide) rfl (fun ls hl => ?_)
  refine lv_aload_n hx hb dX3_picked_35 rfl (lv_at hl 2 rfl) ?_
  refine gM S hi3 hK hH 3 (by decide) f9 (v := .ref (gna Γ)) rfl dX3_picked_36 ?_
  refine lv_sipush (v := 160) hx hb dX3_picked_39 (by decide +kernel) ?_
  refine lv_iload_n hx hb dX3_picked_42 rfl (lv_at hl 4 rfl) ?_
  refine lv_iadd hx hb dX3_picked_43 ?_
  refine gNea S hK hH lt_a dX3_picked_44 ?_
  refine lv_istore (lv' := [(5, .int (nI (be a))), (4, .int (er (rt R9))), (3, .int (er (rt L9))), (0, .ref (gxa Γ 3)), (1, .int (nI r)), (2, .int (nI a))]) hx hb dX3_picked_45 hl (by decide) rfl (fun ls hl => ?_)
  refine lv_aload_n hx hb dX3_picked_47 rfl (lv_at hl 3 rfl) ?_
  refine gM S hi3 hK hH 3 (by decide) f9 (v := .ref (gna Γ)) rfl dX3_picked_48 ?_
  refine lv_iconst (v := 0) hx hb dX3_picked_51 (by decide) ?_
  refine lv_iload_n hx hb dX3_picked_52 rfl (lv_at hl 5 rfl) ?_
  refine lv_iadd hx hb dX3_picked_53 ?_
  refine lv_iconst (v := -1) hx hb dX3_picked_54 (by decide) ?_
  refine pNsz S hK hH hS none rfl lt_a dX3_picked_55 (fun H locs hH hS => ?_)
  refine lv_aload_n hx hb dX3_picked_56 rfl (lv_at hl 3 rfl) ?_
  refine lv_dup hx hb dX3_picked_57 rfl ?_
  refine gM S hi3 hK hH 1 (by decide) f78 (v := .int (nI mn)) rfl dX3_picked_58 ?_
  refine lv_iconst (v := 1) hx hb dX3_picked_61 (by decide) ?_
  refine lv_isub hx hb dX3_picked_62 ?_
  rw [hmn9]
  refine pM S hi3 hK hH hS 1 (by decide) f78 (th, (mn - 1), (tm + (zof t a).2.2.2.length), kt, (low (low Q1 (rt L9)) (rt R9)), (va_up zs a none), be, kp) rfl rfl dX3_picked_63 (fun H locs hH hS => ?_)
  refine lv_aload_n hx hb dX3_picked_66 rfl (lv_at hl 3 rfl) ?_
  refine gM S hi3 hK hH 3 (by decide) f9 (v := .ref (gna Γ)) rfl dX3_picked_67 ?_
  refine lv_sipush (v := 200) hx hb dX3_picked_70 (by decide +kernel) ?_
  refine lv_iload_n hx hb dX3_picked_73 rfl (lv_at hl 4 rfl) ?_
  refine lv_iadd hx hb dX3_picked_74 ?_
  refine lv_aload_n hx hb dX3_picked_75 rfl (lv_at hl 3 rfl) ?_
  refine lv_iload_n hx hb dX3_picked_76 rfl (lv_at hl 2 rfl) ?_
  refine lv_iload hx hb dX3_picked_77 (lv_at hl 1 rfl) ?_
  refine cV S (c_X3_together (l := l) (D := D) (lo := lo) (Γ := Γ) (C := C) (V := V) (th := th) (mn := (mn - 1)) (tm := (tm + (zof t a).2.2.2.length)) (kt := kt) (Q := (low (low Q1 (rt L9)) (rt R9))) (zs := (va_up zs a none)) (be := be) (kp := kp) k3 k4.1 (fun b h => k5 b (Or.inl h)) kR) (cwV 2 hts gX3_picked_X3_together rfl rfl rfl (by decide +kernel) ⟨Nat.le_of_ble_eq_true rfl, Nat.le_of_ble_eq_true rfl⟩) hK hH (Hp_recv hK hH (gmo hH (j := 3) (by simp)).1 (gmo hH (j := 3) (by simp)).2.1 rfl) hS rfl hl.1 rfl (Nat.le_of_ble_eq_true rfl) dX3_picked_79 ⟨Nat.le_of_ble_eq_true rfl, Nat.le_of_ble_eq_true rfl⟩ (fun v Z1 H locs hpost hH hS => ?_)
  obtain ⟨rfl, rfl⟩ := hpost
  refine pNtp S hK hH hS (tgr L9 (rt R9)) rfl hr6 dX3_picked_82 (fun H locs hH hS => ?_)
  refine lv_iload hx hb dX3_picked_83 (lv_at hl 0 rfl) ?_
  exact eI S hr hlocks hH hS ⟨rfl, by rw [pkQ, ← hQ1]⟩ dX3_picked_85

set_option maxRecDepth 100000 in
set_option maxHeartbeats 4000000 in
theorem c_X3_pick {U : Nat → Tr} {row x : Int32} (hM : MI Q zs U mn) : Mz l yX3_pick wsX3_pick (rmL 44 0 0) D lo Γ [.ref (gxa Γ 3), .int row, .int x] (C, (th, mn, tm, kt, Q, zs, be, kp), V) (fun v Z' => (∃ r a L9 R9, rowN row = some r ∧ fnd (zn zs) x.toInt (U r) = some a ∧ spz (zof (U r) a) = .branch a L9 R9 ∧ v = some (.int (nI (be a))) ∧ Z' = (C, (0, (mn - 1), (tm + (zof (U r) a).2.2.2.length + appN L9), kt, (pkQ Q r a (U r) L9 R9), (va_up zs a none), be, kp), V)) ∨ (rowN row = none ∧ v = some (.int 0) ∧ Z' = (C, (1, mn, tm, kt, Q, zs, be, kp), V)) ∨ (∃ r, rowN row = some r ∧ fnd (zn zs) x.toInt (U r) = none ∧ v = some (.int 0) ∧ Z' = (C, (2, mn, tm, kt, Q, zs, be, kp), V))) := by
  refine Mz_of (cc := cX3_pick) (maxL := 4) (ret := (some .int)) (by decide) rfl (Nat.le_of_ble_eq_true rfl) ?_
  intro p e s m args below meth c ls S hr hlocks hK hH hS hl
  have hx := S.1
  have hb := S.2.1
  have hts := S.2.2.2.2
  have f16 : (Cond.fieldLink RX3 16 (TX3 0).1 (TX3 0).2.1 (TX3 0).2.2.1).before args s = true := hts _ (List.mem_of_getElem? (i := 1) rfl)
  have hi3 : ∀ w ∈ wsX30, w ∈ wsX3_pick := by decide +kernel
  have hl : lv_has ls 4 [(0, .ref (gxa Γ 3)), (1, .int row), (2, .int x)] := hl
  obtain ⟨h_t, h_nd, h_mn, h_zs, h_40⟩ := id hM
  refine lv_aload_n hx hb dX3_pick_0 rfl (lv_at hl 0 rfl) ?_
  refine lv_iconst (v := 0) hx hb dX3_pick_1 (by decide) ?_
  refine pM S hi3 hK hH hS 0 (by decide) f16 (0, mn, tm, kt, Q, zs, be, kp) rfl rfl dX3_pick_2 (fun H locs hH hS => ?_)
  refine lv_iload_n hx hb dX3_pick_5 rfl (lv_at hl 1 rfl) ?_
  refine cSt S (c_X3_isRow (l := l) (D := D) (lo := lo) (Γ := Γ) (C := C) (V := V) (th := 0) (mn := mn) (tm := tm) (kt := kt) (Q := Q) (zs := zs) (be := be) (kp := kp) (x := row)) (va_cwS 1 hts gX3_pick_X3_isRow rfl rfl rfl (by decide +kernel) ⟨Nat.le_of_ble_eq_true rfl, Nat.le_of_ble_eq_true rfl⟩) hK hH hS rfl hl.1 rfl (Nat.le_of_ble_eq_true rfl) dX3_pick_6 ⟨Nat.le_of_ble_eq_true rfl, Nat.le_of_ble_eq_true rfl⟩ (fun v Z1 H locs hpost hH hS => ?_)
  obtain ⟨rfl, rfl⟩ := hpost
  rcases hrow : rowN row with _ | r
  · skip
    refine lv_if_ne (tgt := 18) hx hb dX3_pick_9 (by decide) (fun h1 => absurd rfl h1) (fun _ => ?_)
    refine lv_aload_n hx hb dX3_pick_12 rfl (lv_at hl 0 rfl) ?_
    refine lv_iconst (v := 1) hx hb dX3_pick_13 (by decide) ?_
    refine cV S (c_X3_no (l := l) (D := D) (lo := lo) (Γ := Γ) (C := C) (V := V) (th := 0) (mn := mn) (tm := tm) (kt := kt) (Q := Q) (zs := zs) (be := be) (kp := kp) (n := 1)) (cwV 1 hts gX3_pick_X3_no rfl rfl rfl (by decide +kernel) ⟨Nat.le_of_ble_eq_true rfl, Nat.le_of_ble_eq_true rfl⟩) hK hH (Hp_recv hK hH (gmo hH (j := 3) (by simp)).1 (gmo hH (j := 3) (by simp)).2.1 rfl) hS rfl hl.1 rfl (Nat.le_of_ble_eq_true rfl) dX3_pick_14 ⟨Nat.le_of_ble_eq_true rfl, Nat.le_of_ble_eq_true rfl⟩ (fun v Z1 H locs hpost hH hS => ?_)
    obtain ⟨rfl, rfl⟩ := hpost
    exact eI S hr hlocks hH hS (Or.inr (Or.inl ⟨rfl, rfl, rfl⟩)) dX3_pick_17
  · skip
    obtain ⟨hr6, hrw⟩ := rowN_some hrow
    subst hrw
    obtain ⟨hR, hs⟩ := h_t r hr6
    obtain ⟨h_top, h_rep, h_n, h_ok⟩ := id hR
    have h40 : ∀ a ∈ tids (U r), a < 40 := fun a ha => (h_ok a ha).1
    have hlen : (tids (U r)).length ≤ 40 := Nat.le_trans (gids_le hr6) h_40
    have hh : hgt (U r) < 41 := Nat.lt_succ_of_le (Nat.le_trans (hgt_tids _) hlen)
    refine lv_if_ne (tgt := 18) hx hb dX3_pick_9 (by decide) (fun _ => ?_) (fun h1 => absurd h1 (show ¬ (1 : Int32) = 0 by decide))
    refine lv_aload_n hx hb dX3_pick_18 rfl (lv_at hl 0 rfl) ?_
    refine lv_iload_n hx hb dX3_pick_19 rfl (lv_at hl 1 rfl) ?_
    refine lv_iload_n hx hb dX3_pick_20 rfl (lv_at hl 2 rfl) ?_
    refine cV S (c_X3_find (l := l) (D := D) (lo := lo) (Γ := Γ) (C := C) (V := V) (th := 0) (mn := mn) (tm := tm) (kt := kt) (Q := Q) (zs := zs) (be := be) (kp := kp) (x := x) hr6 hR) (cwV 2 hts gX3_pick_X3_find rfl rfl rfl (by decide +kernel) ⟨Nat.le_of_ble_eq_true rfl, Nat.le_of_ble_eq_true rfl⟩) hK hH (Hp_recv hK hH (gmo hH (j := 3) (by simp)).1 (gmo hH (j := 3) (by simp)).2.1 rfl) hS rfl hl.1 rfl (Nat.le_of_ble_eq_true rfl) dX3_pick_21 ⟨Nat.le_of_ble_eq_true rfl, Nat.le_of_ble_eq_true rfl⟩ (fun v Z1 H locs hpost hH hS => ?_)
    obtain ⟨rfl, rfl⟩ := hpost
    cases hf : fnd (zn zs) x.toInt (U r) with
    | none =>
      refine lv_istore_n (lv' := [(3, .int (-1)), (0, .ref (gxa Γ 3)), (1, .int (nI r)), (2, .int x)]) hx hb dX3_pick_24 rfl hl (by decide) rfl (fun ls hl => ?_)
      refine lv_iload_n hx hb dX3_pick_25 rfl (lv_at hl 0 rfl) ?_
      refine lv_iconst (v := -1) hx hb dX3_pick_26 (by decide) ?_
      refine lv_icmp_ne (tgt := 38) hx hb dX3_pick_27 (by decide) (fun h1 => absurd rfl h1) (fun _ => ?_)
      refine lv_aload_n hx hb dX3_pick_30 rfl (lv_at hl 1 rfl) ?_
      refine lv_iconst (v := 2) hx hb dX3_pick_31 (by decide) ?_
      refine cV S (c_X3_no (l := l) (D := D) (lo := lo) (Γ := Γ) (C := C) (V := V) (th := 0) (mn := mn) (tm := tm) (kt := kt) (Q := Q) (zs := zs) (be := be) (kp := kp) (n := 2)) (cwV 1 hts gX3_pick_X3_no rfl rfl rfl (by decide +kernel) ⟨Nat.le_of_ble_eq_true rfl, Nat.le_of_ble_eq_true rfl⟩) hK hH (Hp_recv hK hH (gmo hH (j := 3) (by simp)).1 (gmo hH (j := 3) (by simp)).2.1 rfl) hS rfl hl.1 rfl (Nat.le_of_ble_eq_true rfl) dX3_pick_32 ⟨Nat.le_of_ble_eq_true rfl, Nat.le_of_ble_eq_true rfl⟩ (fun v Z1 H locs hpost hH hS => ?_)
      obtain ⟨rfl, rfl⟩ := hpost
      refine lv_goto (tgt := 44) hx hb dX3_pick_35 (by decide) ?_
      exact eI S hr hlocks hH hS (Or.inr (Or.inr ⟨r, rfl, hf, rfl, rfl⟩)) dX3_pick_44
    | some a =>
      have hin_a := (fnd_mem _ _ hf).1
      have lt_a := h40 a hin_a
      obtain ⟨hz, hzp⟩ := raise_z h_rep h_n hin_a
      have hzn : (tids (plug (.branch a (zof (U r) a).2.1 (zof (U r) a).2.2.1) (zof (U r) a).2.2.2)).Nodup := by rw [hzp]; exact h_n
      have hz40 : ∀ b ∈ tids (plug (.branch a (zof (U r) a).2.1 (zof (U r) a).2.2.1) (zof (U r) a).2.2.2), b < 40 := by rw [hzp]; exact h40
      obtain ⟨s1, s2, s3, s4, s5⟩ := spz_raise h_rep h_n hin_a
      have hr3 : ∀ x, rai a (zof (U r) a).2.2.2 Q 3 x = Q 3 x := fun x => s5 3 x (by omega)
      have hs40 : ∀ b ∈ tids (spz (zof (U r) a)), b < 40 := by rw [s3]; exact h40
      have hsh : hgt (spz (zof (U r) a)) < 41 := Nat.lt_succ_of_le (Nat.le_trans (hgt_tids _) (by rw [s3]; exact hlen))
      refine lv_istore_n (lv' := [(3, .int (nI a)), (0, .ref (gxa Γ 3)), (1, .int (nI r)), (2, .int x)]) hx hb dX3_pick_24 rfl hl (by decide) rfl (fun ls hl => ?_)
      refine lv_iload_n hx hb dX3_pick_25 rfl (lv_at hl 0 rfl) ?_
      refine lv_iconst (v := -1) hx hb dX3_pick_26 (by decide) ?_
      refine lv_icmp_ne (tgt := 38) hx hb dX3_pick_27 (by decide) (fun _ => ?_) (fun h1 => absurd h1 (nI_nm1 (Nat.lt_trans lt_a (by decide))))
      refine lv_aload_n hx hb dX3_pick_38 rfl (lv_at hl 1 rfl) ?_
      refine lv_iload_n hx hb dX3_pick_39 rfl (lv_at hl 2 rfl) ?_
      refine lv_iload_n hx hb dX3_pick_40 rfl (lv_at hl 0 rfl) ?_
      obtain ⟨L9, R9, hsp⟩ := rt_some s2
      have hmn : 0 < mn := by rw [h_mn]; exact List.length_pos_of_mem (gids_mem.mpr ⟨r, hr6, hin_a⟩)
      refine cV S (c_X3_picked (l := l) (D := D) (lo := lo) (Γ := Γ) (C := C) (V := V) (th := 0) (mn := mn) (tm := tm) (kt := kt) (Q := Q) (zs := zs) (be := be) (kp := kp) (t := U r) hr6 h_rep h_n h40 hin_a hsp hmn) (cwV 2 hts gX3_pick_X3_picked rfl rfl rfl (by decide +kernel) ⟨Nat.le_of_ble_eq_true rfl, Nat.le_of_ble_eq_true rfl⟩) hK hH (Hp_recv hK hH (gmo hH (j := 3) (by simp)).1 (gmo hH (j := 3) (by simp)).2.1 rfl) hS rfl hl.1 rfl (Nat.le_of_ble_eq_true rfl) dX3_pick_41 ⟨Nat.le_of_ble_eq_true rfl, Nat.le_of_ble_eq_true rfl⟩ (fun v Z1 H locs hpost hH hS => ?_)
      obtain ⟨rfl, rfl⟩ := hpost
      exact eI S hr hlocks hH hS (Or.inl ⟨r, a, L9, R9, rfl, hf, hsp, rfl, rfl⟩) dX3_pick_44

set_option maxRecDepth 100000 in
set_option maxHeartbeats 4000000 in
theorem c_X3_parted {r q n : Nat} {t : Tr} (hr6 : r < 6) (hq6 : q < 6) (hrq : r ≠ q) (hn9 : n < 1000) (h : RT Q zs r t) (hs : srt (zn zs) t) (hlen : (tids t).length ≤ 40) : Mz l yX3_parted wsX3_parted (rmL 43 0 0) D lo Γ [.ref (gxa Γ 3), .int (nI r), .int (nI n), .int (nI q)] (C, (th, mn, tm, kt, Q, zs, be, kp), V) (fun v Z' => ((blw (zn zs) (n : Int) t).getLast? = none ∧ v = some (.int (nI (tids t).length)) ∧ Z' = (C, (th, mn, tm, kt, (sP (sP Q 3 q (rt t)) 3 r none), zs, be, kp), V)) ∨ ∃ b L9 R9, (blw (zn zs) (n : Int) t).getLast? = some b ∧ spz (zof t b) = .branch b L9 R9 ∧ v = some (.int (nI (tids R9).length)) ∧ Z' = (C, (th, mn, (tm + (zof t b).2.2.2.length), kt, (ptQ Q r q b t R9), zs, be, kp), V)) := by
  refine Mz_of (cc := cX3_parted) (maxL := 6) (ret := (some .int)) (by decide) rfl (Nat.le_of_ble_eq_true rfl) ?_
  intro p e s m args below meth c ls S hr hlocks hK hH hS hl
  have hx := S.1
  have hb := S.2.1
  have hts := S.2.2.2.2
  have f9 : (Cond.fieldLink RX3 9 (TX3 3).1 (TX3 3).2.1 (TX3 3).2.2.1).before args s = true := hts _ (List.mem_of_getElem? (i := 1) rfl)
  have hi3 : ∀ w ∈ wsX30, w ∈ wsX3_parted := by decide +kernel
  have hl : lv_has ls 6 [(0, .ref (gxa Γ 3)), (1, .int (nI r)), (2, .int (nI n)), (3, .int (nI q))] := hl
  obtain ⟨h_top, hrep, hn, h_ok⟩ := h
  have h40 : ∀ a ∈ tids t, a < 40 := fun a ha => (h_ok a ha).1
  have hh : hgt t < 41 := Nat.lt_succ_of_le (Nat.le_trans (hgt_tids _) hlen)
  have hzn9 : (nI n).toInt = (n : Int) := nI_toInt (by omega)
  have hbl : (blw (zn zs) (n : Int) t).length ≤ 40 := Nat.le_trans (List.IsPrefix.length_le (List.takeWhile_prefix _)) hlen
  refine lv_aload_n hx hb dX3_parted_0 rfl (lv_at hl 0 rfl) ?_
  refine lv_aload_n hx hb dX3_parted_1 rfl (lv_at hl 0 rfl) ?_
  refine gM S hi3 hK hH 3 (by decide) f9 (v := .ref (gna Γ)) rfl dX3_parted_2 ?_
  refine lv_sipush (v := 200) hx hb dX3_parted_5 (by decide +kernel) ?_
  refine lv_iload_n hx hb dX3_parted_8 rfl (lv_at hl 1 rfl) ?_
  refine lv_iadd hx hb dX3_parted_9 ?_
  refine gN S hK hH (n := 200 + r) (x := er (rt t)) (nI_ofadd (a := 200) rfl) (by have := hr6; omega) (enc_tp.trans (congrArg er h_top)) dX3_parted_10 ?_
  refine lv_iload_n hx hb dX3_parted_11 rfl (lv_at hl 2 rfl) ?_
  refine cV S (c_X3_under (l := l) (D := D) (lo := lo) (Γ := Γ) (C := C) (V := V) (th := th) (mn := mn) (tm := tm) (kt := kt) (Q := Q) (zs := zs) (be := be) (kp := kp) (x := nI n) t 42 none (Nat.succ_lt_succ hh) hrep h40 (fun a ha => (h_ok a ha).2) hs) (cwV 2 hts gX3_parted_X3_under rfl rfl rfl (by decide +kernel) ⟨Nat.le_of_ble_eq_true rfl, Nat.le_of_ble_eq_true rfl⟩) hK hH (Hp_recv hK hH (gmo hH (j := 3) (by simp)).1 (gmo hH (j := 3) (by simp)).2.1 rfl) hS rfl hl.1 rfl (Nat.le_of_ble_eq_true rfl) dX3_parted_12 ⟨Nat.le_of_ble_eq_true rfl, Nat.le_of_ble_eq_true rfl⟩ (fun v Z1 H locs hpost hH hS => ?_)
  obtain ⟨rfl, rfl⟩ := hpost
  rw [hzn9]
  refine lv_istore (lv' := [(4, .int (nI (blw (zn zs) (n : Int) t).length)), (0, .ref (gxa Γ 3)), (1, .int (nI r)), (2, .int (nI n)), (3, .int (nI q))]) hx hb dX3_parted_15 hl (by decide) rfl (fun ls hl => ?_)
  refine lv_iload hx hb dX3_parted_17 (lv_at hl 0 rfl) ?_
  refine lv_if_ne (tgt := 68) hx hb dX3_parted_19 (by decide) (fun h1 => ?_) (fun h1 => ?_)
  · skip
    have hne : (blw (zn zs) (n : Int) t).length ≠ 0 := fun e => h1 (by rw [e]; rfl)
    obtain ⟨b, hb9⟩ : ∃ b, (blw (zn zs) (n : Int) t).getLast? = some b := by
      cases hq9 : (blw (zn zs) (n : Int) t).getLast? with
      | none => rw [List.getLast?_eq_none_iff.mp hq9] at hne; exact absurd rfl hne
      | some b => exact ⟨b, rfl⟩
    have hin_b : b ∈ tids t := List.IsPrefix.mem (List.mem_of_getLast? hb9) (List.takeWhile_prefix _)
    have hnth : (tids t)[(blw (zn zs) (n : Int) t).length - 1]? = some b := by
      rw [List.getLast?_eq_getElem?] at hb9
      obtain ⟨rst, hrst⟩ : ∃ rst, blw (zn zs) (n : Int) t ++ rst = tids t := List.takeWhile_prefix _
      have e9 := congrArg (fun l : List Nat => l[(blw (zn zs) (n : Int) t).length - 1]?) hrst
      have e9 : (blw (zn zs) (n : Int) t ++ rst)[(blw (zn zs) (n : Int) t).length - 1]? = (tids t)[(blw (zn zs) (n : Int) t).length - 1]? := e9
      rw [← e9, List.getElem?_append_left (by omega)]
      exact hb9
    have lt_b := h40 b hin_b
    obtain ⟨hz, hzp⟩ := raise_z hrep hn hin_b
    obtain ⟨s1, s2, s3, s4, s5⟩ := spz_raise hrep hn hin_b
    obtain ⟨L9, R9, hsp⟩ := rt_some s2
    obtain ⟨Q1, hQ1⟩ : ∃ Q1, Q1 = sP (rai b (zof t b).2.2.2 Q) 3 r (some b) := ⟨_, rfl⟩
    obtain ⟨k1, k2, k3, k4, k5⟩ := picked_1 hrep hn h40 hin_b hsp hQ1
    have kR : ∀ c, rt R9 = some c → c < 40 := fun c h => k5 c (Or.inr (rt_mem h))
    have e1 : nI (blw (zn zs) (n : Int) t).length - 1 = nI ((blw (zn zs) (n : Int) t).length - 1) := by show nI _ - nI 1 = _; exact nI_sb (by omega)
    refine lv_aload_n hx hb dX3_parted_68 rfl (lv_at hl 1 rfl) ?_
    refine lv_aload_n hx hb dX3_parted_69 rfl (lv_at hl 1 rfl) ?_
    refine gM S hi3 hK hH 3 (by decide) f9 (v := .ref (gna Γ)) rfl dX3_parted_70 ?_
    refine lv_sipush (v := 200) hx hb dX3_parted_73 (by decide +kernel) ?_
    refine lv_iload_n hx hb dX3_parted_76 rfl (lv_at hl 2 rfl) ?_
    refine lv_iadd hx hb dX3_parted_77 ?_
    refine gN S hK hH (n := 200 + r) (x := er (rt t)) (nI_ofadd (a := 200) rfl) (by have := hr6; omega) (enc_tp.trans (congrArg er h_top)) dX3_parted_78 ?_
    refine lv_iload hx hb dX3_parted_79 (lv_at hl 0 rfl) ?_
    refine lv_iconst (v := 1) hx hb dX3_parted_81 (by decide) ?_
    refine lv_isub hx hb dX3_parted_82 ?_
    rw [e1]
    refine cV S (c_X3_nth (l := l) (D := D) (lo := lo) (Γ := Γ) (C := C) (V := V) (th := th) (mn := mn) (tm := tm) (kt := kt) (Q := Q) (zs := zs) (be := be) (kp := kp) t 42 none _ b (Nat.succ_lt_succ hh) hrep h40 (by omega) hnth) (cwV 2 hts gX3_parted_X3_nth rfl rfl rfl (by decide +kernel) ⟨Nat.le_of_ble_eq_true rfl, Nat.le_of_ble_eq_true rfl⟩) hK hH (Hp_recv hK hH (gmo hH (j := 3) (by simp)).1 (gmo hH (j := 3) (by simp)).2.1 rfl) hS rfl hl.1 rfl (Nat.le_of_ble_eq_true rfl) dX3_parted_83 ⟨Nat.le_of_ble_eq_true rfl, Nat.le_of_ble_eq_true rfl⟩ (fun v Z1 H locs hpost hH hS => ?_)
    obtain ⟨rfl, rfl⟩ := hpost
    refine lv_istore (lv' := [(5, .int (nI b)), (4, .int (nI (blw (zn zs) (n : Int) t).length)), (0, .ref (gxa Γ 3)), (1, .int (nI r)), (2, .int (nI n)), (3, .int (nI q))]) hx hb dX3_parted_86 hl (by decide) rfl (fun ls hl => ?_)
    refine lv_aload_n hx hb dX3_parted_88 rfl (lv_at hl 2 rfl) ?_
    refine lv_iload_n hx hb dX3_parted_89 rfl (lv_at hl 3 rfl) ?_
    refine lv_iload hx hb dX3_parted_90 (lv_at hl 0 rfl) ?_
    refine cV S (c_X3_raiseIn (l := l) (D := D) (lo := lo) (Γ := Γ) (C := C) (V := V) (th := th) (mn := mn) (tm := tm) (kt := kt) (Q := Q) (zs := zs) (be := be) (kp := kp) hr6 hz (by rw [hzp]; exact hn) (by rw [hzp]; exact h40)) (cwV 2 hts gX3_parted_X3_raiseIn rfl rfl rfl (by decide +kernel) ⟨Nat.le_of_ble_eq_true rfl, Nat.le_of_ble_eq_true rfl⟩) hK hH (Hp_recv hK hH (gmo hH (j := 3) (by simp)).1 (gmo hH (j := 3) (by simp)).2.1 rfl) hS rfl hl.1 rfl (Nat.le_of_ble_eq_true rfl) dX3_parted_92 ⟨Nat.le_of_ble_eq_true rfl, Nat.le_of_ble_eq_true rfl⟩ (fun v Z1 H locs hpost hH hS => ?_)
    obtain ⟨rfl, rfl⟩ := hpost
    rw [← hQ1] at hH
    refine lv_aload_n hx hb dX3_parted_95 rfl (lv_at hl 2 rfl) ?_
    refine gM S hi3 hK hH 3 (by decide) f9 (v := .ref (gna Γ)) rfl dX3_parted_96 ?_
    refine lv_sipush (v := 200) hx hb dX3_parted_99 (by decide +kernel) ?_
    refine lv_iload_n hx hb dX3_parted_102 rfl (lv_at hl 5 rfl) ?_
    refine lv_iadd hx hb dX3_parted_103 ?_
    refine lv_aload_n hx hb dX3_parted_104 rfl (lv_at hl 2 rfl) ?_
    refine lv_aload_n hx hb dX3_parted_105 rfl (lv_at hl 2 rfl) ?_
    refine gM S hi3 hK hH 3 (by decide) f9 (v := .ref (gna Γ)) rfl dX3_parted_106 ?_
    refine lv_bipush (v := 80) hx hb dX3_parted_109 (by decide +kernel) ?_
    refine lv_iload hx hb dX3_parted_111 (lv_at hl 0 rfl) ?_
    refine lv_iadd hx hb dX3_parted_113 ?_
    refine gN S hK hH (n := 40 * (1 + 1) + b) (x := er (rt R9)) (nI_ofadd rfl) (by have := lt_b; omega) ((enc_sd (by decide) lt_b).trans (congrArg er k2)) dX3_parted_114 ?_
    refine cV S (c_X3_lowered (l := l) (D := D) (lo := lo) (Γ := Γ) (C := C) (V := V) (th := th) (mn := mn) (tm := (tm + (zof t b).2.2.2.length)) (kt := kt) (Q := Q1) (zs := zs) (be := be) (kp := kp) kR) (cwV 1 hts gX3_parted_X3_lowered rfl rfl rfl (by decide +kernel) ⟨Nat.le_of_ble_eq_true rfl, Nat.le_of_ble_eq_true rfl⟩) hK hH (Hp_recv hK hH (gmo hH (j := 3) (by simp)).1 (gmo hH (j := 3) (by simp)).2.1 rfl) hS rfl hl.1 rfl (Nat.le_of_ble_eq_true rfl) dX3_parted_115 ⟨Nat.le_of_ble_eq_true rfl, Nat.le_of_ble_eq_true rfl⟩ (fun v Z1 H locs hpost hH hS => ?_)
    obtain ⟨rfl, rfl⟩ := hpost
    refine pNtp S hK hH hS (rt R9) rfl hq6 dX3_parted_118 (fun H locs hH hS => ?_)
    refine lv_aload_n hx hb dX3_parted_119 rfl (lv_at hl 2 rfl) ?_
    refine gM S hi3 hK hH 3 (by decide) f9 (v := .ref (gna Γ)) rfl dX3_parted_120 ?_
    refine lv_bipush (v := 80) hx hb dX3_parted_123 (by decide +kernel) ?_
    refine lv_iload hx hb dX3_parted_125 (lv_at hl 0 rfl) ?_
    refine lv_iadd hx hb dX3_parted_127 ?_
    refine lv_iconst (v := -1) hx hb dX3_parted_128 (by decide) ?_
    refine pNsd S hK hH hS 1 none rfl rfl (by decide) lt_b dX3_parted_129 (fun H locs hH hS => ?_)
    refine lv_aload_n hx hb dX3_parted_130 rfl (lv_at hl 2 rfl) ?_
    have k6 := parted_1 (q := q) hrep hn h40 hin_b hsp hQ1
    have hlR : (tids R9).length ≤ 40 := by have h9 := congrArg List.length s3; rw [hsp, tids_branch] at h9; simp only [List.length_append, List.length_cons] at h9; omega
    refine lv_aload_n hx hb dX3_parted_131 rfl (lv_at hl 2 rfl) ?_
    refine gM S hi3 hK hH 3 (by decide) f9 (v := .ref (gna Γ)) rfl dX3_parted_132 ?_
    refine lv_sipush (v := 200) hx hb dX3_parted_135 (by decide +kernel) ?_
    refine lv_iload_n hx hb dX3_parted_138 rfl (lv_at hl 5 rfl) ?_
    refine lv_iadd hx hb dX3_parted_139 ?_
    refine gN S hK hH (n := 200 + q) (x := er (rt R9)) (nI_ofadd (a := 200) rfl) (by have := hq6; omega) (enc_tp.trans (congrArg er k6.1)) dX3_parted_140 ?_
    refine cV S (c_X3_count (l := l) (D := D) (lo := lo) (Γ := Γ) (C := C) (V := V) (th := th) (mn := mn) (tm := (tm + (zof t b).2.2.2.length)) (kt := kt) (Q := (sP (sP (low Q1 (rt R9)) 3 q (rt R9)) 1 b none)) (zs := zs) (be := be) (kp := kp) R9 41 none (Nat.lt_succ_of_le (Nat.le_trans (hgt_tids _) hlR)) k6.2 (fun c hc => k5 c (Or.inr hc))) (cwV 1 hts gX3_parted_X3_count rfl rfl rfl (by decide +kernel) ⟨Nat.le_of_ble_eq_true rfl, Nat.le_of_ble_eq_true rfl⟩) hK hH (Hp_recv hK hH (gmo hH (j := 3) (by simp)).1 (gmo hH (j := 3) (by simp)).2.1 rfl) hS rfl hl.1 rfl (Nat.le_of_ble_eq_true rfl) dX3_parted_141 ⟨Nat.le_of_ble_eq_true rfl, Nat.le_of_ble_eq_true rfl⟩ (fun v Z1 H locs hpost hH hS => ?_)
    obtain ⟨rfl, rfl⟩ := hpost
    exact eI S hr hlocks hH hS (Or.inr ⟨b, L9, R9, hb9, hsp, rfl, by rw [ptQ, ← hQ1]⟩) dX3_parted_144
  · skip
    have h0 : (blw (zn zs) (n : Int) t).length = 0 := Decidable.byContradiction fun e => absurd h1 (nI_ne0 (Nat.pos_of_ne_zero e) (by omega))
    have h09 : (blw (zn zs) (n : Int) t).getLast? = none := List.getLast?_eq_none_iff.mpr (List.length_eq_zero_iff.mp h0)
    refine lv_aload_n hx hb dX3_parted_22 rfl (lv_at hl 1 rfl) ?_
    refine gM S hi3 hK hH 3 (by decide) f9 (v := .ref (gna Γ)) rfl dX3_parted_23 ?_
    refine lv_sipush (v := 200) hx hb dX3_parted_26 (by decide +kernel) ?_
    refine lv_iload_n hx hb dX3_parted_29 rfl (lv_at hl 4 rfl) ?_
    refine lv_iadd hx hb dX3_parted_30 ?_
    refine lv_aload_n hx hb dX3_parted_31 rfl (lv_at hl 1 rfl) ?_
    refine gM S hi3 hK hH 3 (by decide) f9 (v := .ref (gna Γ)) rfl dX3_parted_32 ?_
    refine lv_sipush (v := 200) hx hb dX3_parted_35 (by decide +kernel) ?_
    refine lv_iload_n hx hb dX3_parted_38 rfl (lv_at hl 2 rfl) ?_
    refine lv_iadd hx hb dX3_parted_39 ?_
    refine gN S hK hH (n := 200 + r) (x := er (rt t)) (nI_ofadd (a := 200) rfl) (by have := hr6; omega) (enc_tp.trans (congrArg er h_top)) dX3_parted_40 ?_
    refine pNtp S hK hH hS (rt t) rfl hq6 dX3_parted_41 (fun H locs hH hS => ?_)
    refine lv_aload_n hx hb dX3_parted_42 rfl (lv_at hl 1 rfl) ?_
    refine gM S hi3 hK hH 3 (by decide) f9 (v := .ref (gna Γ)) rfl dX3_parted_43 ?_
    refine lv_sipush (v := 200) hx hb dX3_parted_46 (by decide +kernel) ?_
    refine lv_iload_n hx hb dX3_parted_49 rfl (lv_at hl 2 rfl) ?_
    refine lv_iadd hx hb dX3_parted_50 ?_
    refine lv_iconst (v := -1) hx hb dX3_parted_51 (by decide) ?_
    refine pNtp S hK hH hS none rfl hr6 dX3_parted_52 (fun H locs hH hS => ?_)
    refine lv_aload_n hx hb dX3_parted_53 rfl (lv_at hl 1 rfl) ?_
    have k6 : sP (sP Q 3 q (rt t)) 3 r none 3 q = rt t := by rw [sP_na (Ne.symm hrq), sP_eq]
    have k7 : rep (sP (sP Q 3 q (rt t)) 3 r none) none t := rep_congr _ _ hrep (fun x _ => ⟨by rw [sP_nk (by decide), sP_nk (by decide)], by rw [sP_nk (by decide), sP_nk (by decide)], by rw [sP_nk (by decide), sP_nk (by decide)]⟩)
    refine lv_aload_n hx hb dX3_parted_54 rfl (lv_at hl 1 rfl) ?_
    refine gM S hi3 hK hH 3 (by decide) f9 (v := .ref (gna Γ)) rfl dX3_parted_55 ?_
    refine lv_sipush (v := 200) hx hb dX3_parted_58 (by decide +kernel) ?_
    refine lv_iload_n hx hb dX3_parted_61 rfl (lv_at hl 4 rfl) ?_
    refine lv_iadd hx hb dX3_parted_62 ?_
    refine gN S hK hH (n := 200 + q) (x := er (rt t)) (nI_ofadd (a := 200) rfl) (by have := hq6; omega) (enc_tp.trans (congrArg er k6)) dX3_parted_63 ?_
    refine cV S (c_X3_count (l := l) (D := D) (lo := lo) (Γ := Γ) (C := C) (V := V) (th := th) (mn := mn) (tm := tm) (kt := kt) (Q := (sP (sP Q 3 q (rt t)) 3 r none)) (zs := zs) (be := be) (kp := kp) t 41 none hh k7 h40) (cwV 1 hts gX3_parted_X3_count rfl rfl rfl (by decide +kernel) ⟨Nat.le_of_ble_eq_true rfl, Nat.le_of_ble_eq_true rfl⟩) hK hH (Hp_recv hK hH (gmo hH (j := 3) (by simp)).1 (gmo hH (j := 3) (by simp)).2.1 rfl) hS rfl hl.1 rfl (Nat.le_of_ble_eq_true rfl) dX3_parted_64 ⟨Nat.le_of_ble_eq_true rfl, Nat.le_of_ble_eq_true rfl⟩ (fun v Z1 H locs hpost hH hS => ?_)
    obtain ⟨rfl, rfl⟩ := hpost
    exact eI S hr hlocks hH hS (Or.inl ⟨h09, rfl, rfl⟩) dX3_parted_67
end MModA
