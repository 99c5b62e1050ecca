/-! METHODS of the reference: what it answers -/
/-- the reference's state: U the trees of the six rows, of places -/
def MI (Q : PF) (zs : Nat → Option Nat) (U : Nat → Tr) (mn : Nat) : Prop :=
  (∀ r, r < 6 → RT Q zs r (U r) ∧ srt (zn zs) (U r)) ∧ (gids U).Nodup ∧ mn = (gids U).length ∧ (∀ k, k < 40 → zs k ≠ none → k ∈ gids U) ∧ (gids U).length ≤ 40
theorem nI_half : ∀ n, n < 41 → nI n / 2 = nI (n / 2) := by decide +kernel
section MMod4
variable {l : Launch} {D : va_G} {lo : Nat} {Γ : GT} {C : CW} {V : Int64 × UInt64} {th mn tm kt : Nat} {Q : PF} {zs : Nat → Option Nat} {be : Nat → Nat} {kp : Nat → Int32}
set_option maxRecDepth 100000 in
set_option maxHeartbeats 4000000 in
theorem c_X3_sizeOf {U : Nat → Tr} {row : Int32}  (hM : MI Q zs U mn) : Md l yX3_sizeOf wsX3_sizeOf (rmL 44 0 0) D lo Γ [.ref (gxa Γ 3), .int row] (C, (th, mn, tm, kt, Q, zs, be, kp), V) (some (.int (qr row (fun r => nI (tids (U r)).length)).2)) (C, ((qr row (fun r => nI (tids (U r)).length)).1, mn, tm, kt, Q, zs, be, kp), V) := by
  refine Mz_of (cc := cX3_sizeOf) (maxL := 2) (ret := (some .int)) (by decide) rfl (Nat.le_of_ble_eq_true rfl) ?_
  intro p e s m args below meth c ls S hr hlocks hK hH hS hl
  have hx := S.1
  have hb := S.2.1
  have hts := S.2.2.2.2
  have f16 : (Cond.fieldLink RX3 16 (TX3 0).1 (TX3 0).2.1 (TX3 0).2.2.1).before args s = true := hts _ (List.mem_of_getElem? (i := 1) rfl)
  have f9 : (Cond.fieldLink RX3 9 (TX3 3).1 (TX3 3).2.1 (TX3 3).2.2.1).before args s = true := hts _ (List.mem_of_getElem? (i := 2) rfl)
  have hi3 : ∀ w ∈ wsX30, w ∈ wsX3_sizeOf := by decide +kernel
  have hl : lv_has ls 2 [(0, .ref (gxa Γ 3)), (1, .int row)] := hl
  obtain ⟨h_t, h_nd, h_mn, h_zs, h_40⟩ := id hM
  refine lv_aload_n hx hb dX3_sizeOf_0 rfl (lv_at hl 0 rfl) ?_
  refine lv_iconst (v := 0) hx hb dX3_sizeOf_1 (by decide) ?_
  refine pM S hi3 hK hH hS 0 (by decide) f16 (0, mn, tm, kt, Q, zs, be, kp) rfl rfl dX3_sizeOf_2 (fun H locs hH hS => ?_)
  refine lv_iload_n hx hb dX3_sizeOf_5 rfl (lv_at hl 1 rfl) ?_
  refine cSt S (c_X3_isRow (l := l) (D := D) (lo := lo) (Γ := Γ) (C := C) (V := V) (th := 0) (mn := mn) (tm := tm) (kt := kt) (Q := Q) (zs := zs) (be := be) (kp := kp) (x := row)) (va_cwS 1 hts gX3_sizeOf_X3_isRow rfl rfl rfl (by decide +kernel) ⟨Nat.le_of_ble_eq_true rfl, Nat.le_of_ble_eq_true rfl⟩) hK hH hS rfl hl.1 rfl (Nat.le_of_ble_eq_true rfl) dX3_sizeOf_6 ⟨Nat.le_of_ble_eq_true rfl, Nat.le_of_ble_eq_true rfl⟩ (fun v Z1 H locs hpost hH hS => ?_)
  obtain ⟨rfl, rfl⟩ := hpost
  rcases hrow : rowN row with _ | r
  · skip
    have e9 : (qr row (fun r => nI (tids (U r)).length)) = (1, 0) := by unfold qr; rw [hrow]
    refine lv_if_eq (tgt := 29) hx hb dX3_sizeOf_9 (by decide) (fun _ => ?_) (fun h1 => absurd rfl h1)
    refine lv_aload_n hx hb dX3_sizeOf_29 rfl (lv_at hl 0 rfl) ?_
    refine lv_iconst (v := 1) hx hb dX3_sizeOf_30 (by decide) ?_
    refine cV S (c_X3_no (l := l) (D := D) (lo := lo) (Γ := Γ) (C := C) (V := V) (th := 0) (mn := mn) (tm := tm) (kt := kt) (Q := Q) (zs := zs) (be := be) (kp := kp) (n := 1)) (cwV 1 hts gX3_sizeOf_X3_no rfl rfl rfl (by decide +kernel) ⟨Nat.le_of_ble_eq_true rfl, Nat.le_of_ble_eq_true rfl⟩) hK hH (Hp_recv hK hH (gmo hH (j := 3) (by simp)).1 (gmo hH (j := 3) (by simp)).2.1 rfl) hS rfl hl.1 rfl (Nat.le_of_ble_eq_true rfl) dX3_sizeOf_31 ⟨Nat.le_of_ble_eq_true rfl, Nat.le_of_ble_eq_true rfl⟩ (fun v Z1 H locs hpost hH hS => ?_)
    obtain ⟨rfl, rfl⟩ := hpost
    exact eI S hr hlocks hH hS ⟨by rw [e9], by rw [e9]⟩ dX3_sizeOf_34
  · skip
    have e9 : (qr row (fun r => nI (tids (U r)).length)) = (0, nI (tids (U r)).length) := by unfold qr; rw [hrow]
    obtain ⟨hr6, rfl⟩ := rowN_some hrow
    obtain ⟨hR, hs⟩ := h_t r hr6
    obtain ⟨h_top, h_rep, h_n, h_ok⟩ := id hR
    have h40 : ∀ a ∈ tids (U r), a < 40 := fun a ha => (h_ok a ha).1
    have hlen : (tids (U r)).length ≤ 40 := Nat.le_trans (gids_le hr6) h_40
    have hh : hgt (U r) < 41 := Nat.lt_succ_of_le (Nat.le_trans (hgt_tids _) hlen)
    refine lv_if_eq (tgt := 29) hx hb dX3_sizeOf_9 (by decide) (fun h1 => absurd h1 (show ¬ (1 : Int32) = 0 by decide)) (fun _ => ?_)
    refine lv_aload_n hx hb dX3_sizeOf_12 rfl (lv_at hl 0 rfl) ?_
    refine lv_aload_n hx hb dX3_sizeOf_13 rfl (lv_at hl 0 rfl) ?_
    refine gM S hi3 hK hH 3 (by decide) f9 (v := .ref (gna Γ)) rfl dX3_sizeOf_14 ?_
    refine lv_sipush (v := 200) hx hb dX3_sizeOf_17 (by decide +kernel) ?_
    refine lv_iload_n hx hb dX3_sizeOf_20 rfl (lv_at hl 1 rfl) ?_
    refine lv_iadd hx hb dX3_sizeOf_21 ?_
    refine gN S hK hH (n := 200 + r) (x := er (rt (U r))) (nI_ofadd (a := 200) rfl) (by have := hr6; omega) (enc_tp.trans (congrArg er h_top)) dX3_sizeOf_22 ?_
    refine cV S (c_X3_count (l := l) (D := D) (lo := lo) (Γ := Γ) (C := C) (V := V) (th := 0) (mn := mn) (tm := tm) (kt := kt) (Q := Q) (zs := zs) (be := be) (kp := kp) (U r) 41 none hh h_rep h40) (cwV 1 hts gX3_sizeOf_X3_count rfl rfl rfl (by decide +kernel) ⟨Nat.le_of_ble_eq_true rfl, Nat.le_of_ble_eq_true rfl⟩) hK hH (Hp_recv hK hH (gmo hH (j := 3) (by simp)).1 (gmo hH (j := 3) (by simp)).2.1 rfl) hS rfl hl.1 rfl (Nat.le_of_ble_eq_true rfl) dX3_sizeOf_23 ⟨Nat.le_of_ble_eq_true rfl, Nat.le_of_ble_eq_true rfl⟩ (fun v Z1 H locs hpost hH hS => ?_)
    obtain ⟨rfl, rfl⟩ := hpost
    refine lv_goto (tgt := 34) hx hb dX3_sizeOf_26 (by decide) ?_
    exact eI S hr hlocks hH hS ⟨by rw [e9], by rw [e9]⟩ dX3_sizeOf_34

set_option maxRecDepth 100000 in
set_option maxHeartbeats 4000000 in
theorem c_X3_height {U : Nat → Tr} {row : Int32}  (hM : MI Q zs U mn) : Md l yX3_height wsX3_height (rmL 44 0 0) D lo Γ [.ref (gxa Γ 3), .int row] (C, (th, mn, tm, kt, Q, zs, be, kp), V) (some (.int (qr row (fun r => nI (hgt (U r)))).2)) (C, ((qr row (fun r => nI (hgt (U r)))).1, mn, tm, kt, Q, zs, be, kp), V) := by
  refine Mz_of (cc := cX3_height) (maxL := 2) (ret := (some .int)) (by decide) rfl (Nat.le_of_ble_eq_true rfl) ?_
  intro p e s m args below meth c ls S hr hlocks hK hH hS hl
  have hx := S.1
  have hb := S.2.1
  have hts := S.2.2.2.2
  have f16 : (Cond.fieldLink RX3 16 (TX3 0).1 (TX3 0).2.1 (TX3 0).2.2.1).before args s = true := hts _ (List.mem_of_getElem? (i := 1) rfl)
  have f9 : (Cond.fieldLink RX3 9 (TX3 3).1 (TX3 3).2.1 (TX3 3).2.2.1).before args s = true := hts _ (List.mem_of_getElem? (i := 2) rfl)
  have hi3 : ∀ w ∈ wsX30, w ∈ wsX3_height := by decide +kernel
  have hl : lv_has ls 2 [(0, .ref (gxa Γ 3)), (1, .int row)] := hl
  obtain ⟨h_t, h_nd, h_mn, h_zs, h_40⟩ := id hM
  refine lv_aload_n hx hb dX3_height_0 rfl (lv_at hl 0 rfl) ?_
  refine lv_iconst (v := 0) hx hb dX3_height_1 (by decide) ?_
  refine pM S hi3 hK hH hS 0 (by decide) f16 (0, mn, tm, kt, Q, zs, be, kp) rfl rfl dX3_height_2 (fun H locs hH hS => ?_)
  refine lv_iload_n hx hb dX3_height_5 rfl (lv_at hl 1 rfl) ?_
  refine cSt S (c_X3_isRow (l := l) (D := D) (lo := lo) (Γ := Γ) (C := C) (V := V) (th := 0) (mn := mn) (tm := tm) (kt := kt) (Q := Q) (zs := zs) (be := be) (kp := kp) (x := row)) (va_cwS 1 hts gX3_height_X3_isRow rfl rfl rfl (by decide +kernel) ⟨Nat.le_of_ble_eq_true rfl, Nat.le_of_ble_eq_true rfl⟩) hK hH hS rfl hl.1 rfl (Nat.le_of_ble_eq_true rfl) dX3_height_6 ⟨Nat.le_of_ble_eq_true rfl, Nat.le_of_ble_eq_true rfl⟩ (fun v Z1 H locs hpost hH hS => ?_)
  obtain ⟨rfl, rfl⟩ := hpost
  rcases hrow : rowN row with _ | r
  · skip
    have e9 : (qr row (fun r => nI (hgt (U r)))) = (1, 0) := by unfold qr; rw [hrow]
    refine lv_if_eq (tgt := 29) hx hb dX3_height_9 (by decide) (fun _ => ?_) (fun h1 => absurd rfl h1)
    refine lv_aload_n hx hb dX3_height_29 rfl (lv_at hl 0 rfl) ?_
    refine lv_iconst (v := 1) hx hb dX3_height_30 (by decide) ?_
    refine cV S (c_X3_no (l := l) (D := D) (lo := lo) (Γ := Γ) (C := C) (V := V) (th := 0) (mn := mn) (tm := tm) (kt := kt) (Q := Q) (zs := zs) (be := be) (kp := kp) (n := 1)) (cwV 1 hts gX3_height_X3_no rfl rfl rfl (by decide +kernel) ⟨Nat.le_of_ble_eq_true rfl, Nat.le_of_ble_eq_true rfl⟩) hK hH (Hp_recv hK hH (gmo hH (j := 3) (by simp)).1 (gmo hH (j := 3) (by simp)).2.1 rfl) hS rfl hl.1 rfl (Nat.le_of_ble_eq_true rfl) dX3_height_31 ⟨Nat.le_of_ble_eq_true rfl, Nat.le_of_ble_eq_true rfl⟩ (fun v Z1 H locs hpost hH hS => ?_)
    obtain ⟨rfl, rfl⟩ := hpost
    exact eI S hr hlocks hH hS ⟨by rw [e9], by rw [e9]⟩ dX3_height_34
  · skip
    have e9 : (qr row (fun r => nI (hgt (U r)))) = (0, nI (hgt (U r))) := by unfold qr; rw [hrow]
    obtain ⟨hr6, rfl⟩ := rowN_some hrow
    obtain ⟨hR, hs⟩ := h_t r hr6
    obtain ⟨h_top, h_rep, h_n, h_ok⟩ := id hR
    have h40 : ∀ a ∈ tids (U r), a < 40 := fun a ha => (h_ok a ha).1
    have hlen : (tids (U r)).length ≤ 40 := Nat.le_trans (gids_le hr6) h_40
    have hh : hgt (U r) < 41 := Nat.lt_succ_of_le (Nat.le_trans (hgt_tids _) hlen)
    refine lv_if_eq (tgt := 29) hx hb dX3_height_9 (by decide) (fun h1 => absurd h1 (show ¬ (1 : Int32) = 0 by decide)) (fun _ => ?_)
    refine lv_aload_n hx hb dX3_height_12 rfl (lv_at hl 0 rfl) ?_
    refine lv_aload_n hx hb dX3_height_13 rfl (lv_at hl 0 rfl) ?_
    refine gM S hi3 hK hH 3 (by decide) f9 (v := .ref (gna Γ)) rfl dX3_height_14 ?_
    refine lv_sipush (v := 200) hx hb dX3_height_17 (by decide +kernel) ?_
    refine lv_iload_n hx hb dX3_height_20 rfl (lv_at hl 1 rfl) ?_
    refine lv_iadd hx hb dX3_height_21 ?_
    refine gN S hK hH (n := 200 + r) (x := er (rt (U r))) (nI_ofadd (a := 200) rfl) (by have := hr6; omega) (enc_tp.trans (congrArg er h_top)) dX3_height_22 ?_
    refine cV S (c_X3_high (l := l) (D := D) (lo := lo) (Γ := Γ) (C := C) (V := V) (th := 0) (mn := mn) (tm := tm) (kt := kt) (Q := Q) (zs := zs) (be := be) (kp := kp) (U r) 41 none hh h_rep h40 (Nat.lt_trans hh (by decide))) (cwV 1 hts gX3_height_X3_high rfl rfl rfl (by decide +kernel) ⟨Nat.le_of_ble_eq_true rfl, Nat.le_of_ble_eq_true rfl⟩) hK hH (Hp_recv hK hH (gmo hH (j := 3) (by simp)).1 (gmo hH (j := 3) (by simp)).2.1 rfl) hS rfl hl.1 rfl (Nat.le_of_ble_eq_true rfl) dX3_height_23 ⟨Nat.le_of_ble_eq_true rfl, Nat.le_of_ble_eq_true rfl⟩ (fun v Z1 H locs hpost hH hS => ?_)
    obtain ⟨rfl, rfl⟩ := hpost
    refine lv_goto (tgt := 34) hx hb dX3_height_26 (by decide) ?_
    exact eI S hr hlocks hH hS ⟨by rw [e9], by rw [e9]⟩ dX3_height_34

set_option maxRecDepth 100000 in
set_option maxHeartbeats 4000000 in
theorem c_X3_leaves {U : Nat → Tr} {row : Int32}  (hM : MI Q zs U mn) : Md l yX3_leaves wsX3_leaves (rmL 44 0 0) D lo Γ [.ref (gxa Γ 3), .int row] (C, (th, mn, tm, kt, Q, zs, be, kp), V) (some (.int (qr row (fun r => nI (lvs (U r)))).2)) (C, ((qr row (fun r => nI (lvs (U r)))).1, mn, tm, kt, Q, zs, be, kp), V) := by
  refine Mz_of (cc := cX3_leaves) (maxL := 2) (ret := (some .int)) (by decide) rfl (Nat.le_of_ble_eq_true rfl) ?_
  intro p e s m args below meth c ls S hr hlocks hK hH hS hl
  have hx := S.1
  have hb := S.2.1
  have hts := S.2.2.2.2
  have f16 : (Cond.fieldLink RX3 16 (TX3 0).1 (TX3 0).2.1 (TX3 0).2.2.1).before args s = true := hts _ (List.mem_of_getElem? (i := 1) rfl)
  have f9 : (Cond.fieldLink RX3 9 (TX3 3).1 (TX3 3).2.1 (TX3 3).2.2.1).before args s = true := hts _ (List.mem_of_getElem? (i := 2) rfl)
  have hi3 : ∀ w ∈ wsX30, w ∈ wsX3_leaves := by decide +kernel
  have hl : lv_has ls 2 [(0, .ref (gxa Γ 3)), (1, .int row)] := hl
  obtain ⟨h_t, h_nd, h_mn, h_zs, h_40⟩ := id hM
  refine lv_aload_n hx hb dX3_leaves_0 rfl (lv_at hl 0 rfl) ?_
  refine lv_iconst (v := 0) hx hb dX3_leaves_1 (by decide) ?_
  refine pM S hi3 hK hH hS 0 (by decide) f16 (0, mn, tm, kt, Q, zs, be, kp) rfl rfl dX3_leaves_2 (fun H locs hH hS => ?_)
  refine lv_iload_n hx hb dX3_leaves_5 rfl (lv_at hl 1 rfl) ?_
  refine cSt S (c_X3_isRow (l := l) (D := D) (lo := lo) (Γ := Γ) (C := C) (V := V) (th := 0) (mn := mn) (tm := tm) (kt := kt) (Q := Q) (zs := zs) (be := be) (kp := kp) (x := row)) (va_cwS 1 hts gX3_leaves_X3_isRow rfl rfl rfl (by decide +kernel) ⟨Nat.le_of_ble_eq_true rfl, Nat.le_of_ble_eq_true rfl⟩) hK hH hS rfl hl.1 rfl (Nat.le_of_ble_eq_true rfl) dX3_leaves_6 ⟨Nat.le_of_ble_eq_true rfl, Nat.le_of_ble_eq_true rfl⟩ (fun v Z1 H locs hpost hH hS => ?_)
  obtain ⟨rfl, rfl⟩ := hpost
  rcases hrow : rowN row with _ | r
  · skip
    have e9 : (qr row (fun r => nI (lvs (U r)))) = (1, 0) := by unfold qr; rw [hrow]
    refine lv_if_eq (tgt := 29) hx hb dX3_leaves_9 (by decide) (fun _ => ?_) (fun h1 => absurd rfl h1)
    refine lv_aload_n hx hb dX3_leaves_29 rfl (lv_at hl 0 rfl) ?_
    refine lv_iconst (v := 1) hx hb dX3_leaves_30 (by decide) ?_
    refine cV S (c_X3_no (l := l) (D := D) (lo := lo) (Γ := Γ) (C := C) (V := V) (th := 0) (mn := mn) (tm := tm) (kt := kt) (Q := Q) (zs := zs) (be := be) (kp := kp) (n := 1)) (cwV 1 hts gX3_leaves_X3_no rfl rfl rfl (by decide +kernel) ⟨Nat.le_of_ble_eq_true rfl, Nat.le_of_ble_eq_true rfl⟩) hK hH (Hp_recv hK hH (gmo hH (j := 3) (by simp)).1 (gmo hH (j := 3) (by simp)).2.1 rfl) hS rfl hl.1 rfl (Nat.le_of_ble_eq_true rfl) dX3_leaves_31 ⟨Nat.le_of_ble_eq_true rfl, Nat.le_of_ble_eq_true rfl⟩ (fun v Z1 H locs hpost hH hS => ?_)
    obtain ⟨rfl, rfl⟩ := hpost
    exact eI S hr hlocks hH hS ⟨by rw [e9], by rw [e9]⟩ dX3_leaves_34
  · skip
    have e9 : (qr row (fun r => nI (lvs (U r)))) = (0, nI (lvs (U r))) := by unfold qr; rw [hrow]
    obtain ⟨hr6, rfl⟩ := rowN_some hrow
    obtain ⟨hR, hs⟩ := h_t r hr6
    obtain ⟨h_top, h_rep, h_n, h_ok⟩ := id hR
    have h40 : ∀ a ∈ tids (U r), a < 40 := fun a ha => (h_ok a ha).1
    have hlen : (tids (U r)).length ≤ 40 := Nat.le_trans (gids_le hr6) h_40
    have hh : hgt (U r) < 41 := Nat.lt_succ_of_le (Nat.le_trans (hgt_tids _) hlen)
    refine lv_if_eq (tgt := 29) hx hb dX3_leaves_9 (by decide) (fun h1 => absurd h1 (show ¬ (1 : Int32) = 0 by decide)) (fun _ => ?_)
    refine lv_aload_n hx hb dX3_leaves_12 rfl (lv_at hl 0 rfl) ?_
    refine lv_aload_n hx hb dX3_leaves_13 rfl (lv_at hl 0 rfl) ?_
    refine gM S hi3 hK hH 3 (by decide) f9 (v := .ref (gna Γ)) rfl dX3_leaves_14 ?_
    refine lv_sipush (v := 200) hx hb dX3_leaves_17 (by decide +kernel) ?_
    refine lv_iload_n hx hb dX3_leaves_20 rfl (lv_at hl 1 rfl) ?_
    refine lv_iadd hx hb dX3_leaves_21 ?_
    refine gN S hK hH (n := 200 + r) (x := er (rt (U r))) (nI_ofadd (a := 200) rfl) (by have := hr6; omega) (enc_tp.trans (congrArg er h_top)) dX3_leaves_22 ?_
    refine cV S (c_X3_ends (l := l) (D := D) (lo := lo) (Γ := Γ) (C := C) (V := V) (th := 0) (mn := mn) (tm := tm) (kt := kt) (Q := Q) (zs := zs) (be := be) (kp := kp) (U r) 41 none hh h_rep h40) (cwV 1 hts gX3_leaves_X3_ends rfl rfl rfl (by decide +kernel) ⟨Nat.le_of_ble_eq_true rfl, Nat.le_of_ble_eq_true rfl⟩) hK hH (Hp_recv hK hH (gmo hH (j := 3) (by simp)).1 (gmo hH (j := 3) (by simp)).2.1 rfl) hS rfl hl.1 rfl (Nat.le_of_ble_eq_true rfl) dX3_leaves_23 ⟨Nat.le_of_ble_eq_true rfl, Nat.le_of_ble_eq_true rfl⟩ (fun v Z1 H locs hpost hH hS => ?_)
    obtain ⟨rfl, rfl⟩ := hpost
    refine lv_goto (tgt := 34) hx hb dX3_leaves_26 (by decide) ?_
    exact eI S hr hlocks hH hS ⟨by rw [e9], by rw [e9]⟩ dX3_leaves_34

set_option maxRecDepth 100000 in
set_option maxHeartbeats 4000000 in
theorem c_X3_smaller {U : Nat → Tr} {row : Int32} {x : Int32} (hM : MI Q zs U mn) : Md l yX3_smaller wsX3_smaller (rmL 44 0 0) D lo Γ [.ref (gxa Γ 3), .int row, .int x] (C, (th, mn, tm, kt, Q, zs, be, kp), V) (some (.int (qr row (fun r => nI (blw (zn zs) x.toInt (U r)).length)).2)) (C, ((qr row (fun r => nI (blw (zn zs) x.toInt (U r)).length)).1, mn, tm, kt, Q, zs, be, kp), V) := by
  refine Mz_of (cc := cX3_smaller) (maxL := 3) (ret := (some .int)) (by decide) rfl (Nat.le_of_ble_eq_true rfl) ?_
  intro p e s m args below meth c ls S hr hlocks hK hH hS hl
  have hx := S.1
  have hb := S.2.1
  have hts := S.2.2.2.2
  have f16 : (Cond.fieldLink RX3 16 (TX3 0).1 (TX3 0).2.1 (TX3 0).2.2.1).before args s = true := hts _ (List.mem_of_getElem? (i := 1) rfl)
  have f9 : (Cond.fieldLink RX3 9 (TX3 3).1 (TX3 3).2.1 (TX3 3).2.2.1).before args s = true := hts _ (List.mem_of_getElem? (i := 2) rfl)
  have hi3 : ∀ w ∈ wsX30, w ∈ wsX3_smaller := by decide +kernel
  have hl : lv_has ls 3 [(0, .ref (gxa Γ 3)), (1, .int row), (2, .int x)] := hl
  obtain ⟨h_t, h_nd, h_mn, h_zs, h_40⟩ := id hM
  refine lv_aload_n hx hb dX3_smaller_0 rfl (lv_at hl 0 rfl) ?_
  refine lv_iconst (v := 0) hx hb dX3_smaller_1 (by decide) ?_
  refine pM S hi3 hK hH hS 0 (by decide) f16 (0, mn, tm, kt, Q, zs, be, kp) rfl rfl dX3_smaller_2 (fun H locs hH hS => ?_)
  refine lv_iload_n hx hb dX3_smaller_5 rfl (lv_at hl 1 rfl) ?_
  refine cSt S (c_X3_isRow (l := l) (D := D) (lo := lo) (Γ := Γ) (C := C) (V := V) (th := 0) (mn := mn) (tm := tm) (kt := kt) (Q := Q) (zs := zs) (be := be) (kp := kp) (x := row)) (va_cwS 1 hts gX3_smaller_X3_isRow rfl rfl rfl (by decide +kernel) ⟨Nat.le_of_ble_eq_true rfl, Nat.le_of_ble_eq_true rfl⟩) hK hH hS rfl hl.1 rfl (Nat.le_of_ble_eq_true rfl) dX3_smaller_6 ⟨Nat.le_of_ble_eq_true rfl, Nat.le_of_ble_eq_true rfl⟩ (fun v Z1 H locs hpost hH hS => ?_)
  obtain ⟨rfl, rfl⟩ := hpost
  rcases hrow : rowN row with _ | r
  · skip
    have e9 : (qr row (fun r => nI (blw (zn zs) x.toInt (U r)).length)) = (1, 0) := by unfold qr; rw [hrow]
    refine lv_if_eq (tgt := 30) hx hb dX3_smaller_9 (by decide) (fun _ => ?_) (fun h1 => absurd rfl h1)
    refine lv_aload_n hx hb dX3_smaller_30 rfl (lv_at hl 0 rfl) ?_
    refine lv_iconst (v := 1) hx hb dX3_smaller_31 (by decide) ?_
    refine cV S (c_X3_no (l := l) (D := D) (lo := lo) (Γ := Γ) (C := C) (V := V) (th := 0) (mn := mn) (tm := tm) (kt := kt) (Q := Q) (zs := zs) (be := be) (kp := kp) (n := 1)) (cwV 1 hts gX3_smaller_X3_no rfl rfl rfl (by decide +kernel) ⟨Nat.le_of_ble_eq_true rfl, Nat.le_of_ble_eq_true rfl⟩) hK hH (Hp_recv hK hH (gmo hH (j := 3) (by simp)).1 (gmo hH (j := 3) (by simp)).2.1 rfl) hS rfl hl.1 rfl (Nat.le_of_ble_eq_true rfl) dX3_smaller_32 ⟨Nat.le_of_ble_eq_true rfl, Nat.le_of_ble_eq_true rfl⟩ (fun v Z1 H locs hpost hH hS => ?_)
    obtain ⟨rfl, rfl⟩ := hpost
    exact eI S hr hlocks hH hS ⟨by rw [e9], by rw [e9]⟩ dX3_smaller_35
  · skip
    have e9 : (qr row (fun r => nI (blw (zn zs) x.toInt (U r)).length)) = (0, nI (blw (zn zs) x.toInt (U r)).length) := by unfold qr; rw [hrow]
    obtain ⟨hr6, rfl⟩ := rowN_some hrow
    obtain ⟨hR, hs⟩ := h_t r hr6
    obtain ⟨h_top, h_rep, h_n, h_ok⟩ := id hR
    have h40 : ∀ a ∈ tids (U r), a < 40 := fun a ha => (h_ok a ha).1
    have hlen : (tids (U r)).length ≤ 40 := Nat.le_trans (gids_le hr6) h_40
    have hh : hgt (U r) < 41 := Nat.lt_succ_of_le (Nat.le_trans (hgt_tids _) hlen)
    refine lv_if_eq (tgt := 30) hx hb dX3_smaller_9 (by decide) (fun h1 => absurd h1 (show ¬ (1 : Int32) = 0 by decide)) (fun _ => ?_)
    refine lv_aload_n hx hb dX3_smaller_12 rfl (lv_at hl 0 rfl) ?_
    refine lv_aload_n hx hb dX3_smaller_13 rfl (lv_at hl 0 rfl) ?_
    refine gM S hi3 hK hH 3 (by decide) f9 (v := .ref (gna Γ)) rfl dX3_smaller_14 ?_
    refine lv_sipush (v := 200) hx hb dX3_smaller_17 (by decide +kernel) ?_
    refine lv_iload_n hx hb dX3_smaller_20 rfl (lv_at hl 1 rfl) ?_
    refine lv_iadd hx hb dX3_smaller_21 ?_
    refine gN S hK hH (n := 200 + r) (x := er (rt (U r))) (nI_ofadd (a := 200) rfl) (by have := hr6; omega) (enc_tp.trans (congrArg er h_top)) dX3_smaller_22 ?_
    refine lv_iload_n hx hb dX3_smaller_23 rfl (lv_at hl 2 rfl) ?_
    refine cV S (c_X3_under (l := l) (D := D) (lo := lo) (Γ := Γ) (C := C) (V := V) (th := 0) (mn := mn) (tm := tm) (kt := kt) (Q := Q) (zs := zs) (be := be) (kp := kp) (U r) 42 none (x := x) (Nat.succ_lt_succ hh) h_rep h40 (fun a ha => (h_ok a ha).2) hs) (cwV 2 hts gX3_smaller_X3_under rfl rfl rfl (by decide +kernel) ⟨Nat.le_of_ble_eq_true rfl, Nat.le_of_ble_eq_true rfl⟩) hK hH (Hp_recv hK hH (gmo hH (j := 3) (by simp)).1 (gmo hH (j := 3) (by simp)).2.1 rfl) hS rfl hl.1 rfl (Nat.le_of_ble_eq_true rfl) dX3_smaller_24 ⟨Nat.le_of_ble_eq_true rfl, Nat.le_of_ble_eq_true rfl⟩ (fun v Z1 H locs hpost hH hS => ?_)
    obtain ⟨rfl, rfl⟩ := hpost
    refine lv_goto (tgt := 35) hx hb dX3_smaller_27 (by decide) ?_
    exact eI S hr hlocks hH hS ⟨by rw [e9], by rw [e9]⟩ dX3_smaller_35

set_option maxRecDepth 100000 in
set_option maxHeartbeats 4000000 in
theorem c_X3_depths {U : Nat → Tr} {row : Int32}  (hM : MI Q zs U mn) : Md l yX3_depths wsX3_depths (rmL 44 0 0) D lo Γ [.ref (gxa Γ 3), .int row] (C, (th, mn, tm, kt, Q, zs, be, kp), V) (some (.int (qr row (fun r => nI (dsm (U r) 0))).2)) (C, ((qr row (fun r => nI (dsm (U r) 0))).1, mn, tm, kt, Q, zs, be, kp), V) := by
  refine Mz_of (cc := cX3_depths) (maxL := 2) (ret := (some .int)) (by decide) rfl (Nat.le_of_ble_eq_true rfl) ?_
  intro p e s m args below meth c ls S hr hlocks hK hH hS hl
  have hx := S.1
  have hb := S.2.1
  have hts := S.2.2.2.2
  have f16 : (Cond.fieldLink RX3 16 (TX3 0).1 (TX3 0).2.1 (TX3 0).2.2.1).before args s = true := hts _ (List.mem_of_getElem? (i := 1) rfl)
  have f9 : (Cond.fieldLink RX3 9 (TX3 3).1 (TX3 3).2.1 (TX3 3).2.2.1).before args s = true := hts _ (List.mem_of_getElem? (i := 2) rfl)
  have hi3 : ∀ w ∈ wsX30, w ∈ wsX3_depths := by decide +kernel
  have hl : lv_has ls 2 [(0, .ref (gxa Γ 3)), (1, .int row)] := hl
  obtain ⟨h_t, h_nd, h_mn, h_zs, h_40⟩ := id hM
  refine lv_aload_n hx hb dX3_depths_0 rfl (lv_at hl 0 rfl) ?_
  refine lv_iconst (v := 0) hx hb dX3_depths_1 (by decide) ?_
  refine pM S hi3 hK hH hS 0 (by decide) f16 (0, mn, tm, kt, Q, zs, be, kp) rfl rfl dX3_depths_2 (fun H locs hH hS => ?_)
  refine lv_iload_n hx hb dX3_depths_5 rfl (lv_at hl 1 rfl) ?_
  refine cSt S (c_X3_isRow (l := l) (D := D) (lo := lo) (Γ := Γ) (C := C) (V := V) (th := 0) (mn := mn) (tm := tm) (kt := kt) (Q := Q) (zs := zs) (be := be) (kp := kp) (x := row)) (va_cwS 1 hts gX3_depths_X3_isRow rfl rfl rfl (by decide +kernel) ⟨Nat.le_of_ble_eq_true rfl, Nat.le_of_ble_eq_true rfl⟩) hK hH hS rfl hl.1 rfl (Nat.le_of_ble_eq_true rfl) dX3_depths_6 ⟨Nat.le_of_ble_eq_true rfl, Nat.le_of_ble_eq_true rfl⟩ (fun v Z1 H locs hpost hH hS => ?_)
  obtain ⟨rfl, rfl⟩ := hpost
  rcases hrow : rowN row with _ | r
  · skip
    have e9 : (qr row (fun r => nI (dsm (U r) 0))) = (1, 0) := by unfold qr; rw [hrow]
    refine lv_if_eq (tgt := 30) hx hb dX3_depths_9 (by decide) (fun _ => ?_) (fun h1 => absurd rfl h1)
    refine lv_aload_n hx hb dX3_depths_30 rfl (lv_at hl 0 rfl) ?_
    refine lv_iconst (v := 1) hx hb dX3_depths_31 (by decide) ?_
    refine cV S (c_X3_no (l := l) (D := D) (lo := lo) (Γ := Γ) (C := C) (V := V) (th := 0) (mn := mn) (tm := tm) (kt := kt) (Q := Q) (zs := zs) (be := be) (kp := kp) (n := 1)) (cwV 1 hts gX3_depths_X3_no rfl rfl rfl (by decide +kernel) ⟨Nat.le_of_ble_eq_true rfl, Nat.le_of_ble_eq_true rfl⟩) hK hH (Hp_recv hK hH (gmo hH (j := 3) (by simp)).1 (gmo hH (j := 3) (by simp)).2.1 rfl) hS rfl hl.1 rfl (Nat.le_of_ble_eq_true rfl) dX3_depths_32 ⟨Nat.le_of_ble_eq_true rfl, Nat.le_of_ble_eq_true rfl⟩ (fun v Z1 H locs hpost hH hS => ?_)
    obtain ⟨rfl, rfl⟩ := hpost
    exact eI S hr hlocks hH hS ⟨by rw [e9], by rw [e9]⟩ dX3_depths_35
  · skip
    have e9 : (qr row (fun r => nI (dsm (U r) 0))) = (0, nI (dsm (U r) 0)) := by unfold qr; rw [hrow]
    obtain ⟨hr6, rfl⟩ := rowN_some hrow
    obtain ⟨hR, hs⟩ := h_t r hr6
    obtain ⟨h_top, h_rep, h_n, h_ok⟩ := id hR
    have h40 : ∀ a ∈ tids (U r), a < 40 := fun a ha => (h_ok a ha).1
    have hlen : (tids (U r)).length ≤ 40 := Nat.le_trans (gids_le hr6) h_40
    have hh : hgt (U r) < 41 := Nat.lt_succ_of_le (Nat.le_trans (hgt_tids _) hlen)
    refine lv_if_eq (tgt := 30) hx hb dX3_depths_9 (by decide) (fun h1 => absurd h1 (show ¬ (1 : Int32) = 0 by decide)) (fun _ => ?_)
    refine lv_aload_n hx hb dX3_depths_12 rfl (lv_at hl 0 rfl) ?_
    refine lv_aload_n hx hb dX3_depths_13 rfl (lv_at hl 0 rfl) ?_
    refine gM S hi3 hK hH 3 (by decide) f9 (v := .ref (gna Γ)) rfl dX3_depths_14 ?_
    refine lv_sipush (v := 200) hx hb dX3_depths_17 (by decide +kernel) ?_
    refine lv_iload_n hx hb dX3_depths_20 rfl (lv_at hl 1 rfl) ?_
    refine lv_iadd hx hb dX3_depths_21 ?_
    refine gN S hK hH (n := 200 + r) (x := er (rt (U r))) (nI_ofadd (a := 200) rfl) (by have := hr6; omega) (enc_tp.trans (congrArg er h_top)) dX3_depths_22 ?_
    refine lv_iconst (v := 0) hx hb dX3_depths_23 (by decide) ?_
    refine cV S (c_X3_depthsOf (l := l) (D := D) (lo := lo) (Γ := Γ) (C := C) (V := V) (th := 0) (mn := mn) (tm := tm) (kt := kt) (Q := Q) (zs := zs) (be := be) (kp := kp) (U r) 41 none 0 hh h_rep h40) (cwV 2 hts gX3_depths_X3_depthsOf rfl rfl rfl (by decide +kernel) ⟨Nat.le_of_ble_eq_true rfl, Nat.le_of_ble_eq_true rfl⟩) hK hH (Hp_recv hK hH (gmo hH (j := 3) (by simp)).1 (gmo hH (j := 3) (by simp)).2.1 rfl) hS rfl hl.1 rfl (Nat.le_of_ble_eq_true rfl) dX3_depths_24 ⟨Nat.le_of_ble_eq_true rfl, Nat.le_of_ble_eq_true rfl⟩ (fun v Z1 H locs hpost hH hS => ?_)
    obtain ⟨rfl, rfl⟩ := hpost
    refine lv_goto (tgt := 35) hx hb dX3_depths_27 (by decide) ?_
    exact eI S hr hlocks hH hS ⟨by rw [e9], by rw [e9]⟩ dX3_depths_35

set_option maxRecDepth 100000 in
set_option maxHeartbeats 4000000 in
theorem c_X3_top {U : Nat → Tr} {row : Int32}  (hM : MI Q zs U mn) : Md l yX3_top wsX3_top (rmL 44 0 0) D lo Γ [.ref (gxa Γ 3), .int row] (C, (th, mn, tm, kt, Q, zs, be, kp), V) (some (.int (qr row (fun r => er ((rt (U r)).map (zn zs)))).2)) (C, ((qr row (fun r => er ((rt (U r)).map (zn zs)))).1, mn, tm, kt, Q, zs, be, kp), V) := by
  refine Mz_of (cc := cX3_top) (maxL := 2) (ret := (some .int)) (by decide) rfl (Nat.le_of_ble_eq_true rfl) ?_
  intro p e s m args below meth c ls S hr hlocks hK hH hS hl
  have hx := S.1
  have hb := S.2.1
  have hts := S.2.2.2.2
  have f16 : (Cond.fieldLink RX3 16 (TX3 0).1 (TX3 0).2.1 (TX3 0).2.2.1).before args s = true := hts _ (List.mem_of_getElem? (i := 1) rfl)
  have f9 : (Cond.fieldLink RX3 9 (TX3 3).1 (TX3 3).2.1 (TX3 3).2.2.1).before args s = true := hts _ (List.mem_of_getElem? (i := 2) rfl)
  have hi3 : ∀ w ∈ wsX30, w ∈ wsX3_top := by decide +kernel
  have hl : lv_has ls 2 [(0, .ref (gxa Γ 3)), (1, .int row)] := hl
  obtain ⟨h_t, h_nd, h_mn, h_zs, h_40⟩ := id hM
  refine lv_aload_n hx hb dX3_top_0 rfl (lv_at hl 0 rfl) ?_
  refine lv_iconst (v := 0) hx hb dX3_top_1 (by decide) ?_
  refine pM S hi3 hK hH hS 0 (by decide) f16 (0, mn, tm, kt, Q, zs, be, kp) rfl rfl dX3_top_2 (fun H locs hH hS => ?_)
  refine lv_iload_n hx hb dX3_top_5 rfl (lv_at hl 1 rfl) ?_
  refine cSt S (c_X3_isRow (l := l) (D := D) (lo := lo) (Γ := Γ) (C := C) (V := V) (th := 0) (mn := mn) (tm := tm) (kt := kt) (Q := Q) (zs := zs) (be := be) (kp := kp) (x := row)) (va_cwS 1 hts gX3_top_X3_isRow rfl rfl rfl (by decide +kernel) ⟨Nat.le_of_ble_eq_true rfl, Nat.le_of_ble_eq_true rfl⟩) hK hH hS rfl hl.1 rfl (Nat.le_of_ble_eq_true rfl) dX3_top_6 ⟨Nat.le_of_ble_eq_true rfl, Nat.le_of_ble_eq_true rfl⟩ (fun v Z1 H locs hpost hH hS => ?_)
  obtain ⟨rfl, rfl⟩ := hpost
  rcases hrow : rowN row with _ | r
  · skip
    have e9 : (qr row (fun r => er ((rt (U r)).map (zn zs)))) = (1, 0) := by unfold qr; rw [hrow]
    refine lv_if_eq (tgt := 29) hx hb dX3_top_9 (by decide) (fun _ => ?_) (fun h1 => absurd rfl h1)
    refine lv_aload_n hx hb dX3_top_29 rfl (lv_at hl 0 rfl) ?_
    refine lv_iconst (v := 1) hx hb dX3_top_30 (by decide) ?_
    refine cV S (c_X3_no (l := l) (D := D) (lo := lo) (Γ := Γ) (C := C) (V := V) (th := 0) (mn := mn) (tm := tm) (kt := kt) (Q := Q) (zs := zs) (be := be) (kp := kp) (n := 1)) (cwV 1 hts gX3_top_X3_no rfl rfl rfl (by decide +kernel) ⟨Nat.le_of_ble_eq_true rfl, Nat.le_of_ble_eq_true rfl⟩) hK hH (Hp_recv hK hH (gmo hH (j := 3) (by simp)).1 (gmo hH (j := 3) (by simp)).2.1 rfl) hS rfl hl.1 rfl (Nat.le_of_ble_eq_true rfl) dX3_top_31 ⟨Nat.le_of_ble_eq_true rfl, Nat.le_of_ble_eq_true rfl⟩ (fun v Z1 H locs hpost hH hS => ?_)
    obtain ⟨rfl, rfl⟩ := hpost
    exact eI S hr hlocks hH hS ⟨by rw [e9], by rw [e9]⟩ dX3_top_34
  · skip
    have e9 : (qr row (fun r => er ((rt (U r)).map (zn zs)))) = (0, er ((rt (U r)).map (zn zs))) := by unfold qr; rw [hrow]
    obtain ⟨hr6, rfl⟩ := rowN_some hrow
    obtain ⟨hR, hs⟩ := h_t r hr6
    obtain ⟨h_top, h_rep, h_n, h_ok⟩ := id hR
    have h40 : ∀ a ∈ tids (U r), a < 40 := fun a ha => (h_ok a ha).1
    have hlen : (tids (U r)).length ≤ 40 := Nat.le_trans (gids_le hr6) h_40
    have hh : hgt (U r) < 41 := Nat.lt_succ_of_le (Nat.le_trans (hgt_tids _) hlen)
    refine lv_if_eq (tgt := 29) hx hb dX3_top_9 (by decide) (fun h1 => absurd h1 (show ¬ (1 : Int32) = 0 by decide)) (fun _ => ?_)
    refine lv_aload_n hx hb dX3_top_12 rfl (lv_at hl 0 rfl) ?_
    refine lv_aload_n hx hb dX3_top_13 rfl (lv_at hl 0 rfl) ?_
    refine gM S hi3 hK hH 3 (by decide) f9 (v := .ref (gna Γ)) rfl dX3_top_14 ?_
    refine lv_sipush (v := 200) hx hb dX3_top_17 (by decide +kernel) ?_
    refine lv_iload_n hx hb dX3_top_20 rfl (lv_at hl 1 rfl) ?_
    refine lv_iadd hx hb dX3_top_21 ?_
    refine gN S hK hH (n := 200 + r) (x := er (rt (U r))) (nI_ofadd (a := 200) rfl) (by have := hr6; omega) (enc_tp.trans (congrArg er h_top)) dX3_top_22 ?_
    refine cV S (c_X3_sizeAt (l := l) (D := D) (lo := lo) (Γ := Γ) (C := C) (V := V) (th := 0) (mn := mn) (tm := tm) (kt := kt) (Q := Q) (zs := zs) (be := be) (kp := kp) (r := rt (U r)) (fun b h => ⟨h40 b (rt_mem h), (h_ok b (rt_mem h)).2.1⟩)) (cwV 1 hts gX3_top_X3_sizeAt rfl rfl rfl (by decide +kernel) ⟨Nat.le_of_ble_eq_true rfl, Nat.le_of_ble_eq_true rfl⟩) hK hH (Hp_recv hK hH (gmo hH (j := 3) (by simp)).1 (gmo hH (j := 3) (by simp)).2.1 rfl) hS rfl hl.1 rfl (Nat.le_of_ble_eq_true rfl) dX3_top_23 ⟨Nat.le_of_ble_eq_true rfl, Nat.le_of_ble_eq_true rfl⟩ (fun v Z1 H locs hpost hH hS => ?_)
    obtain ⟨rfl, rfl⟩ := hpost
    refine lv_goto (tgt := 34) hx hb dX3_top_26 (by decide) ?_
    exact eI S hr hlocks hH hS ⟨by rw [e9], by rw [e9]⟩ dX3_top_34

set_option maxRecDepth 100000 in
set_option maxHeartbeats 4000000 in
theorem c_X3_smallest {U : Nat → Tr} {row : Int32}  (hM : MI Q zs U mn) : Md l yX3_smallest wsX3_smallest (rmL 44 0 0) D lo Γ [.ref (gxa Γ 3), .int row] (C, (th, mn, tm, kt, Q, zs, be, kp), V) (some (.int (qr row (fun r => er (((tids (U r)).head?).map (zn zs)))).2)) (C, ((qr row (fun r => er (((tids (U r)).head?).map (zn zs)))).1, mn, tm, kt, Q, zs, be, kp), V) := by
  refine Mz_of (cc := cX3_smallest) (maxL := 2) (ret := (some .int)) (by decide) rfl (Nat.le_of_ble_eq_true rfl) ?_
  intro p e s m args below meth c ls S hr hlocks hK hH hS hl
  have hx := S.1
  have hb := S.2.1
  have hts := S.2.2.2.2
  have f16 : (Cond.fieldLink RX3 16 (TX3 0).1 (TX3 0).2.1 (TX3 0).2.2.1).before args s = true := hts _ (List.mem_of_getElem? (i := 1) rfl)
  have f9 : (Cond.fieldLink RX3 9 (TX3 3).1 (TX3 3).2.1 (TX3 3).2.2.1).before args s = true := hts _ (List.mem_of_getElem? (i := 2) rfl)
  have hi3 : ∀ w ∈ wsX30, w ∈ wsX3_smallest := by decide +kernel
  have hl : lv_has ls 2 [(0, .ref (gxa Γ 3)), (1, .int row)] := hl
  obtain ⟨h_t, h_nd, h_mn, h_zs, h_40⟩ := id hM
  refine lv_aload_n hx hb dX3_smallest_0 rfl (lv_at hl 0 rfl) ?_
  refine lv_iconst (v := 0) hx hb dX3_smallest_1 (by decide) ?_
  refine pM S hi3 hK hH hS 0 (by decide) f16 (0, mn, tm, kt, Q, zs, be, kp) rfl rfl dX3_smallest_2 (fun H locs hH hS => ?_)
  refine lv_iload_n hx hb dX3_smallest_5 rfl (lv_at hl 1 rfl) ?_
  refine cSt S (c_X3_isRow (l := l) (D := D) (lo := lo) (Γ := Γ) (C := C) (V := V) (th := 0) (mn := mn) (tm := tm) (kt := kt) (Q := Q) (zs := zs) (be := be) (kp := kp) (x := row)) (va_cwS 1 hts gX3_smallest_X3_isRow rfl rfl rfl (by decide +kernel) ⟨Nat.le_of_ble_eq_true rfl, Nat.le_of_ble_eq_true rfl⟩) hK hH hS rfl hl.1 rfl (Nat.le_of_ble_eq_true rfl) dX3_smallest_6 ⟨Nat.le_of_ble_eq_true rfl, Nat.le_of_ble_eq_true rfl⟩ (fun v Z1 H locs hpost hH hS => ?_)
  obtain ⟨rfl, rfl⟩ := hpost
  rcases hrow : rowN row with _ | r
  · skip
    have e9 : (qr row (fun r => er (((tids (U r)).head?).map (zn zs)))) = (1, 0) := by unfold qr; rw [hrow]
    refine lv_if_eq (tgt := 35) hx hb dX3_smallest_9 (by decide) (fun _ => ?_) (fun h1 => absurd rfl h1)
    refine lv_aload_n hx hb dX3_smallest_35 rfl (lv_at hl 0 rfl) ?_
    refine lv_iconst (v := 1) hx hb dX3_smallest_36 (by decide) ?_
    refine cV S (c_X3_no (l := l) (D := D) (lo := lo) (Γ := Γ) (C := C) (V := V) (th := 0) (mn := mn) (tm := tm) (kt := kt) (Q := Q) (zs := zs) (be := be) (kp := kp) (n := 1)) (cwV 1 hts gX3_smallest_X3_no rfl rfl rfl (by decide +kernel) ⟨Nat.le_of_ble_eq_true rfl, Nat.le_of_ble_eq_true rfl⟩) hK hH (Hp_recv hK hH (gmo hH (j := 3) (by simp)).1 (gmo hH (j := 3) (by simp)).2.1 rfl) hS rfl hl.1 rfl (Nat.le_of_ble_eq_true rfl) dX3_smallest_37 ⟨Nat.le_of_ble_eq_true rfl, Nat.le_of_ble_eq_true rfl⟩ (fun v Z1 H locs hpost hH hS => ?_)
    obtain ⟨rfl, rfl⟩ := hpost
    exact eI S hr hlocks hH hS ⟨by rw [e9], by rw [e9]⟩ dX3_smallest_40
  · skip
    have e9 : (qr row (fun r => er (((tids (U r)).head?).map (zn zs)))) = (0, er (((tids (U r)).head?).map (zn zs))) := by unfold qr; rw [hrow]
    obtain ⟨hr6, rfl⟩ := rowN_some hrow
    obtain ⟨hR, hs⟩ := h_t r hr6
    obtain ⟨h_top, h_rep, h_n, h_ok⟩ := id hR
    have h40 : ∀ a ∈ tids (U r), a < 40 := fun a ha => (h_ok a ha).1
    have hlen : (tids (U r)).length ≤ 40 := Nat.le_trans (gids_le hr6) h_40
    have hh : hgt (U r) < 41 := Nat.lt_succ_of_le (Nat.le_trans (hgt_tids _) hlen)
    refine lv_if_eq (tgt := 35) hx hb dX3_smallest_9 (by decide) (fun h1 => absurd h1 (show ¬ (1 : Int32) = 0 by decide)) (fun _ => ?_)
    refine lv_aload_n hx hb dX3_smallest_12 rfl (lv_at hl 0 rfl) ?_
    refine lv_aload_n hx hb dX3_smallest_13 rfl (lv_at hl 0 rfl) ?_
    refine lv_aload_n hx hb dX3_smallest_14 rfl (lv_at hl 0 rfl) ?_
    refine gM S hi3 hK hH 3 (by decide) f9 (v := .ref (gna Γ)) rfl dX3_smallest_15 ?_
    refine lv_sipush (v := 200) hx hb dX3_smallest_18 (by decide +kernel) ?_
    refine lv_iload_n hx hb dX3_smallest_21 rfl (lv_at hl 1 rfl) ?_
    refine lv_iadd hx hb dX3_smallest_22 ?_
    refine gN S hK hH (n := 200 + r) (x := er (rt (U r))) (nI_ofadd (a := 200) rfl) (by have := hr6; omega) (enc_tp.trans (congrArg er h_top)) dX3_smallest_23 ?_
    refine lv_bipush (v := 40) hx hb dX3_smallest_24 (by decide +kernel) ?_
    refine cV S (c_X3_endL (l := l) (D := D) (lo := lo) (Γ := Γ) (C := C) (V := V) (th := 0) (mn := mn) (tm := tm) (kt := kt) (Q := Q) (zs := zs) (be := be) (kp := kp) h_rep h40) (cwV 2 hts gX3_smallest_X3_end rfl rfl rfl (by decide +kernel) ⟨Nat.le_of_ble_eq_true rfl, Nat.le_of_ble_eq_true rfl⟩) hK hH (Hp_recv hK hH (gmo hH (j := 3) (by simp)).1 (gmo hH (j := 3) (by simp)).2.1 rfl) hS rfl hl.1 rfl (Nat.le_of_ble_eq_true rfl) dX3_smallest_26 ⟨Nat.le_of_ble_eq_true rfl, Nat.le_of_ble_eq_true rfl⟩ (fun v Z1 H locs hpost hH hS => ?_)
    obtain ⟨rfl, rfl⟩ := hpost
    refine cV S (c_X3_sizeAt (l := l) (D := D) (lo := lo) (Γ := Γ) (C := C) (V := V) (th := 0) (mn := mn) (tm := tm) (kt := kt) (Q := Q) (zs := zs) (be := be) (kp := kp) (r := (tids (U r)).head?) (fun b h => ⟨h40 b (List.mem_of_head? h), (h_ok b (List.mem_of_head? h)).2.1⟩)) (cwV 1 hts gX3_smallest_X3_sizeAt rfl rfl rfl (by decide +kernel) ⟨Nat.le_of_ble_eq_true rfl, Nat.le_of_ble_eq_true rfl⟩) hK hH (Hp_recv hK hH (gmo hH (j := 3) (by simp)).1 (gmo hH (j := 3) (by simp)).2.1 rfl) hS rfl hl.1 rfl (Nat.le_of_ble_eq_true rfl) dX3_smallest_29 ⟨Nat.le_of_ble_eq_true rfl, Nat.le_of_ble_eq_true rfl⟩ (fun v Z1 H locs hpost hH hS => ?_)
    obtain ⟨rfl, rfl⟩ := hpost
    refine lv_goto (tgt := 40) hx hb dX3_smallest_32 (by decide) ?_
    exact eI S hr hlocks hH hS ⟨by rw [e9], by rw [e9]⟩ dX3_smallest_40

set_option maxRecDepth 100000 in
set_option maxHeartbeats 4000000 in
theorem c_X3_greatest {U : Nat → Tr} {row : Int32}  (hM : MI Q zs U mn) : Md l yX3_greatest wsX3_greatest (rmL 44 0 0) D lo Γ [.ref (gxa Γ 3), .int row] (C, (th, mn, tm, kt, Q, zs, be, kp), V) (some (.int (qr row (fun r => er (((tids (U r)).getLast?).map (zn zs)))).2)) (C, ((qr row (fun r => er (((tids (U r)).getLast?).map (zn zs)))).1, mn, tm, kt, Q, zs, be, kp), V) := by
  refine Mz_of (cc := cX3_greatest) (maxL := 2) (ret := (some .int)) (by decide) rfl (Nat.le_of_ble_eq_true rfl) ?_
  intro p e s m args below meth c ls S hr hlocks hK hH hS hl
  have hx := S.1
  have hb := S.2.1
  have hts := S.2.2.2.2
  have f16 : (Cond.fieldLink RX3 16 (TX3 0).1 (TX3 0).2.1 (TX3 0).2.2.1).before args s = true := hts _ (List.mem_of_getElem? (i := 1) rfl)
  have f9 : (Cond.fieldLink RX3 9 (TX3 3).1 (TX3 3).2.1 (TX3 3).2.2.1).before args s = true := hts _ (List.mem_of_getElem? (i := 2) rfl)
  have hi3 : ∀ w ∈ wsX30, w ∈ wsX3_greatest := by decide +kernel
  have hl : lv_has ls 2 [(0, .ref (gxa Γ 3)), (1, .int row)] := hl
  obtain ⟨h_t, h_nd, h_mn, h_zs, h_40⟩ := id hM
  refine lv_aload_n hx hb dX3_greatest_0 rfl (lv_at hl 0 rfl) ?_
  refine lv_iconst (v := 0) hx hb dX3_greatest_1 (by decide) ?_
  refine pM S hi3 hK hH hS 0 (by decide) f16 (0, mn, tm, kt, Q, zs, be, kp) rfl rfl dX3_greatest_2 (fun H locs hH hS => ?_)
  refine lv_iload_n hx hb dX3_greatest_5 rfl (lv_at hl 1 rfl) ?_
  refine cSt S (c_X3_isRow (l := l) (D := D) (lo := lo) (Γ := Γ) (C := C) (V := V) (th := 0) (mn := mn) (tm := tm) (kt := kt) (Q := Q) (zs := zs) (be := be) (kp := kp) (x := row)) (va_cwS 1 hts gX3_greatest_X3_isRow rfl rfl rfl (by decide +kernel) ⟨Nat.le_of_ble_eq_true rfl, Nat.le_of_ble_eq_true rfl⟩) hK hH hS rfl hl.1 rfl (Nat.le_of_ble_eq_true rfl) dX3_greatest_6 ⟨Nat.le_of_ble_eq_true rfl, Nat.le_of_ble_eq_true rfl⟩ (fun v Z1 H locs hpost hH hS => ?_)
  obtain ⟨rfl, rfl⟩ := hpost
  rcases hrow : rowN row with _ | r
  · skip
    have e9 : (qr row (fun r => er (((tids (U r)).getLast?).map (zn zs)))) = (1, 0) := by unfold qr; rw [hrow]
    refine lv_if_eq (tgt := 35) hx hb dX3_greatest_9 (by decide) (fun _ => ?_) (fun h1 => absurd rfl h1)
    refine lv_aload_n hx hb dX3_greatest_35 rfl (lv_at hl 0 rfl) ?_
    refine lv_iconst (v := 1) hx hb dX3_greatest_36 (by decide) ?_
    refine cV S (c_X3_no (l := l) (D := D) (lo := lo) (Γ := Γ) (C := C) (V := V) (th := 0) (mn := mn) (tm := tm) (kt := kt) (Q := Q) (zs := zs) (be := be) (kp := kp) (n := 1)) (cwV 1 hts gX3_greatest_X3_no rfl rfl rfl (by decide +kernel) ⟨Nat.le_of_ble_eq_true rfl, Nat.le_of_ble_eq_true rfl⟩) hK hH (Hp_recv hK hH (gmo hH (j := 3) (by simp)).1 (gmo hH (j := 3) (by simp)).2.1 rfl) hS rfl hl.1 rfl (Nat.le_of_ble_eq_true rfl) dX3_greatest_37 ⟨Nat.le_of_ble_eq_true rfl, Nat.le_of_ble_eq_true rfl⟩ (fun v Z1 H locs hpost hH hS => ?_)
    obtain ⟨rfl, rfl⟩ := hpost
    exact eI S hr hlocks hH hS ⟨by rw [e9], by rw [e9]⟩ dX3_greatest_40
  · skip
    have e9 : (qr row (fun r => er (((tids (U r)).getLast?).map (zn zs)))) = (0, er (((tids (U r)).getLast?).map (zn zs))) := by unfold qr; rw [hrow]
    obtain ⟨hr6, rfl⟩ := rowN_some hrow
    obtain ⟨hR, hs⟩ := h_t r hr6
    obtain ⟨h_top, h_rep, h_n, h_ok⟩ := id hR
    have h40 : ∀ a ∈ tids (U r), a < 40 := fun a ha => (h_ok a ha).1
    have hlen : (tids (U r)).length ≤ 40 := Nat.le_trans (gids_le hr6) h_40
    have hh : hgt (U r) < 41 := Nat.lt_succ_of_le (Nat.le_trans (hgt_tids _) hlen)
    refine lv_if_eq (tgt := 35) hx hb dX3_greatest_9 (by decide) (fun h1 => absurd h1 (show ¬ (1 : Int32) = 0 by decide)) (fun _ => ?_)
    refine lv_aload_n hx hb dX3_greatest_12 rfl (lv_at hl 0 rfl) ?_
    refine lv_aload_n hx hb dX3_greatest_13 rfl (lv_at hl 0 rfl) ?_
    refine lv_aload_n hx hb dX3_greatest_14 rfl (lv_at hl 0 rfl) ?_
    refine gM S hi3 hK hH 3 (by decide) f9 (v := .ref (gna Γ)) rfl dX3_greatest_15 ?_
    refine lv_sipush (v := 200) hx hb dX3_greatest_18 (by decide +kernel) ?_
    refine lv_iload_n hx hb dX3_greatest_21 rfl (lv_at hl 1 rfl) ?_
    refine lv_iadd hx hb dX3_greatest_22 ?_
    refine gN S hK hH (n := 200 + r) (x := er (rt (U r))) (nI_ofadd (a := 200) rfl) (by have := hr6; omega) (enc_tp.trans (congrArg er h_top)) dX3_greatest_23 ?_
    refine lv_bipush (v := 80) hx hb dX3_greatest_24 (by decide +kernel) ?_
    refine cV S (c_X3_endR (l := l) (D := D) (lo := lo) (Γ := Γ) (C := C) (V := V) (th := 0) (mn := mn) (tm := tm) (kt := kt) (Q := Q) (zs := zs) (be := be) (kp := kp) h_rep h40) (cwV 2 hts gX3_greatest_X3_end rfl rfl rfl (by decide +kernel) ⟨Nat.le_of_ble_eq_true rfl, Nat.le_of_ble_eq_true rfl⟩) hK hH (Hp_recv hK hH (gmo hH (j := 3) (by simp)).1 (gmo hH (j := 3) (by simp)).2.1 rfl) hS rfl hl.1 rfl (Nat.le_of_ble_eq_true rfl) dX3_greatest_26 ⟨Nat.le_of_ble_eq_true rfl, Nat.le_of_ble_eq_true rfl⟩ (fun v Z1 H locs hpost hH hS => ?_)
    obtain ⟨rfl, rfl⟩ := hpost
    refine cV S (c_X3_sizeAt (l := l) (D := D) (lo := lo) (Γ := Γ) (C := C) (V := V) (th := 0) (mn := mn) (tm := tm) (kt := kt) (Q := Q) (zs := zs) (be := be) (kp := kp) (r := (tids (U r)).getLast?) (fun b h => ⟨h40 b (List.mem_of_getLast? h), (h_ok b (List.mem_of_getLast? h)).2.1⟩)) (cwV 1 hts gX3_greatest_X3_sizeAt rfl rfl rfl (by decide +kernel) ⟨Nat.le_of_ble_eq_true rfl, Nat.le_of_ble_eq_true rfl⟩) hK hH (Hp_recv hK hH (gmo hH (j := 3) (by simp)).1 (gmo hH (j := 3) (by simp)).2.1 rfl) hS rfl hl.1 rfl (Nat.le_of_ble_eq_true rfl) dX3_greatest_29 ⟨Nat.le_of_ble_eq_true rfl, Nat.le_of_ble_eq_true rfl⟩ (fun v Z1 H locs hpost hH hS => ?_)
    obtain ⟨rfl, rfl⟩ := hpost
    refine lv_goto (tgt := 40) hx hb dX3_greatest_32 (by decide) ?_
    exact eI S hr hlocks hH hS ⟨by rw [e9], by rw [e9]⟩ dX3_greatest_40

set_option maxRecDepth 100000 in
set_option maxHeartbeats 4000000 in
theorem c_X3_lowest {U : Nat → Tr} {r : Nat} (hr6 : r < 6) (hM : MI Q zs U mn) : Md l yX3_lowest wsX3_lowest (rmL 43 0 0) D lo Γ [.ref (gxa Γ 3), .int (nI r)] (C, (th, mn, tm, kt, Q, zs, be, kp), V) (some (.int (nI (lh (tids (U r)).length)))) (C, (th, mn, tm, kt, Q, zs, be, kp), V) := by
  refine Mz_of (cc := cX3_lowest) (maxL := 4) (ret := (some .int)) (by decide) rfl (Nat.le_of_ble_eq_true rfl) ?_
  intro p e s m args below meth c ls S hr hlocks hK hH hS hl
  have hx := S.1
  have hb := S.2.1
  have hts := S.2.2.2.2
  have f9 : (Cond.fieldLink RX3 9 (TX3 3).1 (TX3 3).2.1 (TX3 3).2.2.1).before args s = true := hts _ (List.mem_of_getElem? (i := 1) rfl)
  have hi3 : ∀ w ∈ wsX30, w ∈ wsX3_lowest := by decide +kernel
  have hl : lv_has ls 4 [(0, .ref (gxa Γ 3)), (1, .int (nI r))] := hl
  obtain ⟨h_t, h_nd, h_mn, h_zs, h_40⟩ := id hM
  obtain ⟨hR, hs⟩ := h_t r hr6
  obtain ⟨h_top, h_rep, h_n, h_ok⟩ := id hR
  have h40 : ∀ a ∈ tids (U r), a < 40 := fun a ha => (h_ok a ha).1
  have hlen : (tids (U r)).length ≤ 40 := Nat.le_trans (gids_le hr6) h_40
  have hh : hgt (U r) < 41 := Nat.lt_succ_of_le (Nat.le_trans (hgt_tids _) hlen)
  refine lv_aload_n hx hb dX3_lowest_0 rfl (lv_at hl 0 rfl) ?_
  refine lv_aload_n hx hb dX3_lowest_1 rfl (lv_at hl 0 rfl) ?_
  refine gM S hi3 hK hH 3 (by decide) f9 (v := .ref (gna Γ)) rfl dX3_lowest_2 ?_
  refine lv_sipush (v := 200) hx hb dX3_lowest_5 (by decide +kernel) ?_
  refine lv_iload_n hx hb dX3_lowest_8 rfl (lv_at hl 1 rfl) ?_
  refine lv_iadd hx hb dX3_lowest_9 ?_
  refine gN S hK hH (n := 200 + r) (x := er (rt (U r))) (nI_ofadd (a := 200) rfl) (by have := hr6; omega) (enc_tp.trans (congrArg er h_top)) dX3_lowest_10 ?_
  refine cV S (c_X3_count (l := l) (D := D) (lo := lo) (Γ := Γ) (C := C) (V := V) (th := th) (mn := mn) (tm := tm) (kt := kt) (Q := Q) (zs := zs) (be := be) (kp := kp) (U r) 41 none hh h_rep h40) (cwV 1 hts gX3_lowest_X3_count rfl rfl rfl (by decide +kernel) ⟨Nat.le_of_ble_eq_true rfl, Nat.le_of_ble_eq_true rfl⟩) hK hH (Hp_recv hK hH (gmo hH (j := 3) (by simp)).1 (gmo hH (j := 3) (by simp)).2.1 rfl) hS rfl hl.1 rfl (Nat.le_of_ble_eq_true rfl) dX3_lowest_11 ⟨Nat.le_of_ble_eq_true rfl, Nat.le_of_ble_eq_true rfl⟩ (fun v Z1 H locs hpost hH hS => ?_)
  obtain ⟨rfl, rfl⟩ := hpost
  refine lv_istore_n (lv' := [(2, .int (nI (tids (U r)).length)), (0, .ref (gxa Γ 3)), (1, .int (nI r))]) hx hb dX3_lowest_14 rfl hl (by decide) rfl (fun ls hl => ?_)
  refine lv_iconst (v := 0) hx hb dX3_lowest_15 (by decide) ?_
  refine lv_istore_n (lv' := [(3, .int 0), (2, .int (nI (tids (U r)).length)), (0, .ref (gxa Γ 3)), (1, .int (nI r))]) hx hb dX3_lowest_16 rfl hl (by decide) rfl (fun ls hl => ?_)
  have loop : ∀ (f n9 acc : Nat), n9 < 41 → n9 < 2 ^ f → lhF f n9 + acc = lh (tids (U r)).length → ∀ ls, lv_has ls 4 [(3, .int (nI acc)), (2, .int (nI n9)), (0, .ref (gxa Γ 3))] → W p l e (rmL 43 0 0) s m args below meth c H locs 0 0 (MQ below (Qz D lo Γ (fun v Z' => v = (some (.int (nI (lh (tids (U r)).length)))) ∧ Z' = (C, (th, mn, tm, kt, Q, zs, be, kp), V))) args s ((rmL 43 0 0) : Room).cells ((rmL 43 0 0) : Room).slots (lA lo)) (F0 m 17 ls []) := by
    intro f
    induction f with
    | zero =>
      intro n9 acc h41 hf he ls hl
      have hn0 : n9 = 0 := by omega
      subst hn0
      refine lv_iload_n hx hb dX3_lowest_17 rfl (lv_at hl 1 rfl) ?_
      refine lv_if_le (tgt := 31) hx hb dX3_lowest_18 (by decide) (fun _ => ?_) (fun h1 => absurd (by decide) h1)
      refine lv_iload_n hx hb dX3_lowest_31 rfl (lv_at hl 0 rfl) ?_
      exact eI S hr hlocks hH hS ⟨by rw [← he, lhF, Nat.zero_add], rfl⟩ dX3_lowest_32
    | succ f ih =>
      intro n9 acc h41 hf he ls hl
      refine lv_iload_n hx hb dX3_lowest_17 rfl (lv_at hl 1 rfl) ?_
      refine lv_if_le (tgt := 31) hx hb dX3_lowest_18 (by decide) (fun h1 => ?_) (fun h1 => ?_)
      · skip
        have hn0 : n9 = 0 := Decidable.byContradiction fun q => absurd h1 (nI_nle (by omega) (by omega))
        subst hn0
        refine lv_iload_n hx hb dX3_lowest_31 rfl (lv_at hl 0 rfl) ?_
        exact eI S hr hlocks hH hS ⟨by rw [← he, lhF, if_pos rfl, Nat.zero_add], rfl⟩ dX3_lowest_32
      · skip
        have hn0 : n9 ≠ 0 := fun q => h1 (by subst q; decide)
        rw [lhF, if_neg hn0] at he
        refine lv_iload_n hx hb dX3_lowest_21 rfl (lv_at hl 1 rfl) ?_
        refine lv_iconst (v := 2) hx hb dX3_lowest_22 (by decide) ?_
        refine lv_idiv hx hb dX3_lowest_23 (by decide) ?_
        rw [nI_half n9 h41]
        refine lv_istore_n (lv' := [(2, .int (nI (n9 / 2))), (3, .int (nI acc)), (0, .ref (gxa Γ 3))]) hx hb dX3_lowest_24 rfl hl (by decide) rfl (fun ls hl => ?_)
        refine lv_iinc (v := nI (acc + 1)) (lv' := [(3, .int (nI (acc + 1))), (2, .int (nI (n9 / 2))), (0, .ref (gxa Γ 3))]) hx hb dX3_lowest_25 hl (k := 1) rfl (nI_1 acc) (by decide) rfl (fun ls hl => ?_)
        refine lv_goto (tgt := 17) hx hb dX3_lowest_28 (by decide) ?_
        exact ih (n9 / 2) (acc + 1) (by omega) (by rw [Nat.pow_succ] at hf; omega) (by omega) ls (lv_sub hl [0, 1, 2] rfl)
  exact loop 64 (tids (U r)).length 0 (by omega) (Nat.lt_of_lt_of_le (show _ < 2 ^ 6 by omega) (Nat.pow_le_pow_right (by decide) (by decide))) rfl ls (lv_sub hl [0, 1, 2] rfl)

set_option maxRecDepth 100000 in
set_option maxHeartbeats 4000000 in
theorem c_X3_leastHeight {U : Nat → Tr} {row : Int32}  (hM : MI Q zs U mn) : Md l yX3_leastHeight wsX3_leastHeight (rmL 44 0 0) D lo Γ [.ref (gxa Γ 3), .int row] (C, (th, mn, tm, kt, Q, zs, be, kp), V) (some (.int (qr row (fun r => nI (lh (tids (U r)).length))).2)) (C, ((qr row (fun r => nI (lh (tids (U r)).length))).1, mn, tm, kt, Q, zs, be, kp), V) := by
  refine Mz_of (cc := cX3_leastHeight) (maxL := 2) (ret := (some .int)) (by decide) rfl (Nat.le_of_ble_eq_true rfl) ?_
  intro p e s m args below meth c ls S hr hlocks hK hH hS hl
  have hx := S.1
  have hb := S.2.1
  have hts := S.2.2.2.2
  have f16 : (Cond.fieldLink RX3 16 (TX3 0).1 (TX3 0).2.1 (TX3 0).2.2.1).before args s = true := hts _ (List.mem_of_getElem? (i := 1) rfl)
  have hi3 : ∀ w ∈ wsX30, w ∈ wsX3_leastHeight := by decide +kernel
  have hl : lv_has ls 2 [(0, .ref (gxa Γ 3)), (1, .int row)] := hl
  obtain ⟨h_t, h_nd, h_mn, h_zs, h_40⟩ := id hM
  refine lv_aload_n hx hb dX3_leastHeight_0 rfl (lv_at hl 0 rfl) ?_
  refine lv_iconst (v := 0) hx hb dX3_leastHeight_1 (by decide) ?_
  refine pM S hi3 hK hH hS 0 (by decide) f16 (0, mn, tm, kt, Q, zs, be, kp) rfl rfl dX3_leastHeight_2 (fun H locs hH hS => ?_)
  refine lv_iload_n hx hb dX3_leastHeight_5 rfl (lv_at hl 1 rfl) ?_
  refine cSt S (c_X3_isRow (l := l) (D := D) (lo := lo) (Γ := Γ) (C := C) (V := V) (th := 0) (mn := mn) (tm := tm) (kt := kt) (Q := Q) (zs := zs) (be := be) (kp := kp) (x := row)) (va_cwS 1 hts gX3_leastHeight_X3_isRow rfl rfl rfl (by decide +kernel) ⟨Nat.le_of_ble_eq_true rfl, Nat.le_of_ble_eq_true rfl⟩) hK hH hS rfl hl.1 rfl (Nat.le_of_ble_eq_true rfl) dX3_leastHeight_6 ⟨Nat.le_of_ble_eq_true rfl, Nat.le_of_ble_eq_true rfl⟩ (fun v Z1 H locs hpost hH hS => ?_)
  obtain ⟨rfl, rfl⟩ := hpost
  rcases hrow : rowN row with _ | r
  · skip
    have e9 : (qr row (fun r => nI (lh (tids (U r)).length))) = (1, 0) := by unfold qr; rw [hrow]
    refine lv_if_eq (tgt := 20) hx hb dX3_leastHeight_9 (by decide) (fun _ => ?_) (fun h1 => absurd rfl h1)
    refine lv_aload_n hx hb dX3_leastHeight_20 rfl (lv_at hl 0 rfl) ?_
    refine lv_iconst (v := 1) hx hb dX3_leastHeight_21 (by decide) ?_
    refine cV S (c_X3_no (l := l) (D := D) (lo := lo) (Γ := Γ) (C := C) (V := V) (th := 0) (mn := mn) (tm := tm) (kt := kt) (Q := Q) (zs := zs) (be := be) (kp := kp) (n := 1)) (cwV 1 hts gX3_leastHeight_X3_no rfl rfl rfl (by decide +kernel) ⟨Nat.le_of_ble_eq_true rfl, Nat.le_of_ble_eq_true rfl⟩) hK hH (Hp_recv hK hH (gmo hH (j := 3) (by simp)).1 (gmo hH (j := 3) (by simp)).2.1 rfl) hS rfl hl.1 rfl (Nat.le_of_ble_eq_true rfl) dX3_leastHeight_22 ⟨Nat.le_of_ble_eq_true rfl, Nat.le_of_ble_eq_true rfl⟩ (fun v Z1 H locs hpost hH hS => ?_)
    obtain ⟨rfl, rfl⟩ := hpost
    exact eI S hr hlocks hH hS ⟨by rw [e9], by rw [e9]⟩ dX3_leastHeight_25
  · skip
    have e9 : (qr row (fun r => nI (lh (tids (U r)).length))) = (0, nI (lh (tids (U r)).length)) := by unfold qr; rw [hrow]
    obtain ⟨hr6, rfl⟩ := rowN_some hrow
    obtain ⟨hR, hs⟩ := h_t r hr6
    obtain ⟨h_top, h_rep, h_n, h_ok⟩ := id hR
    have h40 : ∀ a ∈ tids (U r), a < 40 := fun a ha => (h_ok a ha).1
    have hlen : (tids (U r)).length ≤ 40 := Nat.le_trans (gids_le hr6) h_40
    have hh : hgt (U r) < 41 := Nat.lt_succ_of_le (Nat.le_trans (hgt_tids _) hlen)
    refine lv_if_eq (tgt := 20) hx hb dX3_leastHeight_9 (by decide) (fun h1 => absurd h1 (show ¬ (1 : Int32) = 0 by decide)) (fun _ => ?_)
    refine lv_aload_n hx hb dX3_leastHeight_12 rfl (lv_at hl 0 rfl) ?_
    refine lv_iload_n hx hb dX3_leastHeight_13 rfl (lv_at hl 1 rfl) ?_
    refine cV S (c_X3_lowest (l := l) (D := D) (lo := lo) (Γ := Γ) (C := C) (V := V) (th := 0) (mn := mn) (tm := tm) (kt := kt) (Q := Q) (zs := zs) (be := be) (kp := kp) hr6 hM) (cwV 1 hts gX3_leastHeight_X3_lowest rfl rfl rfl (by decide +kernel) ⟨Nat.le_of_ble_eq_true rfl, Nat.le_of_ble_eq_true rfl⟩) hK hH (Hp_recv hK hH (gmo hH (j := 3) (by simp)).1 (gmo hH (j := 3) (by simp)).2.1 rfl) hS rfl hl.1 rfl (Nat.le_of_ble_eq_true rfl) dX3_leastHeight_14 ⟨Nat.le_of_ble_eq_true rfl, Nat.le_of_ble_eq_true rfl⟩ (fun v Z1 H locs hpost hH hS => ?_)
    obtain ⟨rfl, rfl⟩ := hpost
    refine lv_goto (tgt := 25) hx hb dX3_leastHeight_17 (by decide) ?_
    exact eI S hr hlocks hH hS ⟨by rw [e9], by rw [e9]⟩ dX3_leastHeight_25
end MMod4
