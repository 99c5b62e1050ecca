/-! METHODS of the reference: what it answers of an apple -/
def ak (U : Nat → Tr) (zs : Nat → Option Nat) (row x : Int32) : Nat × Option Nat := match rowN row with
  | none => (1, none)
  | some r => match fnd (zn zs) x.toInt (U r) with
    | none => (2, none)
    | some a => (0, some a)
section MMod5
variable {l : Launch} {D : va_G} {lo : Nat} {Γ : GT} {C : CW} {V : Int64 × UInt64} {th mn tm kt : Nat} {Q : PF} {zs : Nat → Option Nat} {be : Nat → Nat} {kp : Nat → Int32}
set_option maxRecDepth 100000 in
set_option maxHeartbeats 4000000 in
theorem c_X3_apples  : Md l yX3_apples wsX3_apples (rmL 2 0 0) D lo Γ [.ref (gxa Γ 3)] (C, (th, mn, tm, kt, Q, zs, be, kp), V) (some (.int (nI mn))) (C, (0, mn, tm, kt, Q, zs, be, kp), V) := by
  refine Mz_of (cc := cX3_apples) (maxL := 1) (ret := (some .int)) (by decide) rfl (Nat.le_of_ble_eq_true rfl) ?_
  intro p e s m args below meth c ls S hr hlocks hK hH hS hl
  have hx := S.1
  have hb := S.2.1
  have hts := S.2.2.2.2
  have f78 : (Cond.fieldLink RX3 78 (TX3 1).1 (TX3 1).2.1 (TX3 1).2.2.1).before args s = true := hts _ (List.mem_of_getElem? (i := 1) rfl)
  have hi3 : ∀ w ∈ wsX30, w ∈ wsX3_apples := by decide +kernel
  have hl : lv_has ls 1 [(0, .ref (gxa Γ 3))] := hl
  refine lv_aload_n hx hb dX3_apples_0 rfl (lv_at hl 0 rfl) ?_
  refine lv_aload_n hx hb dX3_apples_1 rfl (lv_at hl 0 rfl) ?_
  refine gM S hi3 hK hH 1 (by decide) f78 (v := .int (nI mn)) rfl dX3_apples_2 ?_
  refine cV S (c_X3_ok (l := l) (D := D) (lo := lo) (Γ := Γ) (C := C) (V := V) (th := th) (mn := mn) (tm := tm) (kt := kt) (Q := Q) (zs := zs) (be := be) (kp := kp) (x := nI mn)) (cwV 1 hts gX3_apples_X3_ok rfl rfl rfl (by decide +kernel) ⟨Nat.le_of_ble_eq_true rfl, Nat.le_of_ble_eq_true rfl⟩) hK hH (Hp_recv hK hH (gmo hH (j := 3) (by simp)).1 (gmo hH (j := 3) (by simp)).2.1 rfl) hS rfl hl.1 rfl (Nat.le_of_ble_eq_true rfl) dX3_apples_5 ⟨Nat.le_of_ble_eq_true rfl, Nat.le_of_ble_eq_true rfl⟩ (fun v Z1 H locs hpost hH hS => ?_)
  obtain ⟨rfl, rfl⟩ := hpost
  exact eI S hr hlocks hH hS ⟨rfl, rfl⟩ dX3_apples_8

set_option maxRecDepth 100000 in
set_option maxHeartbeats 4000000 in
theorem c_X3_turnings  : Md l yX3_turnings wsX3_turnings (rmL 2 0 0) D lo Γ [.ref (gxa Γ 3)] (C, (th, mn, tm, kt, Q, zs, be, kp), V) (some (.int (nI tm))) (C, (0, mn, tm, kt, Q, zs, be, kp), V) := by
  refine Mz_of (cc := cX3_turnings) (maxL := 1) (ret := (some .int)) (by decide) rfl (Nat.le_of_ble_eq_true rfl) ?_
  intro p e s m args below meth c ls S hr hlocks hK hH hS hl
  have hx := S.1
  have hb := S.2.1
  have hts := S.2.2.2.2
  have f26 : (Cond.fieldLink RX3 26 (TX3 2).1 (TX3 2).2.1 (TX3 2).2.2.1).before args s = true := hts _ (List.mem_of_getElem? (i := 1) rfl)
  have hi3 : ∀ w ∈ wsX30, w ∈ wsX3_turnings := by decide +kernel
  have hl : lv_has ls 1 [(0, .ref (gxa Γ 3))] := hl
  refine lv_aload_n hx hb dX3_turnings_0 rfl (lv_at hl 0 rfl) ?_
  refine lv_aload_n hx hb dX3_turnings_1 rfl (lv_at hl 0 rfl) ?_
  refine gM S hi3 hK hH 2 (by decide) f26 (v := .int (nI tm)) rfl dX3_turnings_2 ?_
  refine cV S (c_X3_ok (l := l) (D := D) (lo := lo) (Γ := Γ) (C := C) (V := V) (th := th) (mn := mn) (tm := tm) (kt := kt) (Q := Q) (zs := zs) (be := be) (kp := kp) (x := nI tm)) (cwV 1 hts gX3_turnings_X3_ok rfl rfl rfl (by decide +kernel) ⟨Nat.le_of_ble_eq_true rfl, Nat.le_of_ble_eq_true rfl⟩) hK hH (Hp_recv hK hH (gmo hH (j := 3) (by simp)).1 (gmo hH (j := 3) (by simp)).2.1 rfl) hS rfl hl.1 rfl (Nat.le_of_ble_eq_true rfl) dX3_turnings_5 ⟨Nat.le_of_ble_eq_true rfl, Nat.le_of_ble_eq_true rfl⟩ (fun v Z1 H locs hpost hH hS => ?_)
  obtain ⟨rfl, rfl⟩ := hpost
  exact eI S hr hlocks hH hS ⟨rfl, rfl⟩ dX3_turnings_8

set_option maxRecDepth 100000 in
set_option maxHeartbeats 4000000 in
theorem c_X3_has {U : Nat → Tr} {row : Int32} {x : Int32} (hM : MI Q zs U mn) : Md l yX3_has wsX3_has (rmL 44 0 0) D lo Γ [.ref (gxa Γ 3), .int row, .int x] (C, (th, mn, tm, kt, Q, zs, be, kp), V) (some (.int (qr row (fun r => if (fnd (zn zs) x.toInt (U r)).isSome then 1 else 0)).2)) (C, ((qr row (fun r => if (fnd (zn zs) x.toInt (U r)).isSome then 1 else 0)).1, mn, tm, kt, Q, zs, be, kp), V) := by
  refine Mz_of (cc := cX3_has) (maxL := 3) (ret := (some .boolean)) (by decide) rfl (Nat.le_of_ble_eq_true rfl) ?_
  intro p e s m args below meth c ls S hr hlocks hK hH hS hl
  have hx := S.1
  have hb := S.2.1
  have hts := S.2.2.2.2
  have f16 : (Cond.fieldLink RX3 16 (TX3 0).1 (TX3 0).2.1 (TX3 0).2.2.1).before args s = true := hts _ (List.mem_of_getElem? (i := 1) rfl)
  have hi3 : ∀ w ∈ wsX30, w ∈ wsX3_has := by decide +kernel
  have hl : lv_has ls 3 [(0, .ref (gxa Γ 3)), (1, .int row), (2, .int x)] := hl
  obtain ⟨h_t, h_nd, h_mn, h_zs, h_40⟩ := id hM
  refine lv_aload_n hx hb dX3_has_0 rfl (lv_at hl 0 rfl) ?_
  refine lv_iconst (v := 0) hx hb dX3_has_1 (by decide) ?_
  refine pM S hi3 hK hH hS 0 (by decide) f16 (0, mn, tm, kt, Q, zs, be, kp) rfl rfl dX3_has_2 (fun H locs hH hS => ?_)
  refine lv_iload_n hx hb dX3_has_5 rfl (lv_at hl 1 rfl) ?_
  refine cSt S (c_X3_isRow (l := l) (D := D) (lo := lo) (Γ := Γ) (C := C) (V := V) (th := 0) (mn := mn) (tm := tm) (kt := kt) (Q := Q) (zs := zs) (be := be) (kp := kp) (x := row)) (va_cwS 1 hts gX3_has_X3_isRow rfl rfl rfl (by decide +kernel) ⟨Nat.le_of_ble_eq_true rfl, Nat.le_of_ble_eq_true rfl⟩) hK hH hS rfl hl.1 rfl (Nat.le_of_ble_eq_true rfl) dX3_has_6 ⟨Nat.le_of_ble_eq_true rfl, Nat.le_of_ble_eq_true rfl⟩ (fun v Z1 H locs hpost hH hS => ?_)
  obtain ⟨rfl, rfl⟩ := hpost
  rcases hrow : rowN row with _ | r
  · skip
    have e9 : (qr row (fun r => if (fnd (zn zs) x.toInt (U r)).isSome then 1 else 0)) = (1, 0) := by unfold qr; rw [hrow]
    refine lv_if_eq (tgt := 30) hx hb dX3_has_9 (by decide) (fun _ => ?_) (fun h1 => absurd rfl h1)
    refine lv_aload_n hx hb dX3_has_30 rfl (lv_at hl 0 rfl) ?_
    refine lv_iconst (v := 1) hx hb dX3_has_31 (by decide) ?_
    refine cV S (c_X3_isNot (l := l) (D := D) (lo := lo) (Γ := Γ) (C := C) (V := V) (th := 0) (mn := mn) (tm := tm) (kt := kt) (Q := Q) (zs := zs) (be := be) (kp := kp) (n := 1)) (cwV 1 hts gX3_has_X3_isNot rfl rfl rfl (by decide +kernel) ⟨Nat.le_of_ble_eq_true rfl, Nat.le_of_ble_eq_true rfl⟩) hK hH (Hp_recv hK hH (gmo hH (j := 3) (by simp)).1 (gmo hH (j := 3) (by simp)).2.1 rfl) hS rfl hl.1 rfl (Nat.le_of_ble_eq_true rfl) dX3_has_32 ⟨Nat.le_of_ble_eq_true rfl, Nat.le_of_ble_eq_true rfl⟩ (fun v Z1 H locs hpost hH hS => ?_)
    obtain ⟨rfl, rfl⟩ := hpost
    exact eZ S hr hlocks (Or.inl rfl) hH hS ⟨by rw [e9], by rw [e9]⟩ dX3_has_35
  · skip
    have e9 : (qr row (fun r => if (fnd (zn zs) x.toInt (U r)).isSome then 1 else 0)) = (0, if (fnd (zn zs) x.toInt (U r)).isSome then 1 else 0) := by unfold qr; rw [hrow]
    obtain ⟨hr6, rfl⟩ := rowN_some hrow
    obtain ⟨hR, hs⟩ := h_t r hr6
    obtain ⟨h_top, h_rep, h_n, h_ok⟩ := id hR
    have h40 : ∀ a ∈ tids (U r), a < 40 := fun a ha => (h_ok a ha).1
    have hlen : (tids (U r)).length ≤ 40 := Nat.le_trans (gids_le hr6) h_40
    have hh : hgt (U r) < 41 := Nat.lt_succ_of_le (Nat.le_trans (hgt_tids _) hlen)
    refine lv_if_eq (tgt := 30) hx hb dX3_has_9 (by decide) (fun h1 => absurd h1 (show ¬ (1 : Int32) = 0 by decide)) (fun _ => ?_)
    refine lv_aload_n hx hb dX3_has_12 rfl (lv_at hl 0 rfl) ?_
    refine lv_iload_n hx hb dX3_has_13 rfl (lv_at hl 1 rfl) ?_
    refine lv_iload_n hx hb dX3_has_14 rfl (lv_at hl 2 rfl) ?_
    refine cV S (c_X3_find (l := l) (D := D) (lo := lo) (Γ := Γ) (C := C) (V := V) (th := 0) (mn := mn) (tm := tm) (kt := kt) (Q := Q) (zs := zs) (be := be) (kp := kp) (x := x) hr6 hR) (cwV 2 hts gX3_has_X3_find rfl rfl rfl (by decide +kernel) ⟨Nat.le_of_ble_eq_true rfl, Nat.le_of_ble_eq_true rfl⟩) hK hH (Hp_recv hK hH (gmo hH (j := 3) (by simp)).1 (gmo hH (j := 3) (by simp)).2.1 rfl) hS rfl hl.1 rfl (Nat.le_of_ble_eq_true rfl) dX3_has_15 ⟨Nat.le_of_ble_eq_true rfl, Nat.le_of_ble_eq_true rfl⟩ (fun v Z1 H locs hpost hH hS => ?_)
    obtain ⟨rfl, rfl⟩ := hpost
    refine lv_iconst (v := -1) hx hb dX3_has_18 (by decide) ?_
    cases hf : fnd (zn zs) x.toInt (U r) with
    | none =>
      rw [hf] at e9
      refine lv_icmp_eq (tgt := 26) hx hb dX3_has_19 (by decide) (fun _ => ?_) (fun h1 => absurd rfl h1)
      refine lv_iconst (v := 0) hx hb dX3_has_26 (by decide) ?_
      refine lv_goto (tgt := 35) hx hb dX3_has_27 (by decide) ?_
      exact eZ S hr hlocks (Or.inl rfl) hH hS ⟨by rw [e9]; rfl, by rw [e9]⟩ dX3_has_35
    | some a =>
      rw [hf] at e9
      have lt_a := h40 a (fnd_mem _ _ hf).1
      refine lv_icmp_eq (tgt := 26) hx hb dX3_has_19 (by decide) (fun h1 => absurd h1 (nI_nm1 (Nat.lt_trans lt_a (by decide)))) (fun _ => ?_)
      refine lv_iconst (v := 1) hx hb dX3_has_22 (by decide) ?_
      refine lv_goto (tgt := 35) hx hb dX3_has_23 (by decide) ?_
      exact eZ S hr hlocks (Or.inr rfl) hH hS ⟨by rw [e9]; rfl, by rw [e9]⟩ dX3_has_35

set_option maxRecDepth 100000 in
set_option maxHeartbeats 4000000 in
theorem c_X3_asked {U : Nat → Tr} {row x : Int32} (hM : MI Q zs U mn) : Md l yX3_asked wsX3_asked (rmL 3 0 0) D lo Γ [.ref (gxa Γ 3), .int row, .int x] (C, (th, mn, tm, kt, Q, zs, be, kp), V) (some (.int (er (ak U zs row x).2))) (C, ((ak U zs row x).1, mn, tm, kt, Q, zs, be, kp), V) := by
  refine Mz_of (cc := cX3_asked) (maxL := 4) (ret := (some .int)) (by decide) rfl (Nat.le_of_ble_eq_true rfl) ?_
  intro p e s m args below meth c ls S hr hlocks hK hH hS hl
  have hx := S.1
  have hb := S.2.1
  have hts := S.2.2.2.2
  have f16 : (Cond.fieldLink RX3 16 (TX3 0).1 (TX3 0).2.1 (TX3 0).2.2.1).before args s = true := hts _ (List.mem_of_getElem? (i := 1) rfl)
  have hi3 : ∀ w ∈ wsX30, w ∈ wsX3_asked := by decide +kernel
  have hl : lv_has ls 4 [(0, .ref (gxa Γ 3)), (1, .int row), (2, .int x)] := hl
  obtain ⟨h_t, h_nd, h_mn, h_zs, h_40⟩ := id hM
  refine lv_aload_n hx hb dX3_asked_0 rfl (lv_at hl 0 rfl) ?_
  refine lv_iconst (v := 0) hx hb dX3_asked_1 (by decide) ?_
  refine pM S hi3 hK hH hS 0 (by decide) f16 (0, mn, tm, kt, Q, zs, be, kp) rfl rfl dX3_asked_2 (fun H locs hH hS => ?_)
  refine lv_iload_n hx hb dX3_asked_5 rfl (lv_at hl 1 rfl) ?_
  refine cSt S (c_X3_isRow (l := l) (D := D) (lo := lo) (Γ := Γ) (C := C) (V := V) (th := 0) (mn := mn) (tm := tm) (kt := kt) (Q := Q) (zs := zs) (be := be) (kp := kp) (x := row)) (va_cwS 1 hts gX3_asked_X3_isRow rfl rfl rfl (by decide +kernel) ⟨Nat.le_of_ble_eq_true rfl, Nat.le_of_ble_eq_true rfl⟩) hK hH hS rfl hl.1 rfl (Nat.le_of_ble_eq_true rfl) dX3_asked_6 ⟨Nat.le_of_ble_eq_true rfl, Nat.le_of_ble_eq_true rfl⟩ (fun v Z1 H locs hpost hH hS => ?_)
  obtain ⟨rfl, rfl⟩ := hpost
  rcases hrow : rowN row with _ | r
  · skip
    have e9 : ak U zs row x = (1, none) := by unfold ak; rw [hrow]
    refine lv_if_ne (tgt := 20) hx hb dX3_asked_9 (by decide) (fun h1 => absurd rfl h1) (fun _ => ?_)
    refine lv_aload_n hx hb dX3_asked_12 rfl (lv_at hl 0 rfl) ?_
    refine lv_iconst (v := 1) hx hb dX3_asked_13 (by decide) ?_
    refine cV S (c_X3_no (l := l) (D := D) (lo := lo) (Γ := Γ) (C := C) (V := V) (th := 0) (mn := mn) (tm := tm) (kt := kt) (Q := Q) (zs := zs) (be := be) (kp := kp) (n := 1)) (cwV 1 hts gX3_asked_X3_no rfl rfl rfl (by decide +kernel) ⟨Nat.le_of_ble_eq_true rfl, Nat.le_of_ble_eq_true rfl⟩) hK hH (Hp_recv hK hH (gmo hH (j := 3) (by simp)).1 (gmo hH (j := 3) (by simp)).2.1 rfl) hS rfl hl.1 rfl (Nat.le_of_ble_eq_true rfl) dX3_asked_14 ⟨Nat.le_of_ble_eq_true rfl, Nat.le_of_ble_eq_true rfl⟩ (fun v Z1 H locs hpost hH hS => ?_)
    obtain ⟨rfl, rfl⟩ := hpost
    refine lv_iconst (v := -1) hx hb dX3_asked_17 (by decide) ?_
    refine lv_iadd hx hb dX3_asked_18 ?_
    exact eI S hr hlocks hH hS ⟨by rw [e9]; rfl, by rw [e9]⟩ dX3_asked_19
  · skip
    obtain ⟨hr6, rfl⟩ := rowN_some hrow
    obtain ⟨hR, hs⟩ := h_t r hr6
    obtain ⟨h_top, h_rep, h_n, h_ok⟩ := id hR
    have h40 : ∀ a ∈ tids (U r), a < 40 := fun a ha => (h_ok a ha).1
    have hlen : (tids (U r)).length ≤ 40 := Nat.le_trans (gids_le hr6) h_40
    have hh : hgt (U r) < 41 := Nat.lt_succ_of_le (Nat.le_trans (hgt_tids _) hlen)
    refine lv_if_ne (tgt := 20) hx hb dX3_asked_9 (by decide) (fun _ => ?_) (fun h1 => absurd h1 (show ¬ (1 : Int32) = 0 by decide))
    refine lv_aload_n hx hb dX3_asked_20 rfl (lv_at hl 0 rfl) ?_
    refine lv_iload_n hx hb dX3_asked_21 rfl (lv_at hl 1 rfl) ?_
    refine lv_iload_n hx hb dX3_asked_22 rfl (lv_at hl 2 rfl) ?_
    refine cV S (c_X3_find (l := l) (D := D) (lo := lo) (Γ := Γ) (C := C) (V := V) (th := 0) (mn := mn) (tm := tm) (kt := kt) (Q := Q) (zs := zs) (be := be) (kp := kp) (x := x) hr6 hR) (cwV 2 hts gX3_asked_X3_find rfl rfl rfl (by decide +kernel) ⟨Nat.le_of_ble_eq_true rfl, Nat.le_of_ble_eq_true rfl⟩) hK hH (Hp_recv hK hH (gmo hH (j := 3) (by simp)).1 (gmo hH (j := 3) (by simp)).2.1 rfl) hS rfl hl.1 rfl (Nat.le_of_ble_eq_true rfl) dX3_asked_23 ⟨Nat.le_of_ble_eq_true rfl, Nat.le_of_ble_eq_true rfl⟩ (fun v Z1 H locs hpost hH hS => ?_)
    obtain ⟨rfl, rfl⟩ := hpost
    cases hf : fnd (zn zs) x.toInt (U r) with
    | none =>
      have e9 : ak U zs (nI r) x = (2, none) := by unfold ak; rw [hrow]; dsimp only; rw [hf]
      refine lv_istore_n (lv' := [(3, .int (-1)), (0, .ref (gxa Γ 3)), (1, .int (nI r)), (2, .int x)]) hx hb dX3_asked_26 rfl hl (by decide) rfl (fun ls hl => ?_)
      refine lv_iload_n hx hb dX3_asked_27 rfl (lv_at hl 0 rfl) ?_
      refine lv_iconst (v := -1) hx hb dX3_asked_28 (by decide) ?_
      refine lv_icmp_ne (tgt := 42) hx hb dX3_asked_29 (by decide) (fun h1 => absurd rfl h1) (fun _ => ?_)
      refine lv_aload_n hx hb dX3_asked_32 rfl (lv_at hl 1 rfl) ?_
      refine lv_iconst (v := 2) hx hb dX3_asked_33 (by decide) ?_
      refine cV S (c_X3_no (l := l) (D := D) (lo := lo) (Γ := Γ) (C := C) (V := V) (th := 0) (mn := mn) (tm := tm) (kt := kt) (Q := Q) (zs := zs) (be := be) (kp := kp) (n := 2)) (cwV 1 hts gX3_asked_X3_no rfl rfl rfl (by decide +kernel) ⟨Nat.le_of_ble_eq_true rfl, Nat.le_of_ble_eq_true rfl⟩) hK hH (Hp_recv hK hH (gmo hH (j := 3) (by simp)).1 (gmo hH (j := 3) (by simp)).2.1 rfl) hS rfl hl.1 rfl (Nat.le_of_ble_eq_true rfl) dX3_asked_34 ⟨Nat.le_of_ble_eq_true rfl, Nat.le_of_ble_eq_true rfl⟩ (fun v Z1 H locs hpost hH hS => ?_)
      obtain ⟨rfl, rfl⟩ := hpost
      refine lv_iconst (v := -1) hx hb dX3_asked_37 (by decide) ?_
      refine lv_iadd hx hb dX3_asked_38 ?_
      refine lv_goto (tgt := 43) hx hb dX3_asked_39 (by decide) ?_
      exact eI S hr hlocks hH hS ⟨by rw [e9]; rfl, by rw [e9]⟩ dX3_asked_43
    | some a =>
      have lt_a := h40 a (fnd_mem _ _ hf).1
      have e9 : ak U zs (nI r) x = (0, some a) := by unfold ak; rw [hrow]; dsimp only; rw [hf]
      refine lv_istore_n (lv' := [(3, .int (nI a)), (0, .ref (gxa Γ 3)), (1, .int (nI r)), (2, .int x)]) hx hb dX3_asked_26 rfl hl (by decide) rfl (fun ls hl => ?_)
      refine lv_iload_n hx hb dX3_asked_27 rfl (lv_at hl 0 rfl) ?_
      refine lv_iconst (v := -1) hx hb dX3_asked_28 (by decide) ?_
      refine lv_icmp_ne (tgt := 42) hx hb dX3_asked_29 (by decide) (fun _ => ?_) (fun h1 => absurd h1 (nI_nm1 (Nat.lt_trans lt_a (by decide))))
      refine lv_iload_n hx hb dX3_asked_42 rfl (lv_at hl 0 rfl) ?_
      exact eI S hr hlocks hH hS ⟨by rw [e9]; rfl, by rw [e9]⟩ dX3_asked_43

set_option maxRecDepth 100000 in
set_option maxHeartbeats 4000000 in
theorem c_X3_depthOf {U : Nat → Tr} {row x : Int32} (hM : MI Q zs U mn) : Md l yX3_depthOf wsX3_depthOf (rmL 44 0 0) D lo Γ [.ref (gxa Γ 3), .int row, .int x] (C, (th, mn, tm, kt, Q, zs, be, kp), V) (some (.int (qa U (zn zs) row x (fun r a => nI (zof (U r) a).2.2.2.length)).2)) (C, ((qa U (zn zs) row x (fun r a => nI (zof (U r) a).2.2.2.length)).1, mn, tm, kt, Q, zs, be, kp), V) := by
  refine Mz_of (cc := cX3_depthOf) (maxL := 4) (ret := (some .int)) (by decide) rfl (Nat.le_of_ble_eq_true rfl) ?_
  intro p e s m args below meth c ls S hr hlocks hK hH hS hl
  have hx := S.1
  have hb := S.2.1
  have hts := S.2.2.2.2
  have hl : lv_has ls 4 [(0, .ref (gxa Γ 3)), (1, .int row), (2, .int x)] := hl
  obtain ⟨h_t, h_nd, h_mn, h_zs, h_40⟩ := id hM
  refine lv_aload_n hx hb dX3_depthOf_0 rfl (lv_at hl 0 rfl) ?_
  refine lv_iload_n hx hb dX3_depthOf_1 rfl (lv_at hl 1 rfl) ?_
  refine lv_iload_n hx hb dX3_depthOf_2 rfl (lv_at hl 2 rfl) ?_
  refine cV S (c_X3_asked (l := l) (D := D) (lo := lo) (Γ := Γ) (C := C) (V := V) (th := th) (mn := mn) (tm := tm) (kt := kt) (Q := Q) (zs := zs) (be := be) (kp := kp) (x := x) hM) (cwV 2 hts gX3_depthOf_X3_asked rfl rfl rfl (by decide +kernel) ⟨Nat.le_of_ble_eq_true rfl, Nat.le_of_ble_eq_true rfl⟩) hK hH (Hp_recv hK hH (gmo hH (j := 3) (by simp)).1 (gmo hH (j := 3) (by simp)).2.1 rfl) hS rfl hl.1 rfl (Nat.le_of_ble_eq_true rfl) dX3_depthOf_3 ⟨Nat.le_of_ble_eq_true rfl, Nat.le_of_ble_eq_true rfl⟩ (fun v Z1 H locs hpost hH hS => ?_)
  obtain ⟨rfl, rfl⟩ := hpost
  rcases hrow : rowN row with _ | r
  · skip
    have e9 : (qa U (zn zs) row x (fun r a => nI (zof (U r) a).2.2.2.length)) = (1, 0) := by unfold qa; rw [hrow]
    have ea : ak U zs row x = (1, none) := by unfold ak; rw [hrow]
    rw [ea] at hH ⊢
    have hH : Hp D lo Γ (C, (1, mn, tm, kt, Q, zs, be, kp), V) H := hH
    refine lv_istore_n (lv' := [(3, .int (-1)), (0, .ref (gxa Γ 3)), (1, .int row), (2, .int x)]) hx hb dX3_depthOf_6 rfl hl (by decide) rfl (fun ls hl => ?_)
    refine lv_iload_n hx hb dX3_depthOf_7 rfl (lv_at hl 0 rfl) ?_
    refine lv_iconst (v := -1) hx hb dX3_depthOf_8 (by decide) ?_
    refine lv_icmp_ne (tgt := 16) hx hb dX3_depthOf_9 (by decide) (fun h1 => absurd rfl h1) (fun _ => ?_)
    refine lv_iconst (v := 0) hx hb dX3_depthOf_12 (by decide) ?_
    refine lv_goto (tgt := 21) hx hb dX3_depthOf_13 (by decide) ?_
    exact eI S hr hlocks hH hS ⟨by rw [e9], by rw [e9]⟩ dX3_depthOf_21
  · skip
    cases hf : fnd (zn zs) x.toInt (U r) with
    | none =>
      have e9 : (qa U (zn zs) row x (fun r a => nI (zof (U r) a).2.2.2.length)) = (2, 0) := by unfold qa; rw [hrow]; dsimp only; rw [hf]
      have ea : ak U zs row x = (2, none) := by unfold ak; rw [hrow]; dsimp only; rw [hf]
      rw [ea] at hH ⊢
      have hH : Hp D lo Γ (C, (2, mn, tm, kt, Q, zs, be, kp), V) H := hH
      refine lv_istore_n (lv' := [(3, .int (-1)), (0, .ref (gxa Γ 3)), (1, .int row), (2, .int x)]) hx hb dX3_depthOf_6 rfl hl (by decide) rfl (fun ls hl => ?_)
      refine lv_iload_n hx hb dX3_depthOf_7 rfl (lv_at hl 0 rfl) ?_
      refine lv_iconst (v := -1) hx hb dX3_depthOf_8 (by decide) ?_
      refine lv_icmp_ne (tgt := 16) hx hb dX3_depthOf_9 (by decide) (fun h1 => absurd rfl h1) (fun _ => ?_)
      refine lv_iconst (v := 0) hx hb dX3_depthOf_12 (by decide) ?_
      refine lv_goto (tgt := 21) hx hb dX3_depthOf_13 (by decide) ?_
      exact eI S hr hlocks hH hS ⟨by rw [e9], by rw [e9]⟩ dX3_depthOf_21
    | some a =>
      have e9 : (qa U (zn zs) row x (fun r a => nI (zof (U r) a).2.2.2.length)) = (0, nI (zof (U r) a).2.2.2.length) := by unfold qa; rw [hrow]; dsimp only; rw [hf]
      have ea : ak U zs row x = (0, some a) := by unfold ak; rw [hrow]; dsimp only; rw [hf]
      rw [ea] at hH ⊢
      have hH : Hp D lo Γ (C, (0, mn, tm, kt, Q, zs, be, kp), V) H := hH
      have hr6 := (rowN_some hrow).1
      obtain ⟨hR, hs⟩ := h_t r hr6
      obtain ⟨h_top, h_rep, h_n, h_ok⟩ := id hR
      have h40 : ∀ a ∈ tids (U r), a < 40 := fun a ha => (h_ok a ha).1
      have hlen : (tids (U r)).length ≤ 40 := Nat.le_trans (gids_le hr6) h_40
      have hh : hgt (U r) < 41 := Nat.lt_succ_of_le (Nat.le_trans (hgt_tids _) hlen)
      have hin_a := (fnd_mem _ _ hf).1
      have lt_a := h40 a hin_a
      have hzp := zof_plug hin_a
      have hz : Zp Q (.branch a (zof (U r) a).2.1 (zof (U r) a).2.2.1) (zof (U r) a).2.2.2 := (Zp_plug _ _).mpr (by rw [hzp]; exact h_rep)
      have hz40 : ∀ b ∈ tids (plug (.branch a (zof (U r) a).2.1 (zof (U r) a).2.2.1) (zof (U r) a).2.2.2), b < 40 := by rw [hzp]; exact h40
      have hinz : ∀ b, b ∈ tids (.branch a (zof (U r) a).2.1 (zof (U r) a).2.2.1) ∨ parC (zof (U r) a).2.2.2 = some b → b ∈ tids (U r) := fun b hb => by
        rw [← hzp, tids_plug]
        rcases hb with h | h
        · simp [h]
        · have := parC_mem h; rcases this with h | h <;> simp [h]
      refine lv_istore_n (lv' := [(3, .int (nI a)), (0, .ref (gxa Γ 3)), (1, .int row), (2, .int x)]) hx hb dX3_depthOf_6 rfl hl (by decide) rfl (fun ls hl => ?_)
      refine lv_iload_n hx hb dX3_depthOf_7 rfl (lv_at hl 0 rfl) ?_
      refine lv_iconst (v := -1) hx hb dX3_depthOf_8 (by decide) ?_
      refine lv_icmp_ne (tgt := 16) hx hb dX3_depthOf_9 (by decide) (fun _ => ?_) (fun h1 => absurd h1 (nI_nm1 (Nat.lt_trans lt_a (by decide))))
      refine lv_aload_n hx hb dX3_depthOf_16 rfl (lv_at hl 1 rfl) ?_
      refine lv_iload_n hx hb dX3_depthOf_17 rfl (lv_at hl 0 rfl) ?_
      refine cV S (c_X3_deep (l := l) (D := D) (lo := lo) (Γ := Γ) (C := C) (V := V) (th := 0) (mn := mn) (tm := tm) (kt := kt) (Q := Q) (zs := zs) (be := be) (kp := kp) hz hz40) (cwV 1 hts gX3_depthOf_X3_deep rfl rfl rfl (by decide +kernel) ⟨Nat.le_of_ble_eq_true rfl, Nat.le_of_ble_eq_true rfl⟩) hK hH (Hp_recv hK hH (gmo hH (j := 3) (by simp)).1 (gmo hH (j := 3) (by simp)).2.1 rfl) hS rfl hl.1 rfl (Nat.le_of_ble_eq_true rfl) dX3_depthOf_18 ⟨Nat.le_of_ble_eq_true rfl, Nat.le_of_ble_eq_true rfl⟩ (fun v Z1 H locs hpost hH hS => ?_)
      obtain ⟨rfl, rfl⟩ := hpost
      exact eI S hr hlocks hH hS ⟨by rw [e9], by rw [e9]⟩ dX3_depthOf_21

set_option maxRecDepth 100000 in
set_option maxHeartbeats 4000000 in
theorem c_X3_above {U : Nat → Tr} {row x : Int32} (hM : MI Q zs U mn) : Md l yX3_above wsX3_above (rmL 44 0 0) D lo Γ [.ref (gxa Γ 3), .int row, .int x] (C, (th, mn, tm, kt, Q, zs, be, kp), V) (some (.int (qa U (zn zs) row x (fun r a => er ((parC (zof (U r) a).2.2.2).map (zn zs)))).2)) (C, ((qa U (zn zs) row x (fun r a => er ((parC (zof (U r) a).2.2.2).map (zn zs)))).1, mn, tm, kt, Q, zs, be, kp), V) := by
  refine Mz_of (cc := cX3_above) (maxL := 4) (ret := (some .int)) (by decide) rfl (Nat.le_of_ble_eq_true rfl) ?_
  intro p e s m args below meth c ls S hr hlocks hK hH hS hl
  have hx := S.1
  have hb := S.2.1
  have hts := S.2.2.2.2
  have f9 : (Cond.fieldLink RX3 9 (TX3 3).1 (TX3 3).2.1 (TX3 3).2.2.1).before args s = true := hts _ (List.mem_of_getElem? (i := 1) rfl)
  have hi3 : ∀ w ∈ wsX30, w ∈ wsX3_above := by decide +kernel
  have hl : lv_has ls 4 [(0, .ref (gxa Γ 3)), (1, .int row), (2, .int x)] := hl
  obtain ⟨h_t, h_nd, h_mn, h_zs, h_40⟩ := id hM
  refine lv_aload_n hx hb dX3_above_0 rfl (lv_at hl 0 rfl) ?_
  refine lv_iload_n hx hb dX3_above_1 rfl (lv_at hl 1 rfl) ?_
  refine lv_iload_n hx hb dX3_above_2 rfl (lv_at hl 2 rfl) ?_
  refine cV S (c_X3_asked (l := l) (D := D) (lo := lo) (Γ := Γ) (C := C) (V := V) (th := th) (mn := mn) (tm := tm) (kt := kt) (Q := Q) (zs := zs) (be := be) (kp := kp) (x := x) hM) (cwV 2 hts gX3_above_X3_asked rfl rfl rfl (by decide +kernel) ⟨Nat.le_of_ble_eq_true rfl, Nat.le_of_ble_eq_true rfl⟩) hK hH (Hp_recv hK hH (gmo hH (j := 3) (by simp)).1 (gmo hH (j := 3) (by simp)).2.1 rfl) hS rfl hl.1 rfl (Nat.le_of_ble_eq_true rfl) dX3_above_3 ⟨Nat.le_of_ble_eq_true rfl, Nat.le_of_ble_eq_true rfl⟩ (fun v Z1 H locs hpost hH hS => ?_)
  obtain ⟨rfl, rfl⟩ := hpost
  rcases hrow : rowN row with _ | r
  · skip
    have e9 : (qa U (zn zs) row x (fun r a => er ((parC (zof (U r) a).2.2.2).map (zn zs)))) = (1, 0) := by unfold qa; rw [hrow]
    have ea : ak U zs row x = (1, none) := by unfold ak; rw [hrow]
    rw [ea] at hH ⊢
    have hH : Hp D lo Γ (C, (1, mn, tm, kt, Q, zs, be, kp), V) H := hH
    refine lv_istore_n (lv' := [(3, .int (-1)), (0, .ref (gxa Γ 3)), (1, .int row), (2, .int x)]) hx hb dX3_above_6 rfl hl (by decide) rfl (fun ls hl => ?_)
    refine lv_iload_n hx hb dX3_above_7 rfl (lv_at hl 0 rfl) ?_
    refine lv_iconst (v := -1) hx hb dX3_above_8 (by decide) ?_
    refine lv_icmp_ne (tgt := 16) hx hb dX3_above_9 (by decide) (fun h1 => absurd rfl h1) (fun _ => ?_)
    refine lv_iconst (v := 0) hx hb dX3_above_12 (by decide) ?_
    refine lv_goto (tgt := 29) hx hb dX3_above_13 (by decide) ?_
    exact eI S hr hlocks hH hS ⟨by rw [e9], by rw [e9]⟩ dX3_above_29
  · skip
    cases hf : fnd (zn zs) x.toInt (U r) with
    | none =>
      have e9 : (qa U (zn zs) row x (fun r a => er ((parC (zof (U r) a).2.2.2).map (zn zs)))) = (2, 0) := by unfold qa; rw [hrow]; dsimp only; rw [hf]
      have ea : ak U zs row x = (2, none) := by unfold ak; rw [hrow]; dsimp only; rw [hf]
      rw [ea] at hH ⊢
      have hH : Hp D lo Γ (C, (2, mn, tm, kt, Q, zs, be, kp), V) H := hH
      refine lv_istore_n (lv' := [(3, .int (-1)), (0, .ref (gxa Γ 3)), (1, .int row), (2, .int x)]) hx hb dX3_above_6 rfl hl (by decide) rfl (fun ls hl => ?_)
      refine lv_iload_n hx hb dX3_above_7 rfl (lv_at hl 0 rfl) ?_
      refine lv_iconst (v := -1) hx hb dX3_above_8 (by decide) ?_
      refine lv_icmp_ne (tgt := 16) hx hb dX3_above_9 (by decide) (fun h1 => absurd rfl h1) (fun _ => ?_)
      refine lv_iconst (v := 0) hx hb dX3_above_12 (by decide) ?_
      refine lv_goto (tgt := 29) hx hb dX3_above_13 (by decide) ?_
      exact eI S hr hlocks hH hS ⟨by rw [e9], by rw [e9]⟩ dX3_above_29
    | some a =>
      have e9 : (qa U (zn zs) row x (fun r a => er ((parC (zof (U r) a).2.2.2).map (zn zs)))) = (0, er ((parC (zof (U r) a).2.2.2).map (zn zs))) := by unfold qa; rw [hrow]; dsimp only; rw [hf]
      have ea : ak U zs row x = (0, some a) := by unfold ak; rw [hrow]; dsimp only; rw [hf]
      rw [ea] at hH ⊢
      have hH : Hp D lo Γ (C, (0, mn, tm, kt, Q, zs, be, kp), V) H := hH
      have hr6 := (rowN_some hrow).1
      obtain ⟨hR, hs⟩ := h_t r hr6
      obtain ⟨h_top, h_rep, h_n, h_ok⟩ := id hR
      have h40 : ∀ a ∈ tids (U r), a < 40 := fun a ha => (h_ok a ha).1
      have hlen : (tids (U r)).length ≤ 40 := Nat.le_trans (gids_le hr6) h_40
      have hh : hgt (U r) < 41 := Nat.lt_succ_of_le (Nat.le_trans (hgt_tids _) hlen)
      have hin_a := (fnd_mem _ _ hf).1
      have lt_a := h40 a hin_a
      have hzp := zof_plug hin_a
      have hz : Zp Q (.branch a (zof (U r) a).2.1 (zof (U r) a).2.2.1) (zof (U r) a).2.2.2 := (Zp_plug _ _).mpr (by rw [hzp]; exact h_rep)
      have hz40 : ∀ b ∈ tids (plug (.branch a (zof (U r) a).2.1 (zof (U r) a).2.2.1) (zof (U r) a).2.2.2), b < 40 := by rw [hzp]; exact h40
      have hinz : ∀ b, b ∈ tids (.branch a (zof (U r) a).2.1 (zof (U r) a).2.2.1) ∨ parC (zof (U r) a).2.2.2 = some b → b ∈ tids (U r) := fun b hb => by
        rw [← hzp, tids_plug]
        rcases hb with h | h
        · simp [h]
        · have := parC_mem h; rcases this with h | h <;> simp [h]
      refine lv_istore_n (lv' := [(3, .int (nI a)), (0, .ref (gxa Γ 3)), (1, .int row), (2, .int x)]) hx hb dX3_above_6 rfl hl (by decide) rfl (fun ls hl => ?_)
      refine lv_iload_n hx hb dX3_above_7 rfl (lv_at hl 0 rfl) ?_
      refine lv_iconst (v := -1) hx hb dX3_above_8 (by decide) ?_
      refine lv_icmp_ne (tgt := 16) hx hb dX3_above_9 (by decide) (fun _ => ?_) (fun h1 => absurd h1 (nI_nm1 (Nat.lt_trans lt_a (by decide))))
      refine lv_aload_n hx hb dX3_above_16 rfl (lv_at hl 1 rfl) ?_
      refine lv_aload_n hx hb dX3_above_17 rfl (lv_at hl 1 rfl) ?_
      refine gM S hi3 hK hH 3 (by decide) f9 (v := .ref (gna Γ)) rfl dX3_above_18 ?_
      refine lv_bipush (v := 120) hx hb dX3_above_21 (by decide +kernel) ?_
      refine lv_iload_n hx hb dX3_above_23 rfl (lv_at hl 0 rfl) ?_
      refine lv_iadd hx hb dX3_above_24 ?_
      refine gN S hK hH (n := 40 * (2 + 1) + a) (x := er (parC (zof (U r) a).2.2.2)) (nI_ofadd rfl) (by have := lt_a; omega) ((enc_sd (by decide) lt_a).trans (congrArg er hz.1.1)) dX3_above_25 ?_
      refine cV S (c_X3_sizeAt (l := l) (D := D) (lo := lo) (Γ := Γ) (C := C) (V := V) (th := 0) (mn := mn) (tm := tm) (kt := kt) (Q := Q) (zs := zs) (be := be) (kp := kp) (r := parC (zof (U r) a).2.2.2) (fun b h => ⟨h40 b (hinz b (Or.inr h)), (h_ok b (hinz b (Or.inr h))).2.1⟩)) (cwV 1 hts gX3_above_X3_sizeAt rfl rfl rfl (by decide +kernel) ⟨Nat.le_of_ble_eq_true rfl, Nat.le_of_ble_eq_true rfl⟩) hK hH (Hp_recv hK hH (gmo hH (j := 3) (by simp)).1 (gmo hH (j := 3) (by simp)).2.1 rfl) hS rfl hl.1 rfl (Nat.le_of_ble_eq_true rfl) dX3_above_26 ⟨Nat.le_of_ble_eq_true rfl, Nat.le_of_ble_eq_true rfl⟩ (fun v Z1 H locs hpost hH hS => ?_)
      obtain ⟨rfl, rfl⟩ := hpost
      exact eI S hr hlocks hH hS ⟨by rw [e9], by rw [e9]⟩ dX3_above_29

set_option maxRecDepth 100000 in
set_option maxHeartbeats 4000000 in
theorem c_X3_leftOf {U : Nat → Tr} {row x : Int32} (hM : MI Q zs U mn) : Md l yX3_leftOf wsX3_leftOf (rmL 44 0 0) D lo Γ [.ref (gxa Γ 3), .int row, .int x] (C, (th, mn, tm, kt, Q, zs, be, kp), V) (some (.int (qa U (zn zs) row x (fun r a => er ((rt (zof (U r) a).2.1).map (zn zs)))).2)) (C, ((qa U (zn zs) row x (fun r a => er ((rt (zof (U r) a).2.1).map (zn zs)))).1, mn, tm, kt, Q, zs, be, kp), V) := by
  refine Mz_of (cc := cX3_leftOf) (maxL := 4) (ret := (some .int)) (by decide) rfl (Nat.le_of_ble_eq_true rfl) ?_
  intro p e s m args below meth c ls S hr hlocks hK hH hS hl
  have hx := S.1
  have hb := S.2.1
  have hts := S.2.2.2.2
  have f9 : (Cond.fieldLink RX3 9 (TX3 3).1 (TX3 3).2.1 (TX3 3).2.2.1).before args s = true := hts _ (List.mem_of_getElem? (i := 1) rfl)
  have hi3 : ∀ w ∈ wsX30, w ∈ wsX3_leftOf := by decide +kernel
  have hl : lv_has ls 4 [(0, .ref (gxa Γ 3)), (1, .int row), (2, .int x)] := hl
  obtain ⟨h_t, h_nd, h_mn, h_zs, h_40⟩ := id hM
  refine lv_aload_n hx hb dX3_leftOf_0 rfl (lv_at hl 0 rfl) ?_
  refine lv_iload_n hx hb dX3_leftOf_1 rfl (lv_at hl 1 rfl) ?_
  refine lv_iload_n hx hb dX3_leftOf_2 rfl (lv_at hl 2 rfl) ?_
  refine cV S (c_X3_asked (l := l) (D := D) (lo := lo) (Γ := Γ) (C := C) (V := V) (th := th) (mn := mn) (tm := tm) (kt := kt) (Q := Q) (zs := zs) (be := be) (kp := kp) (x := x) hM) (cwV 2 hts gX3_leftOf_X3_asked rfl rfl rfl (by decide +kernel) ⟨Nat.le_of_ble_eq_true rfl, Nat.le_of_ble_eq_true rfl⟩) hK hH (Hp_recv hK hH (gmo hH (j := 3) (by simp)).1 (gmo hH (j := 3) (by simp)).2.1 rfl) hS rfl hl.1 rfl (Nat.le_of_ble_eq_true rfl) dX3_leftOf_3 ⟨Nat.le_of_ble_eq_true rfl, Nat.le_of_ble_eq_true rfl⟩ (fun v Z1 H locs hpost hH hS => ?_)
  obtain ⟨rfl, rfl⟩ := hpost
  rcases hrow : rowN row with _ | r
  · skip
    have e9 : (qa U (zn zs) row x (fun r a => er ((rt (zof (U r) a).2.1).map (zn zs)))) = (1, 0) := by unfold qa; rw [hrow]
    have ea : ak U zs row x = (1, none) := by unfold ak; rw [hrow]
    rw [ea] at hH ⊢
    have hH : Hp D lo Γ (C, (1, mn, tm, kt, Q, zs, be, kp), V) H := hH
    refine lv_istore_n (lv' := [(3, .int (-1)), (0, .ref (gxa Γ 3)), (1, .int row), (2, .int x)]) hx hb dX3_leftOf_6 rfl hl (by decide) rfl (fun ls hl => ?_)
    refine lv_iload_n hx hb dX3_leftOf_7 rfl (lv_at hl 0 rfl) ?_
    refine lv_iconst (v := -1) hx hb dX3_leftOf_8 (by decide) ?_
    refine lv_icmp_ne (tgt := 16) hx hb dX3_leftOf_9 (by decide) (fun h1 => absurd rfl h1) (fun _ => ?_)
    refine lv_iconst (v := 0) hx hb dX3_leftOf_12 (by decide) ?_
    refine lv_goto (tgt := 29) hx hb dX3_leftOf_13 (by decide) ?_
    exact eI S hr hlocks hH hS ⟨by rw [e9], by rw [e9]⟩ dX3_leftOf_29
  · skip
    cases hf : fnd (zn zs) x.toInt (U r) with
    | none =>
      have e9 : (qa U (zn zs) row x (fun r a => er ((rt (zof (U r) a).2.1).map (zn zs)))) = (2, 0) := by unfold qa; rw [hrow]; dsimp only; rw [hf]
      have ea : ak U zs row x = (2, none) := by unfold ak; rw [hrow]; dsimp only; rw [hf]
      rw [ea] at hH ⊢
      have hH : Hp D lo Γ (C, (2, mn, tm, kt, Q, zs, be, kp), V) H := hH
      refine lv_istore_n (lv' := [(3, .int (-1)), (0, .ref (gxa Γ 3)), (1, .int row), (2, .int x)]) hx hb dX3_leftOf_6 rfl hl (by decide) rfl (fun ls hl => ?_)
      refine lv_iload_n hx hb dX3_leftOf_7 rfl (lv_at hl 0 rfl) ?_
      refine lv_iconst (v := -1) hx hb dX3_leftOf_8 (by decide) ?_
      refine lv_icmp_ne (tgt := 16) hx hb dX3_leftOf_9 (by decide) (fun h1 => absurd rfl h1) (fun _ => ?_)
      refine lv_iconst (v := 0) hx hb dX3_leftOf_12 (by decide) ?_
      refine lv_goto (tgt := 29) hx hb dX3_leftOf_13 (by decide) ?_
      exact eI S hr hlocks hH hS ⟨by rw [e9], by rw [e9]⟩ dX3_leftOf_29
    | some a =>
      have e9 : (qa U (zn zs) row x (fun r a => er ((rt (zof (U r) a).2.1).map (zn zs)))) = (0, er ((rt (zof (U r) a).2.1).map (zn zs))) := by unfold qa; rw [hrow]; dsimp only; rw [hf]
      have ea : ak U zs row x = (0, some a) := by unfold ak; rw [hrow]; dsimp only; rw [hf]
      rw [ea] at hH ⊢
      have hH : Hp D lo Γ (C, (0, mn, tm, kt, Q, zs, be, kp), V) H := hH
      have hr6 := (rowN_some hrow).1
      obtain ⟨hR, hs⟩ := h_t r hr6
      obtain ⟨h_top, h_rep, h_n, h_ok⟩ := id hR
      have h40 : ∀ a ∈ tids (U r), a < 40 := fun a ha => (h_ok a ha).1
      have hlen : (tids (U r)).length ≤ 40 := Nat.le_trans (gids_le hr6) h_40
      have hh : hgt (U r) < 41 := Nat.lt_succ_of_le (Nat.le_trans (hgt_tids _) hlen)
      have hin_a := (fnd_mem _ _ hf).1
      have lt_a := h40 a hin_a
      have hzp := zof_plug hin_a
      have hz : Zp Q (.branch a (zof (U r) a).2.1 (zof (U r) a).2.2.1) (zof (U r) a).2.2.2 := (Zp_plug _ _).mpr (by rw [hzp]; exact h_rep)
      have hz40 : ∀ b ∈ tids (plug (.branch a (zof (U r) a).2.1 (zof (U r) a).2.2.1) (zof (U r) a).2.2.2), b < 40 := by rw [hzp]; exact h40
      have hinz : ∀ b, b ∈ tids (.branch a (zof (U r) a).2.1 (zof (U r) a).2.2.1) ∨ parC (zof (U r) a).2.2.2 = some b → b ∈ tids (U r) := fun b hb => by
        rw [← hzp, tids_plug]
        rcases hb with h | h
        · simp [h]
        · have := parC_mem h; rcases this with h | h <;> simp [h]
      refine lv_istore_n (lv' := [(3, .int (nI a)), (0, .ref (gxa Γ 3)), (1, .int row), (2, .int x)]) hx hb dX3_leftOf_6 rfl hl (by decide) rfl (fun ls hl => ?_)
      refine lv_iload_n hx hb dX3_leftOf_7 rfl (lv_at hl 0 rfl) ?_
      refine lv_iconst (v := -1) hx hb dX3_leftOf_8 (by decide) ?_
      refine lv_icmp_ne (tgt := 16) hx hb dX3_leftOf_9 (by decide) (fun _ => ?_) (fun h1 => absurd h1 (nI_nm1 (Nat.lt_trans lt_a (by decide))))
      refine lv_aload_n hx hb dX3_leftOf_16 rfl (lv_at hl 1 rfl) ?_
      refine lv_aload_n hx hb dX3_leftOf_17 rfl (lv_at hl 1 rfl) ?_
      refine gM S hi3 hK hH 3 (by decide) f9 (v := .ref (gna Γ)) rfl dX3_leftOf_18 ?_
      refine lv_bipush (v := 40) hx hb dX3_leftOf_21 (by decide +kernel) ?_
      refine lv_iload_n hx hb dX3_leftOf_23 rfl (lv_at hl 0 rfl) ?_
      refine lv_iadd hx hb dX3_leftOf_24 ?_
      refine gN S hK hH (n := 40 * (0 + 1) + a) (x := er (rt (zof (U r) a).2.1)) (nI_ofadd rfl) (by have := lt_a; omega) ((enc_sd (by decide) lt_a).trans (congrArg er hz.1.2.1)) dX3_leftOf_25 ?_
      refine cV S (c_X3_sizeAt (l := l) (D := D) (lo := lo) (Γ := Γ) (C := C) (V := V) (th := 0) (mn := mn) (tm := tm) (kt := kt) (Q := Q) (zs := zs) (be := be) (kp := kp) (r := rt (zof (U r) a).2.1) (fun b h => ⟨h40 b (hinz b (Or.inl (by have := rt_mem h; simp [tids, this]))), (h_ok b (hinz b (Or.inl (by have := rt_mem h; simp [tids, this])))).2.1⟩)) (cwV 1 hts gX3_leftOf_X3_sizeAt rfl rfl rfl (by decide +kernel) ⟨Nat.le_of_ble_eq_true rfl, Nat.le_of_ble_eq_true rfl⟩) hK hH (Hp_recv hK hH (gmo hH (j := 3) (by simp)).1 (gmo hH (j := 3) (by simp)).2.1 rfl) hS rfl hl.1 rfl (Nat.le_of_ble_eq_true rfl) dX3_leftOf_26 ⟨Nat.le_of_ble_eq_true rfl, Nat.le_of_ble_eq_true rfl⟩ (fun v Z1 H locs hpost hH hS => ?_)
      obtain ⟨rfl, rfl⟩ := hpost
      exact eI S hr hlocks hH hS ⟨by rw [e9], by rw [e9]⟩ dX3_leftOf_29

set_option maxRecDepth 100000 in
set_option maxHeartbeats 4000000 in
theorem c_X3_rightOf {U : Nat → Tr} {row x : Int32} (hM : MI Q zs U mn) : Md l yX3_rightOf wsX3_rightOf (rmL 44 0 0) D lo Γ [.ref (gxa Γ 3), .int row, .int x] (C, (th, mn, tm, kt, Q, zs, be, kp), V) (some (.int (qa U (zn zs) row x (fun r a => er ((rt (zof (U r) a).2.2.1).map (zn zs)))).2)) (C, ((qa U (zn zs) row x (fun r a => er ((rt (zof (U r) a).2.2.1).map (zn zs)))).1, mn, tm, kt, Q, zs, be, kp), V) := by
  refine Mz_of (cc := cX3_rightOf) (maxL := 4) (ret := (some .int)) (by decide) rfl (Nat.le_of_ble_eq_true rfl) ?_
  intro p e s m args below meth c ls S hr hlocks hK hH hS hl
  have hx := S.1
  have hb := S.2.1
  have hts := S.2.2.2.2
  have f9 : (Cond.fieldLink RX3 9 (TX3 3).1 (TX3 3).2.1 (TX3 3).2.2.1).before args s = true := hts _ (List.mem_of_getElem? (i := 1) rfl)
  have hi3 : ∀ w ∈ wsX30, w ∈ wsX3_rightOf := by decide +kernel
  have hl : lv_has ls 4 [(0, .ref (gxa Γ 3)), (1, .int row), (2, .int x)] := hl
  obtain ⟨h_t, h_nd, h_mn, h_zs, h_40⟩ := id hM
  refine lv_aload_n hx hb dX3_rightOf_0 rfl (lv_at hl 0 rfl) ?_
  refine lv_iload_n hx hb dX3_rightOf_1 rfl (lv_at hl 1 rfl) ?_
  refine lv_iload_n hx hb dX3_rightOf_2 rfl (lv_at hl 2 rfl) ?_
  refine cV S (c_X3_asked (l := l) (D := D) (lo := lo) (Γ := Γ) (C := C) (V := V) (th := th) (mn := mn) (tm := tm) (kt := kt) (Q := Q) (zs := zs) (be := be) (kp := kp) (x := x) hM) (cwV 2 hts gX3_rightOf_X3_asked rfl rfl rfl (by decide +kernel) ⟨Nat.le_of_ble_eq_true rfl, Nat.le_of_ble_eq_true rfl⟩) hK hH (Hp_recv hK hH (gmo hH (j := 3) (by simp)).1 (gmo hH (j := 3) (by simp)).2.1 rfl) hS rfl hl.1 rfl (Nat.le_of_ble_eq_true rfl) dX3_rightOf_3 ⟨Nat.le_of_ble_eq_true rfl, Nat.le_of_ble_eq_true rfl⟩ (fun v Z1 H locs hpost hH hS => ?_)
  obtain ⟨rfl, rfl⟩ := hpost
  rcases hrow : rowN row with _ | r
  · skip
    have e9 : (qa U (zn zs) row x (fun r a => er ((rt (zof (U r) a).2.2.1).map (zn zs)))) = (1, 0) := by unfold qa; rw [hrow]
    have ea : ak U zs row x = (1, none) := by unfold ak; rw [hrow]
    rw [ea] at hH ⊢
    have hH : Hp D lo Γ (C, (1, mn, tm, kt, Q, zs, be, kp), V) H := hH
    refine lv_istore_n (lv' := [(3, .int (-1)), (0, .ref (gxa Γ 3)), (1, .int row), (2, .int x)]) hx hb dX3_rightOf_6 rfl hl (by decide) rfl (fun ls hl => ?_)
    refine lv_iload_n hx hb dX3_rightOf_7 rfl (lv_at hl 0 rfl) ?_
    refine lv_iconst (v := -1) hx hb dX3_rightOf_8 (by decide) ?_
    refine lv_icmp_ne (tgt := 16) hx hb dX3_rightOf_9 (by decide) (fun h1 => absurd rfl h1) (fun _ => ?_)
    refine lv_iconst (v := 0) hx hb dX3_rightOf_12 (by decide) ?_
    refine lv_goto (tgt := 29) hx hb dX3_rightOf_13 (by decide) ?_
    exact eI S hr hlocks hH hS ⟨by rw [e9], by rw [e9]⟩ dX3_rightOf_29
  · skip
    cases hf : fnd (zn zs) x.toInt (U r) with
    | none =>
      have e9 : (qa U (zn zs) row x (fun r a => er ((rt (zof (U r) a).2.2.1).map (zn zs)))) = (2, 0) := by unfold qa; rw [hrow]; dsimp only; rw [hf]
      have ea : ak U zs row x = (2, none) := by unfold ak; rw [hrow]; dsimp only; rw [hf]
      rw [ea] at hH ⊢
      have hH : Hp D lo Γ (C, (2, mn, tm, kt, Q, zs, be, kp), V) H := hH
      refine lv_istore_n (lv' := [(3, .int (-1)), (0, .ref (gxa Γ 3)), (1, .int row), (2, .int x)]) hx hb dX3_rightOf_6 rfl hl (by decide) rfl (fun ls hl => ?_)
      refine lv_iload_n hx hb dX3_rightOf_7 rfl (lv_at hl 0 rfl) ?_
      refine lv_iconst (v := -1) hx hb dX3_rightOf_8 (by decide) ?_
      refine lv_icmp_ne (tgt := 16) hx hb dX3_rightOf_9 (by decide) (fun h1 => absurd rfl h1) (fun _ => ?_)
      refine lv_iconst (v := 0) hx hb dX3_rightOf_12 (by decide) ?_
      refine lv_goto (tgt := 29) hx hb dX3_rightOf_13 (by decide) ?_
      exact eI S hr hlocks hH hS ⟨by rw [e9], by rw [e9]⟩ dX3_rightOf_29
    | some a =>
      have e9 : (qa U (zn zs) row x (fun r a => er ((rt (zof (U r) a).2.2.1).map (zn zs)))) = (0, er ((rt (zof (U r) a).2.2.1).map (zn zs))) := by unfold qa; rw [hrow]; dsimp only; rw [hf]
      have ea : ak U zs row x = (0, some a) := by unfold ak; rw [hrow]; dsimp only; rw [hf]
      rw [ea] at hH ⊢
      have hH : Hp D lo Γ (C, (0, mn, tm, kt, Q, zs, be, kp), V) H := hH
      have hr6 := (rowN_some hrow).1
      obtain ⟨hR, hs⟩ := h_t r hr6
      obtain ⟨h_top, h_rep, h_n, h_ok⟩ := id hR
      have h40 : ∀ a ∈ tids (U r), a < 40 := fun a ha => (h_ok a ha).1
      have hlen : (tids (U r)).length ≤ 40 := Nat.le_trans (gids_le hr6) h_40
      have hh : hgt (U r) < 41 := Nat.lt_succ_of_le (Nat.le_trans (hgt_tids _) hlen)
      have hin_a := (fnd_mem _ _ hf).1
      have lt_a := h40 a hin_a
      have hzp := zof_plug hin_a
      have hz : Zp Q (.branch a (zof (U r) a).2.1 (zof (U r) a).2.2.1) (zof (U r) a).2.2.2 := (Zp_plug _ _).mpr (by rw [hzp]; exact h_rep)
      have hz40 : ∀ b ∈ tids (plug (.branch a (zof (U r) a).2.1 (zof (U r) a).2.2.1) (zof (U r) a).2.2.2), b < 40 := by rw [hzp]; exact h40
      have hinz : ∀ b, b ∈ tids (.branch a (zof (U r) a).2.1 (zof (U r) a).2.2.1) ∨ parC (zof (U r) a).2.2.2 = some b → b ∈ tids (U r) := fun b hb => by
        rw [← hzp, tids_plug]
        rcases hb with h | h
        · simp [h]
        · have := parC_mem h; rcases this with h | h <;> simp [h]
      refine lv_istore_n (lv' := [(3, .int (nI a)), (0, .ref (gxa Γ 3)), (1, .int row), (2, .int x)]) hx hb dX3_rightOf_6 rfl hl (by decide) rfl (fun ls hl => ?_)
      refine lv_iload_n hx hb dX3_rightOf_7 rfl (lv_at hl 0 rfl) ?_
      refine lv_iconst (v := -1) hx hb dX3_rightOf_8 (by decide) ?_
      refine lv_icmp_ne (tgt := 16) hx hb dX3_rightOf_9 (by decide) (fun _ => ?_) (fun h1 => absurd h1 (nI_nm1 (Nat.lt_trans lt_a (by decide))))
      refine lv_aload_n hx hb dX3_rightOf_16 rfl (lv_at hl 1 rfl) ?_
      refine lv_aload_n hx hb dX3_rightOf_17 rfl (lv_at hl 1 rfl) ?_
      refine gM S hi3 hK hH 3 (by decide) f9 (v := .ref (gna Γ)) rfl dX3_rightOf_18 ?_
      refine lv_bipush (v := 80) hx hb dX3_rightOf_21 (by decide +kernel) ?_
      refine lv_iload_n hx hb dX3_rightOf_23 rfl (lv_at hl 0 rfl) ?_
      refine lv_iadd hx hb dX3_rightOf_24 ?_
      refine gN S hK hH (n := 40 * (1 + 1) + a) (x := er (rt (zof (U r) a).2.2.1)) (nI_ofadd rfl) (by have := lt_a; omega) ((enc_sd (by decide) lt_a).trans (congrArg er hz.1.2.2.1)) dX3_rightOf_25 ?_
      refine cV S (c_X3_sizeAt (l := l) (D := D) (lo := lo) (Γ := Γ) (C := C) (V := V) (th := 0) (mn := mn) (tm := tm) (kt := kt) (Q := Q) (zs := zs) (be := be) (kp := kp) (r := rt (zof (U r) a).2.2.1) (fun b h => ⟨h40 b (hinz b (Or.inl (by have := rt_mem h; simp [tids, this]))), (h_ok b (hinz b (Or.inl (by have := rt_mem h; simp [tids, this])))).2.1⟩)) (cwV 1 hts gX3_rightOf_X3_sizeAt rfl rfl rfl (by decide +kernel) ⟨Nat.le_of_ble_eq_true rfl, Nat.le_of_ble_eq_true rfl⟩) hK hH (Hp_recv hK hH (gmo hH (j := 3) (by simp)).1 (gmo hH (j := 3) (by simp)).2.1 rfl) hS rfl hl.1 rfl (Nat.le_of_ble_eq_true rfl) dX3_rightOf_26 ⟨Nat.le_of_ble_eq_true rfl, Nat.le_of_ble_eq_true rfl⟩ (fun v Z1 H locs hpost hH hS => ?_)
      obtain ⟨rfl, rfl⟩ := hpost
      exact eI S hr hlocks hH hS ⟨by rw [e9], by rw [e9]⟩ dX3_rightOf_29

set_option maxRecDepth 100000 in
set_option maxHeartbeats 4000000 in
theorem c_X3_below {U : Nat → Tr} {row x : Int32} (hM : MI Q zs U mn) : Md l yX3_below wsX3_below (rmL 44 0 0) D lo Γ [.ref (gxa Γ 3), .int row, .int x] (C, (th, mn, tm, kt, Q, zs, be, kp), V) (some (.int (qa U (zn zs) row x (fun r a => nI ((tids (zof (U r) a).2.1).length + (tids (zof (U r) a).2.2.1).length))).2)) (C, ((qa U (zn zs) row x (fun r a => nI ((tids (zof (U r) a).2.1).length + (tids (zof (U r) a).2.2.1).length))).1, mn, tm, kt, Q, zs, be, kp), V) := by
  refine Mz_of (cc := cX3_below) (maxL := 4) (ret := (some .int)) (by decide) rfl (Nat.le_of_ble_eq_true rfl) ?_
  intro p e s m args below meth c ls S hr hlocks hK hH hS hl
  have hx := S.1
  have hb := S.2.1
  have hts := S.2.2.2.2
  have hl : lv_has ls 4 [(0, .ref (gxa Γ 3)), (1, .int row), (2, .int x)] := hl
  obtain ⟨h_t, h_nd, h_mn, h_zs, h_40⟩ := id hM
  refine lv_aload_n hx hb dX3_below_0 rfl (lv_at hl 0 rfl) ?_
  refine lv_iload_n hx hb dX3_below_1 rfl (lv_at hl 1 rfl) ?_
  refine lv_iload_n hx hb dX3_below_2 rfl (lv_at hl 2 rfl) ?_
  refine cV S (c_X3_asked (l := l) (D := D) (lo := lo) (Γ := Γ) (C := C) (V := V) (th := th) (mn := mn) (tm := tm) (kt := kt) (Q := Q) (zs := zs) (be := be) (kp := kp) (x := x) hM) (cwV 2 hts gX3_below_X3_asked rfl rfl rfl (by decide +kernel) ⟨Nat.le_of_ble_eq_true rfl, Nat.le_of_ble_eq_true rfl⟩) hK hH (Hp_recv hK hH (gmo hH (j := 3) (by simp)).1 (gmo hH (j := 3) (by simp)).2.1 rfl) hS rfl hl.1 rfl (Nat.le_of_ble_eq_true rfl) dX3_below_3 ⟨Nat.le_of_ble_eq_true rfl, Nat.le_of_ble_eq_true rfl⟩ (fun v Z1 H locs hpost hH hS => ?_)
  obtain ⟨rfl, rfl⟩ := hpost
  rcases hrow : rowN row with _ | r
  · skip
    have e9 : (qa U (zn zs) row x (fun r a => nI ((tids (zof (U r) a).2.1).length + (tids (zof (U r) a).2.2.1).length))) = (1, 0) := by unfold qa; rw [hrow]
    have ea : ak U zs row x = (1, none) := by unfold ak; rw [hrow]
    rw [ea] at hH ⊢
    have hH : Hp D lo Γ (C, (1, mn, tm, kt, Q, zs, be, kp), V) H := hH
    refine lv_istore_n (lv' := [(3, .int (-1)), (0, .ref (gxa Γ 3)), (1, .int row), (2, .int x)]) hx hb dX3_below_6 rfl hl (by decide) rfl (fun ls hl => ?_)
    refine lv_iload_n hx hb dX3_below_7 rfl (lv_at hl 0 rfl) ?_
    refine lv_iconst (v := -1) hx hb dX3_below_8 (by decide) ?_
    refine lv_icmp_ne (tgt := 16) hx hb dX3_below_9 (by decide) (fun h1 => absurd rfl h1) (fun _ => ?_)
    refine lv_iconst (v := 0) hx hb dX3_below_12 (by decide) ?_
    refine lv_goto (tgt := 23) hx hb dX3_below_13 (by decide) ?_
    exact eI S hr hlocks hH hS ⟨by rw [e9], by rw [e9]⟩ dX3_below_23
  · skip
    cases hf : fnd (zn zs) x.toInt (U r) with
    | none =>
      have e9 : (qa U (zn zs) row x (fun r a => nI ((tids (zof (U r) a).2.1).length + (tids (zof (U r) a).2.2.1).length))) = (2, 0) := by unfold qa; rw [hrow]; dsimp only; rw [hf]
      have ea : ak U zs row x = (2, none) := by unfold ak; rw [hrow]; dsimp only; rw [hf]
      rw [ea] at hH ⊢
      have hH : Hp D lo Γ (C, (2, mn, tm, kt, Q, zs, be, kp), V) H := hH
      refine lv_istore_n (lv' := [(3, .int (-1)), (0, .ref (gxa Γ 3)), (1, .int row), (2, .int x)]) hx hb dX3_below_6 rfl hl (by decide) rfl (fun ls hl => ?_)
      refine lv_iload_n hx hb dX3_below_7 rfl (lv_at hl 0 rfl) ?_
      refine lv_iconst (v := -1) hx hb dX3_below_8 (by decide) ?_
      refine lv_icmp_ne (tgt := 16) hx hb dX3_below_9 (by decide) (fun h1 => absurd rfl h1) (fun _ => ?_)
      refine lv_iconst (v := 0) hx hb dX3_below_12 (by decide) ?_
      refine lv_goto (tgt := 23) hx hb dX3_below_13 (by decide) ?_
      exact eI S hr hlocks hH hS ⟨by rw [e9], by rw [e9]⟩ dX3_below_23
    | some a =>
      have e9 : (qa U (zn zs) row x (fun r a => nI ((tids (zof (U r) a).2.1).length + (tids (zof (U r) a).2.2.1).length))) = (0, nI ((tids (zof (U r) a).2.1).length + (tids (zof (U r) a).2.2.1).length)) := by unfold qa; rw [hrow]; dsimp only; rw [hf]
      have ea : ak U zs row x = (0, some a) := by unfold ak; rw [hrow]; dsimp only; rw [hf]
      rw [ea] at hH ⊢
      have hH : Hp D lo Γ (C, (0, mn, tm, kt, Q, zs, be, kp), V) H := hH
      have hr6 := (rowN_some hrow).1
      obtain ⟨hR, hs⟩ := h_t r hr6
      obtain ⟨h_top, h_rep, h_n, h_ok⟩ := id hR
      have h40 : ∀ a ∈ tids (U r), a < 40 := fun a ha => (h_ok a ha).1
      have hlen : (tids (U r)).length ≤ 40 := Nat.le_trans (gids_le hr6) h_40
      have hh : hgt (U r) < 41 := Nat.lt_succ_of_le (Nat.le_trans (hgt_tids _) hlen)
      have hin_a := (fnd_mem _ _ hf).1
      have lt_a := h40 a hin_a
      have hzp := zof_plug hin_a
      have hz : Zp Q (.branch a (zof (U r) a).2.1 (zof (U r) a).2.2.1) (zof (U r) a).2.2.2 := (Zp_plug _ _).mpr (by rw [hzp]; exact h_rep)
      have hz40 : ∀ b ∈ tids (plug (.branch a (zof (U r) a).2.1 (zof (U r) a).2.2.1) (zof (U r) a).2.2.2), b < 40 := by rw [hzp]; exact h40
      have hinz : ∀ b, b ∈ tids (.branch a (zof (U r) a).2.1 (zof (U r) a).2.2.1) ∨ parC (zof (U r) a).2.2.2 = some b → b ∈ tids (U r) := fun b hb => by
        rw [← hzp, tids_plug]
        rcases hb with h | h
        · simp [h]
        · have := parC_mem h; rcases this with h | h <;> simp [h]
      refine lv_istore_n (lv' := [(3, .int (nI a)), (0, .ref (gxa Γ 3)), (1, .int row), (2, .int x)]) hx hb dX3_below_6 rfl hl (by decide) rfl (fun ls hl => ?_)
      refine lv_iload_n hx hb dX3_below_7 rfl (lv_at hl 0 rfl) ?_
      refine lv_iconst (v := -1) hx hb dX3_below_8 (by decide) ?_
      refine lv_icmp_ne (tgt := 16) hx hb dX3_below_9 (by decide) (fun _ => ?_) (fun h1 => absurd h1 (nI_nm1 (Nat.lt_trans lt_a (by decide))))
      refine lv_aload_n hx hb dX3_below_16 rfl (lv_at hl 1 rfl) ?_
      refine lv_iload_n hx hb dX3_below_17 rfl (lv_at hl 0 rfl) ?_
      refine cV S (c_X3_count (l := l) (D := D) (lo := lo) (Γ := Γ) (C := C) (V := V) (th := 0) (mn := mn) (tm := tm) (kt := kt) (Q := Q) (zs := zs) (be := be) (kp := kp) (.branch a (zof (U r) a).2.1 (zof (U r) a).2.2.1) 41 (parC (zof (U r) a).2.2.2) (Nat.lt_succ_of_le (Nat.le_trans (hgt_tids _) (Nat.le_trans (by have h := congrArg (fun t => (tids t).length) hzp; simp only [tids_plug, List.length_append] at h; omega) hlen))) hz.1 (fun b hb => h40 b (hinz b (Or.inl hb)))) (cwV 1 hts gX3_below_X3_count rfl rfl rfl (by decide +kernel) ⟨Nat.le_of_ble_eq_true rfl, Nat.le_of_ble_eq_true rfl⟩) hK hH (Hp_recv hK hH (gmo hH (j := 3) (by simp)).1 (gmo hH (j := 3) (by simp)).2.1 rfl) hS rfl hl.1 rfl (Nat.le_of_ble_eq_true rfl) dX3_below_18 ⟨Nat.le_of_ble_eq_true rfl, Nat.le_of_ble_eq_true rfl⟩ (fun v Z1 H locs hpost hH hS => ?_)
      obtain ⟨rfl, rfl⟩ := hpost
      refine lv_iconst (v := 1) hx hb dX3_below_21 (by decide) ?_
      refine lv_isub hx hb dX3_below_22 ?_
      rw [show nI (tids (.branch a (zof (U r) a).2.1 (zof (U r) a).2.2.1)).length - 1 = nI ((tids (zof (U r) a).2.1).length + (tids (zof (U r) a).2.2.1).length) by rw [show (1 : Int32) = nI 1 from rfl, nI_sb (by rw [tids_branch]; simp only [List.length_append, List.length_cons]; omega)]; congr 1; rw [tids_branch]; simp only [List.length_append, List.length_cons]; omega]
      exact eI S hr hlocks hH hS ⟨by rw [e9], by rw [e9]⟩ dX3_below_23

set_option maxRecDepth 100000 in
set_option maxHeartbeats 4000000 in
theorem c_X3_eaten {U : Nat → Tr} {row x : Int32} (hM : MI Q zs U mn) : Md l yX3_eaten wsX3_eaten (rmL 44 0 0) D lo Γ [.ref (gxa Γ 3), .int row, .int x] (C, (th, mn, tm, kt, Q, zs, be, kp), V) (some (.int (qa U (zn zs) row x (fun r a => nI (be a))).2)) (C, ((qa U (zn zs) row x (fun r a => nI (be a))).1, mn, tm, kt, Q, zs, be, kp), V) := by
  refine Mz_of (cc := cX3_eaten) (maxL := 4) (ret := (some .int)) (by decide) rfl (Nat.le_of_ble_eq_true rfl) ?_
  intro p e s m args below meth c ls S hr hlocks hK hH hS hl
  have hx := S.1
  have hb := S.2.1
  have hts := S.2.2.2.2
  have f9 : (Cond.fieldLink RX3 9 (TX3 3).1 (TX3 3).2.1 (TX3 3).2.2.1).before args s = true := hts _ (List.mem_of_getElem? (i := 1) rfl)
  have hi3 : ∀ w ∈ wsX30, w ∈ wsX3_eaten := by decide +kernel
  have hl : lv_has ls 4 [(0, .ref (gxa Γ 3)), (1, .int row), (2, .int x)] := hl
  obtain ⟨h_t, h_nd, h_mn, h_zs, h_40⟩ := id hM
  refine lv_aload_n hx hb dX3_eaten_0 rfl (lv_at hl 0 rfl) ?_
  refine lv_iload_n hx hb dX3_eaten_1 rfl (lv_at hl 1 rfl) ?_
  refine lv_iload_n hx hb dX3_eaten_2 rfl (lv_at hl 2 rfl) ?_
  refine cV S (c_X3_asked (l := l) (D := D) (lo := lo) (Γ := Γ) (C := C) (V := V) (th := th) (mn := mn) (tm := tm) (kt := kt) (Q := Q) (zs := zs) (be := be) (kp := kp) (x := x) hM) (cwV 2 hts gX3_eaten_X3_asked rfl rfl rfl (by decide +kernel) ⟨Nat.le_of_ble_eq_true rfl, Nat.le_of_ble_eq_true rfl⟩) hK hH (Hp_recv hK hH (gmo hH (j := 3) (by simp)).1 (gmo hH (j := 3) (by simp)).2.1 rfl) hS rfl hl.1 rfl (Nat.le_of_ble_eq_true rfl) dX3_eaten_3 ⟨Nat.le_of_ble_eq_true rfl, Nat.le_of_ble_eq_true rfl⟩ (fun v Z1 H locs hpost hH hS => ?_)
  obtain ⟨rfl, rfl⟩ := hpost
  rcases hrow : rowN row with _ | r
  · skip
    have e9 : (qa U (zn zs) row x (fun r a => nI (be a))) = (1, 0) := by unfold qa; rw [hrow]
    have ea : ak U zs row x = (1, none) := by unfold ak; rw [hrow]
    rw [ea] at hH ⊢
    have hH : Hp D lo Γ (C, (1, mn, tm, kt, Q, zs, be, kp), V) H := hH
    refine lv_istore_n (lv' := [(3, .int (-1)), (0, .ref (gxa Γ 3)), (1, .int row), (2, .int x)]) hx hb dX3_eaten_6 rfl hl (by decide) rfl (fun ls hl => ?_)
    refine lv_iload_n hx hb dX3_eaten_7 rfl (lv_at hl 0 rfl) ?_
    refine lv_iconst (v := -1) hx hb dX3_eaten_8 (by decide) ?_
    refine lv_icmp_ne (tgt := 16) hx hb dX3_eaten_9 (by decide) (fun h1 => absurd rfl h1) (fun _ => ?_)
    refine lv_iconst (v := 0) hx hb dX3_eaten_12 (by decide) ?_
    refine lv_goto (tgt := 26) hx hb dX3_eaten_13 (by decide) ?_
    exact eI S hr hlocks hH hS ⟨by rw [e9], by rw [e9]⟩ dX3_eaten_26
  · skip
    cases hf : fnd (zn zs) x.toInt (U r) with
    | none =>
      have e9 : (qa U (zn zs) row x (fun r a => nI (be a))) = (2, 0) := by unfold qa; rw [hrow]; dsimp only; rw [hf]
      have ea : ak U zs row x = (2, none) := by unfold ak; rw [hrow]; dsimp only; rw [hf]
      rw [ea] at hH ⊢
      have hH : Hp D lo Γ (C, (2, mn, tm, kt, Q, zs, be, kp), V) H := hH
      refine lv_istore_n (lv' := [(3, .int (-1)), (0, .ref (gxa Γ 3)), (1, .int row), (2, .int x)]) hx hb dX3_eaten_6 rfl hl (by decide) rfl (fun ls hl => ?_)
      refine lv_iload_n hx hb dX3_eaten_7 rfl (lv_at hl 0 rfl) ?_
      refine lv_iconst (v := -1) hx hb dX3_eaten_8 (by decide) ?_
      refine lv_icmp_ne (tgt := 16) hx hb dX3_eaten_9 (by decide) (fun h1 => absurd rfl h1) (fun _ => ?_)
      refine lv_iconst (v := 0) hx hb dX3_eaten_12 (by decide) ?_
      refine lv_goto (tgt := 26) hx hb dX3_eaten_13 (by decide) ?_
      exact eI S hr hlocks hH hS ⟨by rw [e9], by rw [e9]⟩ dX3_eaten_26
    | some a =>
      have e9 : (qa U (zn zs) row x (fun r a => nI (be a))) = (0, nI (be a)) := by unfold qa; rw [hrow]; dsimp only; rw [hf]
      have ea : ak U zs row x = (0, some a) := by unfold ak; rw [hrow]; dsimp only; rw [hf]
      rw [ea] at hH ⊢
      have hH : Hp D lo Γ (C, (0, mn, tm, kt, Q, zs, be, kp), V) H := hH
      have hr6 := (rowN_some hrow).1
      obtain ⟨hR, hs⟩ := h_t r hr6
      obtain ⟨h_top, h_rep, h_n, h_ok⟩ := id hR
      have h40 : ∀ a ∈ tids (U r), a < 40 := fun a ha => (h_ok a ha).1
      have hlen : (tids (U r)).length ≤ 40 := Nat.le_trans (gids_le hr6) h_40
      have hh : hgt (U r) < 41 := Nat.lt_succ_of_le (Nat.le_trans (hgt_tids _) hlen)
      have hin_a := (fnd_mem _ _ hf).1
      have lt_a := h40 a hin_a
      have hzp := zof_plug hin_a
      have hz : Zp Q (.branch a (zof (U r) a).2.1 (zof (U r) a).2.2.1) (zof (U r) a).2.2.2 := (Zp_plug _ _).mpr (by rw [hzp]; exact h_rep)
      have hz40 : ∀ b ∈ tids (plug (.branch a (zof (U r) a).2.1 (zof (U r) a).2.2.1) (zof (U r) a).2.2.2), b < 40 := by rw [hzp]; exact h40
      have hinz : ∀ b, b ∈ tids (.branch a (zof (U r) a).2.1 (zof (U r) a).2.2.1) ∨ parC (zof (U r) a).2.2.2 = some b → b ∈ tids (U r) := fun b hb => by
        rw [← hzp, tids_plug]
        rcases hb with h | h
        · simp [h]
        · have := parC_mem h; rcases this with h | h <;> simp [h]
      refine lv_istore_n (lv' := [(3, .int (nI a)), (0, .ref (gxa Γ 3)), (1, .int row), (2, .int x)]) hx hb dX3_eaten_6 rfl hl (by decide) rfl (fun ls hl => ?_)
      refine lv_iload_n hx hb dX3_eaten_7 rfl (lv_at hl 0 rfl) ?_
      refine lv_iconst (v := -1) hx hb dX3_eaten_8 (by decide) ?_
      refine lv_icmp_ne (tgt := 16) hx hb dX3_eaten_9 (by decide) (fun _ => ?_) (fun h1 => absurd h1 (nI_nm1 (Nat.lt_trans lt_a (by decide))))
      refine lv_aload_n hx hb dX3_eaten_16 rfl (lv_at hl 1 rfl) ?_
      refine gM S hi3 hK hH 3 (by decide) f9 (v := .ref (gna Γ)) rfl dX3_eaten_17 ?_
      refine lv_sipush (v := 160) hx hb dX3_eaten_20 (by decide +kernel) ?_
      refine lv_iload_n hx hb dX3_eaten_23 rfl (lv_at hl 0 rfl) ?_
      refine lv_iadd hx hb dX3_eaten_24 ?_
      refine gNea S hK hH lt_a dX3_eaten_25 ?_
      exact eI S hr hlocks hH hS ⟨by rw [e9], by rw [e9]⟩ dX3_eaten_26

set_option maxRecDepth 100000 in
set_option maxHeartbeats 4000000 in
theorem c_X3_fits {U : Nat → Tr} {r q : Nat} (hr6 : r < 6) (hr62 : q < 6) (hM : MI Q zs U mn) : Md l yX3_fits wsX3_fits (rmL 43 0 0) D lo Γ [.ref (gxa Γ 3), .int (nI r), .int (nI q)] (C, (th, mn, tm, kt, Q, zs, be, kp), V) (some (.int (if r ≠ q ∧ mayJ (zn zs) (U r) (U q) = true then 1 else 0))) (C, (th, mn, tm, kt, Q, zs, be, kp), V) := by
  refine Mz_of (cc := cX3_fits) (maxL := 3) (ret := (some .boolean)) (by decide) rfl (Nat.le_of_ble_eq_true rfl) ?_
  intro p e s m args below meth c ls S hr hlocks hK hH hS hl
  have hx := S.1
  have hb := S.2.1
  have hts := S.2.2.2.2
  have f9 : (Cond.fieldLink RX3 9 (TX3 3).1 (TX3 3).2.1 (TX3 3).2.2.1).before args s = true := hts _ (List.mem_of_getElem? (i := 1) rfl)
  have hi3 : ∀ w ∈ wsX30, w ∈ wsX3_fits := by decide +kernel
  have hl : lv_has ls 3 [(0, .ref (gxa Γ 3)), (1, .int (nI r)), (2, .int (nI q))] := hl
  obtain ⟨h_t, h_nd, h_mn, h_zs, h_40⟩ := id hM
  obtain ⟨hR, hs⟩ := h_t r hr6
  obtain ⟨h_top, h_rep, h_n, h_ok⟩ := id hR
  have h40 : ∀ a ∈ tids (U r), a < 40 := fun a ha => (h_ok a ha).1
  have hlen : (tids (U r)).length ≤ 40 := Nat.le_trans (gids_le hr6) h_40
  have hh : hgt (U r) < 41 := Nat.lt_succ_of_le (Nat.le_trans (hgt_tids _) hlen)
  obtain ⟨hR2, hs2⟩ := h_t q hr62
  obtain ⟨h_top2, h_rep2, h_n2, h_ok2⟩ := id hR2
  have h402 : ∀ a ∈ tids (U q), a < 40 := fun a ha => (h_ok2 a ha).1
  have hlen2 : (tids (U q)).length ≤ 40 := Nat.le_trans (gids_le hr62) h_40
  have hh2 : hgt (U q) < 41 := Nat.lt_succ_of_le (Nat.le_trans (hgt_tids _) hlen2)
  refine lv_iload_n hx hb dX3_fits_0 rfl (lv_at hl 1 rfl) ?_
  refine lv_iload_n hx hb dX3_fits_1 rfl (lv_at hl 2 rfl) ?_
  refine lv_icmp_ne (tgt := 7) hx hb dX3_fits_2 (by decide) (fun h1 => ?_) (fun h1 => ?_)
  · skip
    have hrq : r ≠ q := fun q9 => h1 (by rw [q9])
    cases hl9 : (tids (U r)).getLast? with
    | none =>
      have h0 : rt (U r) = none := by have := List.getLast?_eq_none_iff.mp hl9; cases hu : U r with | leaf u => rfl | branch k9 l9 r9 => rw [hu] at this; simp [tids] at this
      have hj : mayJ (zn zs) (U r) (U q) = true := by unfold mayJ; rw [hl9]
      rw [h0] at h_top
      refine lv_aload_n hx hb dX3_fits_7 rfl (lv_at hl 0 rfl) ?_
      refine gM S hi3 hK hH 3 (by decide) f9 (v := .ref (gna Γ)) rfl dX3_fits_8 ?_
      refine lv_sipush (v := 200) hx hb dX3_fits_11 (by decide +kernel) ?_
      refine lv_iload_n hx hb dX3_fits_14 rfl (lv_at hl 1 rfl) ?_
      refine lv_iadd hx hb dX3_fits_15 ?_
      refine gN S hK hH (n := 200 + r) (x := -1) (nI_ofadd (a := 200) rfl) (by have := hr6; omega) (enc_tp.trans (congrArg er h_top)) dX3_fits_16 ?_
      refine lv_iconst (v := -1) hx hb dX3_fits_17 (by decide) ?_
      refine lv_icmp_eq (tgt := 84) hx hb dX3_fits_18 (by decide) (fun _ => ?_) (fun h1 => absurd rfl h1)
      refine lv_iconst (v := 1) hx hb dX3_fits_84 (by decide) ?_
      refine lv_goto (tgt := 89) hx hb dX3_fits_85 (by decide) ?_
      exact eZ S hr hlocks (Or.inr rfl) hH hS ⟨by rw [if_pos ⟨hrq, hj⟩], rfl⟩ dX3_fits_89
    | some g =>
      have hg := List.mem_of_getLast? hl9
      obtain ⟨k9, hk9⟩ : ∃ k, rt (U r) = some k := by cases hu : U r with | leaf u => rw [hu] at hg; cases hg | branch k9 l9 r9 => exact ⟨k9, rfl⟩
      have h_top0 := h_top
      rw [hk9] at h_top
      have lt_k9 := h40 k9 (rt_mem hk9)
      have lt_g := h40 g hg
      have hgz := (h_ok g hg).2
      refine lv_aload_n hx hb dX3_fits_7 rfl (lv_at hl 0 rfl) ?_
      refine gM S hi3 hK hH 3 (by decide) f9 (v := .ref (gna Γ)) rfl dX3_fits_8 ?_
      refine lv_sipush (v := 200) hx hb dX3_fits_11 (by decide +kernel) ?_
      refine lv_iload_n hx hb dX3_fits_14 rfl (lv_at hl 1 rfl) ?_
      refine lv_iadd hx hb dX3_fits_15 ?_
      refine gN S hK hH (n := 200 + r) (x := nI k9) (nI_ofadd (a := 200) rfl) (by have := hr6; omega) (enc_tp.trans (congrArg er h_top)) dX3_fits_16 ?_
      refine lv_iconst (v := -1) hx hb dX3_fits_17 (by decide) ?_
      refine lv_icmp_eq (tgt := 84) hx hb dX3_fits_18 (by decide) (fun h1 => absurd h1 (nI_nm1 (Nat.lt_trans lt_k9 (by decide)))) (fun _ => ?_)
      cases hf9 : (tids (U q)).head? with
      | none =>
        have h0 : rt (U q) = none := by have := List.head?_eq_none_iff.mp hf9; cases hu : U q with | leaf u => rfl | branch k9 l9 r9 => rw [hu] at this; simp [tids] at this
        have hj : mayJ (zn zs) (U r) (U q) = true := by unfold mayJ; rw [hl9, hf9]
        rw [h0] at h_top2
        refine lv_aload_n hx hb dX3_fits_21 rfl (lv_at hl 0 rfl) ?_
        refine gM S hi3 hK hH 3 (by decide) f9 (v := .ref (gna Γ)) rfl dX3_fits_22 ?_
        refine lv_sipush (v := 200) hx hb dX3_fits_25 (by decide +kernel) ?_
        refine lv_iload_n hx hb dX3_fits_28 rfl (lv_at hl 2 rfl) ?_
        refine lv_iadd hx hb dX3_fits_29 ?_
        refine gN S hK hH (n := 200 + q) (x := -1) (nI_ofadd (a := 200) rfl) (by have := hr62; omega) (enc_tp.trans (congrArg er h_top2)) dX3_fits_30 ?_
        refine lv_iconst (v := -1) hx hb dX3_fits_31 (by decide) ?_
        refine lv_icmp_eq (tgt := 84) hx hb dX3_fits_32 (by decide) (fun _ => ?_) (fun h1 => absurd rfl h1)
        refine lv_iconst (v := 1) hx hb dX3_fits_84 (by decide) ?_
        refine lv_goto (tgt := 89) hx hb dX3_fits_85 (by decide) ?_
        exact eZ S hr hlocks (Or.inr rfl) hH hS ⟨by rw [if_pos ⟨hrq, hj⟩], rfl⟩ dX3_fits_89
      | some y =>
        have hy := List.mem_of_head? hf9
        obtain ⟨k8, hk8⟩ : ∃ k, rt (U q) = some k := by cases hu : U q with | leaf u => rw [hu] at hy; cases hy | branch k9 l9 r9 => exact ⟨k9, rfl⟩
        have h_top20 := h_top2
        rw [hk8] at h_top2
        have lt_k8 := h402 k8 (rt_mem hk8)
        have lt_y := h402 y hy
        have hyz := (h_ok2 y hy).2
        have hj : mayJ (zn zs) (U r) (U q) = decide (zn zs g < zn zs y) := by unfold mayJ; rw [hl9, hf9]
        refine lv_aload_n hx hb dX3_fits_21 rfl (lv_at hl 0 rfl) ?_
        refine gM S hi3 hK hH 3 (by decide) f9 (v := .ref (gna Γ)) rfl dX3_fits_22 ?_
        refine lv_sipush (v := 200) hx hb dX3_fits_25 (by decide +kernel) ?_
        refine lv_iload_n hx hb dX3_fits_28 rfl (lv_at hl 2 rfl) ?_
        refine lv_iadd hx hb dX3_fits_29 ?_
        refine gN S hK hH (n := 200 + q) (x := nI k8) (nI_ofadd (a := 200) rfl) (by have := hr62; omega) (enc_tp.trans (congrArg er h_top2)) dX3_fits_30 ?_
        refine lv_iconst (v := -1) hx hb dX3_fits_31 (by decide) ?_
        refine lv_icmp_eq (tgt := 84) hx hb dX3_fits_32 (by decide) (fun h1 => absurd h1 (nI_nm1 (Nat.lt_trans lt_k8 (by decide)))) (fun _ => ?_)
        refine lv_aload_n hx hb dX3_fits_35 rfl (lv_at hl 0 rfl) ?_
        refine gM S hi3 hK hH 3 (by decide) f9 (v := .ref (gna Γ)) rfl dX3_fits_36 ?_
        refine lv_iconst (v := 0) hx hb dX3_fits_39 (by decide) ?_
        refine lv_aload_n hx hb dX3_fits_40 rfl (lv_at hl 0 rfl) ?_
        refine lv_aload_n hx hb dX3_fits_41 rfl (lv_at hl 0 rfl) ?_
        refine gM S hi3 hK hH 3 (by decide) f9 (v := .ref (gna Γ)) rfl dX3_fits_42 ?_
        refine lv_sipush (v := 200) hx hb dX3_fits_45 (by decide +kernel) ?_
        refine lv_iload_n hx hb dX3_fits_48 rfl (lv_at hl 1 rfl) ?_
        refine lv_iadd hx hb dX3_fits_49 ?_
        refine gN S hK hH (n := 200 + r) (x := er (rt (U r))) (nI_ofadd (a := 200) rfl) (by have := hr6; omega) (enc_tp.trans (congrArg er h_top0)) dX3_fits_50 ?_
        refine lv_bipush (v := 80) hx hb dX3_fits_51 (by decide +kernel) ?_
        refine cV S (c_X3_endR (l := l) (D := D) (lo := lo) (Γ := Γ) (C := C) (V := V) (th := th) (mn := mn) (tm := tm) (kt := kt) (Q := Q) (zs := zs) (be := be) (kp := kp) h_rep h40) (cwV 2 hts gX3_fits_X3_end rfl rfl rfl (by decide +kernel) ⟨Nat.le_of_ble_eq_true rfl, Nat.le_of_ble_eq_true rfl⟩) hK hH (Hp_recv hK hH (gmo hH (j := 3) (by simp)).1 (gmo hH (j := 3) (by simp)).2.1 rfl) hS rfl hl.1 rfl (Nat.le_of_ble_eq_true rfl) dX3_fits_53 ⟨Nat.le_of_ble_eq_true rfl, Nat.le_of_ble_eq_true rfl⟩ (fun v Z1 H locs hpost hH hS => ?_)
        obtain ⟨rfl, rfl⟩ := hpost
        rw [hl9]
        refine lv_iadd hx hb dX3_fits_56 ?_
        refine gN S hK hH (n := g) (x := nI (zn zs g)) ((nI_ofadd (a := 0) rfl).trans (by rw [Nat.zero_add])) (Nat.lt_trans lt_g (by decide)) ((enc_sz lt_g).trans (congrArg er hgz.1)) dX3_fits_57 ?_
        refine lv_aload_n hx hb dX3_fits_58 rfl (lv_at hl 0 rfl) ?_
        refine gM S hi3 hK hH 3 (by decide) f9 (v := .ref (gna Γ)) rfl dX3_fits_59 ?_
        refine lv_iconst (v := 0) hx hb dX3_fits_62 (by decide) ?_
        refine lv_aload_n hx hb dX3_fits_63 rfl (lv_at hl 0 rfl) ?_
        refine lv_aload_n hx hb dX3_fits_64 rfl (lv_at hl 0 rfl) ?_
        refine gM S hi3 hK hH 3 (by decide) f9 (v := .ref (gna Γ)) rfl dX3_fits_65 ?_
        refine lv_sipush (v := 200) hx hb dX3_fits_68 (by decide +kernel) ?_
        refine lv_iload_n hx hb dX3_fits_71 rfl (lv_at hl 2 rfl) ?_
        refine lv_iadd hx hb dX3_fits_72 ?_
        refine gN S hK hH (n := 200 + q) (x := er (rt (U q))) (nI_ofadd (a := 200) rfl) (by have := hr62; omega) (enc_tp.trans (congrArg er h_top20)) dX3_fits_73 ?_
        refine lv_bipush (v := 40) hx hb dX3_fits_74 (by decide +kernel) ?_
        refine cV S (c_X3_endL (l := l) (D := D) (lo := lo) (Γ := Γ) (C := C) (V := V) (th := th) (mn := mn) (tm := tm) (kt := kt) (Q := Q) (zs := zs) (be := be) (kp := kp) h_rep2 h402) (cwV 2 hts gX3_fits_X3_end rfl rfl rfl (by decide +kernel) ⟨Nat.le_of_ble_eq_true rfl, Nat.le_of_ble_eq_true rfl⟩) hK hH (Hp_recv hK hH (gmo hH (j := 3) (by simp)).1 (gmo hH (j := 3) (by simp)).2.1 rfl) hS rfl hl.1 rfl (Nat.le_of_ble_eq_true rfl) dX3_fits_76 ⟨Nat.le_of_ble_eq_true rfl, Nat.le_of_ble_eq_true rfl⟩ (fun v Z1 H locs hpost hH hS => ?_)
        obtain ⟨rfl, rfl⟩ := hpost
        rw [hf9]
        refine lv_iadd hx hb dX3_fits_79 ?_
        refine gN S hK hH (n := y) (x := nI (zn zs y)) ((nI_ofadd (a := 0) rfl).trans (by rw [Nat.zero_add])) (Nat.lt_trans lt_y (by decide)) ((enc_sz lt_y).trans (congrArg er hyz.1)) dX3_fits_80 ?_
        refine lv_icmp_ge (tgt := 88) hx hb dX3_fits_81 (by decide) (fun h2 => ?_) (fun h2 => ?_)
        · skip
          have h2 := (nI_leI (by omega) (by omega)).mp h2
          refine lv_iconst (v := 0) hx hb dX3_fits_88 (by decide) ?_
          exact eZ S hr hlocks (Or.inl rfl) hH hS ⟨by rw [if_neg (fun h => by have := h.2; rw [hj] at this; have := of_decide_eq_true this; omega)], rfl⟩ dX3_fits_89
        · skip
          have h2 := mt (nI_leI (a := zn zs y) (b := zn zs g) (by omega) (by omega)).mpr h2
          refine lv_iconst (v := 1) hx hb dX3_fits_84 (by decide) ?_
          refine lv_goto (tgt := 89) hx hb dX3_fits_85 (by decide) ?_
          exact eZ S hr hlocks (Or.inr rfl) hH hS ⟨by rw [if_pos ⟨hrq, by rw [hj]; exact decide_eq_true (by omega)⟩], rfl⟩ dX3_fits_89
  · skip
    have hrq : r = q := nI_inj9 (by omega) (by omega) h1
    refine lv_iconst (v := 0) hx hb dX3_fits_5 (by decide) ?_
    exact eZ S hr hlocks (Or.inl rfl) hH hS ⟨by rw [if_neg (fun h => h.1 hrq)], rfl⟩ dX3_fits_6

set_option maxRecDepth 100000 in
set_option maxHeartbeats 4000000 in
theorem c_X3_canJoin {U : Nat → Tr} {row x : Int32} (hM : MI Q zs U mn) : Md l yX3_canJoin wsX3_canJoin (rmL 44 0 0) D lo Γ [.ref (gxa Γ 3), .int row, .int x] (C, (th, mn, tm, kt, Q, zs, be, kp), V) (some (.int (qj U (zn zs) row x).2)) (C, ((qj U (zn zs) row x).1, mn, tm, kt, Q, zs, be, kp), V) := by
  refine Mz_of (cc := cX3_canJoin) (maxL := 3) (ret := (some .boolean)) (by decide) rfl (Nat.le_of_ble_eq_true rfl) ?_
  intro p e s m args below meth c ls S hr hlocks hK hH hS hl
  have hx := S.1
  have hb := S.2.1
  have hts := S.2.2.2.2
  have f16 : (Cond.fieldLink RX3 16 (TX3 0).1 (TX3 0).2.1 (TX3 0).2.2.1).before args s = true := hts _ (List.mem_of_getElem? (i := 1) rfl)
  have hi3 : ∀ w ∈ wsX30, w ∈ wsX3_canJoin := by decide +kernel
  have hl : lv_has ls 3 [(0, .ref (gxa Γ 3)), (1, .int row), (2, .int x)] := hl
  refine lv_aload_n hx hb dX3_canJoin_0 rfl (lv_at hl 0 rfl) ?_
  refine lv_iconst (v := 0) hx hb dX3_canJoin_1 (by decide) ?_
  refine pM S hi3 hK hH hS 0 (by decide) f16 (0, mn, tm, kt, Q, zs, be, kp) rfl rfl dX3_canJoin_2 (fun H locs hH hS => ?_)
  refine lv_iload_n hx hb dX3_canJoin_5 rfl (lv_at hl 1 rfl) ?_
  refine cSt S (c_X3_isRow (l := l) (D := D) (lo := lo) (Γ := Γ) (C := C) (V := V) (th := 0) (mn := mn) (tm := tm) (kt := kt) (Q := Q) (zs := zs) (be := be) (kp := kp) (x := row)) (va_cwS 1 hts gX3_canJoin_X3_isRow rfl rfl rfl (by decide +kernel) ⟨Nat.le_of_ble_eq_true rfl, Nat.le_of_ble_eq_true rfl⟩) hK hH hS rfl hl.1 rfl (Nat.le_of_ble_eq_true rfl) dX3_canJoin_6 ⟨Nat.le_of_ble_eq_true rfl, Nat.le_of_ble_eq_true rfl⟩ (fun v Z1 H locs hpost hH hS => ?_)
  obtain ⟨rfl, rfl⟩ := hpost
  rcases hrow : rowN row with _ | r
  · skip
    have e9 : (qj U (zn zs) row x) = (1, 0) := by unfold qj; rw [hrow]
    refine lv_if_eq (tgt := 28) hx hb dX3_canJoin_9 (by decide) (fun _ => ?_) (fun h1 => absurd rfl h1)
    refine lv_aload_n hx hb dX3_canJoin_28 rfl (lv_at hl 0 rfl) ?_
    refine lv_iconst (v := 1) hx hb dX3_canJoin_29 (by decide) ?_
    refine cV S (c_X3_isNot (l := l) (D := D) (lo := lo) (Γ := Γ) (C := C) (V := V) (th := 0) (mn := mn) (tm := tm) (kt := kt) (Q := Q) (zs := zs) (be := be) (kp := kp) (n := 1)) (cwV 1 hts gX3_canJoin_X3_isNot rfl rfl rfl (by decide +kernel) ⟨Nat.le_of_ble_eq_true rfl, Nat.le_of_ble_eq_true rfl⟩) hK hH (Hp_recv hK hH (gmo hH (j := 3) (by simp)).1 (gmo hH (j := 3) (by simp)).2.1 rfl) hS rfl hl.1 rfl (Nat.le_of_ble_eq_true rfl) dX3_canJoin_30 ⟨Nat.le_of_ble_eq_true rfl, Nat.le_of_ble_eq_true rfl⟩ (fun v Z1 H locs hpost hH hS => ?_)
    obtain ⟨rfl, rfl⟩ := hpost
    exact eZ S hr hlocks (Or.inl rfl) hH hS ⟨by rw [e9], by rw [e9]⟩ dX3_canJoin_33
  · skip
    refine lv_if_eq (tgt := 28) hx hb dX3_canJoin_9 (by decide) (fun h1 => absurd h1 (show ¬ (1 : Int32) = 0 by decide)) (fun _ => ?_)
    refine lv_iload_n hx hb dX3_canJoin_12 rfl (lv_at hl 2 rfl) ?_
    refine cSt S (c_X3_isRow (l := l) (D := D) (lo := lo) (Γ := Γ) (C := C) (V := V) (th := 0) (mn := mn) (tm := tm) (kt := kt) (Q := Q) (zs := zs) (be := be) (kp := kp) (x := x)) (va_cwS 1 hts gX3_canJoin_X3_isRow rfl rfl rfl (by decide +kernel) ⟨Nat.le_of_ble_eq_true rfl, Nat.le_of_ble_eq_true rfl⟩) hK hH hS rfl hl.1 rfl (Nat.le_of_ble_eq_true rfl) dX3_canJoin_13 ⟨Nat.le_of_ble_eq_true rfl, Nat.le_of_ble_eq_true rfl⟩ (fun v Z1 H locs hpost hH hS => ?_)
    obtain ⟨rfl, rfl⟩ := hpost
    rcases hrow2 : rowN x with _ | q
    · skip
      have e9 : (qj U (zn zs) row x) = (1, 0) := by unfold qj; rw [hrow]; dsimp only; rw [hrow2]
      refine lv_if_eq (tgt := 28) hx hb dX3_canJoin_16 (by decide) (fun _ => ?_) (fun h1 => absurd rfl h1)
      refine lv_aload_n hx hb dX3_canJoin_28 rfl (lv_at hl 0 rfl) ?_
      refine lv_iconst (v := 1) hx hb dX3_canJoin_29 (by decide) ?_
      refine cV S (c_X3_isNot (l := l) (D := D) (lo := lo) (Γ := Γ) (C := C) (V := V) (th := 0) (mn := mn) (tm := tm) (kt := kt) (Q := Q) (zs := zs) (be := be) (kp := kp) (n := 1)) (cwV 1 hts gX3_canJoin_X3_isNot rfl rfl rfl (by decide +kernel) ⟨Nat.le_of_ble_eq_true rfl, Nat.le_of_ble_eq_true rfl⟩) hK hH (Hp_recv hK hH (gmo hH (j := 3) (by simp)).1 (gmo hH (j := 3) (by simp)).2.1 rfl) hS rfl hl.1 rfl (Nat.le_of_ble_eq_true rfl) dX3_canJoin_30 ⟨Nat.le_of_ble_eq_true rfl, Nat.le_of_ble_eq_true rfl⟩ (fun v Z1 H locs hpost hH hS => ?_)
      obtain ⟨rfl, rfl⟩ := hpost
      exact eZ S hr hlocks (Or.inl rfl) hH hS ⟨by rw [e9], by rw [e9]⟩ dX3_canJoin_33
    · skip
      have e9 : (qj U (zn zs) row x) = (0, if r ≠ q ∧ mayJ (zn zs) (U r) (U q) = true then 1 else 0) := by unfold qj; rw [hrow]; dsimp only; rw [hrow2]
      obtain ⟨hr6, rfl⟩ := rowN_some hrow
      obtain ⟨hr62, rfl⟩ := rowN_some hrow2
      refine lv_if_eq (tgt := 28) hx hb dX3_canJoin_16 (by decide) (fun h1 => absurd h1 (show ¬ (1 : Int32) = 0 by decide)) (fun _ => ?_)
      refine lv_aload_n hx hb dX3_canJoin_19 rfl (lv_at hl 0 rfl) ?_
      refine lv_iload_n hx hb dX3_canJoin_20 rfl (lv_at hl 1 rfl) ?_
      refine lv_iload_n hx hb dX3_canJoin_21 rfl (lv_at hl 2 rfl) ?_
      refine cV S (c_X3_fits (l := l) (D := D) (lo := lo) (Γ := Γ) (C := C) (V := V) (th := 0) (mn := mn) (tm := tm) (kt := kt) (Q := Q) (zs := zs) (be := be) (kp := kp) hr6 hr62 hM) (cwV 2 hts gX3_canJoin_X3_fits rfl rfl rfl (by decide +kernel) ⟨Nat.le_of_ble_eq_true rfl, Nat.le_of_ble_eq_true rfl⟩) hK hH (Hp_recv hK hH (gmo hH (j := 3) (by simp)).1 (gmo hH (j := 3) (by simp)).2.1 rfl) hS rfl hl.1 rfl (Nat.le_of_ble_eq_true rfl) dX3_canJoin_22 ⟨Nat.le_of_ble_eq_true rfl, Nat.le_of_ble_eq_true rfl⟩ (fun v Z1 H locs hpost hH hS => ?_)
      obtain ⟨rfl, rfl⟩ := hpost
      refine lv_goto (tgt := 33) hx hb dX3_canJoin_25 (by decide) ?_
      by_cases hj : r ≠ q ∧ mayJ (zn zs) (U r) (U q) = true
      · skip
        rw [if_pos hj] at e9 ⊢
        exact eZ S hr hlocks (Or.inr rfl) hH hS ⟨by rw [e9], by rw [e9]⟩ dX3_canJoin_33
      · skip
        rw [if_neg hj] at e9 ⊢
        exact eZ S hr hlocks (Or.inl rfl) hH hS ⟨by rw [e9], by rw [e9]⟩ dX3_canJoin_33
end MMod5
