/-! METHODS of the reference: the best to eat, what would be behind -/
abbrev zs9 (t : Tr) : List Zi := zs t []
section MMod7
variable {l : Launch} {D : va_G} {lo : Nat} {Γ : GT} {C : CW} {V : Int64 × UInt64} {th mn tm kt : Nat} {Q : PF} {zs : Nat → Option Nat} {be : Nat → Nat} {kp : Nat → Int32}
set_option maxRecDepth 100000 in
set_option maxHeartbeats 4000000 in
theorem c_X3_depthBehind {U : Nat → Tr} {row x y : Int32} (hM : MI Q zs U mn) : Mz l yX3_depthBehind wsX3_depthBehind (rmL 44 0 0) D lo Γ [.ref (gxa Γ 3), .int row, .int x, .int y] (C, (th, mn, tm, kt, Q, zs, be, kp), V) (fun v Z' => v = some (.int (qd U (zn zs) row x y).2) ∧ ∃ kt9 kp9, Z' = (C, ((qd U (zn zs) row x y).1, mn, tm, kt9, Q, zs, be, kp9), V)) := by
  refine Mz_of (cc := cX3_depthBehind) (maxL := 7) (ret := (some .int)) (by decide) rfl (Nat.le_of_ble_eq_true rfl) ?_
  intro p e s m args below meth c ls S hr hlocks hK hH hS hl
  have hx := S.1
  have hb := S.2.1
  have hts := S.2.2.2.2
  have hl : lv_has ls 7 [(0, .ref (gxa Γ 3)), (1, .int row), (2, .int x), (3, .int y)] := hl
  obtain ⟨h_t, h_nd, h_mn, h_zs, h_40⟩ := id hM
  refine lv_aload_n hx hb dX3_depthBehind_0 rfl (lv_at hl 0 rfl) ?_
  refine lv_iload_n hx hb dX3_depthBehind_1 rfl (lv_at hl 1 rfl) ?_
  refine lv_iload_n hx hb dX3_depthBehind_2 rfl (lv_at hl 2 rfl) ?_
  refine cV S (c_X3_asked (l := l) (D := D) (lo := lo) (Γ := Γ) (C := C) (V := V) (th := th) (mn := mn) (tm := tm) (kt := kt) (Q := Q) (zs := zs) (be := be) (kp := kp) (x := x) hM) (cwV 2 hts gX3_depthBehind_X3_asked rfl rfl rfl (by decide +kernel) ⟨Nat.le_of_ble_eq_true rfl, Nat.le_of_ble_eq_true rfl⟩) hK hH (Hp_recv hK hH (gmo hH (j := 3) (by simp)).1 (gmo hH (j := 3) (by simp)).2.1 rfl) hS rfl hl.1 rfl (Nat.le_of_ble_eq_true rfl) dX3_depthBehind_3 ⟨Nat.le_of_ble_eq_true rfl, Nat.le_of_ble_eq_true rfl⟩ (fun v Z1 H locs hpost hH hS => ?_)
  obtain ⟨rfl, rfl⟩ := hpost
  rcases hrow : rowN row with _ | r
  · skip
    have e9 : (qd U (zn zs) row x y) = (1, 0) := by unfold qd; rw [hrow]
    have ea : ak U zs row x = (1, none) := by unfold ak; rw [hrow]
    rw [ea] at hH ⊢
    have hH : Hp D lo Γ (C, (1, mn, tm, kt, Q, zs, be, kp), V) H := hH
    refine lv_istore (lv' := [(4, .int (-1)), (0, .ref (gxa Γ 3)), (1, .int row), (2, .int x), (3, .int y)]) hx hb dX3_depthBehind_6 hl (by decide) rfl (fun ls hl => ?_)
    refine lv_iload hx hb dX3_depthBehind_8 (lv_at hl 0 rfl) ?_
    refine lv_iconst (v := -1) hx hb dX3_depthBehind_10 (by decide) ?_
    refine lv_icmp_ne (tgt := 18) hx hb dX3_depthBehind_11 (by decide) (fun h1 => absurd rfl h1) (fun _ => ?_)
    refine lv_iconst (v := -1) hx hb dX3_depthBehind_14 (by decide) ?_
    refine lv_goto (tgt := 24) hx hb dX3_depthBehind_15 (by decide) ?_
    refine lv_istore (lv' := [(5, .int (-1)), (4, .int (-1)), (0, .ref (gxa Γ 3)), (1, .int row), (2, .int x), (3, .int y)]) hx hb dX3_depthBehind_24 hl (by decide) rfl (fun ls hl => ?_)
    refine lv_iload hx hb dX3_depthBehind_26 (lv_at hl 0 rfl) ?_
    refine lv_iconst (v := -1) hx hb dX3_depthBehind_28 (by decide) ?_
    refine lv_icmp_ne (tgt := 34) hx hb dX3_depthBehind_29 (by decide) (fun h1 => absurd rfl h1) (fun _ => ?_)
    refine lv_iconst (v := 0) hx hb dX3_depthBehind_32 (by decide) ?_
    exact eI S hr hlocks hH hS ⟨by rw [e9], kt, kp, by rw [e9]⟩ dX3_depthBehind_33
  · skip
    cases hf : fnd (zn zs) x.toInt (U r) with
    | none =>
      have e9 : (qd U (zn zs) row x y) = (2, 0) := by unfold qd; rw [hrow]; dsimp only; rw [hf]
      have ea : ak U zs row x = (2, none) := by unfold ak; rw [hrow]; dsimp only; rw [hf]
      rw [ea] at hH ⊢
      have hH : Hp D lo Γ (C, (2, mn, tm, kt, Q, zs, be, kp), V) H := hH
      refine lv_istore (lv' := [(4, .int (-1)), (0, .ref (gxa Γ 3)), (1, .int row), (2, .int x), (3, .int y)]) hx hb dX3_depthBehind_6 hl (by decide) rfl (fun ls hl => ?_)
      refine lv_iload hx hb dX3_depthBehind_8 (lv_at hl 0 rfl) ?_
      refine lv_iconst (v := -1) hx hb dX3_depthBehind_10 (by decide) ?_
      refine lv_icmp_ne (tgt := 18) hx hb dX3_depthBehind_11 (by decide) (fun h1 => absurd rfl h1) (fun _ => ?_)
      refine lv_iconst (v := -1) hx hb dX3_depthBehind_14 (by decide) ?_
      refine lv_goto (tgt := 24) hx hb dX3_depthBehind_15 (by decide) ?_
      refine lv_istore (lv' := [(5, .int (-1)), (4, .int (-1)), (0, .ref (gxa Γ 3)), (1, .int row), (2, .int x), (3, .int y)]) hx hb dX3_depthBehind_24 hl (by decide) rfl (fun ls hl => ?_)
      refine lv_iload hx hb dX3_depthBehind_26 (lv_at hl 0 rfl) ?_
      refine lv_iconst (v := -1) hx hb dX3_depthBehind_28 (by decide) ?_
      refine lv_icmp_ne (tgt := 34) hx hb dX3_depthBehind_29 (by decide) (fun h1 => absurd rfl h1) (fun _ => ?_)
      refine lv_iconst (v := 0) hx hb dX3_depthBehind_32 (by decide) ?_
      exact eI S hr hlocks hH hS ⟨by rw [e9], kt, kp, by rw [e9]⟩ dX3_depthBehind_33
    | some a =>
      have ea : ak U zs row x = (0, some a) := by unfold ak; rw [hrow]; dsimp only; rw [hf]
      rw [ea] at hH ⊢
      have hH : Hp D lo Γ (C, (0, mn, tm, kt, Q, zs, be, kp), V) H := hH
      have hr6 := (rowN_some hrow).1
      obtain ⟨hR, hs⟩ := h_t r hr6
      obtain ⟨h_top, h_rep, h_n, h_ok⟩ := id hR
      have h40 : ∀ a ∈ tids (U r), a < 40 := fun a ha => (h_ok a ha).1
      have hlen : (tids (U r)).length ≤ 40 := Nat.le_trans (gids_le hr6) h_40
      have hh : hgt (U r) < 41 := Nat.lt_succ_of_le (Nat.le_trans (hgt_tids _) hlen)
      have hin_a := (fnd_mem _ _ hf).1
      have lt_a := h40 a hin_a
      obtain ⟨hz, hzp⟩ := raise_z h_rep h_n hin_a
      have hzn : (tids (plug (.branch a (zof (U r) a).2.1 (zof (U r) a).2.2.1) (zof (U r) a).2.2.2)).Nodup := by rw [hzp]; exact h_n
      have hz40 : ∀ b ∈ tids (plug (.branch a (zof (U r) a).2.1 (zof (U r) a).2.2.1) (zof (U r) a).2.2.2), b < 40 := by rw [hzp]; exact h40
      obtain ⟨s1, s2, s3, s4, s5⟩ := spz_raise h_rep h_n hin_a
      have hr3 : ∀ x, rai a (zof (U r) a).2.2.2 Q 3 x = Q 3 x := fun x => s5 3 x (by omega)
      have hs40 : ∀ b ∈ tids (spz (zof (U r) a)), b < 40 := by rw [s3]; exact h40
      have hsh : hgt (spz (zof (U r) a)) < 41 := Nat.lt_succ_of_le (Nat.le_trans (hgt_tids _) (by rw [s3]; exact hlen))
      refine lv_istore (lv' := [(4, .int (nI a)), (0, .ref (gxa Γ 3)), (1, .int row), (2, .int x), (3, .int y)]) hx hb dX3_depthBehind_6 hl (by decide) rfl (fun ls hl => ?_)
      refine lv_iload hx hb dX3_depthBehind_8 (lv_at hl 0 rfl) ?_
      refine lv_iconst (v := -1) hx hb dX3_depthBehind_10 (by decide) ?_
      refine lv_icmp_ne (tgt := 18) hx hb dX3_depthBehind_11 (by decide) (fun _ => ?_) (fun h1 => absurd h1 (nI_nm1 (Nat.lt_trans lt_a (by decide))))
      refine lv_aload_n hx hb dX3_depthBehind_18 rfl (lv_at hl 1 rfl) ?_
      refine lv_iload_n hx hb dX3_depthBehind_19 rfl (lv_at hl 2 rfl) ?_
      refine lv_iload_n hx hb dX3_depthBehind_20 rfl (lv_at hl 4 rfl) ?_
      refine cV S (c_X3_asked (l := l) (D := D) (lo := lo) (Γ := Γ) (C := C) (V := V) (th := 0) (mn := mn) (tm := tm) (kt := kt) (Q := Q) (zs := zs) (be := be) (kp := kp) (x := y) hM) (cwV 2 hts gX3_depthBehind_X3_asked rfl rfl rfl (by decide +kernel) ⟨Nat.le_of_ble_eq_true rfl, Nat.le_of_ble_eq_true rfl⟩) hK hH (Hp_recv hK hH (gmo hH (j := 3) (by simp)).1 (gmo hH (j := 3) (by simp)).2.1 rfl) hS rfl hl.1 rfl (Nat.le_of_ble_eq_true rfl) dX3_depthBehind_21 ⟨Nat.le_of_ble_eq_true rfl, Nat.le_of_ble_eq_true rfl⟩ (fun v Z1 H locs hpost hH hS => ?_)
      obtain ⟨rfl, rfl⟩ := hpost
      cases hf2 : fnd (zn zs) y.toInt (U r) with
      | none =>
        have e9 : (qd U (zn zs) row x y) = (2, 0) := by unfold qd; rw [hrow]; dsimp only; rw [hf]; dsimp only; rw [hf2]
        have ea : ak U zs row y = (2, none) := by unfold ak; rw [hrow]; dsimp only; rw [hf2]
        rw [ea] at hH ⊢
        have hH : Hp D lo Γ (C, (2, mn, tm, kt, Q, zs, be, kp), V) H := hH
        refine lv_istore (lv' := [(5, .int (-1)), (4, .int (nI a)), (0, .ref (gxa Γ 3)), (1, .int row), (2, .int x), (3, .int y)]) hx hb dX3_depthBehind_24 hl (by decide) rfl (fun ls hl => ?_)
        refine lv_iload hx hb dX3_depthBehind_26 (lv_at hl 0 rfl) ?_
        refine lv_iconst (v := -1) hx hb dX3_depthBehind_28 (by decide) ?_
        refine lv_icmp_ne (tgt := 34) hx hb dX3_depthBehind_29 (by decide) (fun h1 => absurd rfl h1) (fun _ => ?_)
        refine lv_iconst (v := 0) hx hb dX3_depthBehind_32 (by decide) ?_
        exact eI S hr hlocks hH hS ⟨by rw [e9], kt, kp, by rw [e9]⟩ dX3_depthBehind_33
      | some b =>
        have e9 : (qd U (zn zs) row x y) = (0, nI (zof (spz (zof (U r) a)) b).2.2.2.length) := by unfold qd; rw [hrow]; dsimp only; rw [hf]; dsimp only; rw [hf2]
        have ea : ak U zs row y = (0, some b) := by unfold ak; rw [hrow]; dsimp only; rw [hf2]
        rw [ea] at hH ⊢
        have hH : Hp D lo Γ (C, (0, mn, tm, kt, Q, zs, be, kp), V) H := hH
        have hin_b := (fnd_mem _ _ hf2).1
        have lt_b := h40 b hin_b
        have hin_b2 : b ∈ tids (spz (zof (U r) a)) := by rw [s3]; exact hin_b
        obtain ⟨hz2, hzp2⟩ := raise_z s1 (by rw [s3]; exact h_n) hin_b2
        refine lv_istore (lv' := [(5, .int (nI b)), (4, .int (nI a)), (0, .ref (gxa Γ 3)), (1, .int row), (2, .int x), (3, .int y)]) hx hb dX3_depthBehind_24 hl (by decide) rfl (fun ls hl => ?_)
        refine lv_iload hx hb dX3_depthBehind_26 (lv_at hl 0 rfl) ?_
        refine lv_iconst (v := -1) hx hb dX3_depthBehind_28 (by decide) ?_
        refine lv_icmp_ne (tgt := 34) hx hb dX3_depthBehind_29 (by decide) (fun _ => ?_) (fun h1 => absurd h1 (nI_nm1 (Nat.lt_trans lt_b (by decide))))
        refine lv_aload_n hx hb dX3_depthBehind_34 rfl (lv_at hl 2 rfl) ?_
        refine cV S (c_X3_keep (l := l) (D := D) (lo := lo) (Γ := Γ) (C := C) (V := V) (th := 0) (mn := mn) (tm := tm) (kt := kt) (Q := Q) (zs := zs) (be := be) (kp := kp)) (cwV 0 hts gX3_depthBehind_X3_keep rfl rfl rfl (by decide +kernel) ⟨Nat.le_of_ble_eq_true rfl, Nat.le_of_ble_eq_true rfl⟩) hK hH (Hp_recv hK hH (gmo hH (j := 3) (by simp)).1 (gmo hH (j := 3) (by simp)).2.1 rfl) hS rfl hl.1 rfl (Nat.le_of_ble_eq_true rfl) dX3_depthBehind_35 ⟨Nat.le_of_ble_eq_true rfl, Nat.le_of_ble_eq_true rfl⟩ (fun v Z1 H locs hpost hH hS => ?_)
        obtain ⟨rfl, rfl⟩ := hpost
        refine lv_aload_n hx hb dX3_depthBehind_38 rfl (lv_at hl 2 rfl) ?_
        refine lv_iload hx hb dX3_depthBehind_39 (lv_at hl 1 rfl) ?_
        refine cV S (c_X3_raise (l := l) (D := D) (lo := lo) (Γ := Γ) (C := C) (V := V) (th := 0) (mn := mn) (tm := tm) (kt := tm) (Q := Q) (zs := zs) (be := be) (kp := (kpo Q zs be kp)) hz hzn hz40) (cwV 1 hts gX3_depthBehind_X3_raise rfl rfl rfl (by decide +kernel) ⟨Nat.le_of_ble_eq_true rfl, Nat.le_of_ble_eq_true rfl⟩) hK hH (Hp_recv hK hH (gmo hH (j := 3) (by simp)).1 (gmo hH (j := 3) (by simp)).2.1 rfl) hS rfl hl.1 rfl (Nat.le_of_ble_eq_true rfl) dX3_depthBehind_41 ⟨Nat.le_of_ble_eq_true rfl, Nat.le_of_ble_eq_true rfl⟩ (fun v Z1 H locs hpost hH hS => ?_)
        obtain ⟨rfl, rfl⟩ := hpost
        refine lv_aload_n hx hb dX3_depthBehind_44 rfl (lv_at hl 2 rfl) ?_
        refine lv_iload hx hb dX3_depthBehind_45 (lv_at hl 0 rfl) ?_
        refine cV S (c_X3_deep (l := l) (D := D) (lo := lo) (Γ := Γ) (C := C) (V := V) (th := 0) (mn := mn) (tm := (tm + ((zof (U r) a).2.2.2).length)) (kt := tm) (Q := (rai a (zof (U r) a).2.2.2 Q)) (zs := zs) (be := be) (kp := (kpo Q zs be kp)) hz2 (by rw [hzp2]; exact hs40)) (cwV 1 hts gX3_depthBehind_X3_deep rfl rfl rfl (by decide +kernel) ⟨Nat.le_of_ble_eq_true rfl, Nat.le_of_ble_eq_true rfl⟩) hK hH (Hp_recv hK hH (gmo hH (j := 3) (by simp)).1 (gmo hH (j := 3) (by simp)).2.1 rfl) hS rfl hl.1 rfl (Nat.le_of_ble_eq_true rfl) dX3_depthBehind_47 ⟨Nat.le_of_ble_eq_true rfl, Nat.le_of_ble_eq_true rfl⟩ (fun v Z1 H locs hpost hH hS => ?_)
        obtain ⟨rfl, rfl⟩ := hpost
        refine lv_istore (lv' := [(6, .int (nI (zof (spz (zof (U r) a)) b).2.2.2.length)), (5, .int (nI b)), (4, .int (nI a)), (0, .ref (gxa Γ 3)), (1, .int row), (2, .int x), (3, .int y)]) hx hb dX3_depthBehind_50 hl (by decide) rfl (fun ls hl => ?_)
        refine lv_aload_n hx hb dX3_depthBehind_52 rfl (lv_at hl 3 rfl) ?_
        refine cV S (c_X3_bringBack (l := l) (D := D) (lo := lo) (Γ := Γ) (C := C) (V := V) (th := 0) (mn := mn) (tm := (tm + ((zof (U r) a).2.2.2).length)) (kt := tm) (Q := (rai a (zof (U r) a).2.2.2 Q)) (zs := zs) (be := be) (kp := (kpo Q zs be kp)) (Q0 := Q) (zs0 := zs) (be0 := be) (fun i h => kpo_at h) (fun x _ => hr3 x)) (cwV 0 hts gX3_depthBehind_X3_bringBack rfl rfl rfl (by decide +kernel) ⟨Nat.le_of_ble_eq_true rfl, Nat.le_of_ble_eq_true rfl⟩) hK hH (Hp_recv hK hH (gmo hH (j := 3) (by simp)).1 (gmo hH (j := 3) (by simp)).2.1 rfl) hS rfl hl.1 rfl (Nat.le_of_ble_eq_true rfl) dX3_depthBehind_53 ⟨Nat.le_of_ble_eq_true rfl, Nat.le_of_ble_eq_true rfl⟩ (fun v Z1 H locs hpost hH hS => ?_)
        obtain ⟨rfl, rfl⟩ := hpost
        refine lv_iload hx hb dX3_depthBehind_56 (lv_at hl 0 rfl) ?_
        exact eI S hr hlocks hH hS ⟨by rw [e9], _, _, by rw [e9]⟩ dX3_depthBehind_58

set_option maxRecDepth 100000 in
set_option maxHeartbeats 4000000 in
theorem c_X3_best {U : Nat → Tr} {r : Nat} (hr6 : r < 6) (hM : MI Q zs U mn) : Mz l yX3_best wsX3_best (rmL 43 0 0) D lo Γ [.ref (gxa Γ 3), .int (nI r)] (C, (th, mn, tm, kt, Q, zs, be, kp), V) (fun v Z' => v = some (.int (er ((bst (U r)).map (zn zs)))) ∧ ∃ kt9 kp9, Z' = (C, (th, mn, tm, kt9, Q, zs, be, kp9), V)) := by
  refine Mz_of (cc := cX3_best) (maxL := 7) (ret := (some .int)) (by decide) rfl (Nat.le_of_ble_eq_true rfl) ?_
  intro p e s m args below meth c ls S hr hlocks hK hH hS hl
  have hx := S.1
  have hb := S.2.1
  have hts := S.2.2.2.2
  have f9 : (Cond.fieldLink RX3 9 (TX3 3).1 (TX3 3).2.1 (TX3 3).2.2.1).before args s = true := hts _ (List.mem_of_getElem? (i := 1) rfl)
  have hi3 : ∀ w ∈ wsX30, w ∈ wsX3_best := by decide +kernel
  have hl : lv_has ls 7 [(0, .ref (gxa Γ 3)), (1, .int (nI r))] := hl
  obtain ⟨h_t, h_nd, h_mn, h_zs, h_40⟩ := id hM
  obtain ⟨hR, hs⟩ := h_t r hr6
  obtain ⟨h_top, h_rep, h_n, h_ok⟩ := id hR
  have h40 : ∀ a ∈ tids (U r), a < 40 := fun a ha => (h_ok a ha).1
  have hlen : (tids (U r)).length ≤ 40 := Nat.le_trans (gids_le hr6) h_40
  have hh : hgt (U r) < 41 := Nat.lt_succ_of_le (Nat.le_trans (hgt_tids _) hlen)
  refine lv_iconst (v := -1) hx hb dX3_best_0 (by decide) ?_
  refine lv_istore_n (lv' := [(2, .int (-1)), (0, .ref (gxa Γ 3)), (1, .int (nI r))]) hx hb dX3_best_1 rfl hl (by decide) rfl (fun ls hl => ?_)
  refine lv_iconst (v := 0) hx hb dX3_best_2 (by decide) ?_
  refine lv_istore_n (lv' := [(3, .int 0), (2, .int (-1)), (0, .ref (gxa Γ 3)), (1, .int (nI r))]) hx hb dX3_best_3 rfl hl (by decide) rfl (fun ls hl => ?_)
  refine lv_iconst (v := 0) hx hb dX3_best_4 (by decide) ?_
  refine lv_istore (lv' := [(4, .int 0), (3, .int 0), (2, .int (-1)), (0, .ref (gxa Γ 3)), (1, .int (nI r))]) hx hb dX3_best_5 hl (by decide) rfl (fun ls hl => ?_)
  have loop : ∀ (post pre : List Zi) (best : Option Nat) (least kt2 : Nat) (kp2 : Nat → Int32), zs9 (U r) = pre ++ post → (∀ b, best = some b → b ∈ tids (U r)) → least ≤ 1600 → (bstF post (best, least)).1 = bst (U r) → ∀ H locs, Hp D lo Γ (C, (th, mn, tm, kt2, Q, zs, be, kp2), V) H → va_S (lA lo) s.heap H locs → ∀ ls, lv_has ls 7 [(4, .int (nI pre.length)), (3, .int (nI least)), (2, .int (er best)), (0, .ref (gxa Γ 3)), (1, .int (nI r))] → W p l e (rmL 43 0 0) s m args below meth c H locs 0 0 (MQ below (Qz D lo Γ (fun v Z' => v = some (.int (er ((bst (U r)).map (zn zs)))) ∧ ∃ kt9 kp9, Z' = (C, (th, mn, tm, kt9, Q, zs, be, kp9), V))) args s ((rmL 43 0 0) : Room).cells ((rmL 43 0 0) : Room).slots (lA lo)) (F0 m 7 ls []) := by
    intro post
    induction post with
    | nil =>
      intro pre best least kt2 kp2 hx2 hbm h1600 h3 H locs hH hS ls hl
      have h3 : best = bst (U r) := h3
      have hpl : (tids (U r)).length = pre.length := by rw [← zs_ids (U r) [], ← zs9, hx2]; simp
      refine lv_iload hx hb dX3_best_7 (lv_at hl 0 rfl) ?_
      refine lv_aload_n hx hb dX3_best_9 rfl (lv_at hl 3 rfl) ?_
      refine lv_aload_n hx hb dX3_best_10 rfl (lv_at hl 3 rfl) ?_
      refine gM S hi3 hK hH 3 (by decide) f9 (v := .ref (gna Γ)) rfl dX3_best_11 ?_
      refine lv_sipush (v := 200) hx hb dX3_best_14 (by decide +kernel) ?_
      refine lv_iload_n hx hb dX3_best_17 rfl (lv_at hl 4 rfl) ?_
      refine lv_iadd hx hb dX3_best_18 ?_
      refine gN S hK hH (n := 200 + r) (x := er (rt (U r))) (nI_ofadd (a := 200) rfl) (by have := hr6; omega) (enc_tp.trans (congrArg er h_top)) dX3_best_19 ?_
      refine cV S (c_X3_count (l := l) (D := D) (lo := lo) (Γ := Γ) (C := C) (V := V) (th := th) (mn := mn) (tm := tm) (kt := kt2) (Q := Q) (zs := zs) (be := be) (kp := kp2) (U r) 41 none hh h_rep h40) (cwV 1 hts gX3_best_X3_count rfl rfl rfl (by decide +kernel) ⟨Nat.le_of_ble_eq_true rfl, Nat.le_of_ble_eq_true rfl⟩) hK hH (Hp_recv hK hH (gmo hH (j := 3) (by simp)).1 (gmo hH (j := 3) (by simp)).2.1 rfl) hS rfl hl.1 rfl (Nat.le_of_ble_eq_true rfl) dX3_best_20 ⟨Nat.le_of_ble_eq_true rfl, Nat.le_of_ble_eq_true rfl⟩ (fun v Z1 H locs hpost hH hS => ?_)
      obtain ⟨rfl, rfl⟩ := hpost
      rw [hpl]
      refine lv_icmp_ge (tgt := 93) hx hb dX3_best_23 (by decide) (fun _ => ?_) (fun h1 => absurd (Int32.le_refl _) h1)
      refine lv_aload_n hx hb dX3_best_93 rfl (lv_at hl 3 rfl) ?_
      refine lv_iload_n hx hb dX3_best_94 rfl (lv_at hl 2 rfl) ?_
      refine cV S (c_X3_sizeAt (l := l) (D := D) (lo := lo) (Γ := Γ) (C := C) (V := V) (th := th) (mn := mn) (tm := tm) (kt := kt2) (Q := Q) (zs := zs) (be := be) (kp := kp2) (r := best) (fun b h => ⟨h40 b (hbm b h), (h_ok b (hbm b h)).2.1⟩)) (cwV 1 hts gX3_best_X3_sizeAt rfl rfl rfl (by decide +kernel) ⟨Nat.le_of_ble_eq_true rfl, Nat.le_of_ble_eq_true rfl⟩) hK hH (Hp_recv hK hH (gmo hH (j := 3) (by simp)).1 (gmo hH (j := 3) (by simp)).2.1 rfl) hS rfl hl.1 rfl (Nat.le_of_ble_eq_true rfl) dX3_best_95 ⟨Nat.le_of_ble_eq_true rfl, Nat.le_of_ble_eq_true rfl⟩ (fun v Z1 H locs hpost hH hS => ?_)
      obtain ⟨rfl, rfl⟩ := hpost
      exact eI S hr hlocks hH hS ⟨by rw [h3], kt2, kp2, rfl⟩ dX3_best_98
    | cons z post ih =>
      intro pre best least kt2 kp2 hx2 hbm h1600 h3 H locs hH hS ls hl
      have hzT : z ∈ zs9 (U r) := by rw [hx2]; simp
      have hin_a : z.1 ∈ tids (U r) := by rw [← zs_ids (U r) []]; exact List.mem_map.mpr ⟨z, hzT, rfl⟩
      have hzo : zof (U r) z.1 = z := zof_eq h_n hzT
      obtain ⟨a, ha⟩ : ∃ a, a = z.1 := ⟨_, rfl⟩
      rw [← ha] at hin_a hzo
      have lt_a := h40 a hin_a
      have hnth : (tids (U r))[pre.length]? = some a := by rw [← zs_ids (U r) [], ← zs9, hx2, List.map_append, List.getElem?_append_right (by simp), List.length_map, Nat.sub_self, ha]; rfl
      have hpl : pre.length < (tids (U r)).length := (List.getElem?_eq_some_iff.mp hnth).1
      obtain ⟨hz, hzp⟩ := raise_z h_rep h_n hin_a
      have hzn : (tids (plug (.branch a (zof (U r) a).2.1 (zof (U r) a).2.2.1) (zof (U r) a).2.2.2)).Nodup := by rw [hzp]; exact h_n
      have hz40 : ∀ b ∈ tids (plug (.branch a (zof (U r) a).2.1 (zof (U r) a).2.2.1) (zof (U r) a).2.2.2), b < 40 := by rw [hzp]; exact h40
      obtain ⟨s1, s2, s3, s4, s5⟩ := spz_raise h_rep h_n hin_a
      have hr3 : ∀ x, rai a (zof (U r) a).2.2.2 Q 3 x = Q 3 x := fun x => s5 3 x (by omega)
      have hs40 : ∀ b ∈ tids (spz (zof (U r) a)), b < 40 := by rw [s3]; exact h40
      have hsh : hgt (spz (zof (U r) a)) < 41 := Nat.lt_succ_of_le (Nat.le_trans (hgt_tids _) (by rw [s3]; exact hlen))
      obtain ⟨sum9, hsum⟩ : ∃ n, n = dsm (spz (zof (U r) a)) 0 := ⟨_, rfl⟩
      have hsl : sum9 ≤ 1600 := by rw [hsum]; refine Nat.le_trans (dsm_le _) ?_; rw [s3]; exact Nat.le_trans (Nat.mul_le_mul hlen hlen) (by decide)
      rw [bstF, ← hzo, ← hsum, (zof_in hin_a).2] at h3
      refine lv_iload hx hb dX3_best_7 (lv_at hl 0 rfl) ?_
      refine lv_aload_n hx hb dX3_best_9 rfl (lv_at hl 3 rfl) ?_
      refine lv_aload_n hx hb dX3_best_10 rfl (lv_at hl 3 rfl) ?_
      refine gM S hi3 hK hH 3 (by decide) f9 (v := .ref (gna Γ)) rfl dX3_best_11 ?_
      refine lv_sipush (v := 200) hx hb dX3_best_14 (by decide +kernel) ?_
      refine lv_iload_n hx hb dX3_best_17 rfl (lv_at hl 4 rfl) ?_
      refine lv_iadd hx hb dX3_best_18 ?_
      refine gN S hK hH (n := 200 + r) (x := er (rt (U r))) (nI_ofadd (a := 200) rfl) (by have := hr6; omega) (enc_tp.trans (congrArg er h_top)) dX3_best_19 ?_
      refine cV S (c_X3_count (l := l) (D := D) (lo := lo) (Γ := Γ) (C := C) (V := V) (th := th) (mn := mn) (tm := tm) (kt := kt2) (Q := Q) (zs := zs) (be := be) (kp := kp2) (U r) 41 none hh h_rep h40) (cwV 1 hts gX3_best_X3_count rfl rfl rfl (by decide +kernel) ⟨Nat.le_of_ble_eq_true rfl, Nat.le_of_ble_eq_true rfl⟩) hK hH (Hp_recv hK hH (gmo hH (j := 3) (by simp)).1 (gmo hH (j := 3) (by simp)).2.1 rfl) hS rfl hl.1 rfl (Nat.le_of_ble_eq_true rfl) dX3_best_20 ⟨Nat.le_of_ble_eq_true rfl, Nat.le_of_ble_eq_true rfl⟩ (fun v Z1 H locs hpost hH hS => ?_)
      obtain ⟨rfl, rfl⟩ := hpost
      refine lv_icmp_ge (tgt := 93) hx hb dX3_best_23 (by decide) (fun h1 => absurd ((nI_leI (by omega) (by omega)).mp h1) (by omega)) (fun _ => ?_)
      refine lv_aload_n hx hb dX3_best_26 rfl (lv_at hl 3 rfl) ?_
      refine lv_aload_n hx hb dX3_best_27 rfl (lv_at hl 3 rfl) ?_
      refine gM S hi3 hK hH 3 (by decide) f9 (v := .ref (gna Γ)) rfl dX3_best_28 ?_
      refine lv_sipush (v := 200) hx hb dX3_best_31 (by decide +kernel) ?_
      refine lv_iload_n hx hb dX3_best_34 rfl (lv_at hl 4 rfl) ?_
      refine lv_iadd hx hb dX3_best_35 ?_
      refine gN S hK hH (n := 200 + r) (x := er (rt (U r))) (nI_ofadd (a := 200) rfl) (by have := hr6; omega) (enc_tp.trans (congrArg er h_top)) dX3_best_36 ?_
      refine lv_iload hx hb dX3_best_37 (lv_at hl 0 rfl) ?_
      refine cV S (c_X3_nth (l := l) (D := D) (lo := lo) (Γ := Γ) (C := C) (V := V) (th := th) (mn := mn) (tm := tm) (kt := kt2) (Q := Q) (zs := zs) (be := be) (kp := kp2) (U r) 42 none pre.length a (Nat.succ_lt_succ hh) h_rep h40 (by omega) hnth) (cwV 2 hts gX3_best_X3_nth rfl rfl rfl (by decide +kernel) ⟨Nat.le_of_ble_eq_true rfl, Nat.le_of_ble_eq_true rfl⟩) hK hH (Hp_recv hK hH (gmo hH (j := 3) (by simp)).1 (gmo hH (j := 3) (by simp)).2.1 rfl) hS rfl hl.1 rfl (Nat.le_of_ble_eq_true rfl) dX3_best_39 ⟨Nat.le_of_ble_eq_true rfl, Nat.le_of_ble_eq_true rfl⟩ (fun v Z1 H locs hpost hH hS => ?_)
      obtain ⟨rfl, rfl⟩ := hpost
      refine lv_istore (lv' := [(5, .int (nI a)), (4, .int (nI pre.length)), (3, .int (nI least)), (2, .int (er best)), (0, .ref (gxa Γ 3)), (1, .int (nI r))]) hx hb dX3_best_42 hl (by decide) rfl (fun ls hl => ?_)
      refine lv_aload_n hx hb dX3_best_44 rfl (lv_at hl 4 rfl) ?_
      refine cV S (c_X3_keep (l := l) (D := D) (lo := lo) (Γ := Γ) (C := C) (V := V) (th := th) (mn := mn) (tm := tm) (kt := kt2) (Q := Q) (zs := zs) (be := be) (kp := kp2)) (cwV 0 hts gX3_best_X3_keep rfl rfl rfl (by decide +kernel) ⟨Nat.le_of_ble_eq_true rfl, Nat.le_of_ble_eq_true rfl⟩) hK hH (Hp_recv hK hH (gmo hH (j := 3) (by simp)).1 (gmo hH (j := 3) (by simp)).2.1 rfl) hS rfl hl.1 rfl (Nat.le_of_ble_eq_true rfl) dX3_best_45 ⟨Nat.le_of_ble_eq_true rfl, Nat.le_of_ble_eq_true rfl⟩ (fun v Z1 H locs hpost hH hS => ?_)
      obtain ⟨rfl, rfl⟩ := hpost
      refine lv_aload_n hx hb dX3_best_48 rfl (lv_at hl 4 rfl) ?_
      refine lv_iload hx hb dX3_best_49 (lv_at hl 0 rfl) ?_
      refine cV S (c_X3_raise (l := l) (D := D) (lo := lo) (Γ := Γ) (C := C) (V := V) (th := th) (mn := mn) (tm := tm) (kt := tm) (Q := Q) (zs := zs) (be := be) (kp := (kpo Q zs be kp2)) hz hzn hz40) (cwV 1 hts gX3_best_X3_raise rfl rfl rfl (by decide +kernel) ⟨Nat.le_of_ble_eq_true rfl, Nat.le_of_ble_eq_true rfl⟩) hK hH (Hp_recv hK hH (gmo hH (j := 3) (by simp)).1 (gmo hH (j := 3) (by simp)).2.1 rfl) hS rfl hl.1 rfl (Nat.le_of_ble_eq_true rfl) dX3_best_51 ⟨Nat.le_of_ble_eq_true rfl, Nat.le_of_ble_eq_true rfl⟩ (fun v Z1 H locs hpost hH hS => ?_)
      obtain ⟨rfl, rfl⟩ := hpost
      refine lv_aload_n hx hb dX3_best_54 rfl (lv_at hl 4 rfl) ?_
      refine lv_iload hx hb dX3_best_55 (lv_at hl 0 rfl) ?_
      refine lv_iconst (v := 0) hx hb dX3_best_57 (by decide) ?_
      skip
      refine cV S ((by have h := c_X3_depthsOf (l := l) (D := D) (lo := lo) (Γ := Γ) (C := C) (V := V) (th := th) (mn := mn) (tm := (tm + ((zof (U r) a).2.2.2).length)) (kt := tm) (Q := (rai a (zof (U r) a).2.2.2 Q)) (zs := zs) (be := be) (kp := (kpo Q zs be kp2)) (spz (zof (U r) a)) 41 none 0 hsh s1 hs40; rw [s2, ← hsum] at h; exact h : Md l yX3_depthsOf wsX3_depthsOf (rmL 41 0 0) D lo Γ [.ref (gxa Γ 3), .int (nI a), .int (nI 0)] (C, (th, mn, (tm + ((zof (U r) a).2.2.2).length), tm, (rai a (zof (U r) a).2.2.2 Q), zs, be, (kpo Q zs be kp2)), V) (some (.int (nI sum9))) (C, (th, mn, (tm + ((zof (U r) a).2.2.2).length), tm, (rai a (zof (U r) a).2.2.2 Q), zs, be, (kpo Q zs be kp2)), V))) (cwV 2 hts gX3_best_X3_depthsOf rfl rfl rfl (by decide +kernel) ⟨Nat.le_of_ble_eq_true rfl, Nat.le_of_ble_eq_true rfl⟩) hK hH (Hp_recv hK hH (gmo hH (j := 3) (by simp)).1 (gmo hH (j := 3) (by simp)).2.1 rfl) hS rfl hl.1 rfl (Nat.le_of_ble_eq_true rfl) dX3_best_58 ⟨Nat.le_of_ble_eq_true rfl, Nat.le_of_ble_eq_true rfl⟩ (fun v Z1 H locs hpost hH hS => ?_)
      obtain ⟨rfl, rfl⟩ := hpost
      refine lv_istore (lv' := [(6, .int (nI sum9)), (5, .int (nI a)), (4, .int (nI pre.length)), (3, .int (nI least)), (2, .int (er best)), (0, .ref (gxa Γ 3)), (1, .int (nI r))]) hx hb dX3_best_61 hl (by decide) rfl (fun ls hl => ?_)
      refine lv_aload_n hx hb dX3_best_63 rfl (lv_at hl 5 rfl) ?_
      refine cV S (c_X3_bringBack (l := l) (D := D) (lo := lo) (Γ := Γ) (C := C) (V := V) (th := th) (mn := mn) (tm := (tm + ((zof (U r) a).2.2.2).length)) (kt := tm) (Q := (rai a (zof (U r) a).2.2.2 Q)) (zs := zs) (be := be) (kp := (kpo Q zs be kp2)) (Q0 := Q) (zs0 := zs) (be0 := be) (fun i h => kpo_at h) (fun x _ => hr3 x)) (cwV 0 hts gX3_best_X3_bringBack rfl rfl rfl (by decide +kernel) ⟨Nat.le_of_ble_eq_true rfl, Nat.le_of_ble_eq_true rfl⟩) hK hH (Hp_recv hK hH (gmo hH (j := 3) (by simp)).1 (gmo hH (j := 3) (by simp)).2.1 rfl) hS rfl hl.1 rfl (Nat.le_of_ble_eq_true rfl) dX3_best_64 ⟨Nat.le_of_ble_eq_true rfl, Nat.le_of_ble_eq_true rfl⟩ (fun v Z1 H locs hpost hH hS => ?_)
      obtain ⟨rfl, rfl⟩ := hpost
      refine lv_iload_n hx hb dX3_best_67 rfl (lv_at hl 4 rfl) ?_
      refine lv_iconst (v := -1) hx hb dX3_best_68 (by decide) ?_
      rcases best with _ | g
      · skip
        rw [if_pos (Or.inl rfl)] at h3
        refine lv_icmp_eq (tgt := 81) hx hb dX3_best_69 (by decide) (fun _ => ?_) (fun h1 => absurd rfl h1)
        refine lv_iload hx hb dX3_best_81 (lv_at hl 1 rfl) ?_
        refine lv_istore_n (lv' := [(2, .int (nI a)), (6, .int (nI sum9)), (5, .int (nI a)), (4, .int (nI pre.length)), (3, .int (nI least)), (0, .ref (gxa Γ 3)), (1, .int (nI r))]) hx hb dX3_best_83 rfl hl (by decide) rfl (fun ls hl => ?_)
        refine lv_iload hx hb dX3_best_84 (lv_at hl 1 rfl) ?_
        refine lv_istore_n (lv' := [(3, .int (nI sum9)), (2, .int (nI a)), (6, .int (nI sum9)), (5, .int (nI a)), (4, .int (nI pre.length)), (0, .ref (gxa Γ 3)), (1, .int (nI r))]) hx hb dX3_best_86 rfl hl (by decide) rfl (fun ls hl => ?_)
        refine lv_iinc (v := nI (pre.length + 1)) (lv' := [(4, .int (nI (pre.length + 1))), (3, .int (nI sum9)), (2, .int (nI a)), (6, .int (nI sum9)), (5, .int (nI a)), (0, .ref (gxa Γ 3)), (1, .int (nI r))]) hx hb dX3_best_87 hl (k := 4) rfl (nI_1 pre.length) (by decide) rfl (fun ls hl => ?_)
        refine lv_goto (tgt := 7) hx hb dX3_best_90 (by decide) ?_
        exact ih (pre ++ [z]) (some a) sum9 _ _ (by rw [hx2]; simp) (fun b h => by cases h; exact hin_a) (by omega) h3 H locs hH hS ls (by rw [List.length_append]; exact lv_sub hl [0, 1, 2, 5, 6] rfl)
      · skip
        have lt_g := h40 g (hbm g rfl)
        refine lv_icmp_eq (tgt := 81) hx hb dX3_best_69 (by decide) (fun h1 => absurd h1 (nI_nm1 (Nat.lt_trans lt_g (by decide)))) (fun _ => ?_)
        refine lv_iload hx hb dX3_best_72 (lv_at hl 0 rfl) ?_
        refine lv_iload_n hx hb dX3_best_74 rfl (lv_at hl 3 rfl) ?_
        refine lv_icmp_lt (tgt := 81) hx hb dX3_best_75 (by decide) (fun h1 => ?_) (fun h1 => ?_)
        · skip
          have h1 := mt (nI_leI (a := least) (b := sum9) (by omega) (by omega)).mpr (Int32.not_le.mpr h1)
          rw [if_pos (Or.inr (by show sum9 < least; omega))] at h3
          refine lv_iload hx hb dX3_best_81 (lv_at hl 1 rfl) ?_
          refine lv_istore_n (lv' := [(2, .int (nI a)), (6, .int (nI sum9)), (5, .int (nI a)), (4, .int (nI pre.length)), (3, .int (nI least)), (0, .ref (gxa Γ 3)), (1, .int (nI r))]) hx hb dX3_best_83 rfl hl (by decide) rfl (fun ls hl => ?_)
          refine lv_iload hx hb dX3_best_84 (lv_at hl 1 rfl) ?_
          refine lv_istore_n (lv' := [(3, .int (nI sum9)), (2, .int (nI a)), (6, .int (nI sum9)), (5, .int (nI a)), (4, .int (nI pre.length)), (0, .ref (gxa Γ 3)), (1, .int (nI r))]) hx hb dX3_best_86 rfl hl (by decide) rfl (fun ls hl => ?_)
          refine lv_iinc (v := nI (pre.length + 1)) (lv' := [(4, .int (nI (pre.length + 1))), (3, .int (nI sum9)), (2, .int (nI a)), (6, .int (nI sum9)), (5, .int (nI a)), (0, .ref (gxa Γ 3)), (1, .int (nI r))]) hx hb dX3_best_87 hl (k := 4) rfl (nI_1 pre.length) (by decide) rfl (fun ls hl => ?_)
          refine lv_goto (tgt := 7) hx hb dX3_best_90 (by decide) ?_
          exact ih (pre ++ [z]) (some a) sum9 _ _ (by rw [hx2]; simp) (fun b h => by cases h; exact hin_a) (by omega) h3 H locs hH hS ls (by rw [List.length_append]; exact lv_sub hl [0, 1, 2, 5, 6] rfl)
        · skip
          have h1 := (nI_leI (a := least) (b := sum9) (by omega) (by omega)).mp (Int32.not_lt.mp h1)
          rw [if_neg (fun q => by rcases q with q | q; cases q; exact absurd q (by show ¬ sum9 < least; omega))] at h3
          refine lv_goto (tgt := 87) hx hb dX3_best_78 (by decide) ?_
          refine lv_iinc (v := nI (pre.length + 1)) (lv' := [(4, .int (nI (pre.length + 1))), (6, .int (nI sum9)), (5, .int (nI a)), (3, .int (nI least)), (2, .int (nI g)), (0, .ref (gxa Γ 3)), (1, .int (nI r))]) hx hb dX3_best_87 hl (k := 2) rfl (nI_1 pre.length) (by decide) rfl (fun ls hl => ?_)
          refine lv_goto (tgt := 7) hx hb dX3_best_90 (by decide) ?_
          exact ih (pre ++ [z]) (some g) least _ _ (by rw [hx2]; simp) hbm (by omega) h3 H locs hH hS ls (by rw [List.length_append]; exact lv_sub hl [0, 3, 4, 5, 6] rfl)
  exact loop (zs9 (U r)) [] none 0 kt kp rfl (fun b h => by cases h) (by omega) rfl _ _ hH hS ls (lv_sub hl [0, 1, 2, 3, 4] rfl)

set_option maxRecDepth 100000 in
set_option maxHeartbeats 4000000 in
theorem c_X3_bestToEat {U : Nat → Tr} {row : Int32} (hM : MI Q zs U mn) : Mz l yX3_bestToEat wsX3_bestToEat (rmL 44 0 0) D lo Γ [.ref (gxa Γ 3), .int row] (C, (th, mn, tm, kt, Q, zs, be, kp), V) (fun v Z' => v = some (.int (qr row (fun r => er ((bst (U r)).map (zn zs)))).2) ∧ ∃ kt9 kp9, Z' = (C, ((qr row (fun r => er ((bst (U r)).map (zn zs)))).1, mn, tm, kt9, Q, zs, be, kp9), V)) := by
  refine Mz_of (cc := cX3_bestToEat) (maxL := 2) (ret := (some .int)) (by decide) rfl (Nat.le_of_ble_eq_true rfl) ?_
  intro p e s m args below meth c ls S hr hlocks hK hH hS hl
  have hx := S.1
  have hb := S.2.1
  have hts := S.2.2.2.2
  have f16 : (Cond.fieldLink RX3 16 (TX3 0).1 (TX3 0).2.1 (TX3 0).2.2.1).before args s = true := hts _ (List.mem_of_getElem? (i := 1) rfl)
  have hi3 : ∀ w ∈ wsX30, w ∈ wsX3_bestToEat := by decide +kernel
  have hl : lv_has ls 2 [(0, .ref (gxa Γ 3)), (1, .int row)] := hl
  refine lv_aload_n hx hb dX3_bestToEat_0 rfl (lv_at hl 0 rfl) ?_
  refine lv_iconst (v := 0) hx hb dX3_bestToEat_1 (by decide) ?_
  refine pM S hi3 hK hH hS 0 (by decide) f16 (0, mn, tm, kt, Q, zs, be, kp) rfl rfl dX3_bestToEat_2 (fun H locs hH hS => ?_)
  refine lv_iload_n hx hb dX3_bestToEat_5 rfl (lv_at hl 1 rfl) ?_
  refine cSt S (c_X3_isRow (l := l) (D := D) (lo := lo) (Γ := Γ) (C := C) (V := V) (th := 0) (mn := mn) (tm := tm) (kt := kt) (Q := Q) (zs := zs) (be := be) (kp := kp) (x := row)) (va_cwS 1 hts gX3_bestToEat_X3_isRow rfl rfl rfl (by decide +kernel) ⟨Nat.le_of_ble_eq_true rfl, Nat.le_of_ble_eq_true rfl⟩) hK hH hS rfl hl.1 rfl (Nat.le_of_ble_eq_true rfl) dX3_bestToEat_6 ⟨Nat.le_of_ble_eq_true rfl, Nat.le_of_ble_eq_true rfl⟩ (fun v Z1 H locs hpost hH hS => ?_)
  obtain ⟨rfl, rfl⟩ := hpost
  rcases hrow : rowN row with _ | r
  · skip
    have e9 : (qr row (fun r => er ((bst (U r)).map (zn zs)))) = (1, 0) := by unfold qr; rw [hrow]
    refine lv_if_eq (tgt := 20) hx hb dX3_bestToEat_9 (by decide) (fun _ => ?_) (fun h1 => absurd rfl h1)
    refine lv_aload_n hx hb dX3_bestToEat_20 rfl (lv_at hl 0 rfl) ?_
    refine lv_iconst (v := 1) hx hb dX3_bestToEat_21 (by decide) ?_
    refine cV S (c_X3_no (l := l) (D := D) (lo := lo) (Γ := Γ) (C := C) (V := V) (th := 0) (mn := mn) (tm := tm) (kt := kt) (Q := Q) (zs := zs) (be := be) (kp := kp) (n := 1)) (cwV 1 hts gX3_bestToEat_X3_no rfl rfl rfl (by decide +kernel) ⟨Nat.le_of_ble_eq_true rfl, Nat.le_of_ble_eq_true rfl⟩) hK hH (Hp_recv hK hH (gmo hH (j := 3) (by simp)).1 (gmo hH (j := 3) (by simp)).2.1 rfl) hS rfl hl.1 rfl (Nat.le_of_ble_eq_true rfl) dX3_bestToEat_22 ⟨Nat.le_of_ble_eq_true rfl, Nat.le_of_ble_eq_true rfl⟩ (fun v Z1 H locs hpost hH hS => ?_)
    obtain ⟨rfl, rfl⟩ := hpost
    exact eI S hr hlocks hH hS ⟨by rw [e9], kt, kp, by rw [e9]⟩ dX3_bestToEat_25
  · skip
    have e9 : (qr row (fun r => er ((bst (U r)).map (zn zs)))) = (0, er ((bst (U r)).map (zn zs))) := by unfold qr; rw [hrow]
    obtain ⟨hr6, rfl⟩ := rowN_some hrow
    refine lv_if_eq (tgt := 20) hx hb dX3_bestToEat_9 (by decide) (fun h1 => absurd h1 (show ¬ (1 : Int32) = 0 by decide)) (fun _ => ?_)
    refine lv_aload_n hx hb dX3_bestToEat_12 rfl (lv_at hl 0 rfl) ?_
    refine lv_iload_n hx hb dX3_bestToEat_13 rfl (lv_at hl 1 rfl) ?_
    refine cV S (c_X3_best (l := l) (D := D) (lo := lo) (Γ := Γ) (C := C) (V := V) (th := 0) (mn := mn) (tm := tm) (kt := kt) (Q := Q) (zs := zs) (be := be) (kp := kp) hr6 hM) (cwV 1 hts gX3_bestToEat_X3_best rfl rfl rfl (by decide +kernel) ⟨Nat.le_of_ble_eq_true rfl, Nat.le_of_ble_eq_true rfl⟩) hK hH (Hp_recv hK hH (gmo hH (j := 3) (by simp)).1 (gmo hH (j := 3) (by simp)).2.1 rfl) hS rfl hl.1 rfl (Nat.le_of_ble_eq_true rfl) dX3_bestToEat_14 ⟨Nat.le_of_ble_eq_true rfl, Nat.le_of_ble_eq_true rfl⟩ (fun v Z1 H locs hpost hH hS => ?_)
    obtain ⟨rfl, kt9, kp9, rfl⟩ := hpost
    refine lv_goto (tgt := 25) hx hb dX3_bestToEat_17 (by decide) ?_
    exact eI S hr hlocks hH hS ⟨by rw [e9], kt9, kp9, by rw [e9]⟩ dX3_bestToEat_25
end MMod7
