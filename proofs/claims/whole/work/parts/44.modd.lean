/-! METHODS of the reference: its digest -/
theorem dg_init {x y : Int32} : (72509 + x.toInt64) * 31 + y.toInt64 = mxl (mxl 2339 x) y := by
  unfold mxl
  rw [show (2339 : Int64) * 31 = 72509 by decide]
section MModD
variable {l : Launch} {D : va_G} {lo : Nat} {Γ : GT} {C : CW} {V : Int64 × UInt64} {th mn tm kt : Nat} {Q : PF} {zs : Nat → Option Nat} {be : Nat → Nat} {kp : Nat → Int32}
set_option maxRecDepth 100000 in
set_option maxHeartbeats 4000000 in
theorem c_X3_digest {U : Nat → Tr} (hM : MI Q zs U mn) : Mz l yX3_digest wsX3_digest (rmL 45 0 0) D lo Γ [.ref (gxa Γ 3)] (C, (th, mn, tm, kt, Q, zs, be, kp), V) (fun v Z' => v = some (.long (dgV U (zn zs) be tm)) ∧ ∃ kt9 kp9, Z' = (C, (0, mn, tm, kt9, Q, zs, be, kp9), V)) := by
  refine Mz_of (cc := cX3_digest) (maxL := 7) (ret := (some .long)) (by decide) rfl (Nat.le_of_ble_eq_true rfl) ?_
  intro p e s m args below meth c ls S hr hlocks hK hH hS hl
  have hx := S.1
  have hb := S.2.1
  have hts := S.2.2.2.2
  have f16 : (Cond.fieldLink RX3 16 (TX3 0).1 (TX3 0).2.1 (TX3 0).2.2.1).before args s = true := hts _ (List.mem_of_getElem? (i := 1) rfl)
  have f78 : (Cond.fieldLink RX3 78 (TX3 1).1 (TX3 1).2.1 (TX3 1).2.2.1).before args s = true := hts _ (List.mem_of_getElem? (i := 3) rfl)
  have f26 : (Cond.fieldLink RX3 26 (TX3 2).1 (TX3 2).2.1 (TX3 2).2.2.1).before args s = true := hts _ (List.mem_of_getElem? (i := 5) rfl)
  have f9 : (Cond.fieldLink RX3 9 (TX3 3).1 (TX3 3).2.1 (TX3 3).2.2.1).before args s = true := hts _ (List.mem_of_getElem? (i := 6) rfl)
  have hi3 : ∀ w ∈ wsX30, w ∈ wsX3_digest := by decide +kernel
  have hl : lv_has ls 7 [(0, .ref (gxa Γ 3))] := hl
  obtain ⟨h_t, h_nd, h_mn, h_zs, h_40⟩ := id hM
  refine lv_aload_n hx hb dX3_digest_0 rfl (lv_at hl 0 rfl) ?_
  refine lv_iconst (v := 0) hx hb dX3_digest_1 (by decide) ?_
  refine pM S hi3 hK hH hS 0 (by decide) f16 (0, mn, tm, kt, Q, zs, be, kp) rfl rfl dX3_digest_2 (fun H locs hH hS => ?_)
  refine lv_ldc2 (v := 72509) hx hb S.2.2.2.1 (hts _ (List.mem_of_getElem? (i := 2) rfl)) dX3_digest_5 ?_
  refine lv_aload_n hx hb dX3_digest_8 rfl (lv_at hl 0 rfl) ?_
  refine gM S hi3 hK hH 1 (by decide) f78 (v := .int (nI mn)) rfl dX3_digest_9 ?_
  refine lv_i2l hx hb dX3_digest_12 rfl ?_
  refine lv_ladd hx hb dX3_digest_13 ?_
  refine lv_ldc2 (v := 31) hx hb S.2.2.2.1 (hts _ (List.mem_of_getElem? (i := 4) rfl)) dX3_digest_14 ?_
  refine lv_lmul hx hb dX3_digest_17 ?_
  refine lv_aload_n hx hb dX3_digest_18 rfl (lv_at hl 0 rfl) ?_
  refine gM S hi3 hK hH 2 (by decide) f26 (v := .int (nI tm)) rfl dX3_digest_19 ?_
  refine lv_i2l hx hb dX3_digest_22 rfl ?_
  refine lv_ladd hx hb dX3_digest_23 ?_
  rw [dg_init]
  refine lv_lstore_n (lv' := [(1, .long (mxl (mxl 2339 (nI mn)) (nI tm))), (0, .ref (gxa Γ 3))]) hx hb dX3_digest_24 rfl hl (by decide) rfl (fun ls hl => ?_)
  refine lv_iconst (v := 0) hx hb dX3_digest_25 (by decide) ?_
  refine lv_istore_n (lv' := [(3, .int 0), (1, .long (mxl (mxl 2339 (nI mn)) (nI tm))), (0, .ref (gxa Γ 3))]) hx hb dX3_digest_26 rfl hl (by decide) rfl (fun ls hl => ?_)
  have loop : ∀ (n r : Nat) (d : Int64) (kt2 : Nat) (kp2 : Nat → Int32), n + r = 6 → dgR U (zn zs) be n r d = dgV U (zn zs) be tm → ∀ H locs, Hp D lo Γ (C, (0, mn, tm, kt2, Q, zs, be, kp2), V) H → va_S (lA lo) s.heap H locs → ∀ ls, lv_has ls 7 [(3, .int (nI r)), (1, .long d), (0, .ref (gxa Γ 3))] → W p l e (rmL 45 0 0) s m args below meth c H locs 0 0 (MQ below (Qz D lo Γ (fun v Z' => v = some (.long (dgV U (zn zs) be tm)) ∧ ∃ kt9 kp9, Z' = (C, (0, mn, tm, kt9, Q, zs, be, kp9), V))) args s ((rmL 45 0 0) : Room).cells ((rmL 45 0 0) : Room).slots (lA lo)) (F0 m 27 ls []) := by
    intro n
    induction n with
    | zero =>
      intro r d kt2 kp2 hn hd H locs hH hS ls hl
      have hr6 : r = 6 := by omega
      subst hr6
      refine lv_iload_n hx hb dX3_digest_27 rfl (lv_at hl 0 rfl) ?_
      refine lv_bipush (v := 6) hx hb dX3_digest_28 (by decide +kernel) ?_
      refine lv_icmp_ge (tgt := 305) hx hb dX3_digest_30 (by decide) (fun _ => ?_) (fun h1 => absurd (by decide) h1)
      refine lv_lload_n hx hb dX3_digest_305 rfl (lv_at hl 1 rfl) ?_
      exact eL S hr hlocks hH hS ⟨by rw [← hd]; rfl, kt2, kp2, rfl⟩ dX3_digest_306
    | succ n ih =>
      intro r d kt2 kp2 hn hd H locs hH hS ls hl
      have hr6 : r < 6 := by omega
      obtain ⟨hR, hs⟩ := h_t r hr6
      obtain ⟨h_top, h_rep, h_n, h_ok⟩ := id hR
      have h40 : ∀ a ∈ tids (U r), a < 40 := fun a ha => (h_ok a ha).1
      have hlen : (tids (U r)).length ≤ 40 := Nat.le_trans (gids_le hr6) h_40
      have hh : hgt (U r) < 41 := Nat.lt_succ_of_le (Nat.le_trans (hgt_tids _) hlen)
      refine lv_iload_n hx hb dX3_digest_27 rfl (lv_at hl 0 rfl) ?_
      refine lv_bipush (v := 6) hx hb dX3_digest_28 (by decide +kernel) ?_
      refine lv_icmp_ge (tgt := 305) hx hb dX3_digest_30 (by decide) (fun h1 => absurd ((nI_leI (a := 6) (b := r) (by omega) (by omega)).mp h1) (by omega)) (fun _ => ?_)
      refine lv_aload_n hx hb dX3_digest_33 rfl (lv_at hl 2 rfl) ?_
      refine gM S hi3 hK hH 3 (by decide) f9 (v := .ref (gna Γ)) rfl dX3_digest_34 ?_
      refine lv_sipush (v := 200) hx hb dX3_digest_37 (by decide +kernel) ?_
      refine lv_iload_n hx hb dX3_digest_40 rfl (lv_at hl 0 rfl) ?_
      refine lv_iadd hx hb dX3_digest_41 ?_
      refine gN S hK hH (n := 200 + r) (x := er (rt (U r))) (nI_ofadd (a := 200) rfl) (by have := hr6; omega) (enc_tp.trans (congrArg er h_top)) dX3_digest_42 ?_
      refine lv_istore (lv' := [(4, .int (er (rt (U r)))), (3, .int (nI r)), (1, .long d), (0, .ref (gxa Γ 3))]) hx hb dX3_digest_43 hl (by decide) rfl (fun ls hl => ?_)
      refine lv_lload_n hx hb dX3_digest_45 rfl (lv_at hl 2 rfl) ?_
      refine lv_ldc2 (v := 31) hx hb S.2.2.2.1 (hts _ (List.mem_of_getElem? (i := 4) rfl)) dX3_digest_46 ?_
      refine lv_lmul hx hb dX3_digest_49 ?_
      refine lv_aload_n hx hb dX3_digest_50 rfl (lv_at hl 3 rfl) ?_
      refine lv_iload hx hb dX3_digest_51 (lv_at hl 0 rfl) ?_
      refine cV S (c_X3_count (l := l) (D := D) (lo := lo) (Γ := Γ) (C := C) (V := V) (th := 0) (mn := mn) (tm := tm) (kt := kt2) (Q := Q) (zs := zs) (be := be) (kp := kp2) (U r) 41 none hh h_rep h40) (cwV 1 hts gX3_digest_X3_count rfl rfl rfl (by decide +kernel) ⟨Nat.le_of_ble_eq_true rfl, Nat.le_of_ble_eq_true rfl⟩) hK hH (Hp_recv hK hH (gmo hH (j := 3) (by simp)).1 (gmo hH (j := 3) (by simp)).2.1 rfl) hS rfl hl.1 rfl (by simp [Value.category]) dX3_digest_53 ⟨Nat.le_of_ble_eq_true rfl, Nat.le_of_ble_eq_true rfl⟩ (fun v Z1 H locs hpost hH hS => ?_)
      obtain ⟨rfl, rfl⟩ := hpost
      refine lv_i2l hx hb dX3_digest_56 rfl ?_
      refine lv_ladd hx hb dX3_digest_57 ?_
      refine lv_ldc2 (v := 31) hx hb S.2.2.2.1 (hts _ (List.mem_of_getElem? (i := 4) rfl)) dX3_digest_58 ?_
      refine lv_lmul hx hb dX3_digest_61 ?_
      refine lv_aload_n hx hb dX3_digest_62 rfl (lv_at hl 3 rfl) ?_
      refine lv_iload hx hb dX3_digest_63 (lv_at hl 0 rfl) ?_
      refine cV S (c_X3_sizeAt (l := l) (D := D) (lo := lo) (Γ := Γ) (C := C) (V := V) (th := 0) (mn := mn) (tm := tm) (kt := kt2) (Q := Q) (zs := zs) (be := be) (kp := kp2) (r := rt (U r)) (fun b h => ⟨h40 b (rt_mem h), (h_ok b (rt_mem h)).2.1⟩)) (cwV 1 hts gX3_digest_X3_sizeAt rfl rfl rfl (by decide +kernel) ⟨Nat.le_of_ble_eq_true rfl, Nat.le_of_ble_eq_true rfl⟩) hK hH (Hp_recv hK hH (gmo hH (j := 3) (by simp)).1 (gmo hH (j := 3) (by simp)).2.1 rfl) hS rfl hl.1 rfl (by simp [Value.category]) dX3_digest_65 ⟨Nat.le_of_ble_eq_true rfl, Nat.le_of_ble_eq_true rfl⟩ (fun v Z1 H locs hpost hH hS => ?_)
      obtain ⟨rfl, rfl⟩ := hpost
      refine lv_i2l hx hb dX3_digest_68 rfl ?_
      refine lv_ladd hx hb dX3_digest_69 ?_
      refine lv_ldc2 (v := 31) hx hb S.2.2.2.1 (hts _ (List.mem_of_getElem? (i := 4) rfl)) dX3_digest_70 ?_
      refine lv_lmul hx hb dX3_digest_73 ?_
      refine lv_aload_n hx hb dX3_digest_74 rfl (lv_at hl 3 rfl) ?_
      refine lv_iload hx hb dX3_digest_75 (lv_at hl 0 rfl) ?_
      refine cV S (c_X3_high (l := l) (D := D) (lo := lo) (Γ := Γ) (C := C) (V := V) (th := 0) (mn := mn) (tm := tm) (kt := kt2) (Q := Q) (zs := zs) (be := be) (kp := kp2) (U r) 41 none hh h_rep h40 (Nat.lt_trans hh (by decide))) (cwV 1 hts gX3_digest_X3_high rfl rfl rfl (by decide +kernel) ⟨Nat.le_of_ble_eq_true rfl, Nat.le_of_ble_eq_true rfl⟩) hK hH (Hp_recv hK hH (gmo hH (j := 3) (by simp)).1 (gmo hH (j := 3) (by simp)).2.1 rfl) hS rfl hl.1 rfl (by simp [Value.category]) dX3_digest_77 ⟨Nat.le_of_ble_eq_true rfl, Nat.le_of_ble_eq_true rfl⟩ (fun v Z1 H locs hpost hH hS => ?_)
      obtain ⟨rfl, rfl⟩ := hpost
      refine lv_i2l hx hb dX3_digest_80 rfl ?_
      refine lv_ladd hx hb dX3_digest_81 ?_
      refine lv_lstore_n (lv' := [(1, .long ((((((d * 31) + (nI (tids (U r)).length).toInt64) * 31) + (er ((rt (U r)).map (zn zs))).toInt64) * 31) + (nI (hgt (U r))).toInt64)), (4, .int (er (rt (U r)))), (3, .int (nI r)), (0, .ref (gxa Γ 3))]) hx hb dX3_digest_82 rfl hl (by decide) rfl (fun ls hl => ?_)
      refine lv_lload_n hx hb dX3_digest_83 rfl (lv_at hl 0 rfl) ?_
      refine lv_ldc2 (v := 31) hx hb S.2.2.2.1 (hts _ (List.mem_of_getElem? (i := 4) rfl)) dX3_digest_84 ?_
      refine lv_lmul hx hb dX3_digest_87 ?_
      refine lv_aload_n hx hb dX3_digest_88 rfl (lv_at hl 3 rfl) ?_
      refine lv_iload_n hx hb dX3_digest_89 rfl (lv_at hl 2 rfl) ?_
      refine cV S (c_X3_lowest (l := l) (D := D) (lo := lo) (Γ := Γ) (C := C) (V := V) (th := 0) (mn := mn) (tm := tm) (kt := kt2) (Q := Q) (zs := zs) (be := be) (kp := kp2) hr6 hM) (cwV 1 hts gX3_digest_X3_lowest rfl rfl rfl (by decide +kernel) ⟨Nat.le_of_ble_eq_true rfl, Nat.le_of_ble_eq_true rfl⟩) hK hH (Hp_recv hK hH (gmo hH (j := 3) (by simp)).1 (gmo hH (j := 3) (by simp)).2.1 rfl) hS rfl hl.1 rfl (by simp [Value.category]) dX3_digest_90 ⟨Nat.le_of_ble_eq_true rfl, Nat.le_of_ble_eq_true rfl⟩ (fun v Z1 H locs hpost hH hS => ?_)
      obtain ⟨rfl, rfl⟩ := hpost
      refine lv_i2l hx hb dX3_digest_93 rfl ?_
      refine lv_ladd hx hb dX3_digest_94 ?_
      refine lv_ldc2 (v := 31) hx hb S.2.2.2.1 (hts _ (List.mem_of_getElem? (i := 4) rfl)) dX3_digest_95 ?_
      refine lv_lmul hx hb dX3_digest_98 ?_
      refine lv_aload_n hx hb dX3_digest_99 rfl (lv_at hl 3 rfl) ?_
      refine lv_iload hx hb dX3_digest_100 (lv_at hl 1 rfl) ?_
      refine lv_iconst (v := 0) hx hb dX3_digest_102 (by decide) ?_
      refine cV S (c_X3_depthsOf (l := l) (D := D) (lo := lo) (Γ := Γ) (C := C) (V := V) (th := 0) (mn := mn) (tm := tm) (kt := kt2) (Q := Q) (zs := zs) (be := be) (kp := kp2) (U r) 41 none 0 hh h_rep h40) (cwV 2 hts gX3_digest_X3_depthsOf rfl rfl rfl (by decide +kernel) ⟨Nat.le_of_ble_eq_true rfl, Nat.le_of_ble_eq_true rfl⟩) hK hH (Hp_recv hK hH (gmo hH (j := 3) (by simp)).1 (gmo hH (j := 3) (by simp)).2.1 rfl) hS rfl hl.1 rfl (by simp [Value.category]) dX3_digest_103 ⟨Nat.le_of_ble_eq_true rfl, Nat.le_of_ble_eq_true rfl⟩ (fun v Z1 H locs hpost hH hS => ?_)
      obtain ⟨rfl, rfl⟩ := hpost
      refine lv_i2l hx hb dX3_digest_106 rfl ?_
      refine lv_ladd hx hb dX3_digest_107 ?_
      refine lv_ldc2 (v := 31) hx hb S.2.2.2.1 (hts _ (List.mem_of_getElem? (i := 4) rfl)) dX3_digest_108 ?_
      refine lv_lmul hx hb dX3_digest_111 ?_
      refine lv_aload_n hx hb dX3_digest_112 rfl (lv_at hl 3 rfl) ?_
      refine lv_iload hx hb dX3_digest_113 (lv_at hl 1 rfl) ?_
      refine cV S (c_X3_ends (l := l) (D := D) (lo := lo) (Γ := Γ) (C := C) (V := V) (th := 0) (mn := mn) (tm := tm) (kt := kt2) (Q := Q) (zs := zs) (be := be) (kp := kp2) (U r) 41 none hh h_rep h40) (cwV 1 hts gX3_digest_X3_ends rfl rfl rfl (by decide +kernel) ⟨Nat.le_of_ble_eq_true rfl, Nat.le_of_ble_eq_true rfl⟩) hK hH (Hp_recv hK hH (gmo hH (j := 3) (by simp)).1 (gmo hH (j := 3) (by simp)).2.1 rfl) hS rfl hl.1 rfl (by simp [Value.category]) dX3_digest_115 ⟨Nat.le_of_ble_eq_true rfl, Nat.le_of_ble_eq_true rfl⟩ (fun v Z1 H locs hpost hH hS => ?_)
      obtain ⟨rfl, rfl⟩ := hpost
      refine lv_i2l hx hb dX3_digest_118 rfl ?_
      refine lv_ladd hx hb dX3_digest_119 ?_
      refine lv_lstore_n (lv' := [(1, .long ((((((((((((d * 31) + (nI (tids (U r)).length).toInt64) * 31) + (er ((rt (U r)).map (zn zs))).toInt64) * 31) + (nI (hgt (U r))).toInt64) * 31) + (nI (lh (tids (U r)).length)).toInt64) * 31) + (nI (dsm (U r) 0)).toInt64) * 31) + (nI (lvs (U r))).toInt64)), (4, .int (er (rt (U r)))), (3, .int (nI r)), (0, .ref (gxa Γ 3))]) hx hb dX3_digest_120 rfl hl (by decide) rfl (fun ls hl => ?_)
      refine lv_lload_n hx hb dX3_digest_121 rfl (lv_at hl 0 rfl) ?_
      refine lv_ldc2 (v := 31) hx hb S.2.2.2.1 (hts _ (List.mem_of_getElem? (i := 4) rfl)) dX3_digest_122 ?_
      refine lv_lmul hx hb dX3_digest_125 ?_
      refine lv_aload_n hx hb dX3_digest_126 rfl (lv_at hl 3 rfl) ?_
      refine lv_iload_n hx hb dX3_digest_127 rfl (lv_at hl 2 rfl) ?_
      refine cV S (c_X3_liked (l := l) (D := D) (lo := lo) (Γ := Γ) (C := C) (V := V) (th := 0) (mn := mn) (tm := tm) (kt := kt2) (Q := Q) (zs := zs) (be := be) (kp := kp2) hr6 hM) (cwV 1 hts gX3_digest_X3_liked rfl rfl rfl (by decide +kernel) ⟨Nat.le_of_ble_eq_true rfl, Nat.le_of_ble_eq_true rfl⟩) hK hH (Hp_recv hK hH (gmo hH (j := 3) (by simp)).1 (gmo hH (j := 3) (by simp)).2.1 rfl) hS rfl hl.1 rfl (by simp [Value.category]) dX3_digest_128 ⟨Nat.le_of_ble_eq_true rfl, Nat.le_of_ble_eq_true rfl⟩ (fun v Z1 H locs hpost hH hS => ?_)
      obtain ⟨rfl, rfl⟩ := hpost
      refine lv_i2l hx hb dX3_digest_131 rfl ?_
      refine lv_ladd hx hb dX3_digest_132 ?_
      refine lv_ldc2 (v := 31) hx hb S.2.2.2.1 (hts _ (List.mem_of_getElem? (i := 4) rfl)) dX3_digest_133 ?_
      refine lv_lmul hx hb dX3_digest_136 ?_
      refine lv_aload_n hx hb dX3_digest_137 rfl (lv_at hl 3 rfl) ?_
      refine lv_iload_n hx hb dX3_digest_138 rfl (lv_at hl 2 rfl) ?_
      refine cV S (c_X3_best (l := l) (D := D) (lo := lo) (Γ := Γ) (C := C) (V := V) (th := 0) (mn := mn) (tm := tm) (kt := kt2) (Q := Q) (zs := zs) (be := be) (kp := kp2) hr6 hM) (cwV 1 hts gX3_digest_X3_best rfl rfl rfl (by decide +kernel) ⟨Nat.le_of_ble_eq_true rfl, Nat.le_of_ble_eq_true rfl⟩) hK hH (Hp_recv hK hH (gmo hH (j := 3) (by simp)).1 (gmo hH (j := 3) (by simp)).2.1 rfl) hS rfl hl.1 rfl (by simp [Value.category]) dX3_digest_139 ⟨Nat.le_of_ble_eq_true rfl, Nat.le_of_ble_eq_true rfl⟩ (fun v Z1 H locs hpost hH hS => ?_)
      obtain ⟨rfl, kt3, kp3, rfl⟩ := hpost
      refine lv_i2l hx hb dX3_digest_142 rfl ?_
      refine lv_ladd hx hb dX3_digest_143 ?_
      refine lv_lstore_n (lv' := [(1, .long ((((((((((((((((d * 31) + (nI (tids (U r)).length).toInt64) * 31) + (er ((rt (U r)).map (zn zs))).toInt64) * 31) + (nI (hgt (U r))).toInt64) * 31) + (nI (lh (tids (U r)).length)).toInt64) * 31) + (nI (dsm (U r) 0)).toInt64) * 31) + (nI (lvs (U r))).toInt64) * 31) + (er ((fvs be none (tids (U r))).map (zn zs))).toInt64) * 31) + (er ((bst (U r)).map (zn zs))).toInt64)), (4, .int (er (rt (U r)))), (3, .int (nI r)), (0, .ref (gxa Γ 3))]) hx hb dX3_digest_144 rfl hl (by decide) rfl (fun ls hl => ?_)
      refine lv_iconst (v := 0) hx hb dX3_digest_145 (by decide) ?_
      refine lv_istore (lv' := [(5, .int 0), (1, .long ((((((((((((((((d * 31) + (nI (tids (U r)).length).toInt64) * 31) + (er ((rt (U r)).map (zn zs))).toInt64) * 31) + (nI (hgt (U r))).toInt64) * 31) + (nI (lh (tids (U r)).length)).toInt64) * 31) + (nI (dsm (U r) 0)).toInt64) * 31) + (nI (lvs (U r))).toInt64) * 31) + (er ((fvs be none (tids (U r))).map (zn zs))).toInt64) * 31) + (er ((bst (U r)).map (zn zs))).toInt64)), (4, .int (er (rt (U r)))), (3, .int (nI r)), (0, .ref (gxa Γ 3))]) hx hb dX3_digest_146 hl (by decide) rfl (fun ls hl => ?_)
      have inner : ∀ (post pre : List Nat) (d9 : Int64), tids (U r) = pre ++ post → dgR U (zn zs) be n (r + 1) (post.foldl (mxA (U r) (zn zs) be) d9) = dgV U (zn zs) be tm → ∀ H locs, Hp D lo Γ (C, (0, mn, tm, kt3, Q, zs, be, kp3), V) H → va_S (lA lo) s.heap H locs → ∀ ls, lv_has ls 7 [(5, .int (nI pre.length)), (4, .int (er (rt (U r)))), (3, .int (nI r)), (1, .long d9), (0, .ref (gxa Γ 3))] → W p l e (rmL 45 0 0) s m args below meth c H locs 0 0 (MQ below (Qz D lo Γ (fun v Z' => v = some (.long (dgV U (zn zs) be tm)) ∧ ∃ kt9 kp9, Z' = (C, (0, mn, tm, kt9, Q, zs, be, kp9), V))) args s ((rmL 45 0 0) : Room).cells ((rmL 45 0 0) : Room).slots (lA lo)) (F0 m 148 ls []) := by
        intro post
        induction post with
        | nil =>
          intro pre d9 hx2 hd9 H locs hH hS ls hl
          have hpl : (tids (U r)).length = pre.length := by rw [hx2]; simp
          refine lv_iload hx hb dX3_digest_148 (lv_at hl 0 rfl) ?_
          refine lv_aload_n hx hb dX3_digest_150 rfl (lv_at hl 4 rfl) ?_
          refine lv_iload hx hb dX3_digest_151 (lv_at hl 1 rfl) ?_
          refine cV S (c_X3_count (l := l) (D := D) (lo := lo) (Γ := Γ) (C := C) (V := V) (th := 0) (mn := mn) (tm := tm) (kt := kt3) (Q := Q) (zs := zs) (be := be) (kp := kp3) (U r) 41 none hh h_rep h40) (cwV 1 hts gX3_digest_X3_count rfl rfl rfl (by decide +kernel) ⟨Nat.le_of_ble_eq_true rfl, Nat.le_of_ble_eq_true rfl⟩) hK hH (Hp_recv hK hH (gmo hH (j := 3) (by simp)).1 (gmo hH (j := 3) (by simp)).2.1 rfl) hS rfl hl.1 rfl (Nat.le_of_ble_eq_true rfl) dX3_digest_153 ⟨Nat.le_of_ble_eq_true rfl, Nat.le_of_ble_eq_true rfl⟩ (fun v Z1 H locs hpost hH hS => ?_)
          obtain ⟨rfl, rfl⟩ := hpost
          rw [hpl]
          refine lv_icmp_ge (tgt := 299) hx hb dX3_digest_156 (by decide) (fun _ => ?_) (fun h1 => absurd (Int32.le_refl _) h1)
          refine lv_iinc (v := nI (r + 1)) (lv' := [(3, .int (nI (r + 1))), (5, .int (nI pre.length)), (4, .int (er (rt (U r)))), (1, .long d9), (0, .ref (gxa Γ 3))]) hx hb dX3_digest_299 hl (k := 2) rfl (nI_1 r) (by decide) rfl (fun ls hl => ?_)
          refine lv_goto (tgt := 27) hx hb dX3_digest_302 (by decide) ?_
          exact ih (r + 1) d9 kt3 kp3 (by omega) hd9 H locs hH hS ls (lv_sub hl [0, 3, 4] rfl)
        | cons a post ihp =>
          intro pre d9 hx2 hd9 H locs hH hS ls hl
          have hin_a : a ∈ tids (U r) := by rw [hx2]; simp
          have lt_a := h40 a hin_a
          have haz := (h_ok a hin_a).2.1
          have hnth : (tids (U r))[pre.length]? = some a := by rw [hx2, List.getElem?_append_right (Nat.le_refl _), Nat.sub_self]; rfl
          have hpl : pre.length < (tids (U r)).length := (List.getElem?_eq_some_iff.mp hnth).1
          obtain ⟨hz, hzp⟩ := raise_z h_rep h_n hin_a
          have hz40 : ∀ b ∈ tids (plug (.branch a (zof (U r) a).2.1 (zof (U r) a).2.2.1) (zof (U r) a).2.2.2), b < 40 := by rw [hzp]; exact h40
          have hinz : ∀ b, b ∈ tids (.branch a (zof (U r) a).2.1 (zof (U r) a).2.2.1) ∨ parC (zof (U r) a).2.2.2 = some b → b ∈ tids (U r) := fun b hb => by
            rw [← hzp, tids_plug]
            rcases hb with h | h
            · simp [h]
            · have := parC_mem h; rcases this with h | h <;> simp [h]
          refine lv_iload hx hb dX3_digest_148 (lv_at hl 0 rfl) ?_
          refine lv_aload_n hx hb dX3_digest_150 rfl (lv_at hl 4 rfl) ?_
          refine lv_iload hx hb dX3_digest_151 (lv_at hl 1 rfl) ?_
          refine cV S (c_X3_count (l := l) (D := D) (lo := lo) (Γ := Γ) (C := C) (V := V) (th := 0) (mn := mn) (tm := tm) (kt := kt3) (Q := Q) (zs := zs) (be := be) (kp := kp3) (U r) 41 none hh h_rep h40) (cwV 1 hts gX3_digest_X3_count rfl rfl rfl (by decide +kernel) ⟨Nat.le_of_ble_eq_true rfl, Nat.le_of_ble_eq_true rfl⟩) hK hH (Hp_recv hK hH (gmo hH (j := 3) (by simp)).1 (gmo hH (j := 3) (by simp)).2.1 rfl) hS rfl hl.1 rfl (Nat.le_of_ble_eq_true rfl) dX3_digest_153 ⟨Nat.le_of_ble_eq_true rfl, Nat.le_of_ble_eq_true rfl⟩ (fun v Z1 H locs hpost hH hS => ?_)
          obtain ⟨rfl, rfl⟩ := hpost
          refine lv_icmp_ge (tgt := 299) hx hb dX3_digest_156 (by decide) (fun h1 => absurd ((nI_leI (by omega) (by omega)).mp h1) (by omega)) (fun _ => ?_)
          refine lv_aload_n hx hb dX3_digest_159 rfl (lv_at hl 4 rfl) ?_
          refine lv_iload hx hb dX3_digest_160 (lv_at hl 1 rfl) ?_
          refine lv_iload hx hb dX3_digest_162 (lv_at hl 0 rfl) ?_
          refine cV S (c_X3_nth (l := l) (D := D) (lo := lo) (Γ := Γ) (C := C) (V := V) (th := 0) (mn := mn) (tm := tm) (kt := kt3) (Q := Q) (zs := zs) (be := be) (kp := kp3) (U r) 42 none pre.length a (Nat.succ_lt_succ hh) h_rep h40 (by omega) hnth) (cwV 2 hts gX3_digest_X3_nth rfl rfl rfl (by decide +kernel) ⟨Nat.le_of_ble_eq_true rfl, Nat.le_of_ble_eq_true rfl⟩) hK hH (Hp_recv hK hH (gmo hH (j := 3) (by simp)).1 (gmo hH (j := 3) (by simp)).2.1 rfl) hS rfl hl.1 rfl (Nat.le_of_ble_eq_true rfl) dX3_digest_164 ⟨Nat.le_of_ble_eq_true rfl, Nat.le_of_ble_eq_true rfl⟩ (fun v Z1 H locs hpost hH hS => ?_)
          obtain ⟨rfl, rfl⟩ := hpost
          refine lv_istore (lv' := [(6, .int (nI a)), (5, .int (nI pre.length)), (4, .int (er (rt (U r)))), (3, .int (nI r)), (1, .long d9), (0, .ref (gxa Γ 3))]) hx hb dX3_digest_167 hl (by decide) rfl (fun ls hl => ?_)
          refine lv_lload_n hx hb dX3_digest_169 rfl (lv_at hl 4 rfl) ?_
          refine lv_ldc2 (v := 31) hx hb S.2.2.2.1 (hts _ (List.mem_of_getElem? (i := 4) rfl)) dX3_digest_170 ?_
          refine lv_lmul hx hb dX3_digest_173 ?_
          refine lv_aload_n hx hb dX3_digest_174 rfl (lv_at hl 5 rfl) ?_
          refine gM S hi3 hK hH 3 (by decide) f9 (v := .ref (gna Γ)) rfl dX3_digest_175 ?_
          refine lv_iconst (v := 0) hx hb dX3_digest_178 (by decide) ?_
          refine lv_iload hx hb dX3_digest_179 (lv_at hl 0 rfl) ?_
          refine lv_iadd hx hb dX3_digest_181 ?_
          refine gN S hK hH (n := a) (x := nI (zn zs a)) ((nI_ofadd (a := 0) rfl).trans (by rw [Nat.zero_add])) (Nat.lt_trans lt_a (by decide)) ((enc_sz lt_a).trans (congrArg er haz)) dX3_digest_182 ?_
          refine lv_i2l hx hb dX3_digest_183 rfl ?_
          refine lv_ladd hx hb dX3_digest_184 ?_
          refine lv_ldc2 (v := 31) hx hb S.2.2.2.1 (hts _ (List.mem_of_getElem? (i := 4) rfl)) dX3_digest_185 ?_
          refine lv_lmul hx hb dX3_digest_188 ?_
          refine lv_aload_n hx hb dX3_digest_189 rfl (lv_at hl 5 rfl) ?_
          refine lv_iload hx hb dX3_digest_190 (lv_at hl 0 rfl) ?_
          refine cV S (c_X3_deep (l := l) (D := D) (lo := lo) (Γ := Γ) (C := C) (V := V) (th := 0) (mn := mn) (tm := tm) (kt := kt3) (Q := Q) (zs := zs) (be := be) (kp := kp3) hz hz40) (cwV 1 hts gX3_digest_X3_deep rfl rfl rfl (by decide +kernel) ⟨Nat.le_of_ble_eq_true rfl, Nat.le_of_ble_eq_true rfl⟩) hK hH (Hp_recv hK hH (gmo hH (j := 3) (by simp)).1 (gmo hH (j := 3) (by simp)).2.1 rfl) hS rfl hl.1 rfl (by simp [Value.category]) dX3_digest_192 ⟨Nat.le_of_ble_eq_true rfl, Nat.le_of_ble_eq_true rfl⟩ (fun v Z1 H locs hpost hH hS => ?_)
          obtain ⟨rfl, rfl⟩ := hpost
          refine lv_i2l hx hb dX3_digest_195 rfl ?_
          refine lv_ladd hx hb dX3_digest_196 ?_
          refine lv_ldc2 (v := 31) hx hb S.2.2.2.1 (hts _ (List.mem_of_getElem? (i := 4) rfl)) dX3_digest_197 ?_
          refine lv_lmul hx hb dX3_digest_200 ?_
          refine lv_aload_n hx hb dX3_digest_201 rfl (lv_at hl 5 rfl) ?_
          refine lv_aload_n hx hb dX3_digest_202 rfl (lv_at hl 5 rfl) ?_
          refine gM S hi3 hK hH 3 (by decide) f9 (v := .ref (gna Γ)) rfl dX3_digest_203 ?_
          refine lv_bipush (v := 120) hx hb dX3_digest_206 (by decide +kernel) ?_
          refine lv_iload hx hb dX3_digest_208 (lv_at hl 0 rfl) ?_
          refine lv_iadd hx hb dX3_digest_210 ?_
          refine gN S hK hH (n := 40 * (2 + 1) + a) (x := er (parC (zof (U r) a).2.2.2)) (nI_ofadd rfl) (by have := lt_a; omega) ((enc_sd (by decide) lt_a).trans (congrArg er hz.1.1)) dX3_digest_211 ?_
          refine cV S (c_X3_sizeAt (l := l) (D := D) (lo := lo) (Γ := Γ) (C := C) (V := V) (th := 0) (mn := mn) (tm := tm) (kt := kt3) (Q := Q) (zs := zs) (be := be) (kp := kp3) (r := parC (zof (U r) a).2.2.2) (fun b h => ⟨h40 b (hinz b (Or.inr h)), (h_ok b (hinz b (Or.inr h))).2.1⟩)) (cwV 1 hts gX3_digest_X3_sizeAt rfl rfl rfl (by decide +kernel) ⟨Nat.le_of_ble_eq_true rfl, Nat.le_of_ble_eq_true rfl⟩) hK hH (Hp_recv hK hH (gmo hH (j := 3) (by simp)).1 (gmo hH (j := 3) (by simp)).2.1 rfl) hS rfl hl.1 rfl (by simp [Value.category]) dX3_digest_212 ⟨Nat.le_of_ble_eq_true rfl, Nat.le_of_ble_eq_true rfl⟩ (fun v Z1 H locs hpost hH hS => ?_)
          obtain ⟨rfl, rfl⟩ := hpost
          refine lv_i2l hx hb dX3_digest_215 rfl ?_
          refine lv_ladd hx hb dX3_digest_216 ?_
          refine lv_lstore_n (lv' := [(1, .long ((((((d9 * 31) + (nI (zn zs a)).toInt64) * 31) + (nI (zof (U r) a).2.2.2.length).toInt64) * 31) + (er ((parC (zof (U r) a).2.2.2).map (zn zs))).toInt64)), (6, .int (nI a)), (5, .int (nI pre.length)), (4, .int (er (rt (U r)))), (3, .int (nI r)), (0, .ref (gxa Γ 3))]) hx hb dX3_digest_217 rfl hl (by decide) rfl (fun ls hl => ?_)
          refine lv_lload_n hx hb dX3_digest_218 rfl (lv_at hl 0 rfl) ?_
          refine lv_ldc2 (v := 31) hx hb S.2.2.2.1 (hts _ (List.mem_of_getElem? (i := 4) rfl)) dX3_digest_219 ?_
          refine lv_lmul hx hb dX3_digest_222 ?_
          refine lv_aload_n hx hb dX3_digest_223 rfl (lv_at hl 5 rfl) ?_
          refine lv_aload_n hx hb dX3_digest_224 rfl (lv_at hl 5 rfl) ?_
          refine gM S hi3 hK hH 3 (by decide) f9 (v := .ref (gna Γ)) rfl dX3_digest_225 ?_
          refine lv_bipush (v := 40) hx hb dX3_digest_228 (by decide +kernel) ?_
          refine lv_iload hx hb dX3_digest_230 (lv_at hl 1 rfl) ?_
          refine lv_iadd hx hb dX3_digest_232 ?_
          refine gN S hK hH (n := 40 * (0 + 1) + a) (x := er (rt (zof (U r) a).2.1)) (nI_ofadd rfl) (by have := lt_a; omega) ((enc_sd (by decide) lt_a).trans (congrArg er hz.1.2.1)) dX3_digest_233 ?_
          refine cV S (c_X3_sizeAt (l := l) (D := D) (lo := lo) (Γ := Γ) (C := C) (V := V) (th := 0) (mn := mn) (tm := tm) (kt := kt3) (Q := Q) (zs := zs) (be := be) (kp := kp3) (r := rt (zof (U r) a).2.1) (fun b h => ⟨h40 b (hinz b (Or.inl (by have := rt_mem h; simp [tids, this]))), (h_ok b (hinz b (Or.inl (by have := rt_mem h; simp [tids, this])))).2.1⟩)) (cwV 1 hts gX3_digest_X3_sizeAt rfl rfl rfl (by decide +kernel) ⟨Nat.le_of_ble_eq_true rfl, Nat.le_of_ble_eq_true rfl⟩) hK hH (Hp_recv hK hH (gmo hH (j := 3) (by simp)).1 (gmo hH (j := 3) (by simp)).2.1 rfl) hS rfl hl.1 rfl (by simp [Value.category]) dX3_digest_234 ⟨Nat.le_of_ble_eq_true rfl, Nat.le_of_ble_eq_true rfl⟩ (fun v Z1 H locs hpost hH hS => ?_)
          obtain ⟨rfl, rfl⟩ := hpost
          refine lv_i2l hx hb dX3_digest_237 rfl ?_
          refine lv_ladd hx hb dX3_digest_238 ?_
          refine lv_ldc2 (v := 31) hx hb S.2.2.2.1 (hts _ (List.mem_of_getElem? (i := 4) rfl)) dX3_digest_239 ?_
          refine lv_lmul hx hb dX3_digest_242 ?_
          refine lv_aload_n hx hb dX3_digest_243 rfl (lv_at hl 5 rfl) ?_
          refine lv_aload_n hx hb dX3_digest_244 rfl (lv_at hl 5 rfl) ?_
          refine gM S hi3 hK hH 3 (by decide) f9 (v := .ref (gna Γ)) rfl dX3_digest_245 ?_
          refine lv_bipush (v := 80) hx hb dX3_digest_248 (by decide +kernel) ?_
          refine lv_iload hx hb dX3_digest_250 (lv_at hl 1 rfl) ?_
          refine lv_iadd hx hb dX3_digest_252 ?_
          refine gN S hK hH (n := 40 * (1 + 1) + a) (x := er (rt (zof (U r) a).2.2.1)) (nI_ofadd rfl) (by have := lt_a; omega) ((enc_sd (by decide) lt_a).trans (congrArg er hz.1.2.2.1)) dX3_digest_253 ?_
          refine cV S (c_X3_sizeAt (l := l) (D := D) (lo := lo) (Γ := Γ) (C := C) (V := V) (th := 0) (mn := mn) (tm := tm) (kt := kt3) (Q := Q) (zs := zs) (be := be) (kp := kp3) (r := rt (zof (U r) a).2.2.1) (fun b h => ⟨h40 b (hinz b (Or.inl (by have := rt_mem h; simp [tids, this]))), (h_ok b (hinz b (Or.inl (by have := rt_mem h; simp [tids, this])))).2.1⟩)) (cwV 1 hts gX3_digest_X3_sizeAt rfl rfl rfl (by decide +kernel) ⟨Nat.le_of_ble_eq_true rfl, Nat.le_of_ble_eq_true rfl⟩) hK hH (Hp_recv hK hH (gmo hH (j := 3) (by simp)).1 (gmo hH (j := 3) (by simp)).2.1 rfl) hS rfl hl.1 rfl (by simp [Value.category]) dX3_digest_254 ⟨Nat.le_of_ble_eq_true rfl, Nat.le_of_ble_eq_true rfl⟩ (fun v Z1 H locs hpost hH hS => ?_)
          obtain ⟨rfl, rfl⟩ := hpost
          refine lv_i2l hx hb dX3_digest_257 rfl ?_
          refine lv_ladd hx hb dX3_digest_258 ?_
          refine lv_ldc2 (v := 31) hx hb S.2.2.2.1 (hts _ (List.mem_of_getElem? (i := 4) rfl)) dX3_digest_259 ?_
          refine lv_lmul hx hb dX3_digest_262 ?_
          refine lv_aload_n hx hb dX3_digest_263 rfl (lv_at hl 5 rfl) ?_
          refine lv_iload hx hb dX3_digest_264 (lv_at hl 1 rfl) ?_
          refine cV S (c_X3_count (l := l) (D := D) (lo := lo) (Γ := Γ) (C := C) (V := V) (th := 0) (mn := mn) (tm := tm) (kt := kt3) (Q := Q) (zs := zs) (be := be) (kp := kp3) (.branch a (zof (U r) a).2.1 (zof (U r) a).2.2.1) 41 (parC (zof (U r) a).2.2.2) (Nat.lt_succ_of_le (Nat.le_trans (hgt_tids _) (Nat.le_trans (by have h := congrArg (fun t => (tids t).length) hzp; simp only [tids_plug, List.length_append] at h; omega) hlen))) hz.1 (fun b hb => h40 b (hinz b (Or.inl hb)))) (cwV 1 hts gX3_digest_X3_count rfl rfl rfl (by decide +kernel) ⟨Nat.le_of_ble_eq_true rfl, Nat.le_of_ble_eq_true rfl⟩) hK hH (Hp_recv hK hH (gmo hH (j := 3) (by simp)).1 (gmo hH (j := 3) (by simp)).2.1 rfl) hS rfl hl.1 rfl (by simp [Value.category]) dX3_digest_266 ⟨Nat.le_of_ble_eq_true rfl, Nat.le_of_ble_eq_true rfl⟩ (fun v Z1 H locs hpost hH hS => ?_)
          obtain ⟨rfl, rfl⟩ := hpost
          refine lv_iconst (v := 1) hx hb dX3_digest_269 (by decide) ?_
          refine lv_isub hx hb dX3_digest_270 ?_
          rw [show nI (tids (.branch a (zof (U r) a).2.1 (zof (U r) a).2.2.1)).length - 1 = nI ((tids (zof (U r) a).2.1).length + (tids (zof (U r) a).2.2.1).length) by rw [show (1 : Int32) = nI 1 from rfl, nI_sb (by rw [tids_branch]; simp only [List.length_append, List.length_cons]; omega)]; congr 1; rw [tids_branch]; simp only [List.length_append, List.length_cons]; omega]
          refine lv_i2l hx hb dX3_digest_271 rfl ?_
          refine lv_ladd hx hb dX3_digest_272 ?_
          refine lv_lstore_n (lv' := [(1, .long ((((((((((((d9 * 31) + (nI (zn zs a)).toInt64) * 31) + (nI (zof (U r) a).2.2.2.length).toInt64) * 31) + (er ((parC (zof (U r) a).2.2.2).map (zn zs))).toInt64) * 31) + (er ((rt (zof (U r) a).2.1).map (zn zs))).toInt64) * 31) + (er ((rt (zof (U r) a).2.2.1).map (zn zs))).toInt64) * 31) + (nI ((tids (zof (U r) a).2.1).length + (tids (zof (U r) a).2.2.1).length)).toInt64)), (6, .int (nI a)), (5, .int (nI pre.length)), (4, .int (er (rt (U r)))), (3, .int (nI r)), (0, .ref (gxa Γ 3))]) hx hb dX3_digest_273 rfl hl (by decide) rfl (fun ls hl => ?_)
          refine lv_lload_n hx hb dX3_digest_274 rfl (lv_at hl 0 rfl) ?_
          refine lv_ldc2 (v := 31) hx hb S.2.2.2.1 (hts _ (List.mem_of_getElem? (i := 4) rfl)) dX3_digest_275 ?_
          refine lv_lmul hx hb dX3_digest_278 ?_
          refine lv_aload_n hx hb dX3_digest_279 rfl (lv_at hl 5 rfl) ?_
          refine gM S hi3 hK hH 3 (by decide) f9 (v := .ref (gna Γ)) rfl dX3_digest_280 ?_
          refine lv_sipush (v := 160) hx hb dX3_digest_283 (by decide +kernel) ?_
          refine lv_iload hx hb dX3_digest_286 (lv_at hl 1 rfl) ?_
          refine lv_iadd hx hb dX3_digest_288 ?_
          refine gNea S hK hH lt_a dX3_digest_289 ?_
          refine lv_i2l hx hb dX3_digest_290 rfl ?_
          refine lv_ladd hx hb dX3_digest_291 ?_
          refine lv_lstore_n (lv' := [(1, .long ((((((((((((((d9 * 31) + (nI (zn zs a)).toInt64) * 31) + (nI (zof (U r) a).2.2.2.length).toInt64) * 31) + (er ((parC (zof (U r) a).2.2.2).map (zn zs))).toInt64) * 31) + (er ((rt (zof (U r) a).2.1).map (zn zs))).toInt64) * 31) + (er ((rt (zof (U r) a).2.2.1).map (zn zs))).toInt64) * 31) + (nI ((tids (zof (U r) a).2.1).length + (tids (zof (U r) a).2.2.1).length)).toInt64) * 31) + (nI (be a)).toInt64)), (6, .int (nI a)), (5, .int (nI pre.length)), (4, .int (er (rt (U r)))), (3, .int (nI r)), (0, .ref (gxa Γ 3))]) hx hb dX3_digest_292 rfl hl (by decide) rfl (fun ls hl => ?_)
          refine lv_iinc (v := nI (pre.length + 1)) (lv' := [(5, .int (nI (pre.length + 1))), (1, .long ((((((((((((((d9 * 31) + (nI (zn zs a)).toInt64) * 31) + (nI (zof (U r) a).2.2.2.length).toInt64) * 31) + (er ((parC (zof (U r) a).2.2.2).map (zn zs))).toInt64) * 31) + (er ((rt (zof (U r) a).2.1).map (zn zs))).toInt64) * 31) + (er ((rt (zof (U r) a).2.2.1).map (zn zs))).toInt64) * 31) + (nI ((tids (zof (U r) a).2.1).length + (tids (zof (U r) a).2.2.1).length)).toInt64) * 31) + (nI (be a)).toInt64)), (6, .int (nI a)), (4, .int (er (rt (U r)))), (3, .int (nI r)), (0, .ref (gxa Γ 3))]) hx hb dX3_digest_293 hl (k := 2) rfl (nI_1 pre.length) (by decide) rfl (fun ls hl => ?_)
          refine lv_goto (tgt := 148) hx hb dX3_digest_296 (by decide) ?_
          exact ihp (pre ++ [a]) _ (by rw [hx2]; simp) hd9 H locs hH hS ls (by rw [List.length_append]; exact lv_sub hl [0, 3, 4, 1, 5] rfl)
      exact inner (tids (U r)) [] _ rfl hd _ _ hH hS ls (lv_sub hl [0, 2, 3, 1, 4] rfl)
  exact loop 6 0 _ kt kp rfl (by rw [h_mn]; rfl) _ _ hH hS ls (lv_sub hl [0, 1, 2] rfl)
end MModD
