/-! METHODS of the reference: split, join -/
theorem tg_ok {P : PF} {T1 T2 : Tr} {px : Option Nat} (h1 : rep P none T1) (h2 : rep P none T2) (hn : (tids T1 ++ tids T2).Nodup) : rep (tgP P T1 (rt T2)) none (jn T1 T2) ∧ tgr T1 (rt T2) = rt (jn T1 T2) ∧ tids (jn T1 T2) = tids T1 ++ tids T2 ∧ (∀ j x, x ∉ tids T1 → x ∉ tids T2 → tgP P T1 (rt T2) j x = P j x) ∧ (∀ j x, 3 ≤ j → tgP P T1 (rt T2) j x = P j x) := by
  obtain ⟨n1, n2, hd⟩ := List.nodup_append.mp hn
  unfold tgP tgr jn
  cases hm : (tids T1).getLast? with
  | none =>
    have hE : tids T1 = [] := List.getLast?_eq_none_iff.mp hm
    exact ⟨h2, rfl, by rw [hE]; rfl, fun _ _ _ _ => rfl, fun _ _ _ => rfl⟩
  | some m =>
    have hin := List.mem_of_getLast? hm
    obtain ⟨L9, he, hL⟩ := spz_last n1 hm
    obtain ⟨r1, r2, r3, r4, r5⟩ := spz_raise h1 n1 hin
    rw [he] at r1
    dsimp only
    rw [he]
    dsimp only
    have hx2 : ∀ x ∈ tids T2, x ∉ tids T1 := fun x hx q => hd x q x hx rfl
    have k2 : rep (rai m (zof T1 m).2.2.2 P) none T2 := rep_congr _ _ h2 (fun x hx => ⟨r4 0 x (hx2 x hx), r4 1 x (hx2 x hx), r4 2 x (hx2 x hx)⟩)
    have hids : tids L9 ++ m :: tids T2 = tids T1 ++ tids T2 := by rw [← hL]; simp
    obtain ⟨q1, q2, q3⟩ := jn2 r1 k2 (by rw [hids]; exact hn)
    refine ⟨q1, rfl, hids, fun j x hx hx9 => ?_, fun j x hj => ?_⟩
    · rw [q2 j x (fun e => hx (by rw [e]; exact hin)) (fun e => hx9 (rt_mem e)), r4 j x hx]
    · rw [q3 j x hj, r5 j x hj]
theorem joined_1 {Q : PF} {zs : Nat → Option Nat} {U : Nat → Tr} {mn r q : Nat} (hM : MI Q zs U mn) (hr6 : r < 6) (hq6 : q < 6) (hrq : r ≠ q) :
    sP (sP (tgP Q (U r) (rt (U q))) 3 r (tgr (U r) (rt (U q)))) 3 q none 3 r = rt (jn (U r) (U q)) ∧ rep (sP (sP (tgP Q (U r) (rt (U q))) 3 r (tgr (U r) (rt (U q)))) 3 q none) none (jn (U r) (U q)) ∧ (∀ a ∈ tids (jn (U r) (U q)), a < 40) ∧ (tids (jn (U r) (U q))).length ≤ 40 := by
  obtain ⟨h_t, h_nd, h_mn, h_zs, h_40⟩ := hM
  have hap := gids_apart h_nd
  obtain ⟨⟨a1, a2, a3, a4⟩, -⟩ := h_t r hr6
  obtain ⟨⟨b1, b2, b3, b4⟩, -⟩ := h_t q hq6
  have hn : (tids (U r) ++ tids (U q)).Nodup := List.nodup_append.mpr ⟨a3, b3, fun x hx y hy e => hap.2 r q hr6 hq6 hrq x hx (by rw [e]; exact hy)⟩
  obtain ⟨g1, g2, g3, g4, g5⟩ := tg_ok (px := none) a2 b2 hn
  refine ⟨by rw [sP_na hrq, sP_eq, g2], rep_congr _ _ g1 (fun x _ => ⟨by rw [sP_nk (by decide), sP_nk (by decide)], by rw [sP_nk (by decide), sP_nk (by decide)], by rw [sP_nk (by decide), sP_nk (by decide)]⟩), fun a ha => ?_, ?_⟩
  · rw [g3] at ha
    rcases List.mem_append.mp ha with h | h
    · exact (a4 a h).1
    · exact (b4 a h).1
  · rw [g3, List.length_append]
    have h1 := gids_len (T := U) (t := jn (U r) (U q)) hr6
    have h2 := gids_len (T := va_up U r (jn (U r) (U q))) (t := (.leaf () : Tr)) hq6
    rw [va_up_ne _ _ (Ne.symm hrq)] at h2
    rw [g3, List.length_append] at h1
    have h3 : (tids (.leaf () : Tr)).length = 0 := rfl
    have h4 := gids_le (T := va_up (va_up U r (jn (U r) (U q))) q (.leaf ())) (r := r) hr6
    rw [va_up_ne _ _ hrq, va_up_self, g3, List.length_append] at h4
    omega
section MModB
variable {l : Launch} {D : va_G} {lo : Nat} {Γ : GT} {C : CW} {V : Int64 × UInt64} {th mn tm kt : Nat} {Q : PF} {zs : Nat → Option Nat} {be : Nat → Nat} {kp : Nat → Int32}
set_option maxRecDepth 100000 in
set_option maxHeartbeats 4000000 in
theorem c_X3_split {U : Nat → Tr} {row x y : Int32} (hM : MI Q zs U mn) : Mz l yX3_split wsX3_split (rmL 44 0 0) D lo Γ [.ref (gxa Γ 3), .int row, .int x, .int y] (C, (th, mn, tm, kt, Q, zs, be, kp), V) (fun v Z' => (∃ r q n, rowN row = some r ∧ rowN y = some q ∧ szN x = some n ∧ r ≠ q ∧ U q = .leaf () ∧ (((blw (zn zs) (n : Int) (U r)).getLast? = none ∧ v = some (.int (nI (tids (U r)).length)) ∧ Z' = (C, (0, mn, tm, kt, (sP (sP Q 3 q (rt (U r))) 3 r none), zs, be, kp), V)) ∨ ∃ b L9 R9, (blw (zn zs) (n : Int) (U r)).getLast? = some b ∧ spz (zof (U r) b) = .branch b L9 R9 ∧ v = some (.int (nI (tids R9).length)) ∧ Z' = (C, (0, mn, (tm + (zof (U r) b).2.2.2.length), kt, (ptQ Q r q b (U r) R9), zs, be, kp), V))) ∨ ((rowN row = none ∨ rowN y = none) ∧ v = some (.int 0) ∧ Z' = (C, (1, mn, tm, kt, Q, zs, be, kp), V)) ∨ ((∃ r q, rowN row = some r ∧ rowN y = some q) ∧ szN x = none ∧ v = some (.int 0) ∧ Z' = (C, (2, mn, tm, kt, Q, zs, be, kp), V)) ∨ (∃ r q n, rowN row = some r ∧ rowN y = some q ∧ szN x = some n ∧ ¬ (r ≠ q ∧ U q = .leaf ()) ∧ v = some (.int 0) ∧ Z' = (C, (3, mn, tm, kt, Q, zs, be, kp), V))) := by
  refine Mz_of (cc := cX3_split) (maxL := 4) (ret := (some .int)) (by decide) rfl (Nat.le_of_ble_eq_true rfl) ?_
  intro p e s m args below meth c ls S hr hlocks hK hH hS hl
  have hx := S.1
  have hb := S.2.1
  have hts := S.2.2.2.2
  have f16 : (Cond.fieldLink RX3 16 (TX3 0).1 (TX3 0).2.1 (TX3 0).2.2.1).before args s = true := hts _ (List.mem_of_getElem? (i := 1) rfl)
  have f9 : (Cond.fieldLink RX3 9 (TX3 3).1 (TX3 3).2.1 (TX3 3).2.2.1).before args s = true := hts _ (List.mem_of_getElem? (i := 2) rfl)
  have hi3 : ∀ w ∈ wsX30, w ∈ wsX3_split := by decide +kernel
  have hl : lv_has ls 4 [(0, .ref (gxa Γ 3)), (1, .int row), (2, .int x), (3, .int y)] := hl
  obtain ⟨h_t, h_nd, h_mn, h_zs, h_40⟩ := id hM
  refine lv_aload_n hx hb dX3_split_0 rfl (lv_at hl 0 rfl) ?_
  refine lv_iconst (v := 0) hx hb dX3_split_1 (by decide) ?_
  refine pM S hi3 hK hH hS 0 (by decide) f16 (0, mn, tm, kt, Q, zs, be, kp) rfl rfl dX3_split_2 (fun H locs hH hS => ?_)
  refine lv_iload_n hx hb dX3_split_5 rfl (lv_at hl 1 rfl) ?_
  refine cSt S (c_X3_isRow (l := l) (D := D) (lo := lo) (Γ := Γ) (C := C) (V := V) (th := 0) (mn := mn) (tm := tm) (kt := kt) (Q := Q) (zs := zs) (be := be) (kp := kp) (x := row)) (va_cwS 1 hts gX3_split_X3_isRow rfl rfl rfl (by decide +kernel) ⟨Nat.le_of_ble_eq_true rfl, Nat.le_of_ble_eq_true rfl⟩) hK hH hS rfl hl.1 rfl (Nat.le_of_ble_eq_true rfl) dX3_split_6 ⟨Nat.le_of_ble_eq_true rfl, Nat.le_of_ble_eq_true rfl⟩ (fun v Z1 H locs hpost hH hS => ?_)
  obtain ⟨rfl, rfl⟩ := hpost
  rcases hrow : rowN row with _ | r
  · skip
    refine lv_if_eq (tgt := 19) hx hb dX3_split_9 (by decide) (fun _ => ?_) (fun h1 => absurd rfl h1)
    refine lv_aload_n hx hb dX3_split_19 rfl (lv_at hl 0 rfl) ?_
    refine lv_iconst (v := 1) hx hb dX3_split_20 (by decide) ?_
    refine cV S (c_X3_no (l := l) (D := D) (lo := lo) (Γ := Γ) (C := C) (V := V) (th := 0) (mn := mn) (tm := tm) (kt := kt) (Q := Q) (zs := zs) (be := be) (kp := kp) (n := 1)) (cwV 1 hts gX3_split_X3_no rfl rfl rfl (by decide +kernel) ⟨Nat.le_of_ble_eq_true rfl, Nat.le_of_ble_eq_true rfl⟩) hK hH (Hp_recv hK hH (gmo hH (j := 3) (by simp)).1 (gmo hH (j := 3) (by simp)).2.1 rfl) hS rfl hl.1 rfl (Nat.le_of_ble_eq_true rfl) dX3_split_21 ⟨Nat.le_of_ble_eq_true rfl, Nat.le_of_ble_eq_true rfl⟩ (fun v Z1 H locs hpost hH hS => ?_)
    obtain ⟨rfl, rfl⟩ := hpost
    exact eI S hr hlocks hH hS (Or.inr (Or.inl ⟨Or.inl rfl, rfl, rfl⟩)) dX3_split_24
  · skip
    refine lv_if_eq (tgt := 19) hx hb dX3_split_9 (by decide) (fun h1 => absurd h1 (show ¬ (1 : Int32) = 0 by decide)) (fun _ => ?_)
    refine lv_iload_n hx hb dX3_split_12 rfl (lv_at hl 3 rfl) ?_
    refine cSt S (c_X3_isRow (l := l) (D := D) (lo := lo) (Γ := Γ) (C := C) (V := V) (th := 0) (mn := mn) (tm := tm) (kt := kt) (Q := Q) (zs := zs) (be := be) (kp := kp) (x := y)) (va_cwS 1 hts gX3_split_X3_isRow rfl rfl rfl (by decide +kernel) ⟨Nat.le_of_ble_eq_true rfl, Nat.le_of_ble_eq_true rfl⟩) hK hH hS rfl hl.1 rfl (Nat.le_of_ble_eq_true rfl) dX3_split_13 ⟨Nat.le_of_ble_eq_true rfl, Nat.le_of_ble_eq_true rfl⟩ (fun v Z1 H locs hpost hH hS => ?_)
    obtain ⟨rfl, rfl⟩ := hpost
    rcases hrow2 : rowN y with _ | q
    · skip
      refine lv_if_ne (tgt := 25) hx hb dX3_split_16 (by decide) (fun h1 => absurd rfl h1) (fun _ => ?_)
      refine lv_aload_n hx hb dX3_split_19 rfl (lv_at hl 0 rfl) ?_
      refine lv_iconst (v := 1) hx hb dX3_split_20 (by decide) ?_
      refine cV S (c_X3_no (l := l) (D := D) (lo := lo) (Γ := Γ) (C := C) (V := V) (th := 0) (mn := mn) (tm := tm) (kt := kt) (Q := Q) (zs := zs) (be := be) (kp := kp) (n := 1)) (cwV 1 hts gX3_split_X3_no rfl rfl rfl (by decide +kernel) ⟨Nat.le_of_ble_eq_true rfl, Nat.le_of_ble_eq_true rfl⟩) hK hH (Hp_recv hK hH (gmo hH (j := 3) (by simp)).1 (gmo hH (j := 3) (by simp)).2.1 rfl) hS rfl hl.1 rfl (Nat.le_of_ble_eq_true rfl) dX3_split_21 ⟨Nat.le_of_ble_eq_true rfl, Nat.le_of_ble_eq_true rfl⟩ (fun v Z1 H locs hpost hH hS => ?_)
      obtain ⟨rfl, rfl⟩ := hpost
      exact eI S hr hlocks hH hS (Or.inr (Or.inl ⟨Or.inr rfl, rfl, rfl⟩)) dX3_split_24
    · skip
      refine lv_if_ne (tgt := 25) hx hb dX3_split_16 (by decide) (fun _ => ?_) (fun h1 => absurd h1 (show ¬ (1 : Int32) = 0 by decide))
      refine lv_iload_n hx hb dX3_split_25 rfl (lv_at hl 2 rfl) ?_
      refine cSt S (c_X3_isSize (l := l) (D := D) (lo := lo) (Γ := Γ) (C := C) (V := V) (th := 0) (mn := mn) (tm := tm) (kt := kt) (Q := Q) (zs := zs) (be := be) (kp := kp) (x := x)) (va_cwS 1 hts gX3_split_X3_isSize rfl rfl rfl (by decide +kernel) ⟨Nat.le_of_ble_eq_true rfl, Nat.le_of_ble_eq_true rfl⟩) hK hH hS rfl hl.1 rfl (Nat.le_of_ble_eq_true rfl) dX3_split_26 ⟨Nat.le_of_ble_eq_true rfl, Nat.le_of_ble_eq_true rfl⟩ (fun v Z1 H locs hpost hH hS => ?_)
      obtain ⟨rfl, rfl⟩ := hpost
      rcases hsz : szN x with _ | n
      · skip
        refine lv_if_ne (tgt := 38) hx hb dX3_split_29 (by decide) (fun h1 => absurd rfl h1) (fun _ => ?_)
        refine lv_aload_n hx hb dX3_split_32 rfl (lv_at hl 0 rfl) ?_
        refine lv_iconst (v := 2) hx hb dX3_split_33 (by decide) ?_
        refine cV S (c_X3_no (l := l) (D := D) (lo := lo) (Γ := Γ) (C := C) (V := V) (th := 0) (mn := mn) (tm := tm) (kt := kt) (Q := Q) (zs := zs) (be := be) (kp := kp) (n := 2)) (cwV 1 hts gX3_split_X3_no rfl rfl rfl (by decide +kernel) ⟨Nat.le_of_ble_eq_true rfl, Nat.le_of_ble_eq_true rfl⟩) hK hH (Hp_recv hK hH (gmo hH (j := 3) (by simp)).1 (gmo hH (j := 3) (by simp)).2.1 rfl) hS rfl hl.1 rfl (Nat.le_of_ble_eq_true rfl) dX3_split_34 ⟨Nat.le_of_ble_eq_true rfl, Nat.le_of_ble_eq_true rfl⟩ (fun v Z1 H locs hpost hH hS => ?_)
        obtain ⟨rfl, rfl⟩ := hpost
        exact eI S hr hlocks hH hS (Or.inr (Or.inr (Or.inl ⟨⟨r, q, rfl, rfl⟩, rfl, rfl, rfl⟩))) dX3_split_37
      · skip
        obtain ⟨hr6, hrw⟩ := rowN_some hrow
        obtain ⟨hr62, hrw2⟩ := rowN_some hrow2
        obtain ⟨hn9, hnx⟩ := szN_some hsz
        subst hrw hrw2 hnx
        refine lv_if_ne (tgt := 38) hx hb dX3_split_29 (by decide) (fun _ => ?_) (fun h1 => absurd h1 (show ¬ (1 : Int32) = 0 by decide))
        obtain ⟨hR, hs⟩ := h_t r hr6
        obtain ⟨h_top, h_rep, h_n, h_ok⟩ := id hR
        have h40 : ∀ a ∈ tids (U r), a < 40 := fun a ha => (h_ok a ha).1
        have hlen : (tids (U r)).length ≤ 40 := Nat.le_trans (gids_le hr6) h_40
        have hh : hgt (U r) < 41 := Nat.lt_succ_of_le (Nat.le_trans (hgt_tids _) hlen)
        obtain ⟨hR2, hs2⟩ := h_t q hr62
        obtain ⟨h_top2, h_rep2, h_n2, h_ok2⟩ := id hR2
        have h402 : ∀ a ∈ tids (U q), a < 40 := fun a ha => (h_ok2 a ha).1
        have hlen2 : (tids (U q)).length ≤ 40 := Nat.le_trans (gids_le hr62) h_40
        have hh2 : hgt (U q) < 41 := Nat.lt_succ_of_le (Nat.le_trans (hgt_tids _) hlen2)
        cases hu : U q with
        | leaf u =>
          have h_t2 : Q 3 q = none := by rw [h_top2, hu]; rfl
          refine lv_aload_n hx hb dX3_split_38 rfl (lv_at hl 0 rfl) ?_
          refine gM S hi3 hK hH 3 (by decide) f9 (v := .ref (gna Γ)) rfl dX3_split_39 ?_
          refine lv_sipush (v := 200) hx hb dX3_split_42 (by decide +kernel) ?_
          refine lv_iload_n hx hb dX3_split_45 rfl (lv_at hl 3 rfl) ?_
          refine lv_iadd hx hb dX3_split_46 ?_
          refine gN S hK hH (n := 200 + q) (x := -1) (nI_ofadd (a := 200) rfl) (by have := hr62; omega) (enc_tp.trans (congrArg er h_t2)) dX3_split_47 ?_
          refine lv_iconst (v := -1) hx hb dX3_split_48 (by decide) ?_
          refine lv_icmp_ne (tgt := 57) hx hb dX3_split_49 (by decide) (fun h1 => absurd rfl h1) (fun _ => ?_)
          refine lv_iload_n hx hb dX3_split_52 rfl (lv_at hl 1 rfl) ?_
          refine lv_iload_n hx hb dX3_split_53 rfl (lv_at hl 3 rfl) ?_
          refine lv_icmp_ne (tgt := 63) hx hb dX3_split_54 (by decide) (fun h1 => ?_) (fun h1 => ?_)
          · skip
            have hrq : r ≠ q := fun e => h1 (by rw [e])
            refine lv_aload_n hx hb dX3_split_63 rfl (lv_at hl 0 rfl) ?_
            refine lv_iload_n hx hb dX3_split_64 rfl (lv_at hl 1 rfl) ?_
            refine lv_iload_n hx hb dX3_split_65 rfl (lv_at hl 2 rfl) ?_
            refine lv_iload_n hx hb dX3_split_66 rfl (lv_at hl 3 rfl) ?_
            refine cV S (c_X3_parted (l := l) (D := D) (lo := lo) (Γ := Γ) (C := C) (V := V) (th := 0) (mn := mn) (tm := tm) (kt := kt) (Q := Q) (zs := zs) (be := be) (kp := kp) hr6 hr62 hrq hn9 hR hs hlen) (cwV 3 hts gX3_split_X3_parted rfl rfl rfl (by decide +kernel) ⟨Nat.le_of_ble_eq_true rfl, Nat.le_of_ble_eq_true rfl⟩) hK hH (Hp_recv hK hH (gmo hH (j := 3) (by simp)).1 (gmo hH (j := 3) (by simp)).2.1 rfl) hS rfl hl.1 rfl (Nat.le_of_ble_eq_true rfl) dX3_split_67 ⟨Nat.le_of_ble_eq_true rfl, Nat.le_of_ble_eq_true rfl⟩ (fun v Z1 H locs hpost hH hS => ?_)
            obtain ⟨g1, rfl, rfl⟩ | ⟨b, L9, R9, g1, g2, rfl, rfl⟩ := hpost
            · skip
              exact eI S hr hlocks hH hS (Or.inl ⟨r, q, n, rfl, rfl, rfl, hrq, hu, Or.inl ⟨g1, rfl, rfl⟩⟩) dX3_split_70
            · skip
              exact eI S hr hlocks hH hS (Or.inl ⟨r, q, n, rfl, rfl, rfl, hrq, hu, Or.inr ⟨b, L9, R9, g1, g2, rfl, rfl⟩⟩) dX3_split_70
          · skip
            have hrq : r = q := nI_inj9 (by omega) (by omega) h1
            refine lv_aload_n hx hb dX3_split_57 rfl (lv_at hl 0 rfl) ?_
            refine lv_iconst (v := 3) hx hb dX3_split_58 (by decide) ?_
            refine cV S (c_X3_no (l := l) (D := D) (lo := lo) (Γ := Γ) (C := C) (V := V) (th := 0) (mn := mn) (tm := tm) (kt := kt) (Q := Q) (zs := zs) (be := be) (kp := kp) (n := 3)) (cwV 1 hts gX3_split_X3_no rfl rfl rfl (by decide +kernel) ⟨Nat.le_of_ble_eq_true rfl, Nat.le_of_ble_eq_true rfl⟩) hK hH (Hp_recv hK hH (gmo hH (j := 3) (by simp)).1 (gmo hH (j := 3) (by simp)).2.1 rfl) hS rfl hl.1 rfl (Nat.le_of_ble_eq_true rfl) dX3_split_59 ⟨Nat.le_of_ble_eq_true rfl, Nat.le_of_ble_eq_true rfl⟩ (fun v Z1 H locs hpost hH hS => ?_)
            obtain ⟨rfl, rfl⟩ := hpost
            exact eI S hr hlocks hH hS (Or.inr (Or.inr (Or.inr ⟨r, q, n, rfl, rfl, rfl, fun h => h.1 hrq, rfl, rfl⟩))) dX3_split_62
        | branch k9 l9 r9 =>
          have h_t2 : Q 3 q = some k9 := by rw [h_top2, hu]; rfl
          have lt_k9 := h402 k9 (by rw [hu]; simp [tids])
          refine lv_aload_n hx hb dX3_split_38 rfl (lv_at hl 0 rfl) ?_
          refine gM S hi3 hK hH 3 (by decide) f9 (v := .ref (gna Γ)) rfl dX3_split_39 ?_
          refine lv_sipush (v := 200) hx hb dX3_split_42 (by decide +kernel) ?_
          refine lv_iload_n hx hb dX3_split_45 rfl (lv_at hl 3 rfl) ?_
          refine lv_iadd hx hb dX3_split_46 ?_
          refine gN S hK hH (n := 200 + q) (x := nI k9) (nI_ofadd (a := 200) rfl) (by have := hr62; omega) (enc_tp.trans (congrArg er h_t2)) dX3_split_47 ?_
          refine lv_iconst (v := -1) hx hb dX3_split_48 (by decide) ?_
          refine lv_icmp_ne (tgt := 57) hx hb dX3_split_49 (by decide) (fun _ => ?_) (fun h1 => absurd h1 (nI_nm1 (Nat.lt_trans lt_k9 (by decide))))
          refine lv_aload_n hx hb dX3_split_57 rfl (lv_at hl 0 rfl) ?_
          refine lv_iconst (v := 3) hx hb dX3_split_58 (by decide) ?_
          refine cV S (c_X3_no (l := l) (D := D) (lo := lo) (Γ := Γ) (C := C) (V := V) (th := 0) (mn := mn) (tm := tm) (kt := kt) (Q := Q) (zs := zs) (be := be) (kp := kp) (n := 3)) (cwV 1 hts gX3_split_X3_no rfl rfl rfl (by decide +kernel) ⟨Nat.le_of_ble_eq_true rfl, Nat.le_of_ble_eq_true rfl⟩) hK hH (Hp_recv hK hH (gmo hH (j := 3) (by simp)).1 (gmo hH (j := 3) (by simp)).2.1 rfl) hS rfl hl.1 rfl (Nat.le_of_ble_eq_true rfl) dX3_split_59 ⟨Nat.le_of_ble_eq_true rfl, Nat.le_of_ble_eq_true rfl⟩ (fun v Z1 H locs hpost hH hS => ?_)
          obtain ⟨rfl, rfl⟩ := hpost
          exact eI S hr hlocks hH hS (Or.inr (Or.inr (Or.inr ⟨r, q, n, rfl, rfl, rfl, fun h => (by rw [hu] at h; cases h.2), rfl, rfl⟩))) dX3_split_62

set_option maxRecDepth 100000 in
set_option maxHeartbeats 4000000 in
theorem c_X3_join {U : Nat → Tr} {row x : Int32} (hM : MI Q zs U mn) : Mz l yX3_join wsX3_join (rmL 44 0 0) D lo Γ [.ref (gxa Γ 3), .int row, .int x] (C, (th, mn, tm, kt, Q, zs, be, kp), V) (fun v Z' => (∃ r q, rowN row = some r ∧ rowN x = some q ∧ (r ≠ q ∧ mayJ (zn zs) (U r) (U q) = true) ∧ v = some (.int (nI (tids (jn (U r) (U q))).length)) ∧ Z' = (C, (0, mn, (tm + appN (U r)), kt, (sP (sP (tgP Q (U r) (rt (U q))) 3 r (tgr (U r) (rt (U q)))) 3 q none), zs, be, kp), V)) ∨ ((rowN row = none ∨ rowN x = none) ∧ v = some (.int 0) ∧ Z' = (C, (1, mn, tm, kt, Q, zs, be, kp), V)) ∨ (∃ r q, rowN row = some r ∧ rowN x = some q ∧ ¬ (r ≠ q ∧ mayJ (zn zs) (U r) (U q) = true) ∧ v = some (.int 0) ∧ Z' = (C, (2, mn, tm, kt, Q, zs, be, kp), V))) := by
  refine Mz_of (cc := cX3_join) (maxL := 3) (ret := (some .int)) (by decide) rfl (Nat.le_of_ble_eq_true rfl) ?_
  intro p e s m args below meth c ls S hr hlocks hK hH hS hl
  have hx := S.1
  have hb := S.2.1
  have hts := S.2.2.2.2
  have f16 : (Cond.fieldLink RX3 16 (TX3 0).1 (TX3 0).2.1 (TX3 0).2.2.1).before args s = true := hts _ (List.mem_of_getElem? (i := 1) rfl)
  have f9 : (Cond.fieldLink RX3 9 (TX3 3).1 (TX3 3).2.1 (TX3 3).2.2.1).before args s = true := hts _ (List.mem_of_getElem? (i := 2) rfl)
  have hi3 : ∀ w ∈ wsX30, w ∈ wsX3_join := by decide +kernel
  have hl : lv_has ls 3 [(0, .ref (gxa Γ 3)), (1, .int row), (2, .int x)] := hl
  obtain ⟨h_t, h_nd, h_mn, h_zs, h_40⟩ := id hM
  refine lv_aload_n hx hb dX3_join_0 rfl (lv_at hl 0 rfl) ?_
  refine lv_iconst (v := 0) hx hb dX3_join_1 (by decide) ?_
  refine pM S hi3 hK hH hS 0 (by decide) f16 (0, mn, tm, kt, Q, zs, be, kp) rfl rfl dX3_join_2 (fun H locs hH hS => ?_)
  refine lv_iload_n hx hb dX3_join_5 rfl (lv_at hl 1 rfl) ?_
  refine cSt S (c_X3_isRow (l := l) (D := D) (lo := lo) (Γ := Γ) (C := C) (V := V) (th := 0) (mn := mn) (tm := tm) (kt := kt) (Q := Q) (zs := zs) (be := be) (kp := kp) (x := row)) (va_cwS 1 hts gX3_join_X3_isRow rfl rfl rfl (by decide +kernel) ⟨Nat.le_of_ble_eq_true rfl, Nat.le_of_ble_eq_true rfl⟩) hK hH hS rfl hl.1 rfl (Nat.le_of_ble_eq_true rfl) dX3_join_6 ⟨Nat.le_of_ble_eq_true rfl, Nat.le_of_ble_eq_true rfl⟩ (fun v Z1 H locs hpost hH hS => ?_)
  obtain ⟨rfl, rfl⟩ := hpost
  rcases hrow : rowN row with _ | r
  · skip
    refine lv_if_eq (tgt := 19) hx hb dX3_join_9 (by decide) (fun _ => ?_) (fun h1 => absurd rfl h1)
    refine lv_aload_n hx hb dX3_join_19 rfl (lv_at hl 0 rfl) ?_
    refine lv_iconst (v := 1) hx hb dX3_join_20 (by decide) ?_
    refine cV S (c_X3_no (l := l) (D := D) (lo := lo) (Γ := Γ) (C := C) (V := V) (th := 0) (mn := mn) (tm := tm) (kt := kt) (Q := Q) (zs := zs) (be := be) (kp := kp) (n := 1)) (cwV 1 hts gX3_join_X3_no rfl rfl rfl (by decide +kernel) ⟨Nat.le_of_ble_eq_true rfl, Nat.le_of_ble_eq_true rfl⟩) hK hH (Hp_recv hK hH (gmo hH (j := 3) (by simp)).1 (gmo hH (j := 3) (by simp)).2.1 rfl) hS rfl hl.1 rfl (Nat.le_of_ble_eq_true rfl) dX3_join_21 ⟨Nat.le_of_ble_eq_true rfl, Nat.le_of_ble_eq_true rfl⟩ (fun v Z1 H locs hpost hH hS => ?_)
    obtain ⟨rfl, rfl⟩ := hpost
    exact eI S hr hlocks hH hS (Or.inr (Or.inl ⟨Or.inl rfl, rfl, rfl⟩)) dX3_join_24
  · skip
    refine lv_if_eq (tgt := 19) hx hb dX3_join_9 (by decide) (fun h1 => absurd h1 (show ¬ (1 : Int32) = 0 by decide)) (fun _ => ?_)
    refine lv_iload_n hx hb dX3_join_12 rfl (lv_at hl 2 rfl) ?_
    refine cSt S (c_X3_isRow (l := l) (D := D) (lo := lo) (Γ := Γ) (C := C) (V := V) (th := 0) (mn := mn) (tm := tm) (kt := kt) (Q := Q) (zs := zs) (be := be) (kp := kp) (x := x)) (va_cwS 1 hts gX3_join_X3_isRow rfl rfl rfl (by decide +kernel) ⟨Nat.le_of_ble_eq_true rfl, Nat.le_of_ble_eq_true rfl⟩) hK hH hS rfl hl.1 rfl (Nat.le_of_ble_eq_true rfl) dX3_join_13 ⟨Nat.le_of_ble_eq_true rfl, Nat.le_of_ble_eq_true rfl⟩ (fun v Z1 H locs hpost hH hS => ?_)
    obtain ⟨rfl, rfl⟩ := hpost
    rcases hrow2 : rowN x with _ | q
    · skip
      refine lv_if_ne (tgt := 25) hx hb dX3_join_16 (by decide) (fun h1 => absurd rfl h1) (fun _ => ?_)
      refine lv_aload_n hx hb dX3_join_19 rfl (lv_at hl 0 rfl) ?_
      refine lv_iconst (v := 1) hx hb dX3_join_20 (by decide) ?_
      refine cV S (c_X3_no (l := l) (D := D) (lo := lo) (Γ := Γ) (C := C) (V := V) (th := 0) (mn := mn) (tm := tm) (kt := kt) (Q := Q) (zs := zs) (be := be) (kp := kp) (n := 1)) (cwV 1 hts gX3_join_X3_no rfl rfl rfl (by decide +kernel) ⟨Nat.le_of_ble_eq_true rfl, Nat.le_of_ble_eq_true rfl⟩) hK hH (Hp_recv hK hH (gmo hH (j := 3) (by simp)).1 (gmo hH (j := 3) (by simp)).2.1 rfl) hS rfl hl.1 rfl (Nat.le_of_ble_eq_true rfl) dX3_join_21 ⟨Nat.le_of_ble_eq_true rfl, Nat.le_of_ble_eq_true rfl⟩ (fun v Z1 H locs hpost hH hS => ?_)
      obtain ⟨rfl, rfl⟩ := hpost
      exact eI S hr hlocks hH hS (Or.inr (Or.inl ⟨Or.inr rfl, rfl, rfl⟩)) dX3_join_24
    · skip
      obtain ⟨hr6, hrw⟩ := rowN_some hrow
      obtain ⟨hr62, hrw2⟩ := rowN_some hrow2
      subst hrw hrw2
      refine lv_if_ne (tgt := 25) hx hb dX3_join_16 (by decide) (fun _ => ?_) (fun h1 => absurd h1 (show ¬ (1 : Int32) = 0 by decide))
      obtain ⟨hR, hs⟩ := h_t r hr6
      obtain ⟨h_top, h_rep, h_n, h_ok⟩ := id hR
      have h40 : ∀ a ∈ tids (U r), a < 40 := fun a ha => (h_ok a ha).1
      have hlen : (tids (U r)).length ≤ 40 := Nat.le_trans (gids_le hr6) h_40
      have hh : hgt (U r) < 41 := Nat.lt_succ_of_le (Nat.le_trans (hgt_tids _) hlen)
      obtain ⟨hR2, hs2⟩ := h_t q hr62
      obtain ⟨h_top2, h_rep2, h_n2, h_ok2⟩ := id hR2
      have h402 : ∀ a ∈ tids (U q), a < 40 := fun a ha => (h_ok2 a ha).1
      have hlen2 : (tids (U q)).length ≤ 40 := Nat.le_trans (gids_le hr62) h_40
      have hh2 : hgt (U q) < 41 := Nat.lt_succ_of_le (Nat.le_trans (hgt_tids _) hlen2)
      refine lv_aload_n hx hb dX3_join_25 rfl (lv_at hl 0 rfl) ?_
      refine lv_iload_n hx hb dX3_join_26 rfl (lv_at hl 1 rfl) ?_
      refine lv_iload_n hx hb dX3_join_27 rfl (lv_at hl 2 rfl) ?_
      refine cV S (c_X3_fits (l := l) (D := D) (lo := lo) (Γ := Γ) (C := C) (V := V) (th := 0) (mn := mn) (tm := tm) (kt := kt) (Q := Q) (zs := zs) (be := be) (kp := kp) hr6 hr62 hM) (cwV 2 hts gX3_join_X3_fits rfl rfl rfl (by decide +kernel) ⟨Nat.le_of_ble_eq_true rfl, Nat.le_of_ble_eq_true rfl⟩) hK hH (Hp_recv hK hH (gmo hH (j := 3) (by simp)).1 (gmo hH (j := 3) (by simp)).2.1 rfl) hS rfl hl.1 rfl (Nat.le_of_ble_eq_true rfl) dX3_join_28 ⟨Nat.le_of_ble_eq_true rfl, Nat.le_of_ble_eq_true rfl⟩ (fun v Z1 H locs hpost hH hS => ?_)
      obtain ⟨rfl, rfl⟩ := hpost
      by_cases hj : r ≠ q ∧ mayJ (zn zs) (U r) (U q) = true
      · skip
        rw [if_pos hj]
        refine lv_if_ne (tgt := 40) hx hb dX3_join_31 (by decide) (fun _ => ?_) (fun h1 => absurd h1 (show ¬ (1 : Int32) = 0 by decide))
        refine lv_aload_n hx hb dX3_join_40 rfl (lv_at hl 0 rfl) ?_
        refine gM S hi3 hK hH 3 (by decide) f9 (v := .ref (gna Γ)) rfl dX3_join_41 ?_
        refine lv_sipush (v := 200) hx hb dX3_join_44 (by decide +kernel) ?_
        refine lv_iload_n hx hb dX3_join_47 rfl (lv_at hl 1 rfl) ?_
        refine lv_iadd hx hb dX3_join_48 ?_
        refine lv_aload_n hx hb dX3_join_49 rfl (lv_at hl 0 rfl) ?_
        refine lv_aload_n hx hb dX3_join_50 rfl (lv_at hl 0 rfl) ?_
        refine gM S hi3 hK hH 3 (by decide) f9 (v := .ref (gna Γ)) rfl dX3_join_51 ?_
        refine lv_sipush (v := 200) hx hb dX3_join_54 (by decide +kernel) ?_
        refine lv_iload_n hx hb dX3_join_57 rfl (lv_at hl 1 rfl) ?_
        refine lv_iadd hx hb dX3_join_58 ?_
        refine gN S hK hH (n := 200 + r) (x := er (rt (U r))) (nI_ofadd (a := 200) rfl) (by have := hr6; omega) (enc_tp.trans (congrArg er h_top)) dX3_join_59 ?_
        refine lv_aload_n hx hb dX3_join_60 rfl (lv_at hl 0 rfl) ?_
        refine gM S hi3 hK hH 3 (by decide) f9 (v := .ref (gna Γ)) rfl dX3_join_61 ?_
        refine lv_sipush (v := 200) hx hb dX3_join_64 (by decide +kernel) ?_
        refine lv_iload_n hx hb dX3_join_67 rfl (lv_at hl 2 rfl) ?_
        refine lv_iadd hx hb dX3_join_68 ?_
        refine gN S hK hH (n := 200 + q) (x := er (rt (U q))) (nI_ofadd (a := 200) rfl) (by have := hr62; omega) (enc_tp.trans (congrArg er h_top2)) dX3_join_69 ?_
        refine cV S (c_X3_together (l := l) (D := D) (lo := lo) (Γ := Γ) (C := C) (V := V) (th := 0) (mn := mn) (tm := tm) (kt := kt) (Q := Q) (zs := zs) (be := be) (kp := kp) h_rep h_n h40 (fun b h => h402 b (rt_mem h))) (cwV 2 hts gX3_join_X3_together rfl rfl rfl (by decide +kernel) ⟨Nat.le_of_ble_eq_true rfl, Nat.le_of_ble_eq_true rfl⟩) hK hH (Hp_recv hK hH (gmo hH (j := 3) (by simp)).1 (gmo hH (j := 3) (by simp)).2.1 rfl) hS rfl hl.1 rfl (Nat.le_of_ble_eq_true rfl) dX3_join_70 ⟨Nat.le_of_ble_eq_true rfl, Nat.le_of_ble_eq_true rfl⟩ (fun v Z1 H locs hpost hH hS => ?_)
        obtain ⟨rfl, rfl⟩ := hpost
        refine pNtp S hK hH hS (tgr (U r) (rt (U q))) rfl hr6 dX3_join_73 (fun H locs hH hS => ?_)
        refine lv_aload_n hx hb dX3_join_74 rfl (lv_at hl 0 rfl) ?_
        refine gM S hi3 hK hH 3 (by decide) f9 (v := .ref (gna Γ)) rfl dX3_join_75 ?_
        refine lv_sipush (v := 200) hx hb dX3_join_78 (by decide +kernel) ?_
        refine lv_iload_n hx hb dX3_join_81 rfl (lv_at hl 2 rfl) ?_
        refine lv_iadd hx hb dX3_join_82 ?_
        refine lv_iconst (v := -1) hx hb dX3_join_83 (by decide) ?_
        refine pNtp S hK hH hS none rfl hr62 dX3_join_84 (fun H locs hH hS => ?_)
        refine lv_aload_n hx hb dX3_join_85 rfl (lv_at hl 0 rfl) ?_
        refine lv_aload_n hx hb dX3_join_86 rfl (lv_at hl 0 rfl) ?_
        refine gM S hi3 hK hH 3 (by decide) f9 (v := .ref (gna Γ)) rfl dX3_join_87 ?_
        refine lv_sipush (v := 200) hx hb dX3_join_90 (by decide +kernel) ?_
        refine lv_iload_n hx hb dX3_join_93 rfl (lv_at hl 1 rfl) ?_
        refine lv_iadd hx hb dX3_join_94 ?_
        obtain ⟨j1, j2, j3, j4⟩ := joined_1 hM hr6 hr62 hj.1
        refine gN S hK hH (n := 200 + r) (x := er (rt (jn (U r) (U q)))) (nI_ofadd (a := 200) rfl) (by have := hr6; omega) (enc_tp.trans (congrArg er j1)) dX3_join_95 ?_
        refine cV S (c_X3_count (l := l) (D := D) (lo := lo) (Γ := Γ) (C := C) (V := V) (th := 0) (mn := mn) (tm := (tm + appN (U r))) (kt := kt) (Q := (sP (sP (tgP Q (U r) (rt (U q))) 3 r (tgr (U r) (rt (U q)))) 3 q none)) (zs := zs) (be := be) (kp := kp) (jn (U r) (U q)) 41 none (Nat.lt_succ_of_le (Nat.le_trans (hgt_tids _) j4)) j2 j3) (cwV 1 hts gX3_join_X3_count rfl rfl rfl (by decide +kernel) ⟨Nat.le_of_ble_eq_true rfl, Nat.le_of_ble_eq_true rfl⟩) hK hH (Hp_recv hK hH (gmo hH (j := 3) (by simp)).1 (gmo hH (j := 3) (by simp)).2.1 rfl) hS rfl hl.1 rfl (Nat.le_of_ble_eq_true rfl) dX3_join_96 ⟨Nat.le_of_ble_eq_true rfl, Nat.le_of_ble_eq_true rfl⟩ (fun v Z1 H locs hpost hH hS => ?_)
        obtain ⟨rfl, rfl⟩ := hpost
        exact eI S hr hlocks hH hS (Or.inl ⟨r, q, rfl, rfl, hj, rfl, rfl⟩) dX3_join_99
      · skip
        rw [if_neg hj]
        refine lv_if_ne (tgt := 40) hx hb dX3_join_31 (by decide) (fun h1 => absurd rfl h1) (fun _ => ?_)
        refine lv_aload_n hx hb dX3_join_34 rfl (lv_at hl 0 rfl) ?_
        refine lv_iconst (v := 2) hx hb dX3_join_35 (by decide) ?_
        refine cV S (c_X3_no (l := l) (D := D) (lo := lo) (Γ := Γ) (C := C) (V := V) (th := 0) (mn := mn) (tm := tm) (kt := kt) (Q := Q) (zs := zs) (be := be) (kp := kp) (n := 2)) (cwV 1 hts gX3_join_X3_no rfl rfl rfl (by decide +kernel) ⟨Nat.le_of_ble_eq_true rfl, Nat.le_of_ble_eq_true rfl⟩) hK hH (Hp_recv hK hH (gmo hH (j := 3) (by simp)).1 (gmo hH (j := 3) (by simp)).2.1 rfl) hS rfl hl.1 rfl (Nat.le_of_ble_eq_true rfl) dX3_join_36 ⟨Nat.le_of_ble_eq_true rfl, Nat.le_of_ble_eq_true rfl⟩ (fun v Z1 H locs hpost hH hS => ?_)
        obtain ⟨rfl, rfl⟩ := hpost
        exact eI S hr hlocks hH hS (Or.inr (Or.inr ⟨r, q, rfl, rfl, hj, rfl, rfl⟩)) dX3_join_39
end MModB
