/-! METHODS of the reference: meeting, eating, trees laid together -/
theorem zs_dp9 : ∀ (t : Tr) (X : Cx), (tids t).Nodup → ∀ z ∈ zs t X, z.2.2.2.length = X.length + dp t z.1 ∧ parC z.2.2.2 = pa t (parC X) z.1 := by
  intro t
  induction t with
  | leaf u => intro X _ z h; cases h
  | branch k l r ihl ihr =>
    intro X hn z hz
    rw [tids_branch] at hn
    obtain ⟨nl, nkr, hd⟩ := List.nodup_append.mp hn
    obtain ⟨nk, nr⟩ := List.nodup_cons.mp nkr
    rw [zs] at hz
    rw [dp, pa]
    rcases List.mem_append.mp hz with h | h
    · have hm : z.1 ∈ tids l := by rw [← zs_ids l ((false, k, r) :: X)]; exact List.mem_map.mpr ⟨z, h, rfl⟩
      have hne : z.1 ≠ k := fun e => hd z.1 hm k (by simp) e
      obtain ⟨e1, e2⟩ := ihl _ nl z h
      rw [if_neg hne, if_pos hm, if_neg hne, if_pos hm]
      exact ⟨by rw [e1, List.length_cons]; omega, e2⟩
    · rcases List.mem_cons.mp h with h | h
      · subst h
        rw [if_pos rfl, if_pos rfl]
        exact ⟨rfl, rfl⟩
      · have hm : z.1 ∈ tids r := by rw [← zs_ids r ((true, k, l) :: X)]; exact List.mem_map.mpr ⟨z, h, rfl⟩
        have hne : z.1 ≠ k := fun e => nk (by rw [← e]; exact hm)
        have hnl : z.1 ∉ tids l := fun e => hd z.1 e z.1 (by simp [hm]) rfl
        obtain ⟨e1, e2⟩ := ihr _ nr z h
        rw [if_neg hne, if_neg hnl, if_neg hne, if_neg hnl]
        exact ⟨by rw [e1, List.length_cons]; omega, e2⟩
theorem zof_dp {t : Tr} {a : Nat} (hn : (tids t).Nodup) (ha : a ∈ tids t) : (zof t a).2.2.2.length = dp t a ∧ parC (zof t a).2.2.2 = pa t none a := by
  obtain ⟨h1, h2⟩ := zof_in ha
  obtain ⟨e1, e2⟩ := zs_dp9 t [] hn _ h1
  rw [h2] at e1 e2
  exact ⟨by rw [e1]; simp, e2⟩
theorem lca_self : ∀ {t : Tr} {a : Nat}, (tids t).Nodup → a ∈ tids t → lca t a a = a := by
  intro t
  induction t with
  | leaf u => intro a _ h; cases h
  | branch k l r ihl ihr =>
    intro a hn ha
    rw [tids_branch] at hn ha
    obtain ⟨nl, nkr, hd⟩ := List.nodup_append.mp hn
    obtain ⟨nk, nr⟩ := List.nodup_cons.mp nkr
    rw [lca]
    by_cases h1 : a ∈ tids l
    · rw [if_pos ⟨h1, h1⟩]; exact ihl nl h1
    · rw [if_neg (fun q => h1 q.1)]
      by_cases h2 : a ∈ tids r
      · rw [if_pos ⟨h2, h2⟩]; exact ihr nr h2
      · rw [if_neg (fun q => h2 q.1)]
        simp [h1, h2] at ha
        exact ha.symm
/-- nothing above -/
def low (Q : PF) (k : Option Nat) : PF := match k with
  | none => Q
  | some c => sP Q 2 c none
def tgr (t : Tr) (x : Option Nat) : Option Nat := match (tids t).getLast? with
  | none => x
  | some g => some g
def tgP (Q : PF) (t : Tr) (x : Option Nat) : PF := match (tids t).getLast? with
  | none => Q
  | some g => hng (rai g (zof t g).2.2.2 Q) x (some g) 1
section MMod9
variable {l : Launch} {D : va_G} {lo : Nat} {Γ : GT} {C : CW} {V : Int64 × UInt64} {th mn tm kt : Nat} {Q : PF} {zs : Nat → Option Nat} {be : Nat → Nat} {kp : Nat → Int32}
set_option maxRecDepth 100000 in
set_option maxHeartbeats 4000000 in
theorem c_X3_meet {U : Nat → Tr} {row x y : Int32} (hM : MI Q zs U mn) : Md l yX3_meet wsX3_meet (rmL 44 0 0) D lo Γ [.ref (gxa Γ 3), .int row, .int x, .int y] (C, (th, mn, tm, kt, Q, zs, be, kp), V) (some (.int (qm U (zn zs) row x y).2)) (C, ((qm U (zn zs) row x y).1, mn, tm, kt, Q, zs, be, kp), V) := by
  refine Mz_of (cc := cX3_meet) (maxL := 6) (ret := (some .int)) (by decide) rfl (Nat.le_of_ble_eq_true rfl) ?_
  intro p e s m args below meth c ls S hr hlocks hK hH hS hl
  have hx := S.1
  have hb := S.2.1
  have hts := S.2.2.2.2
  have f9 : (Cond.fieldLink RX3 9 (TX3 3).1 (TX3 3).2.1 (TX3 3).2.2.1).before args s = true := hts _ (List.mem_of_getElem? (i := 1) rfl)
  have hi3 : ∀ w ∈ wsX30, w ∈ wsX3_meet := by decide +kernel
  have hl : lv_has ls 6 [(0, .ref (gxa Γ 3)), (1, .int row), (2, .int x), (3, .int y)] := hl
  obtain ⟨h_t, h_nd, h_mn, h_zs, h_40⟩ := id hM
  refine lv_aload_n hx hb dX3_meet_0 rfl (lv_at hl 0 rfl) ?_
  refine lv_iload_n hx hb dX3_meet_1 rfl (lv_at hl 1 rfl) ?_
  refine lv_iload_n hx hb dX3_meet_2 rfl (lv_at hl 2 rfl) ?_
  refine cV S (c_X3_asked (l := l) (D := D) (lo := lo) (Γ := Γ) (C := C) (V := V) (th := th) (mn := mn) (tm := tm) (kt := kt) (Q := Q) (zs := zs) (be := be) (kp := kp) (x := x) hM) (cwV 2 hts gX3_meet_X3_asked rfl rfl rfl (by decide +kernel) ⟨Nat.le_of_ble_eq_true rfl, Nat.le_of_ble_eq_true rfl⟩) hK hH (Hp_recv hK hH (gmo hH (j := 3) (by simp)).1 (gmo hH (j := 3) (by simp)).2.1 rfl) hS rfl hl.1 rfl (Nat.le_of_ble_eq_true rfl) dX3_meet_3 ⟨Nat.le_of_ble_eq_true rfl, Nat.le_of_ble_eq_true rfl⟩ (fun v Z1 H locs hpost hH hS => ?_)
  obtain ⟨rfl, rfl⟩ := hpost
  rcases hrow : rowN row with _ | r
  · skip
    have e9 : (qm U (zn zs) row x y) = (1, 0) := by unfold qm; rw [hrow]
    have ea : ak U zs row x = (1, none) := by unfold ak; rw [hrow]
    rw [ea] at hH ⊢
    have hH : Hp D lo Γ (C, (1, mn, tm, kt, Q, zs, be, kp), V) H := hH
    refine lv_istore (lv' := [(4, .int (-1)), (0, .ref (gxa Γ 3)), (1, .int row), (2, .int x), (3, .int y)]) hx hb dX3_meet_6 hl (by decide) rfl (fun ls hl => ?_)
    refine lv_iload hx hb dX3_meet_8 (lv_at hl 0 rfl) ?_
    refine lv_iconst (v := -1) hx hb dX3_meet_10 (by decide) ?_
    refine lv_icmp_ne (tgt := 18) hx hb dX3_meet_11 (by decide) (fun h1 => absurd rfl h1) (fun _ => ?_)
    refine lv_iconst (v := -1) hx hb dX3_meet_14 (by decide) ?_
    refine lv_goto (tgt := 24) hx hb dX3_meet_15 (by decide) ?_
    refine lv_istore (lv' := [(5, .int (-1)), (4, .int (-1)), (0, .ref (gxa Γ 3)), (1, .int row), (2, .int x), (3, .int y)]) hx hb dX3_meet_24 hl (by decide) rfl (fun ls hl => ?_)
    refine lv_iload hx hb dX3_meet_26 (lv_at hl 0 rfl) ?_
    refine lv_iconst (v := -1) hx hb dX3_meet_28 (by decide) ?_
    refine lv_icmp_ne (tgt := 34) hx hb dX3_meet_29 (by decide) (fun h1 => absurd rfl h1) (fun _ => ?_)
    refine lv_iconst (v := 0) hx hb dX3_meet_32 (by decide) ?_
    exact eI S hr hlocks hH hS ⟨by rw [e9], by rw [e9]⟩ dX3_meet_33
  · skip
    cases hf : fnd (zn zs) x.toInt (U r) with
    | none =>
      have e9 : (qm U (zn zs) row x y) = (2, 0) := by unfold qm; rw [hrow]; dsimp only; rw [hf]
      have ea : ak U zs row x = (2, none) := by unfold ak; rw [hrow]; dsimp only; rw [hf]
      rw [ea] at hH ⊢
      have hH : Hp D lo Γ (C, (2, mn, tm, kt, Q, zs, be, kp), V) H := hH
      refine lv_istore (lv' := [(4, .int (-1)), (0, .ref (gxa Γ 3)), (1, .int row), (2, .int x), (3, .int y)]) hx hb dX3_meet_6 hl (by decide) rfl (fun ls hl => ?_)
      refine lv_iload hx hb dX3_meet_8 (lv_at hl 0 rfl) ?_
      refine lv_iconst (v := -1) hx hb dX3_meet_10 (by decide) ?_
      refine lv_icmp_ne (tgt := 18) hx hb dX3_meet_11 (by decide) (fun h1 => absurd rfl h1) (fun _ => ?_)
      refine lv_iconst (v := -1) hx hb dX3_meet_14 (by decide) ?_
      refine lv_goto (tgt := 24) hx hb dX3_meet_15 (by decide) ?_
      refine lv_istore (lv' := [(5, .int (-1)), (4, .int (-1)), (0, .ref (gxa Γ 3)), (1, .int row), (2, .int x), (3, .int y)]) hx hb dX3_meet_24 hl (by decide) rfl (fun ls hl => ?_)
      refine lv_iload hx hb dX3_meet_26 (lv_at hl 0 rfl) ?_
      refine lv_iconst (v := -1) hx hb dX3_meet_28 (by decide) ?_
      refine lv_icmp_ne (tgt := 34) hx hb dX3_meet_29 (by decide) (fun h1 => absurd rfl h1) (fun _ => ?_)
      refine lv_iconst (v := 0) hx hb dX3_meet_32 (by decide) ?_
      exact eI S hr hlocks hH hS ⟨by rw [e9], by rw [e9]⟩ dX3_meet_33
    | some a =>
      have ea : ak U zs row x = (0, some a) := by unfold ak; rw [hrow]; dsimp only; rw [hf]
      rw [ea] at hH ⊢
      have hH : Hp D lo Γ (C, (0, mn, tm, kt, Q, zs, be, kp), V) H := hH
      have hr6 := (rowN_some hrow).1
      obtain ⟨hR, hs⟩ := h_t r hr6
      obtain ⟨h_top, h_rep, h_n, h_ok⟩ := id hR
      have h40 : ∀ a ∈ tids (U r), a < 40 := fun a ha => (h_ok a ha).1
      have hlen : (tids (U r)).length ≤ 40 := Nat.le_trans (gids_le hr6) h_40
      have hh : hgt (U r) < 41 := Nat.lt_succ_of_le (Nat.le_trans (hgt_tids _) hlen)
      have hin_a := (fnd_mem _ _ hf).1
      have lt_a := h40 a hin_a
      refine lv_istore (lv' := [(4, .int (nI a)), (0, .ref (gxa Γ 3)), (1, .int row), (2, .int x), (3, .int y)]) hx hb dX3_meet_6 hl (by decide) rfl (fun ls hl => ?_)
      refine lv_iload hx hb dX3_meet_8 (lv_at hl 0 rfl) ?_
      refine lv_iconst (v := -1) hx hb dX3_meet_10 (by decide) ?_
      refine lv_icmp_ne (tgt := 18) hx hb dX3_meet_11 (by decide) (fun _ => ?_) (fun h1 => absurd h1 (nI_nm1 (Nat.lt_trans lt_a (by decide))))
      refine lv_aload_n hx hb dX3_meet_18 rfl (lv_at hl 1 rfl) ?_
      refine lv_iload_n hx hb dX3_meet_19 rfl (lv_at hl 2 rfl) ?_
      refine lv_iload_n hx hb dX3_meet_20 rfl (lv_at hl 4 rfl) ?_
      refine cV S (c_X3_asked (l := l) (D := D) (lo := lo) (Γ := Γ) (C := C) (V := V) (th := 0) (mn := mn) (tm := tm) (kt := kt) (Q := Q) (zs := zs) (be := be) (kp := kp) (x := y) hM) (cwV 2 hts gX3_meet_X3_asked rfl rfl rfl (by decide +kernel) ⟨Nat.le_of_ble_eq_true rfl, Nat.le_of_ble_eq_true rfl⟩) hK hH (Hp_recv hK hH (gmo hH (j := 3) (by simp)).1 (gmo hH (j := 3) (by simp)).2.1 rfl) hS rfl hl.1 rfl (Nat.le_of_ble_eq_true rfl) dX3_meet_21 ⟨Nat.le_of_ble_eq_true rfl, Nat.le_of_ble_eq_true rfl⟩ (fun v Z1 H locs hpost hH hS => ?_)
      obtain ⟨rfl, rfl⟩ := hpost
      cases hf2 : fnd (zn zs) y.toInt (U r) with
      | none =>
        have e9 : (qm U (zn zs) row x y) = (2, 0) := by unfold qm; rw [hrow]; dsimp only; rw [hf]; dsimp only; rw [hf2]
        have ea : ak U zs row y = (2, none) := by unfold ak; rw [hrow]; dsimp only; rw [hf2]
        rw [ea] at hH ⊢
        have hH : Hp D lo Γ (C, (2, mn, tm, kt, Q, zs, be, kp), V) H := hH
        refine lv_istore (lv' := [(5, .int (-1)), (4, .int (nI a)), (0, .ref (gxa Γ 3)), (1, .int row), (2, .int x), (3, .int y)]) hx hb dX3_meet_24 hl (by decide) rfl (fun ls hl => ?_)
        refine lv_iload hx hb dX3_meet_26 (lv_at hl 0 rfl) ?_
        refine lv_iconst (v := -1) hx hb dX3_meet_28 (by decide) ?_
        refine lv_icmp_ne (tgt := 34) hx hb dX3_meet_29 (by decide) (fun h1 => absurd rfl h1) (fun _ => ?_)
        refine lv_iconst (v := 0) hx hb dX3_meet_32 (by decide) ?_
        exact eI S hr hlocks hH hS ⟨by rw [e9], by rw [e9]⟩ dX3_meet_33
      | some b =>
        have e9 : (qm U (zn zs) row x y) = (0, nI (zn zs (lca (U r) a b))) := by unfold qm; rw [hrow]; dsimp only; rw [hf]; dsimp only; rw [hf2]
        have ea : ak U zs row y = (0, some b) := by unfold ak; rw [hrow]; dsimp only; rw [hf2]
        rw [ea] at hH ⊢
        have hH : Hp D lo Γ (C, (0, mn, tm, kt, Q, zs, be, kp), V) H := hH
        have hin_b := (fnd_mem _ _ hf2).1
        have lt_b := h40 b hin_b
        refine lv_istore (lv' := [(5, .int (nI b)), (4, .int (nI a)), (0, .ref (gxa Γ 3)), (1, .int row), (2, .int x), (3, .int y)]) hx hb dX3_meet_24 hl (by decide) rfl (fun ls hl => ?_)
        refine lv_iload hx hb dX3_meet_26 (lv_at hl 0 rfl) ?_
        refine lv_iconst (v := -1) hx hb dX3_meet_28 (by decide) ?_
        refine lv_icmp_ne (tgt := 34) hx hb dX3_meet_29 (by decide) (fun _ => ?_) (fun h1 => absurd h1 (nI_nm1 (Nat.lt_trans lt_b (by decide))))
        have loop : ∀ (n one two : Nat), dp (U r) one + dp (U r) two < n → one ∈ tids (U r) → two ∈ tids (U r) → lca (U r) one two = lca (U r) a b → ∀ H locs, Hp D lo Γ (C, (0, mn, tm, kt, Q, zs, be, kp), V) H → va_S (lA lo) s.heap H locs → ∀ ls, lv_has ls 6 [(5, .int (nI two)), (4, .int (nI one)), (0, .ref (gxa Γ 3))] → W p l e (rmL 44 0 0) s m args below meth c H locs 0 0 (MQ below (Qz D lo Γ (fun v Z' => v = (some (.int (qm U (zn zs) row x y).2)) ∧ Z' = (C, ((qm U (zn zs) row x y).1, mn, tm, kt, Q, zs, be, kp), V))) args s ((rmL 44 0 0) : Room).cells ((rmL 44 0 0) : Room).slots (lA lo)) (F0 m 34 ls []) := by
          intro n
          induction n with
          | zero => intro one two hn; exact absurd hn (Nat.not_lt_zero _)
          | succ n ih =>
            intro one two hn hi1 hi2 hlca H locs hH hS ls hl
            have lt_one := h40 one hi1
            have lt_two := h40 two hi2
            obtain ⟨hz1, hp1⟩ := raise_z h_rep h_n hi1
            obtain ⟨hz2, hp2⟩ := raise_z h_rep h_n hi2
            obtain ⟨d1, u1⟩ := zof_dp h_n hi1
            obtain ⟨d2, u2⟩ := zof_dp h_n hi2
            refine lv_iload hx hb dX3_meet_34 (lv_at hl 1 rfl) ?_
            refine lv_iload hx hb dX3_meet_36 (lv_at hl 0 rfl) ?_
            refine lv_icmp_eq (tgt := 86) hx hb dX3_meet_38 (by decide) (fun h1 => ?_) (fun h1 => ?_)
            · skip
              have he : one = two := nI_inj9 (by omega) (by omega) h1
              subst he
              rw [lca_self h_n hi1] at hlca
              have hzo := (h_ok one hi1).2.1
              refine lv_aload_n hx hb dX3_meet_86 rfl (lv_at hl 2 rfl) ?_
              refine gM S hi3 hK hH 3 (by decide) f9 (v := .ref (gna Γ)) rfl dX3_meet_87 ?_
              refine lv_iconst (v := 0) hx hb dX3_meet_90 (by decide) ?_
              refine lv_iload hx hb dX3_meet_91 (lv_at hl 1 rfl) ?_
              refine lv_iadd hx hb dX3_meet_93 ?_
              refine gN S hK hH (n := one) (x := nI (zn zs one)) ((nI_ofadd (a := 0) rfl).trans (by rw [Nat.zero_add])) (Nat.lt_trans lt_one (by decide)) ((enc_sz lt_one).trans (congrArg er hzo)) dX3_meet_94 ?_
              exact eI S hr hlocks hH hS ⟨by rw [e9, ← hlca], by rw [e9]⟩ dX3_meet_95
            · skip
              have hne : one ≠ two := fun q => h1 (by rw [q])
              refine lv_aload_n hx hb dX3_meet_41 rfl (lv_at hl 2 rfl) ?_
              refine lv_iload hx hb dX3_meet_42 (lv_at hl 1 rfl) ?_
              refine cV S (c_X3_deep (l := l) (D := D) (lo := lo) (Γ := Γ) (C := C) (V := V) (th := 0) (mn := mn) (tm := tm) (kt := kt) (Q := Q) (zs := zs) (be := be) (kp := kp) hz1 (by rw [hp1]; exact h40)) (cwV 1 hts gX3_meet_X3_deep rfl rfl rfl (by decide +kernel) ⟨Nat.le_of_ble_eq_true rfl, Nat.le_of_ble_eq_true rfl⟩) hK hH (Hp_recv hK hH (gmo hH (j := 3) (by simp)).1 (gmo hH (j := 3) (by simp)).2.1 rfl) hS rfl hl.1 rfl (Nat.le_of_ble_eq_true rfl) dX3_meet_44 ⟨Nat.le_of_ble_eq_true rfl, Nat.le_of_ble_eq_true rfl⟩ (fun v Z1 H locs hpost hH hS => ?_)
              obtain ⟨rfl, rfl⟩ := hpost
              refine lv_aload_n hx hb dX3_meet_47 rfl (lv_at hl 2 rfl) ?_
              refine lv_iload hx hb dX3_meet_48 (lv_at hl 0 rfl) ?_
              refine cV S (c_X3_deep (l := l) (D := D) (lo := lo) (Γ := Γ) (C := C) (V := V) (th := 0) (mn := mn) (tm := tm) (kt := kt) (Q := Q) (zs := zs) (be := be) (kp := kp) hz2 (by rw [hp2]; exact h40)) (cwV 1 hts gX3_meet_X3_deep rfl rfl rfl (by decide +kernel) ⟨Nat.le_of_ble_eq_true rfl, Nat.le_of_ble_eq_true rfl⟩) hK hH (Hp_recv hK hH (gmo hH (j := 3) (by simp)).1 (gmo hH (j := 3) (by simp)).2.1 rfl) hS rfl hl.1 rfl (Nat.le_of_ble_eq_true rfl) dX3_meet_50 ⟨Nat.le_of_ble_eq_true rfl, Nat.le_of_ble_eq_true rfl⟩ (fun v Z1 H locs hpost hH hS => ?_)
              obtain ⟨rfl, rfl⟩ := hpost
              have b1 : (zof (U r) one).2.2.2.length < 1000 := Nat.lt_of_lt_of_le (cx_len (zof_in hi1).1) (by omega)
              have b2 : (zof (U r) two).2.2.2.length < 1000 := Nat.lt_of_lt_of_le (cx_len (zof_in hi2).1) (by omega)
              refine lv_icmp_lt (tgt := 71) hx hb dX3_meet_53 (by decide) (fun h2 => ?_) (fun h2 => ?_)
              · skip
                have h2 := (nI_ltI (by omega) (by omega)).mp h2
                obtain ⟨p9, q1, q2, q3, q4, q5⟩ := lca_step (U r) none two one h_n hi2 hi1 (Ne.symm hne) (by omega)
                have lt_p9 := h40 p9 q2
                have hup : Q 2 two = some p9 := by rw [hz2.1.1, u2, q1]
                refine lv_aload_n hx hb dX3_meet_71 rfl (lv_at hl 2 rfl) ?_
                refine gM S hi3 hK hH 3 (by decide) f9 (v := .ref (gna Γ)) rfl dX3_meet_72 ?_
                refine lv_bipush (v := 120) hx hb dX3_meet_75 (by decide +kernel) ?_
                refine lv_iload hx hb dX3_meet_77 (lv_at hl 0 rfl) ?_
                refine lv_iadd hx hb dX3_meet_79 ?_
                refine gN S hK hH (n := 40 * (2 + 1) + two) (x := nI p9) (nI_ofadd rfl) (by have := lt_two; omega) ((enc_sd (by decide) lt_two).trans (congrArg er hup)) dX3_meet_80 ?_
                refine lv_istore (lv' := [(5, .int (nI p9)), (4, .int (nI one)), (0, .ref (gxa Γ 3))]) hx hb dX3_meet_81 hl (by decide) rfl (fun ls hl => ?_)
                refine lv_goto (tgt := 34) hx hb dX3_meet_83 (by decide) ?_
                exact ih one p9 (by omega) hi1 q2 (by rw [q4, hlca]) H locs hH hS ls (lv_sub hl [0, 1, 2] rfl)
              · skip
                have h2 := mt (nI_ltI (a := (zof (U r) one).2.2.2.length) (b := (zof (U r) two).2.2.2.length) (by omega) (by omega)).mpr h2
                obtain ⟨p9, q1, q2, q3, q4, q5⟩ := lca_step (U r) none one two h_n hi1 hi2 hne (by omega)
                have lt_p9 := h40 p9 q2
                have hup : Q 2 one = some p9 := by rw [hz1.1.1, u1, q1]
                refine lv_aload_n hx hb dX3_meet_56 rfl (lv_at hl 2 rfl) ?_
                refine gM S hi3 hK hH 3 (by decide) f9 (v := .ref (gna Γ)) rfl dX3_meet_57 ?_
                refine lv_bipush (v := 120) hx hb dX3_meet_60 (by decide +kernel) ?_
                refine lv_iload hx hb dX3_meet_62 (lv_at hl 1 rfl) ?_
                refine lv_iadd hx hb dX3_meet_64 ?_
                refine gN S hK hH (n := 40 * (2 + 1) + one) (x := nI p9) (nI_ofadd rfl) (by have := lt_one; omega) ((enc_sd (by decide) lt_one).trans (congrArg er hup)) dX3_meet_65 ?_
                refine lv_istore (lv' := [(4, .int (nI p9)), (5, .int (nI two)), (0, .ref (gxa Γ 3))]) hx hb dX3_meet_66 hl (by decide) rfl (fun ls hl => ?_)
                refine lv_goto (tgt := 34) hx hb dX3_meet_68 (by decide) ?_
                exact ih p9 two (by omega) q2 hi2 (by rw [q3, hlca]) H locs hH hS ls (lv_sub hl [1, 0, 2] rfl)
        exact loop (dp (U r) a + dp (U r) b + 1) a b (Nat.lt_succ_self _) hin_a hin_b rfl _ _ hH hS ls (lv_sub hl [0, 1, 2] rfl)

set_option maxRecDepth 100000 in
set_option maxHeartbeats 4000000 in
theorem c_X3_bitten {r k : Nat} {lt9 r9 : Tr} {X : Cx} (hr6 : r < 6) (hz : Zp Q (.branch k lt9 r9) X) (hn : (tids (plug (.branch k lt9 r9) X)).Nodup) (h40 : ∀ b ∈ tids (plug (.branch k lt9 r9) X), b < 40) : Md l yX3_bitten wsX3_bitten (rmL 5 0 0) D lo Γ [.ref (gxa Γ 3), .int (nI r), .int (nI k)] (C, (th, mn, tm, kt, Q, zs, be, kp), V) (some (.int (nI X.length))) (C, (th, mn, (tm + X.length), kt, (sP (rai k X Q) 3 r (some k)), zs, (va_up be k (be k + 1)), kp), V) := by
  refine Mz_of (cc := cX3_bitten) (maxL := 4) (ret := (some .int)) (by decide) rfl (Nat.le_of_ble_eq_true rfl) ?_
  intro p e s m args below meth c ls S hr hlocks hK hH hS hl
  have hx := S.1
  have hb := S.2.1
  have hts := S.2.2.2.2
  have f9 : (Cond.fieldLink RX3 9 (TX3 3).1 (TX3 3).2.1 (TX3 3).2.2.1).before args s = true := hts _ (List.mem_of_getElem? (i := 1) rfl)
  have hi3 : ∀ w ∈ wsX30, w ∈ wsX3_bitten := by decide +kernel
  have hl : lv_has ls 4 [(0, .ref (gxa Γ 3)), (1, .int (nI r)), (2, .int (nI k))] := hl
  have lt_k : k < 40 := h40 k (by rw [tids_plug]; simp [tids])
  refine lv_aload_n hx hb dX3_bitten_0 rfl (lv_at hl 0 rfl) ?_
  refine lv_iload_n hx hb dX3_bitten_1 rfl (lv_at hl 2 rfl) ?_
  refine cV S (c_X3_deep (l := l) (D := D) (lo := lo) (Γ := Γ) (C := C) (V := V) (th := th) (mn := mn) (tm := tm) (kt := kt) (Q := Q) (zs := zs) (be := be) (kp := kp) hz h40) (cwV 1 hts gX3_bitten_X3_deep rfl rfl rfl (by decide +kernel) ⟨Nat.le_of_ble_eq_true rfl, Nat.le_of_ble_eq_true rfl⟩) hK hH (Hp_recv hK hH (gmo hH (j := 3) (by simp)).1 (gmo hH (j := 3) (by simp)).2.1 rfl) hS rfl hl.1 rfl (Nat.le_of_ble_eq_true rfl) dX3_bitten_2 ⟨Nat.le_of_ble_eq_true rfl, Nat.le_of_ble_eq_true rfl⟩ (fun v Z1 H locs hpost hH hS => ?_)
  obtain ⟨rfl, rfl⟩ := hpost
  refine lv_istore_n (lv' := [(3, .int (nI X.length)), (0, .ref (gxa Γ 3)), (1, .int (nI r)), (2, .int (nI k))]) hx hb dX3_bitten_5 rfl hl (by decide) rfl (fun ls hl => ?_)
  refine lv_aload_n hx hb dX3_bitten_6 rfl (lv_at hl 1 rfl) ?_
  refine gM S hi3 hK hH 3 (by decide) f9 (v := .ref (gna Γ)) rfl dX3_bitten_7 ?_
  refine lv_sipush (v := 160) hx hb dX3_bitten_10 (by decide +kernel) ?_
  refine lv_iload_n hx hb dX3_bitten_13 rfl (lv_at hl 3 rfl) ?_
  refine lv_iadd hx hb dX3_bitten_14 ?_
  refine lv_dup2_11 hx hb dX3_bitten_15 rfl rfl ?_
  refine gNea S hK hH lt_k dX3_bitten_16 ?_
  refine lv_iconst (v := 1) hx hb dX3_bitten_17 (by decide) ?_
  refine lv_iadd hx hb dX3_bitten_18 ?_
  rw [nI_1 (be k)]
  refine pNea S hK hH hS (be k + 1) rfl lt_k dX3_bitten_19 (fun H locs hH hS => ?_)
  refine lv_aload_n hx hb dX3_bitten_20 rfl (lv_at hl 1 rfl) ?_
  refine lv_iload_n hx hb dX3_bitten_21 rfl (lv_at hl 2 rfl) ?_
  refine lv_iload_n hx hb dX3_bitten_22 rfl (lv_at hl 3 rfl) ?_
  refine cV S (c_X3_raiseIn (l := l) (D := D) (lo := lo) (Γ := Γ) (C := C) (V := V) (th := th) (mn := mn) (tm := tm) (kt := kt) (Q := Q) (zs := zs) (be := (va_up be k (be k + 1))) (kp := kp) hr6 hz hn h40) (cwV 2 hts gX3_bitten_X3_raiseIn rfl rfl rfl (by decide +kernel) ⟨Nat.le_of_ble_eq_true rfl, Nat.le_of_ble_eq_true rfl⟩) hK hH (Hp_recv hK hH (gmo hH (j := 3) (by simp)).1 (gmo hH (j := 3) (by simp)).2.1 rfl) hS rfl hl.1 rfl (Nat.le_of_ble_eq_true rfl) dX3_bitten_23 ⟨Nat.le_of_ble_eq_true rfl, Nat.le_of_ble_eq_true rfl⟩ (fun v Z1 H locs hpost hH hS => ?_)
  obtain ⟨rfl, rfl⟩ := hpost
  refine lv_iload_n hx hb dX3_bitten_26 rfl (lv_at hl 0 rfl) ?_
  exact eI S hr hlocks hH hS ⟨rfl, rfl⟩ dX3_bitten_27

set_option maxRecDepth 100000 in
set_option maxHeartbeats 4000000 in
theorem c_X3_eat {U : Nat → Tr} {row x : Int32} (hM : MI Q zs U mn) : Mz l yX3_eat wsX3_eat (rmL 44 0 0) D lo Γ [.ref (gxa Γ 3), .int row, .int x] (C, (th, mn, tm, kt, Q, zs, be, kp), V) (fun v Z' => (∃ r a, rowN row = some r ∧ fnd (zn zs) x.toInt (U r) = some a ∧ v = some (.int (nI (zof (U r) a).2.2.2.length)) ∧ Z' = (C, (0, mn, (tm + (zof (U r) a).2.2.2.length), kt, (sP (rai a (zof (U r) a).2.2.2 Q) 3 r (some a)), zs, (va_up be a (be a + 1)), kp), V)) ∨ (rowN row = none ∧ v = some (.int 0) ∧ Z' = (C, (1, mn, tm, kt, Q, zs, be, kp), V)) ∨ (∃ r, rowN row = some r ∧ fnd (zn zs) x.toInt (U r) = none ∧ v = some (.int 0) ∧ Z' = (C, (2, mn, tm, kt, Q, zs, be, kp), V))) := by
  refine Mz_of (cc := cX3_eat) (maxL := 4) (ret := (some .int)) (by decide) rfl (Nat.le_of_ble_eq_true rfl) ?_
  intro p e s m args below meth c ls S hr hlocks hK hH hS hl
  have hx := S.1
  have hb := S.2.1
  have hts := S.2.2.2.2
  have f16 : (Cond.fieldLink RX3 16 (TX3 0).1 (TX3 0).2.1 (TX3 0).2.2.1).before args s = true := hts _ (List.mem_of_getElem? (i := 1) rfl)
  have hi3 : ∀ w ∈ wsX30, w ∈ wsX3_eat := by decide +kernel
  have hl : lv_has ls 4 [(0, .ref (gxa Γ 3)), (1, .int row), (2, .int x)] := hl
  obtain ⟨h_t, h_nd, h_mn, h_zs, h_40⟩ := id hM
  refine lv_aload_n hx hb dX3_eat_0 rfl (lv_at hl 0 rfl) ?_
  refine lv_iconst (v := 0) hx hb dX3_eat_1 (by decide) ?_
  refine pM S hi3 hK hH hS 0 (by decide) f16 (0, mn, tm, kt, Q, zs, be, kp) rfl rfl dX3_eat_2 (fun H locs hH hS => ?_)
  refine lv_iload_n hx hb dX3_eat_5 rfl (lv_at hl 1 rfl) ?_
  refine cSt S (c_X3_isRow (l := l) (D := D) (lo := lo) (Γ := Γ) (C := C) (V := V) (th := 0) (mn := mn) (tm := tm) (kt := kt) (Q := Q) (zs := zs) (be := be) (kp := kp) (x := row)) (va_cwS 1 hts gX3_eat_X3_isRow rfl rfl rfl (by decide +kernel) ⟨Nat.le_of_ble_eq_true rfl, Nat.le_of_ble_eq_true rfl⟩) hK hH hS rfl hl.1 rfl (Nat.le_of_ble_eq_true rfl) dX3_eat_6 ⟨Nat.le_of_ble_eq_true rfl, Nat.le_of_ble_eq_true rfl⟩ (fun v Z1 H locs hpost hH hS => ?_)
  obtain ⟨rfl, rfl⟩ := hpost
  rcases hrow : rowN row with _ | r
  · skip
    refine lv_if_ne (tgt := 18) hx hb dX3_eat_9 (by decide) (fun h1 => absurd rfl h1) (fun _ => ?_)
    refine lv_aload_n hx hb dX3_eat_12 rfl (lv_at hl 0 rfl) ?_
    refine lv_iconst (v := 1) hx hb dX3_eat_13 (by decide) ?_
    refine cV S (c_X3_no (l := l) (D := D) (lo := lo) (Γ := Γ) (C := C) (V := V) (th := 0) (mn := mn) (tm := tm) (kt := kt) (Q := Q) (zs := zs) (be := be) (kp := kp) (n := 1)) (cwV 1 hts gX3_eat_X3_no rfl rfl rfl (by decide +kernel) ⟨Nat.le_of_ble_eq_true rfl, Nat.le_of_ble_eq_true rfl⟩) hK hH (Hp_recv hK hH (gmo hH (j := 3) (by simp)).1 (gmo hH (j := 3) (by simp)).2.1 rfl) hS rfl hl.1 rfl (Nat.le_of_ble_eq_true rfl) dX3_eat_14 ⟨Nat.le_of_ble_eq_true rfl, Nat.le_of_ble_eq_true rfl⟩ (fun v Z1 H locs hpost hH hS => ?_)
    obtain ⟨rfl, rfl⟩ := hpost
    exact eI S hr hlocks hH hS (Or.inr (Or.inl ⟨rfl, rfl, rfl⟩)) dX3_eat_17
  · skip
    obtain ⟨hr6, hrw⟩ := rowN_some hrow
    subst hrw
    obtain ⟨hR, hs⟩ := h_t r hr6
    obtain ⟨h_top, h_rep, h_n, h_ok⟩ := id hR
    have h40 : ∀ a ∈ tids (U r), a < 40 := fun a ha => (h_ok a ha).1
    have hlen : (tids (U r)).length ≤ 40 := Nat.le_trans (gids_le hr6) h_40
    have hh : hgt (U r) < 41 := Nat.lt_succ_of_le (Nat.le_trans (hgt_tids _) hlen)
    refine lv_if_ne (tgt := 18) hx hb dX3_eat_9 (by decide) (fun _ => ?_) (fun h1 => absurd h1 (show ¬ (1 : Int32) = 0 by decide))
    refine lv_aload_n hx hb dX3_eat_18 rfl (lv_at hl 0 rfl) ?_
    refine lv_iload_n hx hb dX3_eat_19 rfl (lv_at hl 1 rfl) ?_
    refine lv_iload_n hx hb dX3_eat_20 rfl (lv_at hl 2 rfl) ?_
    refine cV S (c_X3_find (l := l) (D := D) (lo := lo) (Γ := Γ) (C := C) (V := V) (th := 0) (mn := mn) (tm := tm) (kt := kt) (Q := Q) (zs := zs) (be := be) (kp := kp) (x := x) hr6 hR) (cwV 2 hts gX3_eat_X3_find rfl rfl rfl (by decide +kernel) ⟨Nat.le_of_ble_eq_true rfl, Nat.le_of_ble_eq_true rfl⟩) hK hH (Hp_recv hK hH (gmo hH (j := 3) (by simp)).1 (gmo hH (j := 3) (by simp)).2.1 rfl) hS rfl hl.1 rfl (Nat.le_of_ble_eq_true rfl) dX3_eat_21 ⟨Nat.le_of_ble_eq_true rfl, Nat.le_of_ble_eq_true rfl⟩ (fun v Z1 H locs hpost hH hS => ?_)
    obtain ⟨rfl, rfl⟩ := hpost
    cases hf : fnd (zn zs) x.toInt (U r) with
    | none =>
      refine lv_istore_n (lv' := [(3, .int (-1)), (0, .ref (gxa Γ 3)), (1, .int (nI r)), (2, .int x)]) hx hb dX3_eat_24 rfl hl (by decide) rfl (fun ls hl => ?_)
      refine lv_iload_n hx hb dX3_eat_25 rfl (lv_at hl 0 rfl) ?_
      refine lv_iconst (v := -1) hx hb dX3_eat_26 (by decide) ?_
      refine lv_icmp_ne (tgt := 38) hx hb dX3_eat_27 (by decide) (fun h1 => absurd rfl h1) (fun _ => ?_)
      refine lv_aload_n hx hb dX3_eat_30 rfl (lv_at hl 1 rfl) ?_
      refine lv_iconst (v := 2) hx hb dX3_eat_31 (by decide) ?_
      refine cV S (c_X3_no (l := l) (D := D) (lo := lo) (Γ := Γ) (C := C) (V := V) (th := 0) (mn := mn) (tm := tm) (kt := kt) (Q := Q) (zs := zs) (be := be) (kp := kp) (n := 2)) (cwV 1 hts gX3_eat_X3_no rfl rfl rfl (by decide +kernel) ⟨Nat.le_of_ble_eq_true rfl, Nat.le_of_ble_eq_true rfl⟩) hK hH (Hp_recv hK hH (gmo hH (j := 3) (by simp)).1 (gmo hH (j := 3) (by simp)).2.1 rfl) hS rfl hl.1 rfl (Nat.le_of_ble_eq_true rfl) dX3_eat_32 ⟨Nat.le_of_ble_eq_true rfl, Nat.le_of_ble_eq_true rfl⟩ (fun v Z1 H locs hpost hH hS => ?_)
      obtain ⟨rfl, rfl⟩ := hpost
      refine lv_goto (tgt := 44) hx hb dX3_eat_35 (by decide) ?_
      exact eI S hr hlocks hH hS (Or.inr (Or.inr ⟨r, rfl, hf, rfl, rfl⟩)) dX3_eat_44
    | some a =>
      have hin_a := (fnd_mem _ _ hf).1
      have lt_a := h40 a hin_a
      obtain ⟨hz, hzp⟩ := raise_z h_rep h_n hin_a
      have hzn : (tids (plug (.branch a (zof (U r) a).2.1 (zof (U r) a).2.2.1) (zof (U r) a).2.2.2)).Nodup := by rw [hzp]; exact h_n
      have hz40 : ∀ b ∈ tids (plug (.branch a (zof (U r) a).2.1 (zof (U r) a).2.2.1) (zof (U r) a).2.2.2), b < 40 := by rw [hzp]; exact h40
      obtain ⟨s1, s2, s3, s4, s5⟩ := spz_raise h_rep h_n hin_a
      have hr3 : ∀ x, rai a (zof (U r) a).2.2.2 Q 3 x = Q 3 x := fun x => s5 3 x (by omega)
      have hs40 : ∀ b ∈ tids (spz (zof (U r) a)), b < 40 := by rw [s3]; exact h40
      have hsh : hgt (spz (zof (U r) a)) < 41 := Nat.lt_succ_of_le (Nat.le_trans (hgt_tids _) (by rw [s3]; exact hlen))
      refine lv_istore_n (lv' := [(3, .int (nI a)), (0, .ref (gxa Γ 3)), (1, .int (nI r)), (2, .int x)]) hx hb dX3_eat_24 rfl hl (by decide) rfl (fun ls hl => ?_)
      refine lv_iload_n hx hb dX3_eat_25 rfl (lv_at hl 0 rfl) ?_
      refine lv_iconst (v := -1) hx hb dX3_eat_26 (by decide) ?_
      refine lv_icmp_ne (tgt := 38) hx hb dX3_eat_27 (by decide) (fun _ => ?_) (fun h1 => absurd h1 (nI_nm1 (Nat.lt_trans lt_a (by decide))))
      refine lv_aload_n hx hb dX3_eat_38 rfl (lv_at hl 1 rfl) ?_
      refine lv_iload_n hx hb dX3_eat_39 rfl (lv_at hl 2 rfl) ?_
      refine lv_iload_n hx hb dX3_eat_40 rfl (lv_at hl 0 rfl) ?_
      refine cV S (c_X3_bitten (l := l) (D := D) (lo := lo) (Γ := Γ) (C := C) (V := V) (th := 0) (mn := mn) (tm := tm) (kt := kt) (Q := Q) (zs := zs) (be := be) (kp := kp) hr6 hz hzn hz40) (cwV 2 hts gX3_eat_X3_bitten rfl rfl rfl (by decide +kernel) ⟨Nat.le_of_ble_eq_true rfl, Nat.le_of_ble_eq_true rfl⟩) hK hH (Hp_recv hK hH (gmo hH (j := 3) (by simp)).1 (gmo hH (j := 3) (by simp)).2.1 rfl) hS rfl hl.1 rfl (Nat.le_of_ble_eq_true rfl) dX3_eat_41 ⟨Nat.le_of_ble_eq_true rfl, Nat.le_of_ble_eq_true rfl⟩ (fun v Z1 H locs hpost hH hS => ?_)
      obtain ⟨rfl, rfl⟩ := hpost
      exact eI S hr hlocks hH hS (Or.inl ⟨r, a, rfl, hf, rfl, rfl⟩) dX3_eat_44

set_option maxRecDepth 100000 in
set_option maxHeartbeats 4000000 in
theorem c_X3_lowered {k : Option Nat} (hk : ∀ b, k = some b → b < 40) : Md l yX3_lowered wsX3_lowered (rmL 1 0 0) D lo Γ [.ref (gxa Γ 3), .int (er k)] (C, (th, mn, tm, kt, Q, zs, be, kp), V) (some (.int (er k))) (C, (th, mn, tm, kt, (low Q k), zs, be, kp), V) := by
  refine Mz_of (cc := cX3_lowered) (maxL := 2) (ret := (some .int)) (by decide) rfl (Nat.le_of_ble_eq_true rfl) ?_
  intro p e s m args below meth c ls S hr hlocks hK hH hS hl
  have hx := S.1
  have hb := S.2.1
  have hts := S.2.2.2.2
  have f9 : (Cond.fieldLink RX3 9 (TX3 3).1 (TX3 3).2.1 (TX3 3).2.2.1).before args s = true := hts _ (List.mem_of_getElem? (i := 1) rfl)
  have hi3 : ∀ w ∈ wsX30, w ∈ wsX3_lowered := by decide +kernel
  have hl : lv_has ls 2 [(0, .ref (gxa Γ 3)), (1, .int (er k))] := hl
  rcases k with _ | k
  · skip
    have hl : lv_has ls 2 [(0, .ref (gxa Γ 3)), (1, .int (-1))] := hl
    refine lv_iload_n hx hb dX3_lowered_0 rfl (lv_at hl 1 rfl) ?_
    refine lv_iconst (v := -1) hx hb dX3_lowered_1 (by decide) ?_
    refine lv_icmp_eq (tgt := 15) hx hb dX3_lowered_2 (by decide) (fun _ => ?_) (fun h1 => absurd rfl h1)
    refine lv_iload_n hx hb dX3_lowered_15 rfl (lv_at hl 1 rfl) ?_
    exact eI S hr hlocks hH hS ⟨rfl, rfl⟩ dX3_lowered_16
  · skip
    have lt_k := hk k rfl
    have hl : lv_has ls 2 [(0, .ref (gxa Γ 3)), (1, .int (nI k))] := hl
    refine lv_iload_n hx hb dX3_lowered_0 rfl (lv_at hl 1 rfl) ?_
    refine lv_iconst (v := -1) hx hb dX3_lowered_1 (by decide) ?_
    refine lv_icmp_eq (tgt := 15) hx hb dX3_lowered_2 (by decide) (fun h1 => absurd h1 (nI_nm1 (Nat.lt_trans lt_k (by decide)))) (fun _ => ?_)
    refine lv_aload_n hx hb dX3_lowered_5 rfl (lv_at hl 0 rfl) ?_
    refine gM S hi3 hK hH 3 (by decide) f9 (v := .ref (gna Γ)) rfl dX3_lowered_6 ?_
    refine lv_bipush (v := 120) hx hb dX3_lowered_9 (by decide +kernel) ?_
    refine lv_iload_n hx hb dX3_lowered_11 rfl (lv_at hl 1 rfl) ?_
    refine lv_iadd hx hb dX3_lowered_12 ?_
    refine lv_iconst (v := -1) hx hb dX3_lowered_13 (by decide) ?_
    refine pNsd S hK hH hS 2 none rfl rfl (by decide) lt_k dX3_lowered_14 (fun H locs hH hS => ?_)
    refine lv_iload_n hx hb dX3_lowered_15 rfl (lv_at hl 1 rfl) ?_
    exact eI S hr hlocks hH hS ⟨rfl, rfl⟩ dX3_lowered_16

set_option maxRecDepth 100000 in
set_option maxHeartbeats 4000000 in
theorem c_X3_together {t : Tr} {x : Option Nat} (hrep : rep Q none t) (hn : (tids t).Nodup) (h40 : ∀ a ∈ tids t, a < 40) (hx9 : ∀ b, x = some b → b < 40) : Md l yX3_together wsX3_together (rmL 5 0 0) D lo Γ [.ref (gxa Γ 3), .int (er (rt t)), .int (er x)] (C, (th, mn, tm, kt, Q, zs, be, kp), V) (some (.int (er (tgr t x)))) (C, (th, mn, (tm + appN t), kt, (tgP Q t x), zs, be, kp), V) := by
  refine Mz_of (cc := cX3_together) (maxL := 4) (ret := (some .int)) (by decide) rfl (Nat.le_of_ble_eq_true rfl) ?_
  intro p e s m args below meth c ls S hr hlocks hK hH hS hl
  have hx := S.1
  have hb := S.2.1
  have hts := S.2.2.2.2
  have hl : lv_has ls 4 [(0, .ref (gxa Γ 3)), (1, .int (er (rt t))), (2, .int (er x))] := hl
  cases hl9 : (tids t).getLast? with
  | none =>
    have h0 : rt t = none := by have := List.getLast?_eq_none_iff.mp hl9; cases hu : t with | leaf u => rfl | branch k9 l9 r9 => rw [hu] at this; simp [tids] at this
    rw [h0] at hl
    have hl : lv_has ls 4 [(0, .ref (gxa Γ 3)), (1, .int (-1)), (2, .int (er x))] := hl
    refine lv_iload_n hx hb dX3_together_0 rfl (lv_at hl 1 rfl) ?_
    refine lv_iconst (v := -1) hx hb dX3_together_1 (by decide) ?_
    refine lv_icmp_ne (tgt := 7) hx hb dX3_together_2 (by decide) (fun h1 => absurd rfl h1) (fun _ => ?_)
    refine lv_iload_n hx hb dX3_together_5 rfl (lv_at hl 2 rfl) ?_
    exact eI S hr hlocks hH hS ⟨by rw [tgr, hl9], by rw [tgP, appN, hl9]; rfl⟩ dX3_together_6
  | some g =>
    have hg := List.mem_of_getLast? hl9
    obtain ⟨k9, hk9⟩ : ∃ k, rt t = some k := by cases hu : t with | leaf u => rw [hu] at hg; cases hg | branch k9 l9 r9 => exact ⟨k9, rfl⟩
    have lt_k9 := h40 k9 (rt_mem hk9)
    have lt_g := h40 g hg
    obtain ⟨hz, hzp⟩ := raise_z hrep hn hg
    refine lv_iload_n hx hb dX3_together_0 rfl (lv_at hl 1 rfl) ?_
    refine lv_iconst (v := -1) hx hb dX3_together_1 (by decide) ?_
    refine lv_icmp_ne (tgt := 7) hx hb dX3_together_2 (by decide) (fun _ => ?_) (fun h1 => absurd h1 (by rw [hk9]; exact nI_nm1 (Nat.lt_trans lt_k9 (by decide))))
    refine lv_aload_n hx hb dX3_together_7 rfl (lv_at hl 0 rfl) ?_
    refine lv_iload_n hx hb dX3_together_8 rfl (lv_at hl 1 rfl) ?_
    refine lv_bipush (v := 80) hx hb dX3_together_9 (by decide +kernel) ?_
    refine cV S (c_X3_endR (l := l) (D := D) (lo := lo) (Γ := Γ) (C := C) (V := V) (th := th) (mn := mn) (tm := tm) (kt := kt) (Q := Q) (zs := zs) (be := be) (kp := kp) hrep h40) (cwV 2 hts gX3_together_X3_end rfl rfl rfl (by decide +kernel) ⟨Nat.le_of_ble_eq_true rfl, Nat.le_of_ble_eq_true rfl⟩) hK hH (Hp_recv hK hH (gmo hH (j := 3) (by simp)).1 (gmo hH (j := 3) (by simp)).2.1 rfl) hS rfl hl.1 rfl (Nat.le_of_ble_eq_true rfl) dX3_together_11 ⟨Nat.le_of_ble_eq_true rfl, Nat.le_of_ble_eq_true rfl⟩ (fun v Z1 H locs hpost hH hS => ?_)
    obtain ⟨rfl, rfl⟩ := hpost
    rw [hl9]
    refine lv_istore_n (lv' := [(3, .int (nI g)), (0, .ref (gxa Γ 3)), (1, .int (er (rt t))), (2, .int (er x))]) hx hb dX3_together_14 rfl hl (by decide) rfl (fun ls hl => ?_)
    refine lv_aload_n hx hb dX3_together_15 rfl (lv_at hl 1 rfl) ?_
    refine lv_iload_n hx hb dX3_together_16 rfl (lv_at hl 0 rfl) ?_
    refine cV S (c_X3_raise (l := l) (D := D) (lo := lo) (Γ := Γ) (C := C) (V := V) (th := th) (mn := mn) (tm := tm) (kt := kt) (Q := Q) (zs := zs) (be := be) (kp := kp) hz (by rw [hzp]; exact hn) (by rw [hzp]; exact h40)) (cwV 1 hts gX3_together_X3_raise rfl rfl rfl (by decide +kernel) ⟨Nat.le_of_ble_eq_true rfl, Nat.le_of_ble_eq_true rfl⟩) hK hH (Hp_recv hK hH (gmo hH (j := 3) (by simp)).1 (gmo hH (j := 3) (by simp)).2.1 rfl) hS rfl hl.1 rfl (Nat.le_of_ble_eq_true rfl) dX3_together_17 ⟨Nat.le_of_ble_eq_true rfl, Nat.le_of_ble_eq_true rfl⟩ (fun v Z1 H locs hpost hH hS => ?_)
    obtain ⟨rfl, rfl⟩ := hpost
    refine lv_aload_n hx hb dX3_together_20 rfl (lv_at hl 1 rfl) ?_
    refine lv_iload_n hx hb dX3_together_21 rfl (lv_at hl 3 rfl) ?_
    refine lv_iload_n hx hb dX3_together_22 rfl (lv_at hl 0 rfl) ?_
    refine lv_bipush (v := 80) hx hb dX3_together_23 (by decide +kernel) ?_
    refine cV S (c_X3_hang (l := l) (D := D) (lo := lo) (Γ := Γ) (C := C) (V := V) (th := th) (mn := mn) (tm := (tm + (zof t g).2.2.2.length)) (kt := kt) (Q := (rai g (zof t g).2.2.2 Q)) (zs := zs) (be := be) (kp := kp) (j := 1) (k := x) (up := some g) (by decide) hx9 (fun b h => by cases h; exact lt_g)) (cwV 3 hts gX3_together_X3_hang rfl rfl rfl (by decide +kernel) ⟨Nat.le_of_ble_eq_true rfl, Nat.le_of_ble_eq_true rfl⟩) hK hH (Hp_recv hK hH (gmo hH (j := 3) (by simp)).1 (gmo hH (j := 3) (by simp)).2.1 rfl) hS rfl hl.1 rfl (Nat.le_of_ble_eq_true rfl) dX3_together_25 ⟨Nat.le_of_ble_eq_true rfl, Nat.le_of_ble_eq_true rfl⟩ (fun v Z1 H locs hpost hH hS => ?_)
    obtain ⟨rfl, rfl⟩ := hpost
    refine lv_iload_n hx hb dX3_together_28 rfl (lv_at hl 0 rfl) ?_
    exact eI S hr hlocks hH hS ⟨by rw [tgr, hl9]; rfl, by rw [tgP, appN, hl9]⟩ dX3_together_29
end MMod9
