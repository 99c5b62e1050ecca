/-! METHODS of the reference: the favourite, places in order, depths to come, means -/
def md8 (row : Int32) : Nat := match rowN row with
  | none => 1
  | some _ => 0
def md9 (U : Nat → Tr) (row : Int32) : UInt64 := match rowN row with
  | none => FP.dconst0
  | some r => mdp (U r)
def fvd (be : Nat → Nat) : List Nat → Option Nat
  | [] => none
  | b :: l => match fvd be l with
    | none => some b
    | some g => if nI (be b) < nI (be g) then some g else some b
theorem fvd_mem {be : Nat → Nat} : ∀ {l : List Nat} {b : Nat}, fvd be l = some b → b ∈ l := by
  intro l
  induction l with
  | nil => intro b h; cases h
  | cons a l ih =>
    intro b h
    rw [fvd] at h
    cases hq : fvd be l with
    | none => rw [hq] at h; cases h; simp
    | some g =>
      rw [hq] at h
      dsimp only at h
      split at h
      · cases h; exact List.mem_cons_of_mem _ (ih hq)
      · cases h; simp
theorem fvs_go {be : Nat → Nat} : ∀ (l : List Nat) (g : Nat), fvs be (some g) l = match fvd be l with
    | none => some g
    | some m => if nI (be m) ≤ nI (be g) then some g else some m := by
  intro l
  induction l with
  | nil => intro g; rfl
  | cons b l ih =>
    intro g
    rw [fvs, fvd]
    by_cases h1 : nI (be b) ≤ nI (be g)
    · rw [if_pos h1, ih g]
      cases hq : fvd be l with
      | none => dsimp only; rw [if_pos h1]
      | some m =>
        dsimp only
        by_cases h2 : nI (be b) < nI (be m)
        · rw [if_pos h2]
        · rw [if_neg h2]
          dsimp only
          rw [if_pos h1, if_pos (by rw [Int32.le_iff_toInt_le] at *; rw [Int32.lt_iff_toInt_lt] at h2; omega)]
    · rw [if_neg h1, ih b]
      cases hq : fvd be l with
      | none => dsimp only; rw [if_neg h1]
      | some m =>
        dsimp only
        by_cases h2 : nI (be b) < nI (be m)
        · rw [if_pos h2]
          dsimp only
          rw [if_neg (by rw [Int32.le_iff_toInt_le] at *; rw [Int32.lt_iff_toInt_lt] at h2; omega), if_neg (by rw [Int32.le_iff_toInt_le] at *; rw [Int32.lt_iff_toInt_lt] at h2; omega)]
        · rw [if_neg h2]
          dsimp only
          rw [if_neg h1, if_pos (by rw [Int32.le_iff_toInt_le] at *; rw [Int32.lt_iff_toInt_lt] at h2; omega)]
theorem fvs_fvd {be : Nat → Nat} (l : List Nat) : fvs be none l = fvd be l := by
  cases l with
  | nil => rfl
  | cons b l =>
    rw [fvs, fvs_go, fvd]
    cases hq : fvd be l with
    | none => rfl
    | some m =>
      dsimp only
      by_cases h2 : nI (be b) < nI (be m)
      · rw [if_pos h2, if_neg (Int32.not_le.mpr h2)]
      · rw [if_neg h2, if_pos (Int32.not_lt.mp h2)]
theorem atL_no : ∀ {l : List Nat} {x : Int32} {i : Nat}, (∀ j, j < l.length → nI (i + j) ≠ x) → atL l x i = none := by
  intro l
  induction l with
  | nil => intros; rfl
  | cons b l ih =>
    intro x i h
    have h0 := h 0 (by simp)
    rw [Nat.add_zero] at h0
    rw [atL, if_neg h0]
    exact ih (fun j hj => by have := h (j + 1) (by simpa using hj); rwa [show i + 1 + j = i + (j + 1) by omega])
theorem atL_at : ∀ {l : List Nat} {i j : Nat}, i + l.length < 2 ^ 31 → j < l.length → atL l (nI (i + j)) i = l[j]? := by
  intro l
  induction l with
  | nil => intro i j _ h; cases h
  | cons b l ih =>
    intro i j h hj
    simp only [List.length_cons] at h hj
    rw [atL]
    cases j with
    | zero => rw [Nat.add_zero, if_pos rfl]; rfl
    | succ j =>
      rw [if_neg (fun e => by have := nI_inj9 (by omega) (by omega) e; omega), show i + (j + 1) = i + 1 + j by omega, ih (by omega) (by omega)]
      rfl
section MMod8
variable {l : Launch} {D : va_G} {lo : Nat} {Γ : GT} {C : CW} {V : Int64 × UInt64} {th mn tm kt : Nat} {Q : PF} {zs : Nat → Option Nat} {be : Nat → Nat} {kp : Nat → Int32}
set_option maxRecDepth 100000 in
set_option maxHeartbeats 4000000 in
theorem c_X3_liked {U : Nat → Tr} {r : Nat} (hr6 : r < 6) (hM : MI Q zs U mn) : Md l yX3_liked wsX3_liked (rmL 43 0 0) D lo Γ [.ref (gxa Γ 3), .int (nI r)] (C, (th, mn, tm, kt, Q, zs, be, kp), V) (some (.int (er ((fvs be none (tids (U r))).map (zn zs))))) (C, (th, mn, tm, kt, Q, zs, be, kp), V) := by
  refine Mz_of (cc := cX3_liked) (maxL := 5) (ret := (some .int)) (by decide) rfl (Nat.le_of_ble_eq_true rfl) ?_
  intro p e s m args below meth c ls S hr hlocks hK hH hS hl
  have hx := S.1
  have hb := S.2.1
  have hts := S.2.2.2.2
  have f9 : (Cond.fieldLink RX3 9 (TX3 3).1 (TX3 3).2.1 (TX3 3).2.2.1).before args s = true := hts _ (List.mem_of_getElem? (i := 1) rfl)
  have hi3 : ∀ w ∈ wsX30, w ∈ wsX3_liked := by decide +kernel
  have hl : lv_has ls 5 [(0, .ref (gxa Γ 3)), (1, .int (nI r))] := hl
  obtain ⟨h_t, h_nd, h_mn, h_zs, h_40⟩ := id hM
  obtain ⟨hR, hs⟩ := h_t r hr6
  obtain ⟨h_top, h_rep, h_n, h_ok⟩ := id hR
  have h40 : ∀ a ∈ tids (U r), a < 40 := fun a ha => (h_ok a ha).1
  have hlen : (tids (U r)).length ≤ 40 := Nat.le_trans (gids_le hr6) h_40
  have hh : hgt (U r) < 41 := Nat.lt_succ_of_le (Nat.le_trans (hgt_tids _) hlen)
  refine lv_iconst (v := -1) hx hb dX3_liked_0 (by decide) ?_
  refine lv_istore_n (lv' := [(2, .int (-1)), (0, .ref (gxa Γ 3)), (1, .int (nI r))]) hx hb dX3_liked_1 rfl hl (by decide) rfl (fun ls hl => ?_)
  refine lv_aload_n hx hb dX3_liked_2 rfl (lv_at hl 1 rfl) ?_
  refine lv_aload_n hx hb dX3_liked_3 rfl (lv_at hl 1 rfl) ?_
  refine gM S hi3 hK hH 3 (by decide) f9 (v := .ref (gna Γ)) rfl dX3_liked_4 ?_
  refine lv_sipush (v := 200) hx hb dX3_liked_7 (by decide +kernel) ?_
  refine lv_iload_n hx hb dX3_liked_10 rfl (lv_at hl 2 rfl) ?_
  refine lv_iadd hx hb dX3_liked_11 ?_
  refine gN S hK hH (n := 200 + r) (x := er (rt (U r))) (nI_ofadd (a := 200) rfl) (by have := hr6; omega) (enc_tp.trans (congrArg er h_top)) dX3_liked_12 ?_
  refine cV S (c_X3_count (l := l) (D := D) (lo := lo) (Γ := Γ) (C := C) (V := V) (th := th) (mn := mn) (tm := tm) (kt := kt) (Q := Q) (zs := zs) (be := be) (kp := kp) (U r) 41 none hh h_rep h40) (cwV 1 hts gX3_liked_X3_count rfl rfl rfl (by decide +kernel) ⟨Nat.le_of_ble_eq_true rfl, Nat.le_of_ble_eq_true rfl⟩) hK hH (Hp_recv hK hH (gmo hH (j := 3) (by simp)).1 (gmo hH (j := 3) (by simp)).2.1 rfl) hS rfl hl.1 rfl (Nat.le_of_ble_eq_true rfl) dX3_liked_13 ⟨Nat.le_of_ble_eq_true rfl, Nat.le_of_ble_eq_true rfl⟩ (fun v Z1 H locs hpost hH hS => ?_)
  obtain ⟨rfl, rfl⟩ := hpost
  refine lv_iconst (v := 1) hx hb dX3_liked_16 (by decide) ?_
  refine lv_isub hx hb dX3_liked_17 ?_
  refine lv_istore_n (lv' := [(3, .int (nI (tids (U r)).length - 1)), (2, .int (-1)), (0, .ref (gxa Γ 3)), (1, .int (nI r))]) hx hb dX3_liked_18 rfl hl (by decide) rfl (fun ls hl => ?_)
  have loop : ∀ (n : Nat) (pre post : List Nat) (best : Option Nat) (x3 : Int32), pre.length = n → tids (U r) = pre ++ post → best = fvd be post → x3 + 1 = nI n → ∀ H locs, Hp D lo Γ (C, (th, mn, tm, kt, Q, zs, be, kp), V) H → va_S (lA lo) s.heap H locs → ∀ ls, lv_has ls 5 [(3, .int x3), (2, .int (er best)), (0, .ref (gxa Γ 3)), (1, .int (nI r))] → W p l e (rmL 43 0 0) s m args below meth c H locs 0 0 (MQ below (Qz D lo Γ (fun v Z' => v = (some (.int (er ((fvs be none (tids (U r))).map (zn zs))))) ∧ Z' = (C, (th, mn, tm, kt, Q, zs, be, kp), V))) args s ((rmL 43 0 0) : Room).cells ((rmL 43 0 0) : Room).slots (lA lo)) (F0 m 19 ls []) := by
    intro n
    induction n with
    | zero =>
      intro pre post best x3 hp hx2 hbst hx3 H locs hH hS ls hl
      have hp0 : pre = [] := List.length_eq_zero_iff.mp hp
      subst hp0
      have e3 : x3 = -1 := by have : x3 + 1 - 1 = nI 0 - 1 := by rw [hx3]
                              rw [Int32.add_sub_cancel] at this; rw [this]; decide
      subst e3
      have hbm : ∀ b, best = some b → b ∈ tids (U r) := fun b h => by rw [hx2, List.nil_append]; exact fvd_mem (be := be) (by rw [← hbst]; exact h)
      refine lv_iload_n hx hb dX3_liked_19 rfl (lv_at hl 0 rfl) ?_
      refine lv_if_lt (tgt := 78) hx hb dX3_liked_20 (by decide) (fun _ => ?_) (fun h1 => absurd (by decide) h1)
      refine lv_aload_n hx hb dX3_liked_78 rfl (lv_at hl 2 rfl) ?_
      refine lv_iload_n hx hb dX3_liked_79 rfl (lv_at hl 1 rfl) ?_
      refine cV S (c_X3_sizeAt (l := l) (D := D) (lo := lo) (Γ := Γ) (C := C) (V := V) (th := th) (mn := mn) (tm := tm) (kt := kt) (Q := Q) (zs := zs) (be := be) (kp := kp) (r := best) (fun b h => ⟨h40 b (hbm b h), (h_ok b (hbm b h)).2.1⟩)) (cwV 1 hts gX3_liked_X3_sizeAt rfl rfl rfl (by decide +kernel) ⟨Nat.le_of_ble_eq_true rfl, Nat.le_of_ble_eq_true rfl⟩) hK hH (Hp_recv hK hH (gmo hH (j := 3) (by simp)).1 (gmo hH (j := 3) (by simp)).2.1 rfl) hS rfl hl.1 rfl (Nat.le_of_ble_eq_true rfl) dX3_liked_80 ⟨Nat.le_of_ble_eq_true rfl, Nat.le_of_ble_eq_true rfl⟩ (fun v Z1 H locs hpost hH hS => ?_)
      obtain ⟨rfl, rfl⟩ := hpost
      exact eI S hr hlocks hH hS ⟨by rw [hx2, List.nil_append, fvs_fvd, hbst], rfl⟩ dX3_liked_83
    | succ n ih =>
      intro pre post best x3 hp hx2 hbst hx3 H locs hH hS ls hl
      have e3 : x3 = nI n := by have : x3 + 1 - 1 = nI (n + 1) - nI 1 := by rw [hx3]; rfl
                                rw [Int32.add_sub_cancel, nI_sb (by omega)] at this; exact this
      subst e3
      obtain ⟨k9, pre', rfl⟩ : ∃ k9 pre', pre = pre' ++ [k9] := by
        have hne : pre ≠ [] := fun e => by rw [e] at hp; cases hp
        exact ⟨pre.getLast hne, pre.dropLast, (List.dropLast_concat_getLast hne).symm⟩
      have hp' : pre'.length = n := by simpa using hp
      have hin_k9 : k9 ∈ tids (U r) := by rw [hx2]; simp
      have lt_k9 := h40 k9 hin_k9
      have hn40 : n < 40 := by have h := congrArg List.length hx2; simp only [List.length_append, List.length_cons, List.length_nil] at h; omega
      have hnth : (tids (U r))[n]? = some k9 := by rw [hx2, List.append_assoc, List.getElem?_append_right (by omega), hp', Nat.sub_self]; rfl
      have hbm : ∀ b, best = some b → b ∈ tids (U r) := fun b h => by rw [hx2]; exact List.mem_append_right _ (fvd_mem (be := be) (by rw [← hbst]; exact h))
      refine lv_iload_n hx hb dX3_liked_19 rfl (lv_at hl 0 rfl) ?_
      refine lv_if_lt (tgt := 78) hx hb dX3_liked_20 (by decide) (fun h1 => absurd h1 (nI_pos (by omega))) (fun _ => ?_)
      refine lv_aload_n hx hb dX3_liked_23 rfl (lv_at hl 2 rfl) ?_
      refine lv_aload_n hx hb dX3_liked_24 rfl (lv_at hl 2 rfl) ?_
      refine gM S hi3 hK hH 3 (by decide) f9 (v := .ref (gna Γ)) rfl dX3_liked_25 ?_
      refine lv_sipush (v := 200) hx hb dX3_liked_28 (by decide +kernel) ?_
      refine lv_iload_n hx hb dX3_liked_31 rfl (lv_at hl 3 rfl) ?_
      refine lv_iadd hx hb dX3_liked_32 ?_
      refine gN S hK hH (n := 200 + r) (x := er (rt (U r))) (nI_ofadd (a := 200) rfl) (by have := hr6; omega) (enc_tp.trans (congrArg er h_top)) dX3_liked_33 ?_
      refine lv_iload_n hx hb dX3_liked_34 rfl (lv_at hl 0 rfl) ?_
      refine cV S (c_X3_nth (l := l) (D := D) (lo := lo) (Γ := Γ) (C := C) (V := V) (th := th) (mn := mn) (tm := tm) (kt := kt) (Q := Q) (zs := zs) (be := be) (kp := kp) (U r) 42 none n k9 (Nat.succ_lt_succ hh) h_rep h40 (by omega) hnth) (cwV 2 hts gX3_liked_X3_nth rfl rfl rfl (by decide +kernel) ⟨Nat.le_of_ble_eq_true rfl, Nat.le_of_ble_eq_true rfl⟩) hK hH (Hp_recv hK hH (gmo hH (j := 3) (by simp)).1 (gmo hH (j := 3) (by simp)).2.1 rfl) hS rfl hl.1 rfl (Nat.le_of_ble_eq_true rfl) dX3_liked_35 ⟨Nat.le_of_ble_eq_true rfl, Nat.le_of_ble_eq_true rfl⟩ (fun v Z1 H locs hpost hH hS => ?_)
      obtain ⟨rfl, rfl⟩ := hpost
      refine lv_istore (lv' := [(4, .int (nI k9)), (3, .int (nI n)), (2, .int (er best)), (0, .ref (gxa Γ 3)), (1, .int (nI r))]) hx hb dX3_liked_38 hl (by decide) rfl (fun ls hl => ?_)
      refine lv_iload_n hx hb dX3_liked_40 rfl (lv_at hl 2 rfl) ?_
      refine lv_iconst (v := -1) hx hb dX3_liked_41 (by decide) ?_
      rcases best with _ | g
      · skip
        refine lv_icmp_eq (tgt := 69) hx hb dX3_liked_42 (by decide) (fun _ => ?_) (fun h1 => absurd rfl h1)
        refine lv_iload hx hb dX3_liked_69 (lv_at hl 0 rfl) ?_
        refine lv_istore_n (lv' := [(2, .int (nI k9)), (4, .int (nI k9)), (3, .int (nI n)), (0, .ref (gxa Γ 3)), (1, .int (nI r))]) hx hb dX3_liked_71 rfl hl (by decide) rfl (fun ls hl => ?_)
        refine lv_iinc (v := (nI n + (-1))) (lv' := [(3, .int (nI n + (-1))), (2, .int (nI k9)), (4, .int (nI k9)), (0, .ref (gxa Γ 3)), (1, .int (nI r))]) hx hb dX3_liked_72 hl (k := 2) rfl rfl (by decide) rfl (fun ls hl => ?_)
        refine lv_goto (tgt := 19) hx hb dX3_liked_75 (by decide) ?_
        exact ih pre' (k9 :: post) (some k9) _ hp' (by rw [hx2]; simp) (by rw [fvd, ← hbst]) (by rw [Int32.add_assoc, show (-1 : Int32) + 1 = 0 by decide, Int32.add_zero]) H locs hH hS ls (lv_sub hl [0, 1, 3, 4] rfl)
      · skip
        have lt_g := h40 g (hbm g rfl)
        refine lv_icmp_eq (tgt := 69) hx hb dX3_liked_42 (by decide) (fun h1 => absurd h1 (nI_nm1 (Nat.lt_trans lt_g (by decide)))) (fun _ => ?_)
        refine lv_aload_n hx hb dX3_liked_45 rfl (lv_at hl 3 rfl) ?_
        refine gM S hi3 hK hH 3 (by decide) f9 (v := .ref (gna Γ)) rfl dX3_liked_46 ?_
        refine lv_sipush (v := 160) hx hb dX3_liked_49 (by decide +kernel) ?_
        refine lv_iload hx hb dX3_liked_52 (lv_at hl 0 rfl) ?_
        refine lv_iadd hx hb dX3_liked_54 ?_
        refine gNea S hK hH lt_k9 dX3_liked_55 ?_
        refine lv_aload_n hx hb dX3_liked_56 rfl (lv_at hl 3 rfl) ?_
        refine gM S hi3 hK hH 3 (by decide) f9 (v := .ref (gna Γ)) rfl dX3_liked_57 ?_
        refine lv_sipush (v := 160) hx hb dX3_liked_60 (by decide +kernel) ?_
        refine lv_iload_n hx hb dX3_liked_63 rfl (lv_at hl 2 rfl) ?_
        refine lv_iadd hx hb dX3_liked_64 ?_
        refine gNea S hK hH lt_g dX3_liked_65 ?_
        refine lv_icmp_lt (tgt := 72) hx hb dX3_liked_66 (by decide) (fun h1 => ?_) (fun h1 => ?_)
        · skip
          refine lv_iinc (v := (nI n + (-1))) (lv' := [(3, .int (nI n + (-1))), (4, .int (nI k9)), (2, .int (nI g)), (0, .ref (gxa Γ 3)), (1, .int (nI r))]) hx hb dX3_liked_72 hl (k := 1) rfl rfl (by decide) rfl (fun ls hl => ?_)
          refine lv_goto (tgt := 19) hx hb dX3_liked_75 (by decide) ?_
          exact ih pre' (k9 :: post) (some g) _ hp' (by rw [hx2]; simp) (by rw [fvd, ← hbst]; dsimp only; rw [if_pos h1]) (by rw [Int32.add_assoc, show (-1 : Int32) + 1 = 0 by decide, Int32.add_zero]) H locs hH hS ls (lv_sub hl [0, 2, 3, 4] rfl)
        · skip
          refine lv_iload hx hb dX3_liked_69 (lv_at hl 0 rfl) ?_
          refine lv_istore_n (lv' := [(2, .int (nI k9)), (4, .int (nI k9)), (3, .int (nI n)), (0, .ref (gxa Γ 3)), (1, .int (nI r))]) hx hb dX3_liked_71 rfl hl (by decide) rfl (fun ls hl => ?_)
          refine lv_iinc (v := (nI n + (-1))) (lv' := [(3, .int (nI n + (-1))), (2, .int (nI k9)), (4, .int (nI k9)), (0, .ref (gxa Γ 3)), (1, .int (nI r))]) hx hb dX3_liked_72 hl (k := 2) rfl rfl (by decide) rfl (fun ls hl => ?_)
          refine lv_goto (tgt := 19) hx hb dX3_liked_75 (by decide) ?_
          exact ih pre' (k9 :: post) (some k9) _ hp' (by rw [hx2]; simp) (by rw [fvd, ← hbst]; dsimp only; rw [if_neg h1]) (by rw [Int32.add_assoc, show (-1 : Int32) + 1 = 0 by decide, Int32.add_zero]) H locs hH hS ls (lv_sub hl [0, 1, 3, 4] rfl)
  exact loop (tids (U r)).length (tids (U r)) [] none _ rfl (by simp) rfl (by show nI _ - 1 + 1 = _; rw [Int32.sub_add_cancel]) _ _ hH hS ls (lv_sub hl [0, 1, 2, 3] rfl)

set_option maxRecDepth 100000 in
set_option maxHeartbeats 4000000 in
theorem c_X3_favourite {U : Nat → Tr} {row : Int32}  (hM : MI Q zs U mn) : Md l yX3_favourite wsX3_favourite (rmL 44 0 0) D lo Γ [.ref (gxa Γ 3), .int row] (C, (th, mn, tm, kt, Q, zs, be, kp), V) (some (.int (qr row (fun r => er ((fvs be none (tids (U r))).map (zn zs)))).2)) (C, ((qr row (fun r => er ((fvs be none (tids (U r))).map (zn zs)))).1, mn, tm, kt, Q, zs, be, kp), V) := by
  refine Mz_of (cc := cX3_favourite) (maxL := 2) (ret := (some .int)) (by decide) rfl (Nat.le_of_ble_eq_true rfl) ?_
  intro p e s m args below meth c ls S hr hlocks hK hH hS hl
  have hx := S.1
  have hb := S.2.1
  have hts := S.2.2.2.2
  have f16 : (Cond.fieldLink RX3 16 (TX3 0).1 (TX3 0).2.1 (TX3 0).2.2.1).before args s = true := hts _ (List.mem_of_getElem? (i := 1) rfl)
  have hi3 : ∀ w ∈ wsX30, w ∈ wsX3_favourite := by decide +kernel
  have hl : lv_has ls 2 [(0, .ref (gxa Γ 3)), (1, .int row)] := hl
  obtain ⟨h_t, h_nd, h_mn, h_zs, h_40⟩ := id hM
  refine lv_aload_n hx hb dX3_favourite_0 rfl (lv_at hl 0 rfl) ?_
  refine lv_iconst (v := 0) hx hb dX3_favourite_1 (by decide) ?_
  refine pM S hi3 hK hH hS 0 (by decide) f16 (0, mn, tm, kt, Q, zs, be, kp) rfl rfl dX3_favourite_2 (fun H locs hH hS => ?_)
  refine lv_iload_n hx hb dX3_favourite_5 rfl (lv_at hl 1 rfl) ?_
  refine cSt S (c_X3_isRow (l := l) (D := D) (lo := lo) (Γ := Γ) (C := C) (V := V) (th := 0) (mn := mn) (tm := tm) (kt := kt) (Q := Q) (zs := zs) (be := be) (kp := kp) (x := row)) (va_cwS 1 hts gX3_favourite_X3_isRow rfl rfl rfl (by decide +kernel) ⟨Nat.le_of_ble_eq_true rfl, Nat.le_of_ble_eq_true rfl⟩) hK hH hS rfl hl.1 rfl (Nat.le_of_ble_eq_true rfl) dX3_favourite_6 ⟨Nat.le_of_ble_eq_true rfl, Nat.le_of_ble_eq_true rfl⟩ (fun v Z1 H locs hpost hH hS => ?_)
  obtain ⟨rfl, rfl⟩ := hpost
  rcases hrow : rowN row with _ | r
  · skip
    have e9 : (qr row (fun r => er ((fvs be none (tids (U r))).map (zn zs)))) = (1, 0) := by unfold qr; rw [hrow]
    refine lv_if_eq (tgt := 20) hx hb dX3_favourite_9 (by decide) (fun _ => ?_) (fun h1 => absurd rfl h1)
    refine lv_aload_n hx hb dX3_favourite_20 rfl (lv_at hl 0 rfl) ?_
    refine lv_iconst (v := 1) hx hb dX3_favourite_21 (by decide) ?_
    refine cV S (c_X3_no (l := l) (D := D) (lo := lo) (Γ := Γ) (C := C) (V := V) (th := 0) (mn := mn) (tm := tm) (kt := kt) (Q := Q) (zs := zs) (be := be) (kp := kp) (n := 1)) (cwV 1 hts gX3_favourite_X3_no rfl rfl rfl (by decide +kernel) ⟨Nat.le_of_ble_eq_true rfl, Nat.le_of_ble_eq_true rfl⟩) hK hH (Hp_recv hK hH (gmo hH (j := 3) (by simp)).1 (gmo hH (j := 3) (by simp)).2.1 rfl) hS rfl hl.1 rfl (Nat.le_of_ble_eq_true rfl) dX3_favourite_22 ⟨Nat.le_of_ble_eq_true rfl, Nat.le_of_ble_eq_true rfl⟩ (fun v Z1 H locs hpost hH hS => ?_)
    obtain ⟨rfl, rfl⟩ := hpost
    exact eI S hr hlocks hH hS ⟨by rw [e9], by rw [e9]⟩ dX3_favourite_25
  · skip
    have e9 : (qr row (fun r => er ((fvs be none (tids (U r))).map (zn zs)))) = (0, er ((fvs be none (tids (U r))).map (zn zs))) := by unfold qr; rw [hrow]
    obtain ⟨hr6, rfl⟩ := rowN_some hrow
    obtain ⟨hR, hs⟩ := h_t r hr6
    obtain ⟨h_top, h_rep, h_n, h_ok⟩ := id hR
    have h40 : ∀ a ∈ tids (U r), a < 40 := fun a ha => (h_ok a ha).1
    have hlen : (tids (U r)).length ≤ 40 := Nat.le_trans (gids_le hr6) h_40
    have hh : hgt (U r) < 41 := Nat.lt_succ_of_le (Nat.le_trans (hgt_tids _) hlen)
    refine lv_if_eq (tgt := 20) hx hb dX3_favourite_9 (by decide) (fun h1 => absurd h1 (show ¬ (1 : Int32) = 0 by decide)) (fun _ => ?_)
    refine lv_aload_n hx hb dX3_favourite_12 rfl (lv_at hl 0 rfl) ?_
    refine lv_iload_n hx hb dX3_favourite_13 rfl (lv_at hl 1 rfl) ?_
    refine cV S (c_X3_liked (l := l) (D := D) (lo := lo) (Γ := Γ) (C := C) (V := V) (th := 0) (mn := mn) (tm := tm) (kt := kt) (Q := Q) (zs := zs) (be := be) (kp := kp) hr6 hM) (cwV 1 hts gX3_favourite_X3_liked rfl rfl rfl (by decide +kernel) ⟨Nat.le_of_ble_eq_true rfl, Nat.le_of_ble_eq_true rfl⟩) hK hH (Hp_recv hK hH (gmo hH (j := 3) (by simp)).1 (gmo hH (j := 3) (by simp)).2.1 rfl) hS rfl hl.1 rfl (Nat.le_of_ble_eq_true rfl) dX3_favourite_14 ⟨Nat.le_of_ble_eq_true rfl, Nat.le_of_ble_eq_true rfl⟩ (fun v Z1 H locs hpost hH hS => ?_)
    obtain ⟨rfl, rfl⟩ := hpost
    refine lv_goto (tgt := 25) hx hb dX3_favourite_17 (by decide) ?_
    exact eI S hr hlocks hH hS ⟨by rw [e9], by rw [e9]⟩ dX3_favourite_25

set_option maxRecDepth 100000 in
set_option maxHeartbeats 4000000 in
theorem c_X3_inOrder {U : Nat → Tr} {row x : Int32} (hM : MI Q zs U mn) : Md l yX3_inOrder wsX3_inOrder (rmL 44 0 0) D lo Γ [.ref (gxa Γ 3), .int row, .int x] (C, (th, mn, tm, kt, Q, zs, be, kp), V) (some (.int (qo U (zn zs) row x).2)) (C, ((qo U (zn zs) row x).1, mn, tm, kt, Q, zs, be, kp), V) := by
  refine Mz_of (cc := cX3_inOrder) (maxL := 3) (ret := (some .int)) (by decide) rfl (Nat.le_of_ble_eq_true rfl) ?_
  intro p e s m args below meth c ls S hr hlocks hK hH hS hl
  have hx := S.1
  have hb := S.2.1
  have hts := S.2.2.2.2
  have f16 : (Cond.fieldLink RX3 16 (TX3 0).1 (TX3 0).2.1 (TX3 0).2.2.1).before args s = true := hts _ (List.mem_of_getElem? (i := 1) rfl)
  have f9 : (Cond.fieldLink RX3 9 (TX3 3).1 (TX3 3).2.1 (TX3 3).2.2.1).before args s = true := hts _ (List.mem_of_getElem? (i := 2) rfl)
  have hi3 : ∀ w ∈ wsX30, w ∈ wsX3_inOrder := by decide +kernel
  have hl : lv_has ls 3 [(0, .ref (gxa Γ 3)), (1, .int row), (2, .int x)] := hl
  obtain ⟨h_t, h_nd, h_mn, h_zs, h_40⟩ := id hM
  refine lv_aload_n hx hb dX3_inOrder_0 rfl (lv_at hl 0 rfl) ?_
  refine lv_iconst (v := 0) hx hb dX3_inOrder_1 (by decide) ?_
  refine pM S hi3 hK hH hS 0 (by decide) f16 (0, mn, tm, kt, Q, zs, be, kp) rfl rfl dX3_inOrder_2 (fun H locs hH hS => ?_)
  refine lv_iload_n hx hb dX3_inOrder_5 rfl (lv_at hl 1 rfl) ?_
  refine cSt S (c_X3_isRow (l := l) (D := D) (lo := lo) (Γ := Γ) (C := C) (V := V) (th := 0) (mn := mn) (tm := tm) (kt := kt) (Q := Q) (zs := zs) (be := be) (kp := kp) (x := row)) (va_cwS 1 hts gX3_inOrder_X3_isRow rfl rfl rfl (by decide +kernel) ⟨Nat.le_of_ble_eq_true rfl, Nat.le_of_ble_eq_true rfl⟩) hK hH hS rfl hl.1 rfl (Nat.le_of_ble_eq_true rfl) dX3_inOrder_6 ⟨Nat.le_of_ble_eq_true rfl, Nat.le_of_ble_eq_true rfl⟩ (fun v Z1 H locs hpost hH hS => ?_)
  obtain ⟨rfl, rfl⟩ := hpost
  rcases hrow : rowN row with _ | r
  · skip
    have e9 : (qo U (zn zs) row x) = (1, 0) := by unfold qo; rw [hrow]
    refine lv_if_eq (tgt := 34) hx hb dX3_inOrder_9 (by decide) (fun _ => ?_) (fun h1 => absurd rfl h1)
    refine lv_aload_n hx hb dX3_inOrder_34 rfl (lv_at hl 0 rfl) ?_
    refine lv_iconst (v := 1) hx hb dX3_inOrder_35 (by decide) ?_
    refine cV S (c_X3_no (l := l) (D := D) (lo := lo) (Γ := Γ) (C := C) (V := V) (th := 0) (mn := mn) (tm := tm) (kt := kt) (Q := Q) (zs := zs) (be := be) (kp := kp) (n := 1)) (cwV 1 hts gX3_inOrder_X3_no rfl rfl rfl (by decide +kernel) ⟨Nat.le_of_ble_eq_true rfl, Nat.le_of_ble_eq_true rfl⟩) hK hH (Hp_recv hK hH (gmo hH (j := 3) (by simp)).1 (gmo hH (j := 3) (by simp)).2.1 rfl) hS rfl hl.1 rfl (Nat.le_of_ble_eq_true rfl) dX3_inOrder_36 ⟨Nat.le_of_ble_eq_true rfl, Nat.le_of_ble_eq_true rfl⟩ (fun v Z1 H locs hpost hH hS => ?_)
    obtain ⟨rfl, rfl⟩ := hpost
    exact eI S hr hlocks hH hS ⟨by rw [e9], by rw [e9]⟩ dX3_inOrder_39
  · skip
    obtain ⟨hr6, hrw⟩ := rowN_some hrow
    subst hrw
    obtain ⟨hR, hs⟩ := h_t r hr6
    obtain ⟨h_top, h_rep, h_n, h_ok⟩ := id hR
    have h40 : ∀ a ∈ tids (U r), a < 40 := fun a ha => (h_ok a ha).1
    have hlen : (tids (U r)).length ≤ 40 := Nat.le_trans (gids_le hr6) h_40
    have hh : hgt (U r) < 41 := Nat.lt_succ_of_le (Nat.le_trans (hgt_tids _) hlen)
    refine lv_if_eq (tgt := 34) hx hb dX3_inOrder_9 (by decide) (fun h1 => absurd h1 (show ¬ (1 : Int32) = 0 by decide)) (fun _ => ?_)
    refine lv_iload_n hx hb dX3_inOrder_12 rfl (lv_at hl 2 rfl) ?_
    refine lv_if_lt (tgt := 34) hx hb dX3_inOrder_13 (by decide) (fun h1 => ?_) (fun h1 => ?_)
    · skip
      have e9 : (qo U (zn zs) (nI r) x) = (1, 0) := by unfold qo; rw [hrow]; dsimp only; rw [atL_no (fun j hj e => nI_pos (show j < 2 ^ 31 by omega) (by rw [Nat.zero_add] at e; rw [e]; exact h1))]
      refine lv_aload_n hx hb dX3_inOrder_34 rfl (lv_at hl 0 rfl) ?_
      refine lv_iconst (v := 1) hx hb dX3_inOrder_35 (by decide) ?_
      refine cV S (c_X3_no (l := l) (D := D) (lo := lo) (Γ := Γ) (C := C) (V := V) (th := 0) (mn := mn) (tm := tm) (kt := kt) (Q := Q) (zs := zs) (be := be) (kp := kp) (n := 1)) (cwV 1 hts gX3_inOrder_X3_no rfl rfl rfl (by decide +kernel) ⟨Nat.le_of_ble_eq_true rfl, Nat.le_of_ble_eq_true rfl⟩) hK hH (Hp_recv hK hH (gmo hH (j := 3) (by simp)).1 (gmo hH (j := 3) (by simp)).2.1 rfl) hS rfl hl.1 rfl (Nat.le_of_ble_eq_true rfl) dX3_inOrder_36 ⟨Nat.le_of_ble_eq_true rfl, Nat.le_of_ble_eq_true rfl⟩ (fun v Z1 H locs hpost hH hS => ?_)
      obtain ⟨rfl, rfl⟩ := hpost
      exact eI S hr hlocks hH hS ⟨by rw [e9], by rw [e9]⟩ dX3_inOrder_39
    · skip
      obtain ⟨j, hj, rfl⟩ := nI_of h1
      refine lv_iload_n hx hb dX3_inOrder_16 rfl (lv_at hl 2 rfl) ?_
      refine lv_aload_n hx hb dX3_inOrder_17 rfl (lv_at hl 0 rfl) ?_
      refine lv_aload_n hx hb dX3_inOrder_18 rfl (lv_at hl 0 rfl) ?_
      refine gM S hi3 hK hH 3 (by decide) f9 (v := .ref (gna Γ)) rfl dX3_inOrder_19 ?_
      refine lv_sipush (v := 200) hx hb dX3_inOrder_22 (by decide +kernel) ?_
      refine lv_iload_n hx hb dX3_inOrder_25 rfl (lv_at hl 1 rfl) ?_
      refine lv_iadd hx hb dX3_inOrder_26 ?_
      refine gN S hK hH (n := 200 + r) (x := er (rt (U r))) (nI_ofadd (a := 200) rfl) (by have := hr6; omega) (enc_tp.trans (congrArg er h_top)) dX3_inOrder_27 ?_
      refine cV S (c_X3_count (l := l) (D := D) (lo := lo) (Γ := Γ) (C := C) (V := V) (th := 0) (mn := mn) (tm := tm) (kt := kt) (Q := Q) (zs := zs) (be := be) (kp := kp) (U r) 41 none hh h_rep h40) (cwV 1 hts gX3_inOrder_X3_count rfl rfl rfl (by decide +kernel) ⟨Nat.le_of_ble_eq_true rfl, Nat.le_of_ble_eq_true rfl⟩) hK hH (Hp_recv hK hH (gmo hH (j := 3) (by simp)).1 (gmo hH (j := 3) (by simp)).2.1 rfl) hS rfl hl.1 rfl (Nat.le_of_ble_eq_true rfl) dX3_inOrder_28 ⟨Nat.le_of_ble_eq_true rfl, Nat.le_of_ble_eq_true rfl⟩ (fun v Z1 H locs hpost hH hS => ?_)
      obtain ⟨rfl, rfl⟩ := hpost
      refine lv_icmp_lt (tgt := 40) hx hb dX3_inOrder_31 (by decide) (fun h2 => ?_) (fun h2 => ?_)
      · skip
        have h2 := (nI_ltI (by omega) (by omega)).mp h2
        obtain ⟨b, hb9⟩ : ∃ b, (tids (U r))[j]? = some b := ⟨_, List.getElem?_eq_getElem h2⟩
        have hin_b := List.mem_of_getElem? hb9
        have lt_b := h40 b hin_b
        have hbz := (h_ok b hin_b).2.1
        have e9 : (qo U (zn zs) (nI r) (nI j)) = (0, nI (zn zs b)) := by unfold qo; rw [hrow]; dsimp only; rw [show nI j = nI (0 + j) by rw [Nat.zero_add], atL_at (by omega) (by omega), hb9]
        refine lv_aload_n hx hb dX3_inOrder_40 rfl (lv_at hl 0 rfl) ?_
        refine gM S hi3 hK hH 3 (by decide) f9 (v := .ref (gna Γ)) rfl dX3_inOrder_41 ?_
        refine lv_iconst (v := 0) hx hb dX3_inOrder_44 (by decide) ?_
        refine lv_aload_n hx hb dX3_inOrder_45 rfl (lv_at hl 0 rfl) ?_
        refine lv_aload_n hx hb dX3_inOrder_46 rfl (lv_at hl 0 rfl) ?_
        refine gM S hi3 hK hH 3 (by decide) f9 (v := .ref (gna Γ)) rfl dX3_inOrder_47 ?_
        refine lv_sipush (v := 200) hx hb dX3_inOrder_50 (by decide +kernel) ?_
        refine lv_iload_n hx hb dX3_inOrder_53 rfl (lv_at hl 1 rfl) ?_
        refine lv_iadd hx hb dX3_inOrder_54 ?_
        refine gN S hK hH (n := 200 + r) (x := er (rt (U r))) (nI_ofadd (a := 200) rfl) (by have := hr6; omega) (enc_tp.trans (congrArg er h_top)) dX3_inOrder_55 ?_
        refine lv_iload_n hx hb dX3_inOrder_56 rfl (lv_at hl 2 rfl) ?_
        refine cV S (c_X3_nth (l := l) (D := D) (lo := lo) (Γ := Γ) (C := C) (V := V) (th := 0) (mn := mn) (tm := tm) (kt := kt) (Q := Q) (zs := zs) (be := be) (kp := kp) (U r) 42 none j b (Nat.succ_lt_succ hh) h_rep h40 (by omega) hb9) (cwV 2 hts gX3_inOrder_X3_nth rfl rfl rfl (by decide +kernel) ⟨Nat.le_of_ble_eq_true rfl, Nat.le_of_ble_eq_true rfl⟩) hK hH (Hp_recv hK hH (gmo hH (j := 3) (by simp)).1 (gmo hH (j := 3) (by simp)).2.1 rfl) hS rfl hl.1 rfl (Nat.le_of_ble_eq_true rfl) dX3_inOrder_57 ⟨Nat.le_of_ble_eq_true rfl, Nat.le_of_ble_eq_true rfl⟩ (fun v Z1 H locs hpost hH hS => ?_)
        obtain ⟨rfl, rfl⟩ := hpost
        refine lv_iadd hx hb dX3_inOrder_60 ?_
        refine gN S hK hH (n := b) (x := nI (zn zs b)) ((nI_ofadd (a := 0) rfl).trans (by rw [Nat.zero_add])) (Nat.lt_trans lt_b (by decide)) ((enc_sz lt_b).trans (congrArg er hbz)) dX3_inOrder_61 ?_
        exact eI S hr hlocks hH hS ⟨by rw [e9], by rw [e9]⟩ dX3_inOrder_62
      · skip
        have h2 := mt (nI_ltI (a := j) (b := (tids (U r)).length) (by omega) (by omega)).mpr h2
        have e9 : (qo U (zn zs) (nI r) (nI j)) = (1, 0) := by unfold qo; rw [hrow]; dsimp only; rw [atL_no (fun i hi e => by have := nI_inj9 (by omega) (by omega) e; omega)]
        refine lv_aload_n hx hb dX3_inOrder_34 rfl (lv_at hl 0 rfl) ?_
        refine lv_iconst (v := 1) hx hb dX3_inOrder_35 (by decide) ?_
        refine cV S (c_X3_no (l := l) (D := D) (lo := lo) (Γ := Γ) (C := C) (V := V) (th := 0) (mn := mn) (tm := tm) (kt := kt) (Q := Q) (zs := zs) (be := be) (kp := kp) (n := 1)) (cwV 1 hts gX3_inOrder_X3_no rfl rfl rfl (by decide +kernel) ⟨Nat.le_of_ble_eq_true rfl, Nat.le_of_ble_eq_true rfl⟩) hK hH (Hp_recv hK hH (gmo hH (j := 3) (by simp)).1 (gmo hH (j := 3) (by simp)).2.1 rfl) hS rfl hl.1 rfl (Nat.le_of_ble_eq_true rfl) dX3_inOrder_36 ⟨Nat.le_of_ble_eq_true rfl, Nat.le_of_ble_eq_true rfl⟩ (fun v Z1 H locs hpost hH hS => ?_)
        obtain ⟨rfl, rfl⟩ := hpost
        exact eI S hr hlocks hH hS ⟨by rw [e9], by rw [e9]⟩ dX3_inOrder_39

set_option maxRecDepth 100000 in
set_option maxHeartbeats 4000000 in
theorem c_X3_plantDeep {U : Nat → Tr} {r n : Nat} (hr6 : r < 6) (hn9 : n < 1000) (hM : MI Q zs U mn) : Md l yX3_plantDeep wsX3_plantDeep (rmL 3 0 0) D lo Γ [.ref (gxa Γ 3), .int (nI r), .int (nI n)] (C, (th, mn, tm, kt, Q, zs, be, kp), V) (some (.int (if (fnd (zn zs) (n : Int) (U r)).isSome then -1 else nI (inc (zn zs) (n : Int) (U r) []).length))) (C, (th, mn, tm, kt, Q, zs, be, kp), V) := by
  refine Mz_of (cc := cX3_plantDeep) (maxL := 5) (ret := (some .int)) (by decide) rfl (Nat.le_of_ble_eq_true rfl) ?_
  intro p e s m args below meth c ls S hr hlocks hK hH hS hl
  have hx := S.1
  have hb := S.2.1
  have hts := S.2.2.2.2
  have f9 : (Cond.fieldLink RX3 9 (TX3 3).1 (TX3 3).2.1 (TX3 3).2.2.1).before args s = true := hts _ (List.mem_of_getElem? (i := 1) rfl)
  have hi3 : ∀ w ∈ wsX30, w ∈ wsX3_plantDeep := by decide +kernel
  have hl : lv_has ls 5 [(0, .ref (gxa Γ 3)), (1, .int (nI r)), (2, .int (nI n))] := hl
  obtain ⟨h_t, h_nd, h_mn, h_zs, h_40⟩ := id hM
  obtain ⟨hR, hs⟩ := h_t r hr6
  obtain ⟨h_top, h_rep, h_n, h_ok⟩ := id hR
  have h40 : ∀ a ∈ tids (U r), a < 40 := fun a ha => (h_ok a ha).1
  have hlen : (tids (U r)).length ≤ 40 := Nat.le_trans (gids_le hr6) h_40
  have hh : hgt (U r) < 41 := Nat.lt_succ_of_le (Nat.le_trans (hgt_tids _) hlen)
  refine lv_iconst (v := 0) hx hb dX3_plantDeep_0 (by decide) ?_
  refine lv_istore_n (lv' := [(3, .int 0), (0, .ref (gxa Γ 3)), (1, .int (nI r)), (2, .int (nI n))]) hx hb dX3_plantDeep_1 rfl hl (by decide) rfl (fun ls hl => ?_)
  refine lv_aload_n hx hb dX3_plantDeep_2 rfl (lv_at hl 1 rfl) ?_
  refine gM S hi3 hK hH 3 (by decide) f9 (v := .ref (gna Γ)) rfl dX3_plantDeep_3 ?_
  refine lv_sipush (v := 200) hx hb dX3_plantDeep_6 (by decide +kernel) ?_
  refine lv_iload_n hx hb dX3_plantDeep_9 rfl (lv_at hl 2 rfl) ?_
  refine lv_iadd hx hb dX3_plantDeep_10 ?_
  refine gN S hK hH (n := 200 + r) (x := er (rt (U r))) (nI_ofadd (a := 200) rfl) (by have := hr6; omega) (enc_tp.trans (congrArg er h_top)) dX3_plantDeep_11 ?_
  refine lv_istore (lv' := [(4, .int (er (rt (U r)))), (3, .int 0), (0, .ref (gxa Γ 3)), (1, .int (nI r)), (2, .int (nI n))]) hx hb dX3_plantDeep_12 hl (by decide) rfl (fun ls hl => ?_)
  have loop : ∀ (t' : Tr) (par' : Option Nat) (X : Cx), rep Q par' t' → (∀ a ∈ tids t', a < 40 ∧ zs a = some (zn zs a) ∧ zn zs a < 1000) → fnd (zn zs) (n : Int) t' = fnd (zn zs) (n : Int) (U r) → inc (zn zs) (n : Int) t' X = inc (zn zs) (n : Int) (U r) [] → ∀ ls, lv_has ls 5 [(4, .int (er (rt t'))), (3, .int (nI X.length)), (0, .ref (gxa Γ 3)), (2, .int (nI n))] → W p l e (rmL 3 0 0) s m args below meth c s.heap [] 0 0 (MQ below (Qz D lo Γ (fun v Z' => v = (some (.int (if (fnd (zn zs) (n : Int) (U r)).isSome then -1 else nI (inc (zn zs) (n : Int) (U r) []).length))) ∧ Z' = (C, (th, mn, tm, kt, Q, zs, be, kp), V))) args s ((rmL 3 0 0) : Room).cells ((rmL 3 0 0) : Room).slots (lA lo)) (F0 m 14 ls []) := by
    intro t'
    induction t' with
    | leaf u =>
      intro par' X h2 ok hf hi ls hl
      have hl : lv_has ls 5 [(4, .int (-1)), (3, .int (nI X.length)), (0, .ref (gxa Γ 3)), (2, .int (nI n))] := hl
      have hf : none = fnd (zn zs) (n : Int) (U r) := hf
      have hi : X = inc (zn zs) (n : Int) (U r) [] := hi
      refine lv_iload hx hb dX3_plantDeep_14 (lv_at hl 0 rfl) ?_
      refine lv_iconst (v := -1) hx hb dX3_plantDeep_16 (by decide) ?_
      refine lv_icmp_eq (tgt := 69) hx hb dX3_plantDeep_17 (by decide) (fun _ => ?_) (fun h1 => absurd rfl h1)
      refine lv_iload hx hb dX3_plantDeep_69 (lv_at hl 0 rfl) ?_
      refine lv_iconst (v := -1) hx hb dX3_plantDeep_71 (by decide) ?_
      refine lv_icmp_ne (tgt := 79) hx hb dX3_plantDeep_72 (by decide) (fun h1 => absurd rfl h1) (fun _ => ?_)
      refine lv_iload_n hx hb dX3_plantDeep_75 rfl (lv_at hl 1 rfl) ?_
      refine lv_goto (tgt := 80) hx hb dX3_plantDeep_76 (by decide) ?_
      exact eI S hr hlocks hH hS ⟨by rw [← hf, ← hi]; rfl, rfl⟩ dX3_plantDeep_80
    | branch k l9 r9 ihl ihr =>
      intro par' X h2 ok hf hi ls hl
      have hl : lv_has ls 5 [(4, .int (nI k)), (3, .int (nI X.length)), (0, .ref (gxa Γ 3)), (2, .int (nI n))] := hl
      obtain ⟨g2, g0, g1, gl, gr⟩ := h2
      obtain ⟨lt_k, hzk, hz1⟩ := ok k (by simp [tids])
      have okl : ∀ a ∈ tids l9, a < 40 ∧ zs a = some (zn zs a) ∧ zn zs a < 1000 := fun a ha => ok a (by simp [tids, ha])
      have okr : ∀ a ∈ tids r9, a < 40 ∧ zs a = some (zn zs a) ∧ zn zs a < 1000 := fun a ha => ok a (by simp [tids, ha])
      rw [fnd] at hf
      rw [inc] at hi
      refine lv_iload hx hb dX3_plantDeep_14 (lv_at hl 0 rfl) ?_
      refine lv_iconst (v := -1) hx hb dX3_plantDeep_16 (by decide) ?_
      refine lv_icmp_eq (tgt := 69) hx hb dX3_plantDeep_17 (by decide) (fun h1 => absurd h1 (nI_nm1 (Nat.lt_trans lt_k (by decide)))) (fun _ => ?_)
      refine lv_aload_n hx hb dX3_plantDeep_20 rfl (lv_at hl 2 rfl) ?_
      refine gM S hi3 hK hH 3 (by decide) f9 (v := .ref (gna Γ)) rfl dX3_plantDeep_21 ?_
      refine lv_iconst (v := 0) hx hb dX3_plantDeep_24 (by decide) ?_
      refine lv_iload hx hb dX3_plantDeep_25 (lv_at hl 0 rfl) ?_
      refine lv_iadd hx hb dX3_plantDeep_27 ?_
      refine gN S hK hH (n := k) (x := nI (zn zs k)) ((nI_ofadd (a := 0) rfl).trans (by rw [Nat.zero_add])) (Nat.lt_trans lt_k (by decide)) ((enc_sz lt_k).trans (congrArg er hzk)) dX3_plantDeep_28 ?_
      refine lv_iload_n hx hb dX3_plantDeep_29 rfl (lv_at hl 3 rfl) ?_
      refine lv_icmp_eq (tgt := 69) hx hb dX3_plantDeep_30 (by decide) (fun h1 => ?_) (fun h1 => ?_)
      · skip
        have h1 := nI_inj9 (by omega) (by omega) h1
        rw [if_pos (by omega)] at hf
        refine lv_iload hx hb dX3_plantDeep_69 (lv_at hl 0 rfl) ?_
        refine lv_iconst (v := -1) hx hb dX3_plantDeep_71 (by decide) ?_
        refine lv_icmp_ne (tgt := 79) hx hb dX3_plantDeep_72 (by decide) (fun _ => ?_) (fun h1 => absurd h1 (nI_nm1 (Nat.lt_trans lt_k (by decide))))
        refine lv_iconst (v := -1) hx hb dX3_plantDeep_79 (by decide) ?_
        exact eI S hr hlocks hH hS ⟨by rw [← hf]; rfl, rfl⟩ dX3_plantDeep_80
      · skip
        have h1 : zn zs k ≠ n := fun q => h1 (by rw [q])
        rw [if_neg (by omega)] at hf
        refine lv_iinc (v := nI (X.length + 1)) (lv' := [(3, .int (nI (X.length + 1))), (4, .int (nI k)), (0, .ref (gxa Γ 3)), (2, .int (nI n))]) hx hb dX3_plantDeep_33 hl (k := 1) rfl (nI_1 X.length) (by decide) rfl (fun ls hl => ?_)
        refine lv_aload_n hx hb dX3_plantDeep_36 rfl (lv_at hl 2 rfl) ?_
        refine gM S hi3 hK hH 3 (by decide) f9 (v := .ref (gna Γ)) rfl dX3_plantDeep_37 ?_
        refine lv_iload_n hx hb dX3_plantDeep_40 rfl (lv_at hl 3 rfl) ?_
        refine lv_aload_n hx hb dX3_plantDeep_41 rfl (lv_at hl 2 rfl) ?_
        refine gM S hi3 hK hH 3 (by decide) f9 (v := .ref (gna Γ)) rfl dX3_plantDeep_42 ?_
        refine lv_iconst (v := 0) hx hb dX3_plantDeep_45 (by decide) ?_
        refine lv_iload hx hb dX3_plantDeep_46 (lv_at hl 1 rfl) ?_
        refine lv_iadd hx hb dX3_plantDeep_48 ?_
        refine gN S hK hH (n := k) (x := nI (zn zs k)) ((nI_ofadd (a := 0) rfl).trans (by rw [Nat.zero_add])) (Nat.lt_trans lt_k (by decide)) ((enc_sz lt_k).trans (congrArg er hzk)) dX3_plantDeep_49 ?_
        refine lv_icmp_ge (tgt := 58) hx hb dX3_plantDeep_50 (by decide) (fun h2 => ?_) (fun h2 => ?_)
        · skip
          have h3 : ¬ (n : Int) < (zn zs k : Int) := by have := (nI_leI (by omega) (by omega)).mp h2; omega
          rw [if_neg h3] at hf hi
          refine lv_bipush (v := 80) hx hb dX3_plantDeep_58 (by decide +kernel) ?_
          refine lv_iload hx hb dX3_plantDeep_60 (lv_at hl 1 rfl) ?_
          refine lv_iadd hx hb dX3_plantDeep_62 ?_
          refine gN S hK hH (n := 40 * (1 + 1) + k) (x := er (rt r9)) (nI_ofadd rfl) (by have := lt_k; omega) ((enc_sd (by decide) lt_k).trans (congrArg er g1)) dX3_plantDeep_63 ?_
          refine lv_istore (lv' := [(4, .int (er (rt r9))), (3, .int (nI (X.length + 1))), (0, .ref (gxa Γ 3)), (2, .int (nI n))]) hx hb dX3_plantDeep_64 hl (by decide) rfl (fun ls hl => ?_)
          refine lv_goto (tgt := 14) hx hb dX3_plantDeep_66 (by decide) ?_
          exact ihr (some k) ((true, k, l9) :: X) gr okr hf hi ls (lv_sub hl [0, 1, 2, 3] rfl)
        · skip
          have h3 : (n : Int) < (zn zs k : Int) := by have := mt (nI_leI (a := zn zs k) (b := n) (by omega) (by omega)).mpr h2; omega
          rw [if_pos h3] at hf hi
          refine lv_bipush (v := 40) hx hb dX3_plantDeep_53 (by decide +kernel) ?_
          refine lv_goto (tgt := 60) hx hb dX3_plantDeep_55 (by decide) ?_
          refine lv_iload hx hb dX3_plantDeep_60 (lv_at hl 1 rfl) ?_
          refine lv_iadd hx hb dX3_plantDeep_62 ?_
          refine gN S hK hH (n := 40 * (0 + 1) + k) (x := er (rt l9)) (nI_ofadd rfl) (by have := lt_k; omega) ((enc_sd (by decide) lt_k).trans (congrArg er g0)) dX3_plantDeep_63 ?_
          refine lv_istore (lv' := [(4, .int (er (rt l9))), (3, .int (nI (X.length + 1))), (0, .ref (gxa Γ 3)), (2, .int (nI n))]) hx hb dX3_plantDeep_64 hl (by decide) rfl (fun ls hl => ?_)
          refine lv_goto (tgt := 14) hx hb dX3_plantDeep_66 (by decide) ?_
          exact ihl (some k) ((false, k, r9) :: X) gl okl hf hi ls (lv_sub hl [0, 1, 2, 3] rfl)
  exact loop (U r) none [] h_rep h_ok rfl rfl ls (lv_sub hl [0, 1, 2, 4] rfl)

set_option maxRecDepth 100000 in
set_option maxHeartbeats 4000000 in
theorem c_X3_plantDepth {U : Nat → Tr} {row x : Int32} (hM : MI Q zs U mn) : Md l yX3_plantDepth wsX3_plantDepth (rmL 44 0 0) D lo Γ [.ref (gxa Γ 3), .int row, .int x] (C, (th, mn, tm, kt, Q, zs, be, kp), V) (some (.int (qp U (zn zs) row x).2)) (C, ((qp U (zn zs) row x).1, mn, tm, kt, Q, zs, be, kp), V) := by
  refine Mz_of (cc := cX3_plantDepth) (maxL := 3) (ret := (some .int)) (by decide) rfl (Nat.le_of_ble_eq_true rfl) ?_
  intro p e s m args below meth c ls S hr hlocks hK hH hS hl
  have hx := S.1
  have hb := S.2.1
  have hts := S.2.2.2.2
  have f16 : (Cond.fieldLink RX3 16 (TX3 0).1 (TX3 0).2.1 (TX3 0).2.2.1).before args s = true := hts _ (List.mem_of_getElem? (i := 1) rfl)
  have hi3 : ∀ w ∈ wsX30, w ∈ wsX3_plantDepth := by decide +kernel
  have hl : lv_has ls 3 [(0, .ref (gxa Γ 3)), (1, .int row), (2, .int x)] := hl
  refine lv_aload_n hx hb dX3_plantDepth_0 rfl (lv_at hl 0 rfl) ?_
  refine lv_iconst (v := 0) hx hb dX3_plantDepth_1 (by decide) ?_
  refine pM S hi3 hK hH hS 0 (by decide) f16 (0, mn, tm, kt, Q, zs, be, kp) rfl rfl dX3_plantDepth_2 (fun H locs hH hS => ?_)
  refine lv_iload_n hx hb dX3_plantDepth_5 rfl (lv_at hl 1 rfl) ?_
  refine cSt S (c_X3_isRow (l := l) (D := D) (lo := lo) (Γ := Γ) (C := C) (V := V) (th := 0) (mn := mn) (tm := tm) (kt := kt) (Q := Q) (zs := zs) (be := be) (kp := kp) (x := row)) (va_cwS 1 hts gX3_plantDepth_X3_isRow rfl rfl rfl (by decide +kernel) ⟨Nat.le_of_ble_eq_true rfl, Nat.le_of_ble_eq_true rfl⟩) hK hH hS rfl hl.1 rfl (Nat.le_of_ble_eq_true rfl) dX3_plantDepth_6 ⟨Nat.le_of_ble_eq_true rfl, Nat.le_of_ble_eq_true rfl⟩ (fun v Z1 H locs hpost hH hS => ?_)
  obtain ⟨rfl, rfl⟩ := hpost
  rcases hrow : rowN row with _ | r
  · skip
    have e9 : (qp U (zn zs) row x) = (1, 0) := by unfold qp; rw [hrow]
    refine lv_if_ne (tgt := 18) hx hb dX3_plantDepth_9 (by decide) (fun h1 => absurd rfl h1) (fun _ => ?_)
    refine lv_aload_n hx hb dX3_plantDepth_12 rfl (lv_at hl 0 rfl) ?_
    refine lv_iconst (v := 1) hx hb dX3_plantDepth_13 (by decide) ?_
    refine cV S (c_X3_no (l := l) (D := D) (lo := lo) (Γ := Γ) (C := C) (V := V) (th := 0) (mn := mn) (tm := tm) (kt := kt) (Q := Q) (zs := zs) (be := be) (kp := kp) (n := 1)) (cwV 1 hts gX3_plantDepth_X3_no rfl rfl rfl (by decide +kernel) ⟨Nat.le_of_ble_eq_true rfl, Nat.le_of_ble_eq_true rfl⟩) hK hH (Hp_recv hK hH (gmo hH (j := 3) (by simp)).1 (gmo hH (j := 3) (by simp)).2.1 rfl) hS rfl hl.1 rfl (Nat.le_of_ble_eq_true rfl) dX3_plantDepth_14 ⟨Nat.le_of_ble_eq_true rfl, Nat.le_of_ble_eq_true rfl⟩ (fun v Z1 H locs hpost hH hS => ?_)
    obtain ⟨rfl, rfl⟩ := hpost
    exact eI S hr hlocks hH hS ⟨by rw [e9], by rw [e9]⟩ dX3_plantDepth_17
  · skip
    refine lv_if_ne (tgt := 18) hx hb dX3_plantDepth_9 (by decide) (fun _ => ?_) (fun h1 => absurd h1 (show ¬ (1 : Int32) = 0 by decide))
    refine lv_iload_n hx hb dX3_plantDepth_18 rfl (lv_at hl 2 rfl) ?_
    refine cSt S (c_X3_isSize (l := l) (D := D) (lo := lo) (Γ := Γ) (C := C) (V := V) (th := 0) (mn := mn) (tm := tm) (kt := kt) (Q := Q) (zs := zs) (be := be) (kp := kp) (x := x)) (va_cwS 1 hts gX3_plantDepth_X3_isSize rfl rfl rfl (by decide +kernel) ⟨Nat.le_of_ble_eq_true rfl, Nat.le_of_ble_eq_true rfl⟩) hK hH hS rfl hl.1 rfl (Nat.le_of_ble_eq_true rfl) dX3_plantDepth_19 ⟨Nat.le_of_ble_eq_true rfl, Nat.le_of_ble_eq_true rfl⟩ (fun v Z1 H locs hpost hH hS => ?_)
    obtain ⟨rfl, rfl⟩ := hpost
    rcases hsz : szN x with _ | n
    · skip
      have e9 : (qp U (zn zs) row x) = (2, 0) := by unfold qp; rw [hrow]; dsimp only; rw [hsz]
      refine lv_if_eq (tgt := 34) hx hb dX3_plantDepth_22 (by decide) (fun _ => ?_) (fun h1 => absurd rfl h1)
      refine lv_aload_n hx hb dX3_plantDepth_34 rfl (lv_at hl 0 rfl) ?_
      refine lv_iconst (v := 2) hx hb dX3_plantDepth_35 (by decide) ?_
      refine cV S (c_X3_no (l := l) (D := D) (lo := lo) (Γ := Γ) (C := C) (V := V) (th := 0) (mn := mn) (tm := tm) (kt := kt) (Q := Q) (zs := zs) (be := be) (kp := kp) (n := 2)) (cwV 1 hts gX3_plantDepth_X3_no rfl rfl rfl (by decide +kernel) ⟨Nat.le_of_ble_eq_true rfl, Nat.le_of_ble_eq_true rfl⟩) hK hH (Hp_recv hK hH (gmo hH (j := 3) (by simp)).1 (gmo hH (j := 3) (by simp)).2.1 rfl) hS rfl hl.1 rfl (Nat.le_of_ble_eq_true rfl) dX3_plantDepth_36 ⟨Nat.le_of_ble_eq_true rfl, Nat.le_of_ble_eq_true rfl⟩ (fun v Z1 H locs hpost hH hS => ?_)
      obtain ⟨rfl, rfl⟩ := hpost
      exact eI S hr hlocks hH hS ⟨by rw [e9], by rw [e9]⟩ dX3_plantDepth_39
    · skip
      have e9 : (qp U (zn zs) row x) = (0, if (fnd (zn zs) (n : Int) (U r)).isSome then -1 else nI (inc (zn zs) (n : Int) (U r) []).length) := by unfold qp; rw [hrow]; dsimp only; rw [hsz]
      obtain ⟨hr6, rfl⟩ := rowN_some hrow
      obtain ⟨hn9, rfl⟩ := szN_some hsz
      refine lv_if_eq (tgt := 34) hx hb dX3_plantDepth_22 (by decide) (fun h1 => absurd h1 (show ¬ (1 : Int32) = 0 by decide)) (fun _ => ?_)
      refine lv_aload_n hx hb dX3_plantDepth_25 rfl (lv_at hl 0 rfl) ?_
      refine lv_iload_n hx hb dX3_plantDepth_26 rfl (lv_at hl 1 rfl) ?_
      refine lv_iload_n hx hb dX3_plantDepth_27 rfl (lv_at hl 2 rfl) ?_
      refine cV S (c_X3_plantDeep (l := l) (D := D) (lo := lo) (Γ := Γ) (C := C) (V := V) (th := 0) (mn := mn) (tm := tm) (kt := kt) (Q := Q) (zs := zs) (be := be) (kp := kp) hr6 hn9 hM) (cwV 2 hts gX3_plantDepth_X3_plantDeep rfl rfl rfl (by decide +kernel) ⟨Nat.le_of_ble_eq_true rfl, Nat.le_of_ble_eq_true rfl⟩) hK hH (Hp_recv hK hH (gmo hH (j := 3) (by simp)).1 (gmo hH (j := 3) (by simp)).2.1 rfl) hS rfl hl.1 rfl (Nat.le_of_ble_eq_true rfl) dX3_plantDepth_28 ⟨Nat.le_of_ble_eq_true rfl, Nat.le_of_ble_eq_true rfl⟩ (fun v Z1 H locs hpost hH hS => ?_)
      obtain ⟨rfl, rfl⟩ := hpost
      refine lv_goto (tgt := 39) hx hb dX3_plantDepth_31 (by decide) ?_
      exact eI S hr hlocks hH hS ⟨by rw [e9], by rw [e9]⟩ dX3_plantDepth_39

set_option maxRecDepth 100000 in
set_option maxHeartbeats 4000000 in
theorem c_X3_meanDepth {U : Nat → Tr} {row : Int32} (hM : MI Q zs U mn) : Md l yX3_meanDepth wsX3_meanDepth (rmL 44 0 0) D lo Γ [.ref (gxa Γ 3), .int row] (C, (th, mn, tm, kt, Q, zs, be, kp), V) (some (.double (md9 U row))) (C, ((md8 row), mn, tm, kt, Q, zs, be, kp), V) := by
  refine Mz_of (cc := cX3_meanDepth) (maxL := 2) (ret := (some .double)) (by decide) rfl (Nat.le_of_ble_eq_true rfl) ?_
  intro p e s m args below meth c ls S hr hlocks hK hH hS hl
  have hx := S.1
  have hb := S.2.1
  have hts := S.2.2.2.2
  have f16 : (Cond.fieldLink RX3 16 (TX3 0).1 (TX3 0).2.1 (TX3 0).2.2.1).before args s = true := hts _ (List.mem_of_getElem? (i := 1) rfl)
  have f9 : (Cond.fieldLink RX3 9 (TX3 3).1 (TX3 3).2.1 (TX3 3).2.2.1).before args s = true := hts _ (List.mem_of_getElem? (i := 2) rfl)
  have hi3 : ∀ w ∈ wsX30, w ∈ wsX3_meanDepth := by decide +kernel
  have hl : lv_has ls 2 [(0, .ref (gxa Γ 3)), (1, .int row)] := hl
  obtain ⟨h_t, h_nd, h_mn, h_zs, h_40⟩ := id hM
  refine lv_aload_n hx hb dX3_meanDepth_0 rfl (lv_at hl 0 rfl) ?_
  refine lv_iload_n hx hb dX3_meanDepth_1 rfl (lv_at hl 1 rfl) ?_
  refine cSt S (c_X3_isRow (l := l) (D := D) (lo := lo) (Γ := Γ) (C := C) (V := V) (th := th) (mn := mn) (tm := tm) (kt := kt) (Q := Q) (zs := zs) (be := be) (kp := kp) (x := row)) (va_cwS 1 hts gX3_meanDepth_X3_isRow rfl rfl rfl (by decide +kernel) ⟨Nat.le_of_ble_eq_true rfl, Nat.le_of_ble_eq_true rfl⟩) hK hH hS rfl hl.1 rfl (Nat.le_of_ble_eq_true rfl) dX3_meanDepth_2 ⟨Nat.le_of_ble_eq_true rfl, Nat.le_of_ble_eq_true rfl⟩ (fun v Z1 H locs hpost hH hS => ?_)
  obtain ⟨rfl, rfl⟩ := hpost
  rcases hrow : rowN row with _ | r
  · skip
    have e8 : md8 row = 1 := by unfold md8; rw [hrow]
    have e9 : md9 U row = FP.dconst0 := by unfold md9; rw [hrow]
    refine lv_if_eq (tgt := 12) hx hb dX3_meanDepth_5 (by decide) (fun _ => ?_) (fun h1 => absurd rfl h1)
    refine lv_iconst (v := 1) hx hb dX3_meanDepth_12 (by decide) ?_
    refine pM S hi3 hK hH hS 0 (by decide) f16 (1, mn, tm, kt, Q, zs, be, kp) rfl rfl dX3_meanDepth_13 (fun H locs hH hS => ?_)
    refine lv_aload_n hx hb dX3_meanDepth_16 rfl (lv_at hl 0 rfl) ?_
    refine gM S hi3 hK hH 0 (by decide) f16 (v := .int (nI 1)) rfl dX3_meanDepth_17 ?_
    refine lv_if_gt (tgt := 37) hx hb dX3_meanDepth_20 (by decide) (fun _ => ?_) (fun h1 => absurd (by decide) h1)
    refine lv_dconst0 hx hb dX3_meanDepth_37 ?_
    exact eD S hr hlocks hH hS ⟨by rw [e9], by rw [e8]⟩ dX3_meanDepth_38
  · skip
    have e8 : md8 row = 0 := by unfold md8; rw [hrow]
    have e9 : md9 U row = mdp (U r) := by unfold md9; rw [hrow]
    obtain ⟨hr6, hrw⟩ := rowN_some hrow
    subst hrw
    obtain ⟨hR, hs⟩ := h_t r hr6
    obtain ⟨h_top, h_rep, h_n, h_ok⟩ := id hR
    have h40 : ∀ a ∈ tids (U r), a < 40 := fun a ha => (h_ok a ha).1
    have hlen : (tids (U r)).length ≤ 40 := Nat.le_trans (gids_le hr6) h_40
    have hh : hgt (U r) < 41 := Nat.lt_succ_of_le (Nat.le_trans (hgt_tids _) hlen)
    refine lv_if_eq (tgt := 12) hx hb dX3_meanDepth_5 (by decide) (fun h1 => absurd h1 (show ¬ (1 : Int32) = 0 by decide)) (fun _ => ?_)
    refine lv_iconst (v := 0) hx hb dX3_meanDepth_8 (by decide) ?_
    refine lv_goto (tgt := 13) hx hb dX3_meanDepth_9 (by decide) ?_
    refine pM S hi3 hK hH hS 0 (by decide) f16 (0, mn, tm, kt, Q, zs, be, kp) rfl rfl dX3_meanDepth_13 (fun H locs hH hS => ?_)
    refine lv_aload_n hx hb dX3_meanDepth_16 rfl (lv_at hl 0 rfl) ?_
    refine gM S hi3 hK hH 0 (by decide) f16 (v := .int (nI 0)) rfl dX3_meanDepth_17 ?_
    refine lv_if_gt (tgt := 37) hx hb dX3_meanDepth_20 (by decide) (fun h1 => absurd h1 (by decide)) (fun _ => ?_)
    cases hu : U r with
    | leaf u =>
      have h_top2 : Q 3 r = none := by rw [h_top, hu]; rfl
      refine lv_aload_n hx hb dX3_meanDepth_23 rfl (lv_at hl 0 rfl) ?_
      refine gM S hi3 hK hH 3 (by decide) f9 (v := .ref (gna Γ)) rfl dX3_meanDepth_24 ?_
      refine lv_sipush (v := 200) hx hb dX3_meanDepth_27 (by decide +kernel) ?_
      refine lv_iload_n hx hb dX3_meanDepth_30 rfl (lv_at hl 1 rfl) ?_
      refine lv_iadd hx hb dX3_meanDepth_31 ?_
      refine gN S hK hH (n := 200 + r) (x := -1) (nI_ofadd (a := 200) rfl) (by have := hr6; omega) (enc_tp.trans (congrArg er h_top2)) dX3_meanDepth_32 ?_
      refine lv_iconst (v := -1) hx hb dX3_meanDepth_33 (by decide) ?_
      refine lv_icmp_ne (tgt := 39) hx hb dX3_meanDepth_34 (by decide) (fun h1 => absurd rfl h1) (fun _ => ?_)
      refine lv_dconst0 hx hb dX3_meanDepth_37 ?_
      exact eD S hr hlocks hH hS ⟨by rw [e9, hu]; rfl, by rw [e8]⟩ dX3_meanDepth_38
    | branch k9 l9 r9 =>
      have h_top2 : Q 3 r = some k9 := by rw [h_top, hu]; rfl
      have lt_k9 := h40 k9 (by rw [hu]; simp [tids])
      have h0 : (tids (U r)).length ≠ 0 := by rw [hu]; simp [tids]
      refine lv_aload_n hx hb dX3_meanDepth_23 rfl (lv_at hl 0 rfl) ?_
      refine gM S hi3 hK hH 3 (by decide) f9 (v := .ref (gna Γ)) rfl dX3_meanDepth_24 ?_
      refine lv_sipush (v := 200) hx hb dX3_meanDepth_27 (by decide +kernel) ?_
      refine lv_iload_n hx hb dX3_meanDepth_30 rfl (lv_at hl 1 rfl) ?_
      refine lv_iadd hx hb dX3_meanDepth_31 ?_
      refine gN S hK hH (n := 200 + r) (x := nI k9) (nI_ofadd (a := 200) rfl) (by have := hr6; omega) (enc_tp.trans (congrArg er h_top2)) dX3_meanDepth_32 ?_
      refine lv_iconst (v := -1) hx hb dX3_meanDepth_33 (by decide) ?_
      refine lv_icmp_ne (tgt := 39) hx hb dX3_meanDepth_34 (by decide) (fun _ => ?_) (fun h1 => absurd h1 (nI_nm1 (Nat.lt_trans lt_k9 (by decide))))
      refine lv_aload_n hx hb dX3_meanDepth_39 rfl (lv_at hl 0 rfl) ?_
      refine lv_aload_n hx hb dX3_meanDepth_40 rfl (lv_at hl 0 rfl) ?_
      refine gM S hi3 hK hH 3 (by decide) f9 (v := .ref (gna Γ)) rfl dX3_meanDepth_41 ?_
      refine lv_sipush (v := 200) hx hb dX3_meanDepth_44 (by decide +kernel) ?_
      refine lv_iload_n hx hb dX3_meanDepth_47 rfl (lv_at hl 1 rfl) ?_
      refine lv_iadd hx hb dX3_meanDepth_48 ?_
      refine gN S hK hH (n := 200 + r) (x := er (rt (U r))) (nI_ofadd (a := 200) rfl) (by have := hr6; omega) (enc_tp.trans (congrArg er h_top)) dX3_meanDepth_49 ?_
      refine lv_iconst (v := 0) hx hb dX3_meanDepth_50 (by decide) ?_
      refine cV S (c_X3_depthsOf (l := l) (D := D) (lo := lo) (Γ := Γ) (C := C) (V := V) (th := 0) (mn := mn) (tm := tm) (kt := kt) (Q := Q) (zs := zs) (be := be) (kp := kp) (U r) 41 none 0 hh h_rep h40) (cwV 2 hts gX3_meanDepth_X3_depthsOf rfl rfl rfl (by decide +kernel) ⟨Nat.le_of_ble_eq_true rfl, Nat.le_of_ble_eq_true rfl⟩) hK hH (Hp_recv hK hH (gmo hH (j := 3) (by simp)).1 (gmo hH (j := 3) (by simp)).2.1 rfl) hS rfl hl.1 rfl (Nat.le_of_ble_eq_true rfl) dX3_meanDepth_51 ⟨Nat.le_of_ble_eq_true rfl, Nat.le_of_ble_eq_true rfl⟩ (fun v Z1 H locs hpost hH hS => ?_)
      obtain ⟨rfl, rfl⟩ := hpost
      refine lv_i2d hx hb dX3_meanDepth_54 ?_
      refine lv_aload_n hx hb dX3_meanDepth_55 rfl (lv_at hl 0 rfl) ?_
      refine lv_aload_n hx hb dX3_meanDepth_56 rfl (lv_at hl 0 rfl) ?_
      refine gM S hi3 hK hH 3 (by decide) f9 (v := .ref (gna Γ)) rfl dX3_meanDepth_57 ?_
      refine lv_sipush (v := 200) hx hb dX3_meanDepth_60 (by decide +kernel) ?_
      refine lv_iload_n hx hb dX3_meanDepth_63 rfl (lv_at hl 1 rfl) ?_
      refine lv_iadd hx hb dX3_meanDepth_64 ?_
      refine gN S hK hH (n := 200 + r) (x := er (rt (U r))) (nI_ofadd (a := 200) rfl) (by have := hr6; omega) (enc_tp.trans (congrArg er h_top)) dX3_meanDepth_65 ?_
      refine cV S (c_X3_count (l := l) (D := D) (lo := lo) (Γ := Γ) (C := C) (V := V) (th := 0) (mn := mn) (tm := tm) (kt := kt) (Q := Q) (zs := zs) (be := be) (kp := kp) (U r) 41 none hh h_rep h40) (cwV 1 hts gX3_meanDepth_X3_count rfl rfl rfl (by decide +kernel) ⟨Nat.le_of_ble_eq_true rfl, Nat.le_of_ble_eq_true rfl⟩) hK hH (Hp_recv hK hH (gmo hH (j := 3) (by simp)).1 (gmo hH (j := 3) (by simp)).2.1 rfl) hS rfl hl.1 rfl (Nat.le_of_ble_eq_true rfl) dX3_meanDepth_66 ⟨Nat.le_of_ble_eq_true rfl, Nat.le_of_ble_eq_true rfl⟩ (fun v Z1 H locs hpost hH hS => ?_)
      obtain ⟨rfl, rfl⟩ := hpost
      refine lv_i2d hx hb dX3_meanDepth_69 ?_
      refine lv_ddiv hx hb dX3_meanDepth_70 (Fl.ddiv_out (Fl.i2d_fin _).noNaN (Fl.i2d_fin _) (Fl.i2d_nz (nI_ne0 (Nat.pos_of_ne_zero h0) (by omega)))) ?_
      exact eD S hr hlocks hH hS ⟨by rw [e9, mdp, if_neg h0], by rw [e8]⟩ dX3_meanDepth_71
end MMod8
