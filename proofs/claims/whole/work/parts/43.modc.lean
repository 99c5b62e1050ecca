/-! METHODS of the reference: plant -/
def sdX (X : Cx) : Nat := match X with
  | [] => 0
  | (s, _, _) :: _ => bt s
def plQ (Q : PF) (r k : Nat) (X : Cx) : PF := sP (rai k X (hng (sP (sP (sP Q 0 k none) 1 k none) 2 k none) (some k) (parC X) (sdX X))) 3 r (some k)
theorem len_sub : ∀ {l1 l2 : List Nat}, l1.Nodup → (∀ a ∈ l1, a ∈ l2) → l1.length ≤ l2.length := by
  intro l1
  induction l1 with
  | nil => intros; exact Nat.zero_le _
  | cons a l ih =>
    intro l2 hn h
    obtain ⟨h1, h2⟩ := List.nodup_cons.mp hn
    have h3 := ih (l2 := l2.erase a) h2 (fun b hb => (List.mem_erase_of_ne (fun e => h1 (by rw [← e]; exact hb))).mpr (h b (by simp [hb])))
    have h4 := List.length_erase_of_mem (h a (by simp))
    have h5 := List.length_pos_of_mem (h a (by simp))
    rw [List.length_cons]
    omega
theorem MI_zs {Q : PF} {zs : Nat → Option Nat} {U : Nat → Tr} {mn : Nat} (hM : MI Q zs U mn) : ∀ k, k < 40 → ∀ n, zs k = some n → n < 1000 := by
  intro k hk n h
  obtain ⟨h_t, h_nd, h_mn, h_zs, h_40⟩ := hM
  obtain ⟨r, hr, hm⟩ := gids_mem.mp (h_zs k hk (by rw [h]; simp))
  obtain ⟨-, h2, h3⟩ := (h_t r hr).1.2.2.2 k hm
  rw [h2] at h
  cases h
  exact h3
theorem MI_free {Q : PF} {zs : Nat → Option Nat} {U : Nat → Tr} {mn : Nat} (hM : MI Q zs U mn) (hlt : mn < 40) : ∃ k, k < 40 ∧ zs k = none := by
  obtain ⟨h_t, h_nd, h_mn, h_zs, h_40⟩ := hM
  refine Decidable.byContradiction fun hc => ?_
  have h1 : ∀ k ∈ List.range 40, k ∈ gids U := fun k hk => h_zs k (List.mem_range.mp hk) (fun e => hc ⟨k, List.mem_range.mp hk, e⟩)
  have h2 := len_sub List.nodup_range h1
  rw [List.length_range] at h2
  omega
theorem planted_1 {Q : PF} {zs : Nat → Option Nat} {U : Nat → Tr} {mn r n k0 : Nat} {X : Cx} (hM : MI Q zs U mn) (hr6 : r < 6) (hn9 : n < 1000) (hk0 : zs k0 = none) (lt_k0 : k0 < 40) (hX : X = inc (zn zs) (n : Int) (U r) []) :
    sdX X < 2 ∧ (∀ b, parC X = some b → b < 40) ∧ Zp (hng (sP (sP (sP Q 0 k0 none) 1 k0 none) 2 k0 none) (some k0) (parC X) (sdX X)) (.branch k0 (.leaf ()) (.leaf ())) X ∧ (tids (plug (.branch k0 (.leaf ()) (.leaf ())) X)).Nodup ∧ ∀ b ∈ tids (plug (.branch k0 (.leaf ()) (.leaf ())) X), b < 40 := by
  obtain ⟨h_t, h_nd, h_mn, h_zs, h_40⟩ := hM
  obtain ⟨⟨a1, a2, a3, a4⟩, -⟩ := h_t r hr6
  have hp : plug (.leaf ()) X = U r := by rw [hX]; exact plug_inc (U r) []
  have hk : k0 ∉ tids (U r) := fun e => by rw [(a4 k0 e).2.1] at hk0; cases hk0
  have hids : tids (U r) = cL X ++ cR X := by
    have h9 := tids_plug X (.leaf ())
    rw [hp] at h9
    rw [h9]
    simp [tids]
  have hnew : tids (plug (.branch k0 (.leaf ()) (.leaf ())) X) = cL X ++ k0 :: cR X := by rw [tids_plug]; simp [tids]
  have hq : ∀ j x, x ≠ k0 → sP (sP (sP Q 0 k0 none) 1 k0 none) 2 k0 none j x = Q j x := fun j x h => by rw [sP_na h, sP_na h, sP_na h]
  have hrep : rep (sP (sP (sP Q 0 k0 none) 1 k0 none) 2 k0 none) none (U r) := rep_congr _ _ a2 (fun x hx => by
    have hne : x ≠ k0 := fun e => hk (by rw [← e]; exact hx)
    exact ⟨hq 0 x hne, hq 1 x hne, hq 2 x hne⟩)
  have q0 : sP (sP (sP Q 0 k0 none) 1 k0 none) 2 k0 none 0 k0 = none := by rw [sP_nk (by decide), sP_nk (by decide), sP_eq]
  have q1 : sP (sP (sP Q 0 k0 none) 1 k0 none) 2 k0 none 1 k0 = none := by rw [sP_nk (by decide), sP_eq]
  rw [← hp] at hrep hk
  have hn := a3
  rw [← hp] at hn
  have hg := (hngT_ok (t0 := 0) hrep q0 q1 hk hn).1
  refine ⟨?_, fun b hb => (a4 b (by rw [hids]; rcases parC_mem hb with h | h <;> simp [h])).1, ?_, ?_, fun b hb => ?_⟩
  · cases X with
    | nil => exact (by decide : (0 : Nat) < 2)
    | cons f X =>
      obtain ⟨s, p, u⟩ := f
      show bt s < 2
      cases s <;> decide
  · cases X with
    | nil =>
      refine ⟨⟨?_, ?_, ?_, trivial, trivial⟩, trivial⟩
      · show sP (sP (sP (sP Q 0 k0 none) 1 k0 none) 2 k0 none) 2 k0 none 2 k0 = _
        rw [sP_eq]; rfl
      · show sP (sP (sP (sP Q 0 k0 none) 1 k0 none) 2 k0 none) 2 k0 none 0 k0 = _
        rw [sP_nk (by decide), q0]; rfl
      · show sP (sP (sP (sP Q 0 k0 none) 1 k0 none) 2 k0 none) 2 k0 none 1 k0 = _
        rw [sP_nk (by decide), q1]; rfl
    | cons f X =>
      obtain ⟨s, p, u⟩ := f
      exact hg
  · rw [hnew]
    rw [hids] at a3
    obtain ⟨k1, k2, k3⟩ := List.nodup_append.mp a3
    rw [hp, hids] at hk
    refine List.nodup_append.mpr ⟨k1, List.nodup_cons.mpr ⟨fun e => hk (by simp [e]), k2⟩, fun x hx y hy e => ?_⟩
    rcases List.mem_cons.mp hy with h | h
    · exact hk (by rw [← h, ← e]; simp [hx])
    · exact k3 x hx y h e
  · rw [hnew] at hb
    rcases List.mem_append.mp hb with h | h
    · exact (a4 b (by rw [hids]; simp [h])).1
    · rcases List.mem_cons.mp h with h | h
      · rw [h]; exact lt_k0
      · exact (a4 b (by rw [hids]; simp [h])).1
section MModC
variable {l : Launch} {D : va_G} {lo : Nat} {Γ : GT} {C : CW} {V : Int64 × UInt64} {th mn tm kt : Nat} {Q : PF} {zs : Nat → Option Nat} {be : Nat → Nat} {kp : Nat → Int32}
set_option maxRecDepth 100000 in
set_option maxHeartbeats 4000000 in
theorem c_X3_planted {U : Nat → Tr} {r n : Nat} (hr6 : r < 6) (hn9 : n < 1000) (hM : MI Q zs U mn) (hlt : mn < 40) : Mz l yX3_planted wsX3_planted (rmL 6 0 0) D lo Γ [.ref (gxa Γ 3), .int (nI r), .int (nI n)] (C, (th, mn, tm, kt, Q, zs, be, kp), V) (fun v Z' => ∃ k0, k0 < 40 ∧ zs k0 = none ∧ v = some (.int (nI (inc (zn zs) (n : Int) (U r) []).length)) ∧ Z' = (C, (th, (mn + 1), (tm + (inc (zn zs) (n : Int) (U r) []).length), kt, (plQ Q r k0 (inc (zn zs) (n : Int) (U r) [])), (va_up zs k0 (some n)), (va_up be k0 0), kp), V)) := by
  refine Mz_of (cc := cX3_planted) (maxL := 7) (ret := (some .int)) (by decide) rfl (Nat.le_of_ble_eq_true rfl) ?_
  intro p e s m args below meth c ls S hr hlocks hK hH hS hl
  have hx := S.1
  have hb := S.2.1
  have hts := S.2.2.2.2
  have f9 : (Cond.fieldLink RX3 9 (TX3 3).1 (TX3 3).2.1 (TX3 3).2.2.1).before args s = true := hts _ (List.mem_of_getElem? (i := 1) rfl)
  have f78 : (Cond.fieldLink RX3 78 (TX3 1).1 (TX3 1).2.1 (TX3 1).2.2.1).before args s = true := hts _ (List.mem_of_getElem? (i := 2) rfl)
  have hi3 : ∀ w ∈ wsX30, w ∈ wsX3_planted := by decide +kernel
  have hl : lv_has ls 7 [(0, .ref (gxa Γ 3)), (1, .int (nI r)), (2, .int (nI n))] := hl
  obtain ⟨h_t, h_nd, h_mn, h_zs, h_40⟩ := id hM
  obtain ⟨hR, hs⟩ := h_t r hr6
  obtain ⟨h_top, h_rep, h_n, h_ok⟩ := id hR
  have h40 : ∀ a ∈ tids (U r), a < 40 := fun a ha => (h_ok a ha).1
  have hlen : (tids (U r)).length ≤ 40 := Nat.le_trans (gids_le hr6) h_40
  have hh : hgt (U r) < 41 := Nat.lt_succ_of_le (Nat.le_trans (hgt_tids _) hlen)
  obtain ⟨X9, hX9⟩ : ∃ X, X = (inc (zn zs) (n : Int) (U r) []) := ⟨_, rfl⟩
  refine lv_aload_n hx hb dX3_planted_0 rfl (lv_at hl 0 rfl) ?_
  refine cV S (c_X3_free (l := l) (D := D) (lo := lo) (Γ := Γ) (C := C) (V := V) (th := th) (mn := mn) (tm := tm) (kt := kt) (Q := Q) (zs := zs) (be := be) (kp := kp) (MI_zs hM) (MI_free hM hlt)) (cwV 0 hts gX3_planted_X3_free rfl rfl rfl (by decide +kernel) ⟨Nat.le_of_ble_eq_true rfl, Nat.le_of_ble_eq_true rfl⟩) hK hH (Hp_recv hK hH (gmo hH (j := 3) (by simp)).1 (gmo hH (j := 3) (by simp)).2.1 rfl) hS rfl hl.1 rfl (Nat.le_of_ble_eq_true rfl) dX3_planted_1 ⟨Nat.le_of_ble_eq_true rfl, Nat.le_of_ble_eq_true rfl⟩ (fun v Z1 H locs hpost hH hS => ?_)
  obtain ⟨k0, lt_k0, hk0, rfl, rfl⟩ := hpost
  refine lv_istore_n (lv' := [(3, .int (nI k0)), (0, .ref (gxa Γ 3)), (1, .int (nI r)), (2, .int (nI n))]) hx hb dX3_planted_4 rfl hl (by decide) rfl (fun ls hl => ?_)
  refine lv_iconst (v := -1) hx hb dX3_planted_5 (by decide) ?_
  refine lv_istore (lv' := [(4, .int (-1)), (3, .int (nI k0)), (0, .ref (gxa Γ 3)), (1, .int (nI r)), (2, .int (nI n))]) hx hb dX3_planted_6 hl (by decide) rfl (fun ls hl => ?_)
  refine lv_bipush (v := 40) hx hb dX3_planted_8 (by decide +kernel) ?_
  refine lv_istore (lv' := [(5, .int 40), (4, .int (-1)), (3, .int (nI k0)), (0, .ref (gxa Γ 3)), (1, .int (nI r)), (2, .int (nI n))]) hx hb dX3_planted_10 hl (by decide) rfl (fun ls hl => ?_)
  refine lv_aload_n hx hb dX3_planted_12 rfl (lv_at hl 3 rfl) ?_
  refine gM S hi3 hK hH 3 (by decide) f9 (v := .ref (gna Γ)) rfl dX3_planted_13 ?_
  refine lv_sipush (v := 200) hx hb dX3_planted_16 (by decide +kernel) ?_
  refine lv_iload_n hx hb dX3_planted_19 rfl (lv_at hl 4 rfl) ?_
  refine lv_iadd hx hb dX3_planted_20 ?_
  refine gN S hK hH (n := 200 + r) (x := er (rt (U r))) (nI_ofadd (a := 200) rfl) (by have := hr6; omega) (enc_tp.trans (congrArg er h_top)) dX3_planted_21 ?_
  refine lv_istore (lv' := [(6, .int (er (rt (U r)))), (5, .int 40), (4, .int (-1)), (3, .int (nI k0)), (0, .ref (gxa Γ 3)), (1, .int (nI r)), (2, .int (nI n))]) hx hb dX3_planted_22 hl (by decide) rfl (fun ls hl => ?_)
  have loop : ∀ (t' : Tr) (X : Cx), rep Q (parC X) t' → (∀ a ∈ tids t', a < 40 ∧ zs a = some (zn zs a) ∧ zn zs a < 1000) → inc (zn zs) (n : Int) t' X = X9 → ∀ ls, lv_has ls 7 [(6, .int (er (rt t'))), (5, .int (nI (40 * (sdX X + 1)))), (4, .int (er (parC X))), (3, .int (nI k0)), (0, .ref (gxa Γ 3)), (1, .int (nI r)), (2, .int (nI n))] → W p l e (rmL 6 0 0) s m args below meth c H locs 0 0 (MQ below (Qz D lo Γ (fun v Z' => ∃ k0, k0 < 40 ∧ zs k0 = none ∧ v = some (.int (nI (inc (zn zs) (n : Int) (U r) []).length)) ∧ Z' = (C, (th, (mn + 1), (tm + (inc (zn zs) (n : Int) (U r) []).length), kt, (plQ Q r k0 (inc (zn zs) (n : Int) (U r) [])), (va_up zs k0 (some n)), (va_up be k0 0), kp), V))) args s ((rmL 6 0 0) : Room).cells ((rmL 6 0 0) : Room).slots (lA lo)) (F0 m 24 ls []) := by
    intro t'
    induction t' with
    | leaf u =>
      intro X h2 ok hi ls hl
      have hi : X = X9 := hi
      subst hi
      obtain ⟨c1, c2, c3, c4, c5⟩ := planted_1 (k0 := k0) hM hr6 hn9 hk0 lt_k0 hX9
      have hl : lv_has ls 7 [(6, .int (-1)), (5, .int (nI (40 * (sdX X + 1)))), (4, .int (er (parC X))), (3, .int (nI k0)), (0, .ref (gxa Γ 3)), (1, .int (nI r)), (2, .int (nI n))] := hl
      refine lv_iload hx hb dX3_planted_24 (lv_at hl 0 rfl) ?_
      refine lv_iconst (v := -1) hx hb dX3_planted_26 (by decide) ?_
      refine lv_icmp_eq (tgt := 71) hx hb dX3_planted_27 (by decide) (fun _ => ?_) (fun h1 => absurd rfl h1)
      refine lv_aload_n hx hb dX3_planted_71 rfl (lv_at hl 4 rfl) ?_
      refine gM S hi3 hK hH 3 (by decide) f9 (v := .ref (gna Γ)) rfl dX3_planted_72 ?_
      refine lv_iconst (v := 0) hx hb dX3_planted_75 (by decide) ?_
      refine lv_iload_n hx hb dX3_planted_76 rfl (lv_at hl 3 rfl) ?_
      refine lv_iadd hx hb dX3_planted_77 ?_
      refine lv_iload_n hx hb dX3_planted_78 rfl (lv_at hl 6 rfl) ?_
      refine pNsz S hK hH hS (some n) rfl lt_k0 dX3_planted_79 (fun H locs hH hS => ?_)
      refine lv_aload_n hx hb dX3_planted_80 rfl (lv_at hl 4 rfl) ?_
      refine gM S hi3 hK hH 3 (by decide) f9 (v := .ref (gna Γ)) rfl dX3_planted_81 ?_
      refine lv_bipush (v := 40) hx hb dX3_planted_84 (by decide +kernel) ?_
      refine lv_iload_n hx hb dX3_planted_86 rfl (lv_at hl 3 rfl) ?_
      refine lv_iadd hx hb dX3_planted_87 ?_
      refine lv_iconst (v := -1) hx hb dX3_planted_88 (by decide) ?_
      refine pNsd S hK hH hS 0 none rfl rfl (by decide) lt_k0 dX3_planted_89 (fun H locs hH hS => ?_)
      refine lv_aload_n hx hb dX3_planted_90 rfl (lv_at hl 4 rfl) ?_
      refine gM S hi3 hK hH 3 (by decide) f9 (v := .ref (gna Γ)) rfl dX3_planted_91 ?_
      refine lv_bipush (v := 80) hx hb dX3_planted_94 (by decide +kernel) ?_
      refine lv_iload_n hx hb dX3_planted_96 rfl (lv_at hl 3 rfl) ?_
      refine lv_iadd hx hb dX3_planted_97 ?_
      refine lv_iconst (v := -1) hx hb dX3_planted_98 (by decide) ?_
      refine pNsd S hK hH hS 1 none rfl rfl (by decide) lt_k0 dX3_planted_99 (fun H locs hH hS => ?_)
      refine lv_aload_n hx hb dX3_planted_100 rfl (lv_at hl 4 rfl) ?_
      refine gM S hi3 hK hH 3 (by decide) f9 (v := .ref (gna Γ)) rfl dX3_planted_101 ?_
      refine lv_sipush (v := 160) hx hb dX3_planted_104 (by decide +kernel) ?_
      refine lv_iload_n hx hb dX3_planted_107 rfl (lv_at hl 3 rfl) ?_
      refine lv_iadd hx hb dX3_planted_108 ?_
      refine lv_iconst (v := 0) hx hb dX3_planted_109 (by decide) ?_
      refine pNea S hK hH hS 0 rfl lt_k0 dX3_planted_110 (fun H locs hH hS => ?_)
      refine lv_aload_n hx hb dX3_planted_111 rfl (lv_at hl 4 rfl) ?_
      refine gM S hi3 hK hH 3 (by decide) f9 (v := .ref (gna Γ)) rfl dX3_planted_112 ?_
      refine lv_bipush (v := 120) hx hb dX3_planted_115 (by decide +kernel) ?_
      refine lv_iload_n hx hb dX3_planted_117 rfl (lv_at hl 3 rfl) ?_
      refine lv_iadd hx hb dX3_planted_118 ?_
      refine lv_iconst (v := -1) hx hb dX3_planted_119 (by decide) ?_
      refine pNsd S hK hH hS 2 none rfl rfl (by decide) lt_k0 dX3_planted_120 (fun H locs hH hS => ?_)
      refine lv_aload_n hx hb dX3_planted_121 rfl (lv_at hl 4 rfl) ?_
      refine lv_iload_n hx hb dX3_planted_122 rfl (lv_at hl 3 rfl) ?_
      refine lv_iload hx hb dX3_planted_123 (lv_at hl 2 rfl) ?_
      refine lv_iload hx hb dX3_planted_125 (lv_at hl 1 rfl) ?_
      refine cV S (c_X3_hang (l := l) (D := D) (lo := lo) (Γ := Γ) (C := C) (V := V) (th := th) (mn := mn) (tm := tm) (kt := kt) (Q := (sP (sP (sP Q 0 k0 none) 1 k0 none) 2 k0 none)) (zs := (va_up zs k0 (some n))) (be := (va_up be k0 0)) (kp := kp) (j := sdX X) (k := some k0) (up := parC X) c1 (fun b h => by cases h; exact lt_k0) c2) (cwV 3 hts gX3_planted_X3_hang rfl rfl rfl (by decide +kernel) ⟨Nat.le_of_ble_eq_true rfl, Nat.le_of_ble_eq_true rfl⟩) hK hH (Hp_recv hK hH (gmo hH (j := 3) (by simp)).1 (gmo hH (j := 3) (by simp)).2.1 rfl) hS rfl hl.1 rfl (Nat.le_of_ble_eq_true rfl) dX3_planted_127 ⟨Nat.le_of_ble_eq_true rfl, Nat.le_of_ble_eq_true rfl⟩ (fun v Z1 H locs hpost hH hS => ?_)
      obtain ⟨rfl, rfl⟩ := hpost
      refine lv_aload_n hx hb dX3_planted_130 rfl (lv_at hl 4 rfl) ?_
      refine lv_dup hx hb dX3_planted_131 rfl ?_
      refine gM S hi3 hK hH 1 (by decide) f78 (v := .int (nI mn)) rfl dX3_planted_132 ?_
      refine lv_iconst (v := 1) hx hb dX3_planted_135 (by decide) ?_
      refine lv_iadd hx hb dX3_planted_136 ?_
      rw [nI_1 mn]
      refine pM S hi3 hK hH hS 1 (by decide) f78 (th, (mn + 1), tm, kt, (hng (sP (sP (sP Q 0 k0 none) 1 k0 none) 2 k0 none) (some k0) (parC X) (sdX X)), (va_up zs k0 (some n)), (va_up be k0 0), kp) rfl rfl dX3_planted_137 (fun H locs hH hS => ?_)
      refine lv_aload_n hx hb dX3_planted_140 rfl (lv_at hl 4 rfl) ?_
      refine lv_iload_n hx hb dX3_planted_141 rfl (lv_at hl 3 rfl) ?_
      refine cV S (c_X3_deep (l := l) (D := D) (lo := lo) (Γ := Γ) (C := C) (V := V) (th := th) (mn := (mn + 1)) (tm := tm) (kt := kt) (Q := (hng (sP (sP (sP Q 0 k0 none) 1 k0 none) 2 k0 none) (some k0) (parC X) (sdX X))) (zs := (va_up zs k0 (some n))) (be := (va_up be k0 0)) (kp := kp) c3 c5) (cwV 1 hts gX3_planted_X3_deep rfl rfl rfl (by decide +kernel) ⟨Nat.le_of_ble_eq_true rfl, Nat.le_of_ble_eq_true rfl⟩) hK hH (Hp_recv hK hH (gmo hH (j := 3) (by simp)).1 (gmo hH (j := 3) (by simp)).2.1 rfl) hS rfl hl.1 rfl (Nat.le_of_ble_eq_true rfl) dX3_planted_142 ⟨Nat.le_of_ble_eq_true rfl, Nat.le_of_ble_eq_true rfl⟩ (fun v Z1 H locs hpost hH hS => ?_)
      obtain ⟨rfl, rfl⟩ := hpost
      refine lv_istore (lv' := [(6, .int (nI X.length)), (5, .int (nI (40 * (sdX X + 1)))), (4, .int (er (parC X))), (3, .int (nI k0)), (0, .ref (gxa Γ 3)), (1, .int (nI r)), (2, .int (nI n))]) hx hb dX3_planted_145 hl (by decide) rfl (fun ls hl => ?_)
      refine lv_aload_n hx hb dX3_planted_147 rfl (lv_at hl 4 rfl) ?_
      refine lv_iload_n hx hb dX3_planted_148 rfl (lv_at hl 5 rfl) ?_
      refine lv_iload_n hx hb dX3_planted_149 rfl (lv_at hl 3 rfl) ?_
      refine cV S (c_X3_raiseIn (l := l) (D := D) (lo := lo) (Γ := Γ) (C := C) (V := V) (th := th) (mn := (mn + 1)) (tm := tm) (kt := kt) (Q := (hng (sP (sP (sP Q 0 k0 none) 1 k0 none) 2 k0 none) (some k0) (parC X) (sdX X))) (zs := (va_up zs k0 (some n))) (be := (va_up be k0 0)) (kp := kp) hr6 c3 c4 c5) (cwV 2 hts gX3_planted_X3_raiseIn rfl rfl rfl (by decide +kernel) ⟨Nat.le_of_ble_eq_true rfl, Nat.le_of_ble_eq_true rfl⟩) hK hH (Hp_recv hK hH (gmo hH (j := 3) (by simp)).1 (gmo hH (j := 3) (by simp)).2.1 rfl) hS rfl hl.1 rfl (Nat.le_of_ble_eq_true rfl) dX3_planted_150 ⟨Nat.le_of_ble_eq_true rfl, Nat.le_of_ble_eq_true rfl⟩ (fun v Z1 H locs hpost hH hS => ?_)
      obtain ⟨rfl, rfl⟩ := hpost
      refine lv_iload hx hb dX3_planted_153 (lv_at hl 0 rfl) ?_
      exact eI S hr hlocks hH hS ⟨k0, lt_k0, hk0, by rw [← hX9], by rw [← hX9]; rfl⟩ dX3_planted_155
    | branch k l9 r9 ihl ihr =>
      intro X h2 ok hi ls hl
      obtain ⟨g2, g0, g1, gl, gr⟩ := h2
      obtain ⟨lt_k, hzk, hz1⟩ := ok k (by simp [tids])
      have okl : ∀ a ∈ tids l9, a < 40 ∧ zs a = some (zn zs a) ∧ zn zs a < 1000 := fun a ha => ok a (by simp [tids, ha])
      have okr : ∀ a ∈ tids r9, a < 40 ∧ zs a = some (zn zs a) ∧ zn zs a < 1000 := fun a ha => ok a (by simp [tids, ha])
      rw [inc] at hi
      have hl : lv_has ls 7 [(6, .int (nI k)), (5, .int (nI (40 * (sdX X + 1)))), (4, .int (er (parC X))), (3, .int (nI k0)), (0, .ref (gxa Γ 3)), (1, .int (nI r)), (2, .int (nI n))] := hl
      refine lv_iload hx hb dX3_planted_24 (lv_at hl 0 rfl) ?_
      refine lv_iconst (v := -1) hx hb dX3_planted_26 (by decide) ?_
      refine lv_icmp_eq (tgt := 71) hx hb dX3_planted_27 (by decide) (fun h1 => absurd h1 (nI_nm1 (Nat.lt_trans lt_k (by decide)))) (fun _ => ?_)
      refine lv_iload hx hb dX3_planted_30 (lv_at hl 0 rfl) ?_
      refine lv_istore (lv' := [(4, .int (nI k)), (6, .int (nI k)), (5, .int (nI (40 * (sdX X + 1)))), (3, .int (nI k0)), (0, .ref (gxa Γ 3)), (1, .int (nI r)), (2, .int (nI n))]) hx hb dX3_planted_32 hl (by decide) rfl (fun ls hl => ?_)
      refine lv_iload_n hx hb dX3_planted_34 rfl (lv_at hl 6 rfl) ?_
      refine lv_aload_n hx hb dX3_planted_35 rfl (lv_at hl 4 rfl) ?_
      refine gM S hi3 hK hH 3 (by decide) f9 (v := .ref (gna Γ)) rfl dX3_planted_36 ?_
      refine lv_iconst (v := 0) hx hb dX3_planted_39 (by decide) ?_
      refine lv_iload hx hb dX3_planted_40 (lv_at hl 1 rfl) ?_
      refine lv_iadd hx hb dX3_planted_42 ?_
      refine gN S hK hH (n := k) (x := nI (zn zs k)) ((nI_ofadd (a := 0) rfl).trans (by rw [Nat.zero_add])) (Nat.lt_trans lt_k (by decide)) ((enc_sz lt_k).trans (congrArg er hzk)) dX3_planted_43 ?_
      refine lv_icmp_ge (tgt := 52) hx hb dX3_planted_44 (by decide) (fun h2 => ?_) (fun h2 => ?_)
      · skip
        have h3 : ¬ (n : Int) < (zn zs k : Int) := by have := (nI_leI (by omega) (by omega)).mp h2; omega
        rw [if_neg h3] at hi
        refine lv_bipush (v := 80) hx hb dX3_planted_52 (by decide +kernel) ?_
        refine lv_istore (lv' := [(5, .int 80), (4, .int (nI k)), (6, .int (nI k)), (3, .int (nI k0)), (0, .ref (gxa Γ 3)), (1, .int (nI r)), (2, .int (nI n))]) hx hb dX3_planted_54 hl (by decide) rfl (fun ls hl => ?_)
        refine lv_aload_n hx hb dX3_planted_56 rfl (lv_at hl 4 rfl) ?_
        refine gM S hi3 hK hH 3 (by decide) f9 (v := .ref (gna Γ)) rfl dX3_planted_57 ?_
        refine lv_iload hx hb dX3_planted_60 (lv_at hl 0 rfl) ?_
        refine lv_iload hx hb dX3_planted_62 (lv_at hl 2 rfl) ?_
        refine lv_iadd hx hb dX3_planted_64 ?_
        refine gN S hK hH (n := 40 * (1 + 1) + k) (x := er (rt r9)) (nI_ofadd rfl) (by have := lt_k; omega) ((enc_sd (by decide) lt_k).trans (congrArg er g1)) dX3_planted_65 ?_
        refine lv_istore (lv' := [(6, .int (er (rt r9))), (5, .int 80), (4, .int (nI k)), (3, .int (nI k0)), (0, .ref (gxa Γ 3)), (1, .int (nI r)), (2, .int (nI n))]) hx hb dX3_planted_66 hl (by decide) rfl (fun ls hl => ?_)
        refine lv_goto (tgt := 24) hx hb dX3_planted_68 (by decide) ?_
        exact ihr ((true, k, l9) :: X) gr okr hi ls (lv_sub hl [0, 1, 2, 3, 4, 5, 6] rfl)
      · skip
        have h3 : (n : Int) < (zn zs k : Int) := by have := mt (nI_leI (a := zn zs k) (b := n) (by omega) (by omega)).mpr h2; omega
        rw [if_pos h3] at hi
        refine lv_bipush (v := 40) hx hb dX3_planted_47 (by decide +kernel) ?_
        refine lv_goto (tgt := 54) hx hb dX3_planted_49 (by decide) ?_
        refine lv_istore (lv' := [(5, .int 40), (4, .int (nI k)), (6, .int (nI k)), (3, .int (nI k0)), (0, .ref (gxa Γ 3)), (1, .int (nI r)), (2, .int (nI n))]) hx hb dX3_planted_54 hl (by decide) rfl (fun ls hl => ?_)
        refine lv_aload_n hx hb dX3_planted_56 rfl (lv_at hl 4 rfl) ?_
        refine gM S hi3 hK hH 3 (by decide) f9 (v := .ref (gna Γ)) rfl dX3_planted_57 ?_
        refine lv_iload hx hb dX3_planted_60 (lv_at hl 0 rfl) ?_
        refine lv_iload hx hb dX3_planted_62 (lv_at hl 2 rfl) ?_
        refine lv_iadd hx hb dX3_planted_64 ?_
        refine gN S hK hH (n := 40 * (0 + 1) + k) (x := er (rt l9)) (nI_ofadd rfl) (by have := lt_k; omega) ((enc_sd (by decide) lt_k).trans (congrArg er g0)) dX3_planted_65 ?_
        refine lv_istore (lv' := [(6, .int (er (rt l9))), (5, .int 40), (4, .int (nI k)), (3, .int (nI k0)), (0, .ref (gxa Γ 3)), (1, .int (nI r)), (2, .int (nI n))]) hx hb dX3_planted_66 hl (by decide) rfl (fun ls hl => ?_)
        refine lv_goto (tgt := 24) hx hb dX3_planted_68 (by decide) ?_
        exact ihl ((false, k, r9) :: X) gl okl hi ls (lv_sub hl [0, 1, 2, 3, 4, 5, 6] rfl)
  exact loop (U r) [] h_rep h_ok hX9.symm ls (lv_sub hl [0, 1, 2, 3, 4, 5, 6] rfl)

set_option maxRecDepth 100000 in
set_option maxHeartbeats 4000000 in
theorem c_X3_plant {U : Nat → Tr} {row x : Int32} (hM : MI Q zs U mn) : Mz l yX3_plant wsX3_plant (rmL 44 0 0) D lo Γ [.ref (gxa Γ 3), .int row, .int x] (C, (th, mn, tm, kt, Q, zs, be, kp), V) (fun v Z' => (∃ r n k0, rowN row = some r ∧ szN x = some n ∧ mn < 40 ∧ fnd (zn zs) (n : Int) (U r) = none ∧ k0 < 40 ∧ zs k0 = none ∧ v = some (.int (nI (inc (zn zs) (n : Int) (U r) []).length)) ∧ Z' = (C, (0, (mn + 1), (tm + (inc (zn zs) (n : Int) (U r) []).length), kt, (plQ Q r k0 (inc (zn zs) (n : Int) (U r) [])), (va_up zs k0 (some n)), (va_up be k0 0), kp), V)) ∨ (rowN row = none ∧ v = some (.int 0) ∧ Z' = (C, (1, mn, tm, kt, Q, zs, be, kp), V)) ∨ ((∃ r, rowN row = some r) ∧ szN x = none ∧ v = some (.int 0) ∧ Z' = (C, (2, mn, tm, kt, Q, zs, be, kp), V)) ∨ (∃ r n, rowN row = some r ∧ szN x = some n ∧ (¬ mn < 40 ∨ ∃ a, fnd (zn zs) (n : Int) (U r) = some a) ∧ v = some (.int 0) ∧ Z' = (C, (3, mn, tm, kt, Q, zs, be, kp), V))) := by
  refine Mz_of (cc := cX3_plant) (maxL := 3) (ret := (some .int)) (by decide) rfl (Nat.le_of_ble_eq_true rfl) ?_
  intro p e s m args below meth c ls S hr hlocks hK hH hS hl
  have hx := S.1
  have hb := S.2.1
  have hts := S.2.2.2.2
  have f16 : (Cond.fieldLink RX3 16 (TX3 0).1 (TX3 0).2.1 (TX3 0).2.2.1).before args s = true := hts _ (List.mem_of_getElem? (i := 1) rfl)
  have f78 : (Cond.fieldLink RX3 78 (TX3 1).1 (TX3 1).2.1 (TX3 1).2.2.1).before args s = true := hts _ (List.mem_of_getElem? (i := 2) rfl)
  have hi3 : ∀ w ∈ wsX30, w ∈ wsX3_plant := by decide +kernel
  have hl : lv_has ls 3 [(0, .ref (gxa Γ 3)), (1, .int row), (2, .int x)] := hl
  obtain ⟨h_t, h_nd, h_mn, h_zs, h_40⟩ := id hM
  have hmn40 : mn ≤ 40 := by omega
  refine lv_aload_n hx hb dX3_plant_0 rfl (lv_at hl 0 rfl) ?_
  refine lv_iconst (v := 0) hx hb dX3_plant_1 (by decide) ?_
  refine pM S hi3 hK hH hS 0 (by decide) f16 (0, mn, tm, kt, Q, zs, be, kp) rfl rfl dX3_plant_2 (fun H locs hH hS => ?_)
  refine lv_iload_n hx hb dX3_plant_5 rfl (lv_at hl 1 rfl) ?_
  refine cSt S (c_X3_isRow (l := l) (D := D) (lo := lo) (Γ := Γ) (C := C) (V := V) (th := 0) (mn := mn) (tm := tm) (kt := kt) (Q := Q) (zs := zs) (be := be) (kp := kp) (x := row)) (va_cwS 1 hts gX3_plant_X3_isRow rfl rfl rfl (by decide +kernel) ⟨Nat.le_of_ble_eq_true rfl, Nat.le_of_ble_eq_true rfl⟩) hK hH hS rfl hl.1 rfl (Nat.le_of_ble_eq_true rfl) dX3_plant_6 ⟨Nat.le_of_ble_eq_true rfl, Nat.le_of_ble_eq_true rfl⟩ (fun v Z1 H locs hpost hH hS => ?_)
  obtain ⟨rfl, rfl⟩ := hpost
  rcases hrow : rowN row with _ | r
  · skip
    refine lv_if_ne (tgt := 18) hx hb dX3_plant_9 (by decide) (fun h1 => absurd rfl h1) (fun _ => ?_)
    refine lv_aload_n hx hb dX3_plant_12 rfl (lv_at hl 0 rfl) ?_
    refine lv_iconst (v := 1) hx hb dX3_plant_13 (by decide) ?_
    refine cV S (c_X3_no (l := l) (D := D) (lo := lo) (Γ := Γ) (C := C) (V := V) (th := 0) (mn := mn) (tm := tm) (kt := kt) (Q := Q) (zs := zs) (be := be) (kp := kp) (n := 1)) (cwV 1 hts gX3_plant_X3_no rfl rfl rfl (by decide +kernel) ⟨Nat.le_of_ble_eq_true rfl, Nat.le_of_ble_eq_true rfl⟩) hK hH (Hp_recv hK hH (gmo hH (j := 3) (by simp)).1 (gmo hH (j := 3) (by simp)).2.1 rfl) hS rfl hl.1 rfl (Nat.le_of_ble_eq_true rfl) dX3_plant_14 ⟨Nat.le_of_ble_eq_true rfl, Nat.le_of_ble_eq_true rfl⟩ (fun v Z1 H locs hpost hH hS => ?_)
    obtain ⟨rfl, rfl⟩ := hpost
    exact eI S hr hlocks hH hS (Or.inr (Or.inl ⟨rfl, rfl, rfl⟩)) dX3_plant_17
  · skip
    refine lv_if_ne (tgt := 18) hx hb dX3_plant_9 (by decide) (fun _ => ?_) (fun h1 => absurd h1 (show ¬ (1 : Int32) = 0 by decide))
    refine lv_iload_n hx hb dX3_plant_18 rfl (lv_at hl 2 rfl) ?_
    refine cSt S (c_X3_isSize (l := l) (D := D) (lo := lo) (Γ := Γ) (C := C) (V := V) (th := 0) (mn := mn) (tm := tm) (kt := kt) (Q := Q) (zs := zs) (be := be) (kp := kp) (x := x)) (va_cwS 1 hts gX3_plant_X3_isSize rfl rfl rfl (by decide +kernel) ⟨Nat.le_of_ble_eq_true rfl, Nat.le_of_ble_eq_true rfl⟩) hK hH hS rfl hl.1 rfl (Nat.le_of_ble_eq_true rfl) dX3_plant_19 ⟨Nat.le_of_ble_eq_true rfl, Nat.le_of_ble_eq_true rfl⟩ (fun v Z1 H locs hpost hH hS => ?_)
    obtain ⟨rfl, rfl⟩ := hpost
    rcases hsz : szN x with _ | n
    · skip
      refine lv_if_ne (tgt := 31) hx hb dX3_plant_22 (by decide) (fun h1 => absurd rfl h1) (fun _ => ?_)
      refine lv_aload_n hx hb dX3_plant_25 rfl (lv_at hl 0 rfl) ?_
      refine lv_iconst (v := 2) hx hb dX3_plant_26 (by decide) ?_
      refine cV S (c_X3_no (l := l) (D := D) (lo := lo) (Γ := Γ) (C := C) (V := V) (th := 0) (mn := mn) (tm := tm) (kt := kt) (Q := Q) (zs := zs) (be := be) (kp := kp) (n := 2)) (cwV 1 hts gX3_plant_X3_no rfl rfl rfl (by decide +kernel) ⟨Nat.le_of_ble_eq_true rfl, Nat.le_of_ble_eq_true rfl⟩) hK hH (Hp_recv hK hH (gmo hH (j := 3) (by simp)).1 (gmo hH (j := 3) (by simp)).2.1 rfl) hS rfl hl.1 rfl (Nat.le_of_ble_eq_true rfl) dX3_plant_27 ⟨Nat.le_of_ble_eq_true rfl, Nat.le_of_ble_eq_true rfl⟩ (fun v Z1 H locs hpost hH hS => ?_)
      obtain ⟨rfl, rfl⟩ := hpost
      exact eI S hr hlocks hH hS (Or.inr (Or.inr (Or.inl ⟨⟨r, rfl⟩, rfl, rfl, rfl⟩))) dX3_plant_30
    · skip
      obtain ⟨hr6, hrw⟩ := rowN_some hrow
      obtain ⟨hn9, hnx⟩ := szN_some hsz
      subst hrw hnx
      have hzn : (nI n).toInt = (n : Int) := nI_toInt (by omega)
      refine lv_if_ne (tgt := 31) hx hb dX3_plant_22 (by decide) (fun _ => ?_) (fun h1 => absurd h1 (show ¬ (1 : Int32) = 0 by decide))
      obtain ⟨hR, hs⟩ := h_t r hr6
      obtain ⟨h_top, h_rep, h_n, h_ok⟩ := id hR
      have h40 : ∀ a ∈ tids (U r), a < 40 := fun a ha => (h_ok a ha).1
      have hlen : (tids (U r)).length ≤ 40 := Nat.le_trans (gids_le hr6) h_40
      have hh : hgt (U r) < 41 := Nat.lt_succ_of_le (Nat.le_trans (hgt_tids _) hlen)
      refine lv_aload_n hx hb dX3_plant_31 rfl (lv_at hl 0 rfl) ?_
      refine gM S hi3 hK hH 1 (by decide) f78 (v := .int (nI mn)) rfl dX3_plant_32 ?_
      refine lv_bipush (v := 40) hx hb dX3_plant_35 (by decide +kernel) ?_
      refine lv_icmp_eq (tgt := 50) hx hb dX3_plant_37 (by decide) (fun h1 => ?_) (fun h1 => ?_)
      · skip
        have h1 : mn = 40 := nI_inj9 (by omega) (by omega) h1
        refine lv_aload_n hx hb dX3_plant_50 rfl (lv_at hl 0 rfl) ?_
        refine lv_iconst (v := 3) hx hb dX3_plant_51 (by decide) ?_
        refine cV S (c_X3_no (l := l) (D := D) (lo := lo) (Γ := Γ) (C := C) (V := V) (th := 0) (mn := mn) (tm := tm) (kt := kt) (Q := Q) (zs := zs) (be := be) (kp := kp) (n := 3)) (cwV 1 hts gX3_plant_X3_no rfl rfl rfl (by decide +kernel) ⟨Nat.le_of_ble_eq_true rfl, Nat.le_of_ble_eq_true rfl⟩) hK hH (Hp_recv hK hH (gmo hH (j := 3) (by simp)).1 (gmo hH (j := 3) (by simp)).2.1 rfl) hS rfl hl.1 rfl (Nat.le_of_ble_eq_true rfl) dX3_plant_52 ⟨Nat.le_of_ble_eq_true rfl, Nat.le_of_ble_eq_true rfl⟩ (fun v Z1 H locs hpost hH hS => ?_)
        obtain ⟨rfl, rfl⟩ := hpost
        exact eI S hr hlocks hH hS (Or.inr (Or.inr (Or.inr ⟨r, n, rfl, rfl, Or.inl (by omega), rfl, rfl⟩))) dX3_plant_55
      · skip
        have hlt9 : mn ≠ 40 := fun e => h1 (by rw [e]; rfl)
        have hlt : mn < 40 := by omega
        refine lv_aload_n hx hb dX3_plant_40 rfl (lv_at hl 0 rfl) ?_
        refine lv_iload_n hx hb dX3_plant_41 rfl (lv_at hl 1 rfl) ?_
        refine lv_iload_n hx hb dX3_plant_42 rfl (lv_at hl 2 rfl) ?_
        refine cV S (c_X3_find (l := l) (D := D) (lo := lo) (Γ := Γ) (C := C) (V := V) (th := 0) (mn := mn) (tm := tm) (kt := kt) (Q := Q) (zs := zs) (be := be) (kp := kp) (x := nI n) hr6 hR) (cwV 2 hts gX3_plant_X3_find rfl rfl rfl (by decide +kernel) ⟨Nat.le_of_ble_eq_true rfl, Nat.le_of_ble_eq_true rfl⟩) hK hH (Hp_recv hK hH (gmo hH (j := 3) (by simp)).1 (gmo hH (j := 3) (by simp)).2.1 rfl) hS rfl hl.1 rfl (Nat.le_of_ble_eq_true rfl) dX3_plant_43 ⟨Nat.le_of_ble_eq_true rfl, Nat.le_of_ble_eq_true rfl⟩ (fun v Z1 H locs hpost hH hS => ?_)
        obtain ⟨rfl, rfl⟩ := hpost
        rw [hzn]
        cases hf : fnd (zn zs) (n : Int) (U r) with
        | none =>
          refine lv_iconst (v := -1) hx hb dX3_plant_46 (by decide) ?_
          refine lv_icmp_eq (tgt := 56) hx hb dX3_plant_47 (by decide) (fun _ => ?_) (fun h1 => absurd rfl h1)
          refine lv_aload_n hx hb dX3_plant_56 rfl (lv_at hl 0 rfl) ?_
          refine lv_iload_n hx hb dX3_plant_57 rfl (lv_at hl 1 rfl) ?_
          refine lv_iload_n hx hb dX3_plant_58 rfl (lv_at hl 2 rfl) ?_
          refine cV S (c_X3_planted (l := l) (D := D) (lo := lo) (Γ := Γ) (C := C) (V := V) (th := 0) (mn := mn) (tm := tm) (kt := kt) (Q := Q) (zs := zs) (be := be) (kp := kp) hr6 hn9 hM hlt) (cwV 2 hts gX3_plant_X3_planted rfl rfl rfl (by decide +kernel) ⟨Nat.le_of_ble_eq_true rfl, Nat.le_of_ble_eq_true rfl⟩) hK hH (Hp_recv hK hH (gmo hH (j := 3) (by simp)).1 (gmo hH (j := 3) (by simp)).2.1 rfl) hS rfl hl.1 rfl (Nat.le_of_ble_eq_true rfl) dX3_plant_59 ⟨Nat.le_of_ble_eq_true rfl, Nat.le_of_ble_eq_true rfl⟩ (fun v Z1 H locs hpost hH hS => ?_)
          obtain ⟨k0, lt_k0, hk0, rfl, rfl⟩ := hpost
          exact eI S hr hlocks hH hS (Or.inl ⟨r, n, k0, rfl, rfl, hlt, hf, lt_k0, hk0, rfl, rfl⟩) dX3_plant_62
        | some a =>
          have lt_a := h40 a (fnd_mem _ _ hf).1
          refine lv_iconst (v := -1) hx hb dX3_plant_46 (by decide) ?_
          refine lv_icmp_eq (tgt := 56) hx hb dX3_plant_47 (by decide) (fun h1 => absurd h1 (nI_nm1 (Nat.lt_trans lt_a (by decide)))) (fun _ => ?_)
          refine lv_aload_n hx hb dX3_plant_50 rfl (lv_at hl 0 rfl) ?_
          refine lv_iconst (v := 3) hx hb dX3_plant_51 (by decide) ?_
          refine cV S (c_X3_no (l := l) (D := D) (lo := lo) (Γ := Γ) (C := C) (V := V) (th := 0) (mn := mn) (tm := tm) (kt := kt) (Q := Q) (zs := zs) (be := be) (kp := kp) (n := 3)) (cwV 1 hts gX3_plant_X3_no rfl rfl rfl (by decide +kernel) ⟨Nat.le_of_ble_eq_true rfl, Nat.le_of_ble_eq_true rfl⟩) hK hH (Hp_recv hK hH (gmo hH (j := 3) (by simp)).1 (gmo hH (j := 3) (by simp)).2.1 rfl) hS rfl hl.1 rfl (Nat.le_of_ble_eq_true rfl) dX3_plant_52 ⟨Nat.le_of_ble_eq_true rfl, Nat.le_of_ble_eq_true rfl⟩ (fun v Z1 H locs hpost hH hS => ?_)
          obtain ⟨rfl, rfl⟩ := hpost
          exact eI S hr hlocks hH hS (Or.inr (Or.inr (Or.inr ⟨r, n, rfl, rfl, Or.inr ⟨a, hf⟩, rfl, rfl⟩))) dX3_plant_55
end MModC
