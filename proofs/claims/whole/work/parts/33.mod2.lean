/-! METHODS of the reference: turns, bringing up -/
theorem er_k {r : Option Nat} {k : Nat} (h : ∀ b, r = some b → b < 40) (hk : k < 40) : er r = nI k ↔ r = some k := by
  cases r with
  | none => exact ⟨fun e => absurd e.symm (nI_nm1 (by omega)), fun e => by cases e⟩
  | some b =>
    have hb := h b rfl
    refine ⟨fun e => ?_, fun e => by cases e; rfl⟩
    have h1 : (nI b).toInt = (b : Int) := nI_toInt (by omega)
    have h2 : (nI k).toInt = (k : Int) := nI_toInt (by omega)
    have e : nI b = nI k := e
    rw [e, h2] at h1
    rw [show b = k by omega]
theorem turn_b {Q : PF} {k p : Nat} {sd : Bool} {lt9 r9 u : Tr} {X : Cx} (hz : Zp Q (.branch k lt9 r9) ((sd, p, u) :: X)) (h40 : ∀ b ∈ tids (plug (.branch k lt9 r9) ((sd, p, u) :: X)), b < 40) :
    k < 40 ∧ p < 40 ∧ Q 2 k = some p ∧ Q 2 p = parC X ∧ (∀ b, Q 0 p = some b → b < 40) ∧ (∀ j, j < 2 → ∀ b, Q j k = some b → b < 40) ∧ (∀ s2 q u2 X2, X = (s2, q, u2) :: X2 → q < 40 ∧ ∀ b, Q 0 q = some b → b < 40) := by
  obtain ⟨⟨h2, h0, h1, -, -⟩, c1, c2, c3, c4, c5⟩ := hz
  have e := tids_plug ((sd, p, u) :: X) (.branch k lt9 r9)
  have hk : k < 40 := h40 k (by rw [e]; simp [tids])
  have hp : p < 40 := h40 p (by rw [e]; cases sd <;> simp [cL, cR])
  have hu : ∀ b, rt u = some b → b < 40 := fun b hb => h40 b (by have := rt_mem hb; rw [e]; cases sd <;> simp [cL, cR, this])
  refine ⟨hk, hp, h2, c4, fun b hb => ?_, fun j hj b hb => ?_, fun s2 q u2 X2 hX => ?_⟩
  · cases sd
    · have c1 : Q 0 p = some k := c1
      rw [c1] at hb; cases hb; exact hk
    · have c2 : Q 0 p = rt u := c2
      rw [c2] at hb; exact hu b hb
  · have : j = 0 ∨ j = 1 := by omega
    rcases this with rfl | rfl
    · rw [h0] at hb; exact h40 b (by have := rt_mem hb; rw [e]; simp [tids, this])
    · rw [h1] at hb; exact h40 b (by have := rt_mem hb; rw [e]; simp [tids, this])
  · subst hX
    obtain ⟨d1, d2, d3, -⟩ := c5
    have hq : q < 40 := h40 q (by rw [e]; cases sd <;> cases s2 <;> simp [cL, cR])
    refine ⟨hq, fun b hb => ?_⟩
    cases s2
    · have d1 : Q 0 q = some p := d1
      rw [d1] at hb; cases hb; exact hp
    · have d2 : Q 0 q = rt u2 := d2
      rw [d2] at hb
      exact h40 b (by have := rt_mem hb; rw [e]; cases sd <;> simp [cL, cR, this])
theorem sdd_z {Q : PF} {k p : Nat} {sd : Bool} {u : Tr} {X : Cx} (h : repC Q (some k) ((sd, p, u) :: X)) (hk : k ∉ tids u) : sdd Q k p = bt sd := by
  obtain ⟨c1, c2, -⟩ := h
  unfold sdd
  cases sd
  · have c1 : Q 0 p = some k := c1
    rw [if_pos c1]; rfl
  · have c2 : Q 0 p = rt u := c2
    rw [if_neg (fun e => hk (rt_mem (by rw [← c2]; exact e)))]; rfl
theorem sdd_oz {Q : PF} {k p : Nat} {sd : Bool} {l r u : Tr} {X : Cx} (hz : Zp Q (.branch k l r) ((sd, p, u) :: X)) (hn : (tids (plug (.branch k l r) ((sd, p, u) :: X))).Nodup) : sdd Q k p = bt sd :=
  sdd_z hz.2 (fun q => ((trn_apart hn).2.2.1 k q).1 rfl)
theorem sdd_of2 {Q : PF} {k p1 p2 : Nat} {s1 s2 : Bool} {l r u1 u2 : Tr} {X : Cx} (hz : Zp Q (.branch k l r) ((s1, p1, u1) :: (s2, p2, u2) :: X)) (hn : (tids (plug (.branch k l r) ((s1, p1, u1) :: (s2, p2, u2) :: X))).Nodup) : sdd Q p1 p2 = bt s2 :=
  sdd_z hz.2.2.2.2.2 (trn_apart3 hn)
theorem rai_mid_ne {Q : PF} {k p1 : Nat} {s1 : Bool} {l r u1 : Tr} {X : Cx} (hz : Zp Q (.branch k l r) ((s1, p1, u1) :: X)) (hn : (tids (plug (.branch k l r) ((s1, p1, u1) :: X))).Nodup) :
    Zp (trn Q k) (.branch k (rtn s1 l r p1 u1).1 (rtn s1 l r p1 u1).2) X ∧ tids (plug (.branch k (rtn s1 l r p1 u1).1 (rtn s1 l r p1 u1).2) X) = tids (plug (.branch k l r) ((s1, p1, u1) :: X)) :=
  ⟨(trn_zip hz hn).1, tids_rtn_plug s1 k l r p1 u1 X⟩
theorem rai_mid_eq {Q : PF} {k p1 p2 : Nat} {s1 : Bool} {l r u1 u2 : Tr} {X : Cx} (hz : Zp Q (.branch k l r) ((s1, p1, u1) :: (s1, p2, u2) :: X)) (hn : (tids (plug (.branch k l r) ((s1, p1, u1) :: (s1, p2, u2) :: X))).Nodup) :
    ∃ x y u', Zp Q (.branch p1 x y) ((s1, p2, u2) :: X) ∧ tids (plug (.branch p1 x y) ((s1, p2, u2) :: X)) = tids (plug (.branch k l r) ((s1, p1, u1) :: (s1, p2, u2) :: X)) ∧ Zp (trn Q p1) (.branch k l r) ((s1, p1, u') :: X) ∧ tids (plug (.branch k l r) ((s1, p1, u') :: X)) = tids (plug (.branch k l r) ((s1, p1, u1) :: (s1, p2, u2) :: X)) := by
  obtain ⟨x, y, e1, e2⟩ := nd_zz s1 p1 p2 (.branch k l r) u1 u2
  have h1 := Zp_step.mp hz
  rw [e1] at h1
  have hn1 : (tids (plug (.branch p1 x y) ((s1, p2, u2) :: X))).Nodup := by rw [← e1]; exact hn
  obtain ⟨g1, g2, g3⟩ := trn_zip h1 hn1
  rw [e2] at g1
  refine ⟨x, y, nd s1 p2 u1 u2, h1, by rw [← e1]; rfl, Zp_step.mpr g1, ?_⟩
  show tids (plug (nd s1 p1 _ _) X) = tids (plug (nd s1 p2 (nd s1 p1 _ _) _) X)
  apply tids_plug_eq
  cases s1 <;> simp [tids_nd]
section MMod2
variable {l : Launch} {D : va_G} {lo : Nat} {Γ : GT} {C : CW} {V : Int64 × UInt64} {th mn tm kt : Nat} {Q : PF} {zs : Nat → Option Nat} {be : Nat → Nat} {kp : Nat → Int32}
set_option maxRecDepth 100000 in
set_option maxHeartbeats 4000000 in
theorem c_X3_hang {j : Nat} {k up : Option Nat} (hj : j < 2) (hk : ∀ b, k = some b → b < 40) (hu : ∀ b, up = some b → b < 40) : Md l yX3_hang wsX3_hang (rmL 1 0 0) D lo Γ [.ref (gxa Γ 3), .int (er k), .int (er up), .int (nI (40 * (j + 1)))] (C, (th, mn, tm, kt, Q, zs, be, kp), V) none (C, (th, mn, tm, kt, (hng Q k up j), zs, be, kp), V) := by
  refine Mz_of (cc := cX3_hang) (maxL := 4) (ret := none) (by decide) rfl (Nat.le_of_ble_eq_true rfl) ?_
  intro p e s m args below meth c ls S hr hlocks hK hH hS hl
  have hx := S.1
  have hb := S.2.1
  have hts := S.2.2.2.2
  have f9 : (Cond.fieldLink RX3 9 (TX3 3).1 (TX3 3).2.1 (TX3 3).2.2.1).before args s = true := hts _ (List.mem_of_getElem? (i := 1) rfl)
  have hi3 : ∀ w ∈ wsX30, w ∈ wsX3_hang := by decide +kernel
  have hl : lv_has ls 4 [(0, .ref (gxa Γ 3)), (1, .int (er k)), (2, .int (er up)), (3, .int (nI (40 * (j + 1))))] := hl
  rcases up with _ | u
  · skip
    rcases k with _ | k
    · skip
      have hl : lv_has ls 4 [(0, .ref (gxa Γ 3)), (1, .int (-1)), (2, .int (-1)), (3, .int (nI (40 * (j + 1))))] := hl
      refine lv_iload_n hx hb dX3_hang_0 rfl (lv_at hl 2 rfl) ?_
      refine lv_iconst (v := -1) hx hb dX3_hang_1 (by decide) ?_
      refine lv_icmp_eq (tgt := 14) hx hb dX3_hang_2 (by decide) (fun _ => ?_) (fun h1 => absurd rfl h1)
      refine lv_iload_n hx hb dX3_hang_14 rfl (lv_at hl 1 rfl) ?_
      refine lv_iconst (v := -1) hx hb dX3_hang_15 (by decide) ?_
      refine lv_icmp_eq (tgt := 29) hx hb dX3_hang_16 (by decide) (fun _ => ?_) (fun h1 => absurd rfl h1)
      exact eV S hr hlocks hH hS ⟨rfl, rfl⟩ dX3_hang_29
    · skip
      have lt_k := hk k rfl
      have hl : lv_has ls 4 [(0, .ref (gxa Γ 3)), (1, .int (nI k)), (2, .int (-1)), (3, .int (nI (40 * (j + 1))))] := hl
      refine lv_iload_n hx hb dX3_hang_0 rfl (lv_at hl 2 rfl) ?_
      refine lv_iconst (v := -1) hx hb dX3_hang_1 (by decide) ?_
      refine lv_icmp_eq (tgt := 14) hx hb dX3_hang_2 (by decide) (fun _ => ?_) (fun h1 => absurd rfl h1)
      refine lv_iload_n hx hb dX3_hang_14 rfl (lv_at hl 1 rfl) ?_
      refine lv_iconst (v := -1) hx hb dX3_hang_15 (by decide) ?_
      refine lv_icmp_eq (tgt := 29) hx hb dX3_hang_16 (by decide) (fun h1 => absurd h1 (nI_nm1 (Nat.lt_trans lt_k (by decide)))) (fun _ => ?_)
      refine lv_aload_n hx hb dX3_hang_19 rfl (lv_at hl 0 rfl) ?_
      refine gM S hi3 hK hH 3 (by decide) f9 (v := .ref (gna Γ)) rfl dX3_hang_20 ?_
      refine lv_bipush (v := 120) hx hb dX3_hang_23 (by decide +kernel) ?_
      refine lv_iload_n hx hb dX3_hang_25 rfl (lv_at hl 1 rfl) ?_
      refine lv_iadd hx hb dX3_hang_26 ?_
      refine lv_iload_n hx hb dX3_hang_27 rfl (lv_at hl 2 rfl) ?_
      refine pNsd S hK hH hS 2 none rfl rfl (by decide) lt_k dX3_hang_28 (fun H locs hH hS => ?_)
      exact eV S hr hlocks hH hS ⟨rfl, rfl⟩ dX3_hang_29
  · skip
    have lt_u := hu u rfl
    rcases k with _ | k
    · skip
      have hl : lv_has ls 4 [(0, .ref (gxa Γ 3)), (1, .int (-1)), (2, .int (nI u)), (3, .int (nI (40 * (j + 1))))] := hl
      refine lv_iload_n hx hb dX3_hang_0 rfl (lv_at hl 2 rfl) ?_
      refine lv_iconst (v := -1) hx hb dX3_hang_1 (by decide) ?_
      refine lv_icmp_eq (tgt := 14) hx hb dX3_hang_2 (by decide) (fun h1 => absurd h1 (nI_nm1 (Nat.lt_trans lt_u (by decide)))) (fun _ => ?_)
      refine lv_aload_n hx hb dX3_hang_5 rfl (lv_at hl 0 rfl) ?_
      refine gM S hi3 hK hH 3 (by decide) f9 (v := .ref (gna Γ)) rfl dX3_hang_6 ?_
      refine lv_iload_n hx hb dX3_hang_9 rfl (lv_at hl 3 rfl) ?_
      refine lv_iload_n hx hb dX3_hang_10 rfl (lv_at hl 2 rfl) ?_
      refine lv_iadd hx hb dX3_hang_11 ?_
      refine lv_iload_n hx hb dX3_hang_12 rfl (lv_at hl 1 rfl) ?_
      refine pNsd S hK hH hS j none rfl rfl (Nat.lt_trans hj (by decide)) lt_u dX3_hang_13 (fun H locs hH hS => ?_)
      refine lv_iload_n hx hb dX3_hang_14 rfl (lv_at hl 1 rfl) ?_
      refine lv_iconst (v := -1) hx hb dX3_hang_15 (by decide) ?_
      refine lv_icmp_eq (tgt := 29) hx hb dX3_hang_16 (by decide) (fun _ => ?_) (fun h1 => absurd rfl h1)
      exact eV S hr hlocks hH hS ⟨rfl, rfl⟩ dX3_hang_29
    · skip
      have lt_k := hk k rfl
      have hl : lv_has ls 4 [(0, .ref (gxa Γ 3)), (1, .int (nI k)), (2, .int (nI u)), (3, .int (nI (40 * (j + 1))))] := hl
      refine lv_iload_n hx hb dX3_hang_0 rfl (lv_at hl 2 rfl) ?_
      refine lv_iconst (v := -1) hx hb dX3_hang_1 (by decide) ?_
      refine lv_icmp_eq (tgt := 14) hx hb dX3_hang_2 (by decide) (fun h1 => absurd h1 (nI_nm1 (Nat.lt_trans lt_u (by decide)))) (fun _ => ?_)
      refine lv_aload_n hx hb dX3_hang_5 rfl (lv_at hl 0 rfl) ?_
      refine gM S hi3 hK hH 3 (by decide) f9 (v := .ref (gna Γ)) rfl dX3_hang_6 ?_
      refine lv_iload_n hx hb dX3_hang_9 rfl (lv_at hl 3 rfl) ?_
      refine lv_iload_n hx hb dX3_hang_10 rfl (lv_at hl 2 rfl) ?_
      refine lv_iadd hx hb dX3_hang_11 ?_
      refine lv_iload_n hx hb dX3_hang_12 rfl (lv_at hl 1 rfl) ?_
      refine pNsd S hK hH hS j (some k) rfl rfl (Nat.lt_trans hj (by decide)) lt_u dX3_hang_13 (fun H locs hH hS => ?_)
      refine lv_iload_n hx hb dX3_hang_14 rfl (lv_at hl 1 rfl) ?_
      refine lv_iconst (v := -1) hx hb dX3_hang_15 (by decide) ?_
      refine lv_icmp_eq (tgt := 29) hx hb dX3_hang_16 (by decide) (fun h1 => absurd h1 (nI_nm1 (Nat.lt_trans lt_k (by decide)))) (fun _ => ?_)
      refine lv_aload_n hx hb dX3_hang_19 rfl (lv_at hl 0 rfl) ?_
      refine gM S hi3 hK hH 3 (by decide) f9 (v := .ref (gna Γ)) rfl dX3_hang_20 ?_
      refine lv_bipush (v := 120) hx hb dX3_hang_23 (by decide +kernel) ?_
      refine lv_iload_n hx hb dX3_hang_25 rfl (lv_at hl 1 rfl) ?_
      refine lv_iadd hx hb dX3_hang_26 ?_
      refine lv_iload_n hx hb dX3_hang_27 rfl (lv_at hl 2 rfl) ?_
      refine pNsd S hK hH hS 2 (some u) rfl rfl (by decide) lt_k dX3_hang_28 (fun H locs hH hS => ?_)
      exact eV S hr hlocks hH hS ⟨rfl, rfl⟩ dX3_hang_29

set_option maxRecDepth 100000 in
set_option maxHeartbeats 4000000 in
theorem c_X3_sideOf {k p0 : Nat} (lt_k : k < 40) (lt_p0 : p0 < 40) (hp : Q 2 k = some p0) (h0 : ∀ b, Q 0 p0 = some b → b < 40) : Md l yX3_sideOf wsX3_sideOf (rmL 1 0 0) D lo Γ [.ref (gxa Γ 3), .int (nI k)] (C, (th, mn, tm, kt, Q, zs, be, kp), V) (some (.int (nI (40 * (sdd Q k p0 + 1))))) (C, (th, mn, tm, kt, Q, zs, be, kp), V) := by
  refine Mz_of (cc := cX3_sideOf) (maxL := 2) (ret := (some .int)) (by decide) rfl (Nat.le_of_ble_eq_true rfl) ?_
  intro p e s m args below meth c ls S hr hlocks hK hH hS hl
  have hx := S.1
  have hb := S.2.1
  have hts := S.2.2.2.2
  have f9 : (Cond.fieldLink RX3 9 (TX3 3).1 (TX3 3).2.1 (TX3 3).2.2.1).before args s = true := hts _ (List.mem_of_getElem? (i := 1) rfl)
  have hi3 : ∀ w ∈ wsX30, w ∈ wsX3_sideOf := by decide +kernel
  have hl : lv_has ls 2 [(0, .ref (gxa Γ 3)), (1, .int (nI k))] := hl
  refine lv_aload_n hx hb dX3_sideOf_0 rfl (lv_at hl 0 rfl) ?_
  refine gM S hi3 hK hH 3 (by decide) f9 (v := .ref (gna Γ)) rfl dX3_sideOf_1 ?_
  refine lv_bipush (v := 40) hx hb dX3_sideOf_4 (by decide +kernel) ?_
  refine lv_aload_n hx hb dX3_sideOf_6 rfl (lv_at hl 0 rfl) ?_
  refine gM S hi3 hK hH 3 (by decide) f9 (v := .ref (gna Γ)) rfl dX3_sideOf_7 ?_
  refine lv_bipush (v := 120) hx hb dX3_sideOf_10 (by decide +kernel) ?_
  refine lv_iload_n hx hb dX3_sideOf_12 rfl (lv_at hl 1 rfl) ?_
  refine lv_iadd hx hb dX3_sideOf_13 ?_
  refine gN S hK hH (n := 40 * (2 + 1) + k) (x := nI p0) (nI_ofadd rfl) (by have := lt_k; omega) ((enc_sd (by decide) lt_k).trans (congrArg er hp)) dX3_sideOf_14 ?_
  refine lv_iadd hx hb dX3_sideOf_15 ?_
  refine gNsd S hK hH 0 rfl (by decide) lt_p0 dX3_sideOf_16 ?_
  refine lv_iload_n hx hb dX3_sideOf_17 rfl (lv_at hl 1 rfl) ?_
  refine lv_icmp_ne (tgt := 26) hx hb dX3_sideOf_18 (by decide) (fun h1 => ?_) (fun h1 => ?_)
  · skip
    have h1 : ¬ Q 0 p0 = some k := fun q => h1 (by rw [q]; rfl)
    refine lv_bipush (v := 80) hx hb dX3_sideOf_26 (by decide +kernel) ?_
    exact eI S hr hlocks hH hS ⟨by rw [sdd, if_neg h1]; rfl, rfl⟩ dX3_sideOf_28
  · skip
    have h1 : Q 0 p0 = some k := (er_k h0 lt_k).mp h1
    refine lv_bipush (v := 40) hx hb dX3_sideOf_21 (by decide +kernel) ?_
    refine lv_goto (tgt := 28) hx hb dX3_sideOf_23 (by decide) ?_
    exact eI S hr hlocks hH hS ⟨by rw [sdd, if_pos h1]; rfl, rfl⟩ dX3_sideOf_28

set_option maxRecDepth 100000 in
set_option maxHeartbeats 4000000 in
theorem c_X3_across {j : Nat} (hj : j < 2) : Md l yX3_across wsX3_across (rmL 1 0 0) D lo Γ [.int (nI (40 * (j + 1)))] (C, (th, mn, tm, kt, Q, zs, be, kp), V) (some (.int (nI (40 * ((1 - j) + 1))))) (C, (th, mn, tm, kt, Q, zs, be, kp), V) := by
  refine Mz_of (cc := cX3_across) (maxL := 1) (ret := (some .int)) (by decide) rfl (Nat.le_of_ble_eq_true rfl) ?_
  intro p e s m args below meth c ls S hr hlocks hK hH hS hl
  have hx := S.1
  have hb := S.2.1
  have hts := S.2.2.2.2
  have hl : lv_has ls 1 [(0, .int (nI (40 * (j + 1))))] := hl
  have hj2 : j = 0 ∨ j = 1 := by omega
  rcases hj2 with rfl | rfl
  · skip
    refine lv_iload_n hx hb dX3_across_0 rfl (lv_at hl 0 rfl) ?_
    refine lv_bipush (v := 40) hx hb dX3_across_1 (by decide +kernel) ?_
    refine lv_icmp_ne (tgt := 11) hx hb dX3_across_3 (by decide) (fun h1 => absurd (by decide) h1) (fun _ => ?_)
    refine lv_bipush (v := 80) hx hb dX3_across_6 (by decide +kernel) ?_
    refine lv_goto (tgt := 13) hx hb dX3_across_8 (by decide) ?_
    exact eI S hr hlocks hH hS ⟨rfl, rfl⟩ dX3_across_13
  · skip
    refine lv_iload_n hx hb dX3_across_0 rfl (lv_at hl 0 rfl) ?_
    refine lv_bipush (v := 40) hx hb dX3_across_1 (by decide +kernel) ?_
    refine lv_icmp_ne (tgt := 11) hx hb dX3_across_3 (by decide) (fun _ => ?_) (fun h1 => absurd h1 (by decide))
    refine lv_bipush (v := 40) hx hb dX3_across_11 (by decide +kernel) ?_
    exact eI S hr hlocks hH hS ⟨rfl, rfl⟩ dX3_across_13

set_option maxRecDepth 100000 in
set_option maxHeartbeats 4000000 in
theorem c_X3_turn {k p0 : Nat} {sd : Bool} {lt9 r9 u : Tr} {X : Cx} (hz : Zp Q (.branch k lt9 r9) ((sd, p0, u) :: X)) (h40 : ∀ b ∈ tids (plug (.branch k lt9 r9) ((sd, p0, u) :: X)), b < 40) : Md l yX3_turn wsX3_turn (rmL 2 0 0) D lo Γ [.ref (gxa Γ 3), .int (nI k)] (C, (th, mn, tm, kt, Q, zs, be, kp), V) none (C, (th, mn, (tm + 1), kt, (trn Q k), zs, be, kp), V) := by
  refine Mz_of (cc := cX3_turn) (maxL := 6) (ret := none) (by decide) rfl (Nat.le_of_ble_eq_true rfl) ?_
  intro p e s m args below meth c ls S hr hlocks hK hH hS hl
  have hx := S.1
  have hb := S.2.1
  have hts := S.2.2.2.2
  have f9 : (Cond.fieldLink RX3 9 (TX3 3).1 (TX3 3).2.1 (TX3 3).2.2.1).before args s = true := hts _ (List.mem_of_getElem? (i := 1) rfl)
  have f26 : (Cond.fieldLink RX3 26 (TX3 2).1 (TX3 2).2.1 (TX3 2).2.2.1).before args s = true := hts _ (List.mem_of_getElem? (i := 2) rfl)
  have hi3 : ∀ w ∈ wsX30, w ∈ wsX3_turn := by decide +kernel
  have hl : lv_has ls 6 [(0, .ref (gxa Γ 3)), (1, .int (nI k))] := hl
  obtain ⟨lt_k, lt_p0, hp, hpp, h0p, h3k, hX⟩ := turn_b hz h40
  have hsd : sdd Q k p0 < 2 := by unfold sdd; split <;> decide
  have h3k : ∀ b, Q (1 - sdd Q k p0) k = some b → b < 40 := h3k _ (by omega)
  refine lv_aload_n hx hb dX3_turn_0 rfl (lv_at hl 0 rfl) ?_
  refine gM S hi3 hK hH 3 (by decide) f9 (v := .ref (gna Γ)) rfl dX3_turn_1 ?_
  refine lv_bipush (v := 120) hx hb dX3_turn_4 (by decide +kernel) ?_
  refine lv_iload_n hx hb dX3_turn_6 rfl (lv_at hl 1 rfl) ?_
  refine lv_iadd hx hb dX3_turn_7 ?_
  refine gN S hK hH (n := 40 * (2 + 1) + k) (x := nI p0) (nI_ofadd rfl) (by have := lt_k; omega) ((enc_sd (by decide) lt_k).trans (congrArg er hp)) dX3_turn_8 ?_
  refine lv_istore_n (lv' := [(2, .int (nI p0)), (0, .ref (gxa Γ 3)), (1, .int (nI k))]) hx hb dX3_turn_9 rfl hl (by decide) rfl (fun ls hl => ?_)
  cases X with
  | nil =>
    have hpp : Q 2 p0 = none := hpp
    refine lv_aload_n hx hb dX3_turn_10 rfl (lv_at hl 1 rfl) ?_
    refine gM S hi3 hK hH 3 (by decide) f9 (v := .ref (gna Γ)) rfl dX3_turn_11 ?_
    refine lv_bipush (v := 120) hx hb dX3_turn_14 (by decide +kernel) ?_
    refine lv_iload_n hx hb dX3_turn_16 rfl (lv_at hl 0 rfl) ?_
    refine lv_iadd hx hb dX3_turn_17 ?_
    refine gN S hK hH (n := 40 * (2 + 1) + p0) (x := -1) (nI_ofadd rfl) (by have := lt_p0; omega) ((enc_sd (by decide) lt_p0).trans (congrArg er hpp)) dX3_turn_18 ?_
    refine lv_istore_n (lv' := [(3, .int (-1)), (2, .int (nI p0)), (0, .ref (gxa Γ 3)), (1, .int (nI k))]) hx hb dX3_turn_19 rfl hl (by decide) rfl (fun ls hl => ?_)
    refine lv_aload_n hx hb dX3_turn_20 rfl (lv_at hl 2 rfl) ?_
    refine lv_iload_n hx hb dX3_turn_21 rfl (lv_at hl 3 rfl) ?_
    refine cV S (c_X3_sideOf (l := l) (D := D) (lo := lo) (Γ := Γ) (C := C) (V := V) (th := th) (mn := mn) (tm := tm) (kt := kt) (Q := Q) (zs := zs) (be := be) (kp := kp) lt_k lt_p0 hp h0p) (cwV 1 hts gX3_turn_X3_sideOf rfl rfl rfl (by decide +kernel) ⟨Nat.le_of_ble_eq_true rfl, Nat.le_of_ble_eq_true rfl⟩) hK hH (Hp_recv hK hH (gmo hH (j := 3) (by simp)).1 (gmo hH (j := 3) (by simp)).2.1 rfl) hS rfl hl.1 rfl (Nat.le_of_ble_eq_true rfl) dX3_turn_22 ⟨Nat.le_of_ble_eq_true rfl, Nat.le_of_ble_eq_true rfl⟩ (fun v Z1 H locs hpost hH hS => ?_)
    obtain ⟨rfl, rfl⟩ := hpost
    refine lv_istore (lv' := [(4, .int (nI (40 * (sdd Q k p0 + 1)))), (3, .int (-1)), (2, .int (nI p0)), (0, .ref (gxa Γ 3)), (1, .int (nI k))]) hx hb dX3_turn_25 hl (by decide) rfl (fun ls hl => ?_)
    refine lv_iload_n hx hb dX3_turn_27 rfl (lv_at hl 1 rfl) ?_
    refine lv_iconst (v := -1) hx hb dX3_turn_28 (by decide) ?_
    refine lv_icmp_ne (tgt := 36) hx hb dX3_turn_29 (by decide) (fun h1 => absurd rfl h1) (fun _ => ?_)
    refine lv_iconst (v := -1) hx hb dX3_turn_32 (by decide) ?_
    refine lv_goto (tgt := 41) hx hb dX3_turn_33 (by decide) ?_
    refine lv_istore (lv' := [(5, .int (-1)), (4, .int (nI (40 * (sdd Q k p0 + 1)))), (3, .int (-1)), (2, .int (nI p0)), (0, .ref (gxa Γ 3)), (1, .int (nI k))]) hx hb dX3_turn_41 hl (by decide) rfl (fun ls hl => ?_)
    refine lv_aload_n hx hb dX3_turn_43 rfl (lv_at hl 4 rfl) ?_
    refine lv_aload_n hx hb dX3_turn_44 rfl (lv_at hl 4 rfl) ?_
    refine gM S hi3 hK hH 3 (by decide) f9 (v := .ref (gna Γ)) rfl dX3_turn_45 ?_
    refine lv_iload hx hb dX3_turn_48 (lv_at hl 1 rfl) ?_
    refine cSt S (c_X3_across (l := l) (D := D) (lo := lo) (Γ := Γ) (C := C) (V := V) (th := th) (mn := mn) (tm := tm) (kt := kt) (Q := Q) (zs := zs) (be := be) (kp := kp) hsd) (va_cwS 1 hts gX3_turn_X3_across rfl rfl rfl (by decide +kernel) ⟨Nat.le_of_ble_eq_true rfl, Nat.le_of_ble_eq_true rfl⟩) hK hH hS rfl hl.1 rfl (Nat.le_of_ble_eq_true rfl) dX3_turn_50 ⟨Nat.le_of_ble_eq_true rfl, Nat.le_of_ble_eq_true rfl⟩ (fun v Z1 H locs hpost hH hS => ?_)
    obtain ⟨rfl, rfl⟩ := hpost
    refine lv_iload_n hx hb dX3_turn_53 rfl (lv_at hl 5 rfl) ?_
    refine lv_iadd hx hb dX3_turn_54 ?_
    refine gNsd S hK hH (1 - sdd Q k p0) rfl (by omega) lt_k dX3_turn_55 ?_
    refine lv_iload_n hx hb dX3_turn_56 rfl (lv_at hl 3 rfl) ?_
    refine lv_iload hx hb dX3_turn_57 (lv_at hl 1 rfl) ?_
    refine cV S (c_X3_hang (l := l) (D := D) (lo := lo) (Γ := Γ) (C := C) (V := V) (th := th) (mn := mn) (tm := tm) (kt := kt) (Q := Q) (zs := zs) (be := be) (kp := kp) (k := Q (1 - sdd Q k p0) k) (up := some p0) hsd h3k (fun b h => by cases h; exact lt_p0)) (cwV 3 hts gX3_turn_X3_hang rfl rfl rfl (by decide +kernel) ⟨Nat.le_of_ble_eq_true rfl, Nat.le_of_ble_eq_true rfl⟩) hK hH (Hp_recv hK hH (gmo hH (j := 3) (by simp)).1 (gmo hH (j := 3) (by simp)).2.1 rfl) hS rfl hl.1 rfl (Nat.le_of_ble_eq_true rfl) dX3_turn_59 ⟨Nat.le_of_ble_eq_true rfl, Nat.le_of_ble_eq_true rfl⟩ (fun v Z1 H locs hpost hH hS => ?_)
    obtain ⟨rfl, rfl⟩ := hpost
    refine lv_aload_n hx hb dX3_turn_62 rfl (lv_at hl 4 rfl) ?_
    refine lv_iload_n hx hb dX3_turn_63 rfl (lv_at hl 3 rfl) ?_
    refine lv_iload_n hx hb dX3_turn_64 rfl (lv_at hl 5 rfl) ?_
    refine lv_iload hx hb dX3_turn_65 (lv_at hl 1 rfl) ?_
    refine cSt S (c_X3_across (l := l) (D := D) (lo := lo) (Γ := Γ) (C := C) (V := V) (th := th) (mn := mn) (tm := tm) (kt := kt) (Q := (hng Q (Q (1 - sdd Q k p0) k) (some p0) (sdd Q k p0))) (zs := zs) (be := be) (kp := kp) hsd) (va_cwS 1 hts gX3_turn_X3_across rfl rfl rfl (by decide +kernel) ⟨Nat.le_of_ble_eq_true rfl, Nat.le_of_ble_eq_true rfl⟩) hK hH hS rfl hl.1 rfl (Nat.le_of_ble_eq_true rfl) dX3_turn_67 ⟨Nat.le_of_ble_eq_true rfl, Nat.le_of_ble_eq_true rfl⟩ (fun v Z1 H locs hpost hH hS => ?_)
    obtain ⟨rfl, rfl⟩ := hpost
    refine cV S (c_X3_hang (l := l) (D := D) (lo := lo) (Γ := Γ) (C := C) (V := V) (th := th) (mn := mn) (tm := tm) (kt := kt) (Q := (hng Q (Q (1 - sdd Q k p0) k) (some p0) (sdd Q k p0))) (zs := zs) (be := be) (kp := kp) (j := 1 - sdd Q k p0) (k := some p0) (up := some k) (by omega) (fun b h => by cases h; exact lt_p0) (fun b h => by cases h; exact lt_k)) (cwV 3 hts gX3_turn_X3_hang rfl rfl rfl (by decide +kernel) ⟨Nat.le_of_ble_eq_true rfl, Nat.le_of_ble_eq_true rfl⟩) hK hH (Hp_recv hK hH (gmo hH (j := 3) (by simp)).1 (gmo hH (j := 3) (by simp)).2.1 rfl) hS rfl hl.1 rfl (Nat.le_of_ble_eq_true rfl) dX3_turn_70 ⟨Nat.le_of_ble_eq_true rfl, Nat.le_of_ble_eq_true rfl⟩ (fun v Z1 H locs hpost hH hS => ?_)
    obtain ⟨rfl, rfl⟩ := hpost
    refine lv_aload_n hx hb dX3_turn_73 rfl (lv_at hl 4 rfl) ?_
    refine gM S hi3 hK hH 3 (by decide) f9 (v := .ref (gna Γ)) rfl dX3_turn_74 ?_
    refine lv_bipush (v := 120) hx hb dX3_turn_77 (by decide +kernel) ?_
    refine lv_iload_n hx hb dX3_turn_79 rfl (lv_at hl 5 rfl) ?_
    refine lv_iadd hx hb dX3_turn_80 ?_
    refine lv_iload_n hx hb dX3_turn_81 rfl (lv_at hl 2 rfl) ?_
    refine pNsd S hK hH hS 2 none rfl rfl (by decide) lt_k dX3_turn_82 (fun H locs hH hS => ?_)
    refine lv_iload_n hx hb dX3_turn_83 rfl (lv_at hl 2 rfl) ?_
    refine lv_iconst (v := -1) hx hb dX3_turn_84 (by decide) ?_
    refine lv_icmp_eq (tgt := 98) hx hb dX3_turn_85 (by decide) (fun _ => ?_) (fun h1 => absurd rfl h1)
    refine lv_aload_n hx hb dX3_turn_98 rfl (lv_at hl 4 rfl) ?_
    refine lv_dup hx hb dX3_turn_99 rfl ?_
    refine gM S hi3 hK hH 2 (by decide) f26 (v := .int (nI tm)) rfl dX3_turn_100 ?_
    refine lv_iconst (v := 1) hx hb dX3_turn_103 (by decide) ?_
    refine lv_iadd hx hb dX3_turn_104 ?_
    rw [nI_1 tm]
    refine pM S hi3 hK hH hS 2 (by decide) f26 (th, mn, (tm + 1), kt, (sP (hng (hng Q (Q (1 - sdd Q k p0) k) (some p0) (sdd Q k p0)) (some p0) (some k) (1 - sdd Q k p0)) 2 k none), zs, be, kp) rfl rfl dX3_turn_105 (fun H locs hH hS => ?_)
    exact eV S hr hlocks hH hS ⟨rfl, by simp only [trn, hp, hpp]⟩ dX3_turn_108
  | cons f X =>
    obtain ⟨s2, q, u2⟩ := f
    have hpp : Q 2 p0 = some q := hpp
    obtain ⟨lt_q, h0q⟩ := hX s2 q u2 X rfl
    refine lv_aload_n hx hb dX3_turn_10 rfl (lv_at hl 1 rfl) ?_
    refine gM S hi3 hK hH 3 (by decide) f9 (v := .ref (gna Γ)) rfl dX3_turn_11 ?_
    refine lv_bipush (v := 120) hx hb dX3_turn_14 (by decide +kernel) ?_
    refine lv_iload_n hx hb dX3_turn_16 rfl (lv_at hl 0 rfl) ?_
    refine lv_iadd hx hb dX3_turn_17 ?_
    refine gN S hK hH (n := 40 * (2 + 1) + p0) (x := nI q) (nI_ofadd rfl) (by have := lt_p0; omega) ((enc_sd (by decide) lt_p0).trans (congrArg er hpp)) dX3_turn_18 ?_
    refine lv_istore_n (lv' := [(3, .int (nI q)), (2, .int (nI p0)), (0, .ref (gxa Γ 3)), (1, .int (nI k))]) hx hb dX3_turn_19 rfl hl (by decide) rfl (fun ls hl => ?_)
    refine lv_aload_n hx hb dX3_turn_20 rfl (lv_at hl 2 rfl) ?_
    refine lv_iload_n hx hb dX3_turn_21 rfl (lv_at hl 3 rfl) ?_
    refine cV S (c_X3_sideOf (l := l) (D := D) (lo := lo) (Γ := Γ) (C := C) (V := V) (th := th) (mn := mn) (tm := tm) (kt := kt) (Q := Q) (zs := zs) (be := be) (kp := kp) lt_k lt_p0 hp h0p) (cwV 1 hts gX3_turn_X3_sideOf rfl rfl rfl (by decide +kernel) ⟨Nat.le_of_ble_eq_true rfl, Nat.le_of_ble_eq_true rfl⟩) hK hH (Hp_recv hK hH (gmo hH (j := 3) (by simp)).1 (gmo hH (j := 3) (by simp)).2.1 rfl) hS rfl hl.1 rfl (Nat.le_of_ble_eq_true rfl) dX3_turn_22 ⟨Nat.le_of_ble_eq_true rfl, Nat.le_of_ble_eq_true rfl⟩ (fun v Z1 H locs hpost hH hS => ?_)
    obtain ⟨rfl, rfl⟩ := hpost
    refine lv_istore (lv' := [(4, .int (nI (40 * (sdd Q k p0 + 1)))), (3, .int (nI q)), (2, .int (nI p0)), (0, .ref (gxa Γ 3)), (1, .int (nI k))]) hx hb dX3_turn_25 hl (by decide) rfl (fun ls hl => ?_)
    refine lv_iload_n hx hb dX3_turn_27 rfl (lv_at hl 1 rfl) ?_
    refine lv_iconst (v := -1) hx hb dX3_turn_28 (by decide) ?_
    refine lv_icmp_ne (tgt := 36) hx hb dX3_turn_29 (by decide) (fun _ => ?_) (fun h1 => absurd h1 (nI_nm1 (Nat.lt_trans lt_q (by decide))))
    refine lv_aload_n hx hb dX3_turn_36 rfl (lv_at hl 3 rfl) ?_
    refine lv_iload_n hx hb dX3_turn_37 rfl (lv_at hl 2 rfl) ?_
    refine cV S (c_X3_sideOf (l := l) (D := D) (lo := lo) (Γ := Γ) (C := C) (V := V) (th := th) (mn := mn) (tm := tm) (kt := kt) (Q := Q) (zs := zs) (be := be) (kp := kp) lt_p0 lt_q hpp h0q) (cwV 1 hts gX3_turn_X3_sideOf rfl rfl rfl (by decide +kernel) ⟨Nat.le_of_ble_eq_true rfl, Nat.le_of_ble_eq_true rfl⟩) hK hH (Hp_recv hK hH (gmo hH (j := 3) (by simp)).1 (gmo hH (j := 3) (by simp)).2.1 rfl) hS rfl hl.1 rfl (Nat.le_of_ble_eq_true rfl) dX3_turn_38 ⟨Nat.le_of_ble_eq_true rfl, Nat.le_of_ble_eq_true rfl⟩ (fun v Z1 H locs hpost hH hS => ?_)
    obtain ⟨rfl, rfl⟩ := hpost
    refine lv_istore (lv' := [(5, .int (nI (40 * (sdd Q p0 q + 1)))), (4, .int (nI (40 * (sdd Q k p0 + 1)))), (3, .int (nI q)), (2, .int (nI p0)), (0, .ref (gxa Γ 3)), (1, .int (nI k))]) hx hb dX3_turn_41 hl (by decide) rfl (fun ls hl => ?_)
    refine lv_aload_n hx hb dX3_turn_43 rfl (lv_at hl 4 rfl) ?_
    refine lv_aload_n hx hb dX3_turn_44 rfl (lv_at hl 4 rfl) ?_
    refine gM S hi3 hK hH 3 (by decide) f9 (v := .ref (gna Γ)) rfl dX3_turn_45 ?_
    refine lv_iload hx hb dX3_turn_48 (lv_at hl 1 rfl) ?_
    refine cSt S (c_X3_across (l := l) (D := D) (lo := lo) (Γ := Γ) (C := C) (V := V) (th := th) (mn := mn) (tm := tm) (kt := kt) (Q := Q) (zs := zs) (be := be) (kp := kp) hsd) (va_cwS 1 hts gX3_turn_X3_across rfl rfl rfl (by decide +kernel) ⟨Nat.le_of_ble_eq_true rfl, Nat.le_of_ble_eq_true rfl⟩) hK hH hS rfl hl.1 rfl (Nat.le_of_ble_eq_true rfl) dX3_turn_50 ⟨Nat.le_of_ble_eq_true rfl, Nat.le_of_ble_eq_true rfl⟩ (fun v Z1 H locs hpost hH hS => ?_)
    obtain ⟨rfl, rfl⟩ := hpost
    refine lv_iload_n hx hb dX3_turn_53 rfl (lv_at hl 5 rfl) ?_
    refine lv_iadd hx hb dX3_turn_54 ?_
    refine gNsd S hK hH (1 - sdd Q k p0) rfl (by omega) lt_k dX3_turn_55 ?_
    refine lv_iload_n hx hb dX3_turn_56 rfl (lv_at hl 3 rfl) ?_
    refine lv_iload hx hb dX3_turn_57 (lv_at hl 1 rfl) ?_
    refine cV S (c_X3_hang (l := l) (D := D) (lo := lo) (Γ := Γ) (C := C) (V := V) (th := th) (mn := mn) (tm := tm) (kt := kt) (Q := Q) (zs := zs) (be := be) (kp := kp) (k := Q (1 - sdd Q k p0) k) (up := some p0) hsd h3k (fun b h => by cases h; exact lt_p0)) (cwV 3 hts gX3_turn_X3_hang rfl rfl rfl (by decide +kernel) ⟨Nat.le_of_ble_eq_true rfl, Nat.le_of_ble_eq_true rfl⟩) hK hH (Hp_recv hK hH (gmo hH (j := 3) (by simp)).1 (gmo hH (j := 3) (by simp)).2.1 rfl) hS rfl hl.1 rfl (Nat.le_of_ble_eq_true rfl) dX3_turn_59 ⟨Nat.le_of_ble_eq_true rfl, Nat.le_of_ble_eq_true rfl⟩ (fun v Z1 H locs hpost hH hS => ?_)
    obtain ⟨rfl, rfl⟩ := hpost
    refine lv_aload_n hx hb dX3_turn_62 rfl (lv_at hl 4 rfl) ?_
    refine lv_iload_n hx hb dX3_turn_63 rfl (lv_at hl 3 rfl) ?_
    refine lv_iload_n hx hb dX3_turn_64 rfl (lv_at hl 5 rfl) ?_
    refine lv_iload hx hb dX3_turn_65 (lv_at hl 1 rfl) ?_
    refine cSt S (c_X3_across (l := l) (D := D) (lo := lo) (Γ := Γ) (C := C) (V := V) (th := th) (mn := mn) (tm := tm) (kt := kt) (Q := (hng Q (Q (1 - sdd Q k p0) k) (some p0) (sdd Q k p0))) (zs := zs) (be := be) (kp := kp) hsd) (va_cwS 1 hts gX3_turn_X3_across rfl rfl rfl (by decide +kernel) ⟨Nat.le_of_ble_eq_true rfl, Nat.le_of_ble_eq_true rfl⟩) hK hH hS rfl hl.1 rfl (Nat.le_of_ble_eq_true rfl) dX3_turn_67 ⟨Nat.le_of_ble_eq_true rfl, Nat.le_of_ble_eq_true rfl⟩ (fun v Z1 H locs hpost hH hS => ?_)
    obtain ⟨rfl, rfl⟩ := hpost
    refine cV S (c_X3_hang (l := l) (D := D) (lo := lo) (Γ := Γ) (C := C) (V := V) (th := th) (mn := mn) (tm := tm) (kt := kt) (Q := (hng Q (Q (1 - sdd Q k p0) k) (some p0) (sdd Q k p0))) (zs := zs) (be := be) (kp := kp) (j := 1 - sdd Q k p0) (k := some p0) (up := some k) (by omega) (fun b h => by cases h; exact lt_p0) (fun b h => by cases h; exact lt_k)) (cwV 3 hts gX3_turn_X3_hang rfl rfl rfl (by decide +kernel) ⟨Nat.le_of_ble_eq_true rfl, Nat.le_of_ble_eq_true rfl⟩) hK hH (Hp_recv hK hH (gmo hH (j := 3) (by simp)).1 (gmo hH (j := 3) (by simp)).2.1 rfl) hS rfl hl.1 rfl (Nat.le_of_ble_eq_true rfl) dX3_turn_70 ⟨Nat.le_of_ble_eq_true rfl, Nat.le_of_ble_eq_true rfl⟩ (fun v Z1 H locs hpost hH hS => ?_)
    obtain ⟨rfl, rfl⟩ := hpost
    refine lv_aload_n hx hb dX3_turn_73 rfl (lv_at hl 4 rfl) ?_
    refine gM S hi3 hK hH 3 (by decide) f9 (v := .ref (gna Γ)) rfl dX3_turn_74 ?_
    refine lv_bipush (v := 120) hx hb dX3_turn_77 (by decide +kernel) ?_
    refine lv_iload_n hx hb dX3_turn_79 rfl (lv_at hl 5 rfl) ?_
    refine lv_iadd hx hb dX3_turn_80 ?_
    refine lv_iload_n hx hb dX3_turn_81 rfl (lv_at hl 2 rfl) ?_
    refine pNsd S hK hH hS 2 (some q) rfl rfl (by decide) lt_k dX3_turn_82 (fun H locs hH hS => ?_)
    refine lv_iload_n hx hb dX3_turn_83 rfl (lv_at hl 2 rfl) ?_
    refine lv_iconst (v := -1) hx hb dX3_turn_84 (by decide) ?_
    refine lv_icmp_eq (tgt := 98) hx hb dX3_turn_85 (by decide) (fun h1 => absurd h1 (nI_nm1 (Nat.lt_trans lt_q (by decide)))) (fun _ => ?_)
    refine lv_aload_n hx hb dX3_turn_88 rfl (lv_at hl 4 rfl) ?_
    refine gM S hi3 hK hH 3 (by decide) f9 (v := .ref (gna Γ)) rfl dX3_turn_89 ?_
    refine lv_iload hx hb dX3_turn_92 (lv_at hl 0 rfl) ?_
    refine lv_iload_n hx hb dX3_turn_94 rfl (lv_at hl 2 rfl) ?_
    refine lv_iadd hx hb dX3_turn_95 ?_
    refine lv_iload_n hx hb dX3_turn_96 rfl (lv_at hl 5 rfl) ?_
    refine pNsd S hK hH hS (sdd Q p0 q) (some k) rfl rfl (by have : sdd Q p0 q < 2 := by {unfold sdd; split <;> decide}; omega) lt_q dX3_turn_97 (fun H locs hH hS => ?_)
    refine lv_aload_n hx hb dX3_turn_98 rfl (lv_at hl 4 rfl) ?_
    refine lv_dup hx hb dX3_turn_99 rfl ?_
    refine gM S hi3 hK hH 2 (by decide) f26 (v := .int (nI tm)) rfl dX3_turn_100 ?_
    refine lv_iconst (v := 1) hx hb dX3_turn_103 (by decide) ?_
    refine lv_iadd hx hb dX3_turn_104 ?_
    rw [nI_1 tm]
    refine pM S hi3 hK hH hS 2 (by decide) f26 (th, mn, (tm + 1), kt, (sP (sP (hng (hng Q (Q (1 - sdd Q k p0) k) (some p0) (sdd Q k p0)) (some p0) (some k) (1 - sdd Q k p0)) 2 k (some q)) (sdd Q p0 q) q (some k)), zs, be, kp) rfl rfl dX3_turn_105 (fun H locs hH hS => ?_)
    exact eV S hr hlocks hH hS ⟨rfl, by simp only [trn, hp, hpp]⟩ dX3_turn_108

set_option maxRecDepth 100000 in
set_option maxHeartbeats 4000000 in
theorem c_X3_raise {k : Nat} {lt9 r9 : Tr} {X : Cx} (hz : Zp Q (.branch k lt9 r9) X) (hn : (tids (plug (.branch k lt9 r9) X)).Nodup) (h40 : ∀ b ∈ tids (plug (.branch k lt9 r9) X), b < 40) : Md l yX3_raise wsX3_raise (rmL 3 0 0) D lo Γ [.ref (gxa Γ 3), .int (nI k)] (C, (th, mn, tm, kt, Q, zs, be, kp), V) none (C, (th, mn, (tm + X.length), kt, (rai k X Q), zs, be, kp), V) := by
  refine Mz_of (cc := cX3_raise) (maxL := 3) (ret := none) (by decide) rfl (Nat.le_of_ble_eq_true rfl) ?_
  intro p e s m args below meth c ls S hr hlocks hK hH hS hl
  have hx := S.1
  have hb := S.2.1
  have hts := S.2.2.2.2
  have f9 : (Cond.fieldLink RX3 9 (TX3 3).1 (TX3 3).2.1 (TX3 3).2.2.1).before args s = true := hts _ (List.mem_of_getElem? (i := 1) rfl)
  have hi3 : ∀ w ∈ wsX30, w ∈ wsX3_raise := by decide +kernel
  have hl : lv_has ls 3 [(0, .ref (gxa Γ 3)), (1, .int (nI k))] := hl
  have lt_k : k < 40 := h40 k (by rw [tids_plug]; simp [tids])
  have hend : ∀ (Q' : PF) (tm' : Nat), Q' 2 k = none → Q' = rai k X Q → tm' = tm + X.length → ∀ H locs, Hp D lo Γ (C, (th, mn, tm', kt, Q', zs, be, kp), V) H → va_S (lA lo) s.heap H locs → ∀ ls, lv_has ls 3 [(0, .ref (gxa Γ 3)), (1, .int (nI k))] → W p l e (rmL 3 0 0) s m args below meth c H locs 0 0 (MQ below (Qz D lo Γ (fun v Z' => v = none ∧ Z' = (C, (th, mn, (tm + X.length), kt, (rai k X Q), zs, be, kp), V))) args s ((rmL 3 0 0) : Room).cells ((rmL 3 0 0) : Room).slots (lA lo)) (F0 m 0 ls []) := by
    intro Q' tm' hq hQ hT H locs hH hS ls hl
    refine lv_aload_n hx hb dX3_raise_0 rfl (lv_at hl 0 rfl) ?_
    refine gM S hi3 hK hH 3 (by decide) f9 (v := .ref (gna Γ)) rfl dX3_raise_1 ?_
    refine lv_bipush (v := 120) hx hb dX3_raise_4 (by decide +kernel) ?_
    refine lv_iload_n hx hb dX3_raise_6 rfl (lv_at hl 1 rfl) ?_
    refine lv_iadd hx hb dX3_raise_7 ?_
    refine gN S hK hH (n := 40 * (2 + 1) + k) (x := -1) (nI_ofadd rfl) (by have := lt_k; omega) ((enc_sd (by decide) lt_k).trans (congrArg er hq)) dX3_raise_8 ?_
    refine lv_iconst (v := -1) hx hb dX3_raise_9 (by decide) ?_
    refine lv_icmp_eq (tgt := 66) hx hb dX3_raise_10 (by decide) (fun _ => ?_) (fun h1 => absurd rfl h1)
    exact eV S hr hlocks hH hS ⟨rfl, by rw [hQ, hT]⟩ dX3_raise_66
  have loop : ∀ (n : Nat) (X' : Cx) (Q' : PF) (l' r' : Tr) (tm' : Nat), X'.length ≤ n → Zp Q' (.branch k l' r') X' → tids (plug (.branch k l' r') X') = tids (plug (.branch k lt9 r9) X) → rai k X' Q' = rai k X Q → tm' + X'.length = tm + X.length → ∀ H locs, Hp D lo Γ (C, (th, mn, tm', kt, Q', zs, be, kp), V) H → va_S (lA lo) s.heap H locs → ∀ ls, lv_has ls 3 [(0, .ref (gxa Γ 3)), (1, .int (nI k))] → W p l e (rmL 3 0 0) s m args below meth c H locs 0 0 (MQ below (Qz D lo Γ (fun v Z' => v = none ∧ Z' = (C, (th, mn, (tm + X.length), kt, (rai k X Q), zs, be, kp), V))) args s ((rmL 3 0 0) : Room).cells ((rmL 3 0 0) : Room).slots (lA lo)) (F0 m 0 ls []) := by
    intro n
    induction n with
    | zero =>
      intro X' Q' l' r' tm' h0 hz' hid hrai htm H locs hH hS ls hl
      have hC0 : X' = [] := List.length_eq_zero_iff.mp (by omega)
      subst hC0
      exact hend Q' tm' hz'.1.1 hrai (by simpa using htm) H locs hH hS ls hl
    | succ n ih =>
      intro X' Q' l' r' tm' h0 hz' hid hrai htm H locs hH hS ls hl
      have hnd : (tids (plug (.branch k l' r') X')).Nodup := by rw [hid]; exact hn
      have h40' : ∀ b ∈ tids (plug (.branch k l' r') X'), b < 40 := by rw [hid]; exact h40
      match X', h0, hz', hid, hrai, htm, hnd, h40' with
      | [], h0, hz', hid, hrai, htm, hnd, h40' => exact hend Q' tm' hz'.1.1 hrai (by simpa using htm) H locs hH hS ls hl
      | [(s1, p1, u1)], h0, hz', hid, hrai, htm, hnd, h40' =>
        obtain ⟨-, lt_p1, hp, hpp, -⟩ := turn_b hz' h40'
        have hpp : Q' 2 p1 = none := hpp
        refine lv_aload_n hx hb dX3_raise_0 rfl (lv_at hl 0 rfl) ?_
        refine gM S hi3 hK hH 3 (by decide) f9 (v := .ref (gna Γ)) rfl dX3_raise_1 ?_
        refine lv_bipush (v := 120) hx hb dX3_raise_4 (by decide +kernel) ?_
        refine lv_iload_n hx hb dX3_raise_6 rfl (lv_at hl 1 rfl) ?_
        refine lv_iadd hx hb dX3_raise_7 ?_
        refine gN S hK hH (n := 40 * (2 + 1) + k) (x := nI p1) (nI_ofadd rfl) (by have := lt_k; omega) ((enc_sd (by decide) lt_k).trans (congrArg er hp)) dX3_raise_8 ?_
        refine lv_iconst (v := -1) hx hb dX3_raise_9 (by decide) ?_
        refine lv_icmp_eq (tgt := 66) hx hb dX3_raise_10 (by decide) (fun h1 => absurd h1 (nI_nm1 (Nat.lt_trans lt_p1 (by decide)))) (fun _ => ?_)
        refine lv_aload_n hx hb dX3_raise_13 rfl (lv_at hl 0 rfl) ?_
        refine gM S hi3 hK hH 3 (by decide) f9 (v := .ref (gna Γ)) rfl dX3_raise_14 ?_
        refine lv_bipush (v := 120) hx hb dX3_raise_17 (by decide +kernel) ?_
        refine lv_iload_n hx hb dX3_raise_19 rfl (lv_at hl 1 rfl) ?_
        refine lv_iadd hx hb dX3_raise_20 ?_
        refine gN S hK hH (n := 40 * (2 + 1) + k) (x := nI p1) (nI_ofadd rfl) (by have := lt_k; omega) ((enc_sd (by decide) lt_k).trans (congrArg er hp)) dX3_raise_21 ?_
        refine lv_istore_n (lv' := [(2, .int (nI p1)), (0, .ref (gxa Γ 3)), (1, .int (nI k))]) hx hb dX3_raise_22 rfl hl (by decide) rfl (fun ls hl => ?_)
        refine lv_aload_n hx hb dX3_raise_23 rfl (lv_at hl 1 rfl) ?_
        refine gM S hi3 hK hH 3 (by decide) f9 (v := .ref (gna Γ)) rfl dX3_raise_24 ?_
        refine lv_bipush (v := 120) hx hb dX3_raise_27 (by decide +kernel) ?_
        refine lv_iload_n hx hb dX3_raise_29 rfl (lv_at hl 0 rfl) ?_
        refine lv_iadd hx hb dX3_raise_30 ?_
        refine gN S hK hH (n := 40 * (2 + 1) + p1) (x := -1) (nI_ofadd rfl) (by have := lt_p1; omega) ((enc_sd (by decide) lt_p1).trans (congrArg er hpp)) dX3_raise_31 ?_
        refine lv_iconst (v := -1) hx hb dX3_raise_32 (by decide) ?_
        refine lv_icmp_eq (tgt := 58) hx hb dX3_raise_33 (by decide) (fun _ => ?_) (fun h1 => absurd rfl h1)
        refine lv_aload_n hx hb dX3_raise_58 rfl (lv_at hl 1 rfl) ?_
        refine lv_iload_n hx hb dX3_raise_59 rfl (lv_at hl 2 rfl) ?_
        refine cV S (c_X3_turn (l := l) (D := D) (lo := lo) (Γ := Γ) (C := C) (V := V) (th := th) (mn := mn) (tm := tm') (kt := kt) (Q := Q') (zs := zs) (be := be) (kp := kp) (k := k) hz' h40') (cwV 1 hts gX3_raise_X3_turn rfl rfl rfl (by decide +kernel) ⟨Nat.le_of_ble_eq_true rfl, Nat.le_of_ble_eq_true rfl⟩) hK hH (Hp_recv hK hH (gmo hH (j := 3) (by simp)).1 (gmo hH (j := 3) (by simp)).2.1 rfl) hS rfl hl.1 rfl (Nat.le_of_ble_eq_true rfl) dX3_raise_60 ⟨Nat.le_of_ble_eq_true rfl, Nat.le_of_ble_eq_true rfl⟩ (fun v Z1 H locs hpost hH hS => ?_)
        obtain ⟨rfl, rfl⟩ := hpost
        refine lv_goto (tgt := 0) hx hb dX3_raise_63 (by decide) ?_
        exact hend (trn Q' k) (tm' + 1) (by simp only [trn, hp, hpp, sP_eq]) hrai (by simpa using htm) H locs hH hS ls (lv_sub hl [1, 2] rfl)
      | (s1, p1, u1) :: (s2, p2, u2) :: C2, h0, hz', hid, hrai, htm, hnd, h40' =>
        obtain ⟨-, lt_p1, hp, hpp, h0p, -, hX⟩ := turn_b hz' h40'
        have hpp : Q' 2 p1 = some p2 := hpp
        obtain ⟨lt_p2, h0q⟩ := hX s2 p2 u2 C2 rfl
        obtain ⟨l2, r2, g1, g2, g3, g4, g5⟩ := rai_step hz' hnd
        have i1 : sdd Q' k p1 = bt s1 := sdd_oz hz' hnd
        have i2 : sdd Q' p1 p2 = bt s2 := sdd_of2 hz' hnd
        simp only [List.length_cons] at h0 htm
        refine lv_aload_n hx hb dX3_raise_0 rfl (lv_at hl 0 rfl) ?_
        refine gM S hi3 hK hH 3 (by decide) f9 (v := .ref (gna Γ)) rfl dX3_raise_1 ?_
        refine lv_bipush (v := 120) hx hb dX3_raise_4 (by decide +kernel) ?_
        refine lv_iload_n hx hb dX3_raise_6 rfl (lv_at hl 1 rfl) ?_
        refine lv_iadd hx hb dX3_raise_7 ?_
        refine gN S hK hH (n := 40 * (2 + 1) + k) (x := nI p1) (nI_ofadd rfl) (by have := lt_k; omega) ((enc_sd (by decide) lt_k).trans (congrArg er hp)) dX3_raise_8 ?_
        refine lv_iconst (v := -1) hx hb dX3_raise_9 (by decide) ?_
        refine lv_icmp_eq (tgt := 66) hx hb dX3_raise_10 (by decide) (fun h1 => absurd h1 (nI_nm1 (Nat.lt_trans lt_p1 (by decide)))) (fun _ => ?_)
        refine lv_aload_n hx hb dX3_raise_13 rfl (lv_at hl 0 rfl) ?_
        refine gM S hi3 hK hH 3 (by decide) f9 (v := .ref (gna Γ)) rfl dX3_raise_14 ?_
        refine lv_bipush (v := 120) hx hb dX3_raise_17 (by decide +kernel) ?_
        refine lv_iload_n hx hb dX3_raise_19 rfl (lv_at hl 1 rfl) ?_
        refine lv_iadd hx hb dX3_raise_20 ?_
        refine gN S hK hH (n := 40 * (2 + 1) + k) (x := nI p1) (nI_ofadd rfl) (by have := lt_k; omega) ((enc_sd (by decide) lt_k).trans (congrArg er hp)) dX3_raise_21 ?_
        refine lv_istore_n (lv' := [(2, .int (nI p1)), (0, .ref (gxa Γ 3)), (1, .int (nI k))]) hx hb dX3_raise_22 rfl hl (by decide) rfl (fun ls hl => ?_)
        refine lv_aload_n hx hb dX3_raise_23 rfl (lv_at hl 1 rfl) ?_
        refine gM S hi3 hK hH 3 (by decide) f9 (v := .ref (gna Γ)) rfl dX3_raise_24 ?_
        refine lv_bipush (v := 120) hx hb dX3_raise_27 (by decide +kernel) ?_
        refine lv_iload_n hx hb dX3_raise_29 rfl (lv_at hl 0 rfl) ?_
        refine lv_iadd hx hb dX3_raise_30 ?_
        refine gN S hK hH (n := 40 * (2 + 1) + p1) (x := nI p2) (nI_ofadd rfl) (by have := lt_p1; omega) ((enc_sd (by decide) lt_p1).trans (congrArg er hpp)) dX3_raise_31 ?_
        refine lv_iconst (v := -1) hx hb dX3_raise_32 (by decide) ?_
        refine lv_icmp_eq (tgt := 58) hx hb dX3_raise_33 (by decide) (fun h1 => absurd h1 (nI_nm1 (Nat.lt_trans lt_p2 (by decide)))) (fun _ => ?_)
        refine lv_aload_n hx hb dX3_raise_36 rfl (lv_at hl 1 rfl) ?_
        refine lv_aload_n hx hb dX3_raise_37 rfl (lv_at hl 1 rfl) ?_
        refine lv_iload_n hx hb dX3_raise_38 rfl (lv_at hl 2 rfl) ?_
        refine cV S (c_X3_sideOf (l := l) (D := D) (lo := lo) (Γ := Γ) (C := C) (V := V) (th := th) (mn := mn) (tm := tm') (kt := kt) (Q := Q') (zs := zs) (be := be) (kp := kp) lt_k lt_p1 hp h0p) (cwV 1 hts gX3_raise_X3_sideOf rfl rfl rfl (by decide +kernel) ⟨Nat.le_of_ble_eq_true rfl, Nat.le_of_ble_eq_true rfl⟩) hK hH (Hp_recv hK hH (gmo hH (j := 3) (by simp)).1 (gmo hH (j := 3) (by simp)).2.1 rfl) hS rfl hl.1 rfl (Nat.le_of_ble_eq_true rfl) dX3_raise_39 ⟨Nat.le_of_ble_eq_true rfl, Nat.le_of_ble_eq_true rfl⟩ (fun v Z1 H locs hpost hH hS => ?_)
        obtain ⟨rfl, rfl⟩ := hpost
        refine lv_aload_n hx hb dX3_raise_42 rfl (lv_at hl 1 rfl) ?_
        refine lv_iload_n hx hb dX3_raise_43 rfl (lv_at hl 0 rfl) ?_
        refine cV S (c_X3_sideOf (l := l) (D := D) (lo := lo) (Γ := Γ) (C := C) (V := V) (th := th) (mn := mn) (tm := tm') (kt := kt) (Q := Q') (zs := zs) (be := be) (kp := kp) lt_p1 lt_p2 hpp h0q) (cwV 1 hts gX3_raise_X3_sideOf rfl rfl rfl (by decide +kernel) ⟨Nat.le_of_ble_eq_true rfl, Nat.le_of_ble_eq_true rfl⟩) hK hH (Hp_recv hK hH (gmo hH (j := 3) (by simp)).1 (gmo hH (j := 3) (by simp)).2.1 rfl) hS rfl hl.1 rfl (Nat.le_of_ble_eq_true rfl) dX3_raise_44 ⟨Nat.le_of_ble_eq_true rfl, Nat.le_of_ble_eq_true rfl⟩ (fun v Z1 H locs hpost hH hS => ?_)
        obtain ⟨rfl, rfl⟩ := hpost
        rw [i1, i2]
        refine lv_icmp_ne (tgt := 54) hx hb dX3_raise_47 (by decide) (fun h1 => ?_) (fun h1 => ?_)
        · skip
          have hs12 : ¬ s1 = s2 := fun q => h1 (by rw [q])
          rw [if_neg hs12] at g2 g4 g5
          obtain ⟨f1, f2⟩ := rai_mid_ne hz' hnd
          refine lv_iload_n hx hb dX3_raise_54 rfl (lv_at hl 2 rfl) ?_
          refine cV S (c_X3_turn (l := l) (D := D) (lo := lo) (Γ := Γ) (C := C) (V := V) (th := th) (mn := mn) (tm := tm') (kt := kt) (Q := Q') (zs := zs) (be := be) (kp := kp) (k := k) hz' h40') (cwV 1 hts gX3_raise_X3_turn rfl rfl rfl (by decide +kernel) ⟨Nat.le_of_ble_eq_true rfl, Nat.le_of_ble_eq_true rfl⟩) hK hH (Hp_recv hK hH (gmo hH (j := 3) (by simp)).1 (gmo hH (j := 3) (by simp)).2.1 rfl) hS rfl hl.1 rfl (Nat.le_of_ble_eq_true rfl) dX3_raise_55 ⟨Nat.le_of_ble_eq_true rfl, Nat.le_of_ble_eq_true rfl⟩ (fun v Z1 H locs hpost hH hS => ?_)
          obtain ⟨rfl, rfl⟩ := hpost
          refine lv_aload_n hx hb dX3_raise_58 rfl (lv_at hl 1 rfl) ?_
          refine lv_iload_n hx hb dX3_raise_59 rfl (lv_at hl 2 rfl) ?_
          refine cV S (c_X3_turn (l := l) (D := D) (lo := lo) (Γ := Γ) (C := C) (V := V) (th := th) (mn := mn) (tm := (tm' + 1)) (kt := kt) (Q := (trn Q' k)) (zs := zs) (be := be) (kp := kp) (k := k) f1 (by rw [f2]; exact h40')) (cwV 1 hts gX3_raise_X3_turn rfl rfl rfl (by decide +kernel) ⟨Nat.le_of_ble_eq_true rfl, Nat.le_of_ble_eq_true rfl⟩) hK hH (Hp_recv hK hH (gmo hH (j := 3) (by simp)).1 (gmo hH (j := 3) (by simp)).2.1 rfl) hS rfl hl.1 rfl (Nat.le_of_ble_eq_true rfl) dX3_raise_60 ⟨Nat.le_of_ble_eq_true rfl, Nat.le_of_ble_eq_true rfl⟩ (fun v Z1 H locs hpost hH hS => ?_)
          obtain ⟨rfl, rfl⟩ := hpost
          refine lv_goto (tgt := 0) hx hb dX3_raise_63 (by decide) ?_
          exact ih C2 _ l2 r2 (tm' + 1 + 1) (by omega) g2 (by rw [g3, hid]) (by rw [← hrai]; show _ = rai k C2 _; rw [if_neg hs12]) (by omega) H locs hH hS ls (lv_sub hl [1, 2] rfl)
        · skip
          have hs12 : s1 = s2 := by cases s1 <;> cases s2 <;> first | rfl | exact absurd h1 (by decide)
          rw [if_pos hs12] at g2 g4 g5
          subst hs12
          obtain ⟨x9, y9, u9, f1, f2, f3, f4⟩ := rai_mid_eq hz' hnd
          refine lv_iload_n hx hb dX3_raise_50 rfl (lv_at hl 0 rfl) ?_
          refine lv_goto (tgt := 55) hx hb dX3_raise_51 (by decide) ?_
          refine cV S (c_X3_turn (l := l) (D := D) (lo := lo) (Γ := Γ) (C := C) (V := V) (th := th) (mn := mn) (tm := tm') (kt := kt) (Q := Q') (zs := zs) (be := be) (kp := kp) (k := p1) f1 (by rw [f2]; exact h40')) (cwV 1 hts gX3_raise_X3_turn rfl rfl rfl (by decide +kernel) ⟨Nat.le_of_ble_eq_true rfl, Nat.le_of_ble_eq_true rfl⟩) hK hH (Hp_recv hK hH (gmo hH (j := 3) (by simp)).1 (gmo hH (j := 3) (by simp)).2.1 rfl) hS rfl hl.1 rfl (Nat.le_of_ble_eq_true rfl) dX3_raise_55 ⟨Nat.le_of_ble_eq_true rfl, Nat.le_of_ble_eq_true rfl⟩ (fun v Z1 H locs hpost hH hS => ?_)
          obtain ⟨rfl, rfl⟩ := hpost
          refine lv_aload_n hx hb dX3_raise_58 rfl (lv_at hl 1 rfl) ?_
          refine lv_iload_n hx hb dX3_raise_59 rfl (lv_at hl 2 rfl) ?_
          refine cV S (c_X3_turn (l := l) (D := D) (lo := lo) (Γ := Γ) (C := C) (V := V) (th := th) (mn := mn) (tm := (tm' + 1)) (kt := kt) (Q := (trn Q' p1)) (zs := zs) (be := be) (kp := kp) (k := k) f3 (by rw [f4]; exact h40')) (cwV 1 hts gX3_raise_X3_turn rfl rfl rfl (by decide +kernel) ⟨Nat.le_of_ble_eq_true rfl, Nat.le_of_ble_eq_true rfl⟩) hK hH (Hp_recv hK hH (gmo hH (j := 3) (by simp)).1 (gmo hH (j := 3) (by simp)).2.1 rfl) hS rfl hl.1 rfl (Nat.le_of_ble_eq_true rfl) dX3_raise_60 ⟨Nat.le_of_ble_eq_true rfl, Nat.le_of_ble_eq_true rfl⟩ (fun v Z1 H locs hpost hH hS => ?_)
          obtain ⟨rfl, rfl⟩ := hpost
          refine lv_goto (tgt := 0) hx hb dX3_raise_63 (by decide) ?_
          exact ih C2 _ l2 r2 (tm' + 1 + 1) (by omega) g2 (by rw [g3, hid]) (by rw [← hrai]; show _ = rai k C2 _; rw [if_pos rfl]) (by omega) H locs hH hS ls (lv_sub hl [1, 2] rfl)
  exact loop X.length X Q lt9 r9 tm (Nat.le_refl _) hz rfl rfl rfl _ _ hH hS ls (lv_sub hl [0, 1] rfl)

set_option maxRecDepth 100000 in
set_option maxHeartbeats 4000000 in
theorem c_X3_raiseIn {r k : Nat} {lt9 r9 : Tr} {X : Cx} (hr6 : r < 6) (hz : Zp Q (.branch k lt9 r9) X) (hn : (tids (plug (.branch k lt9 r9) X)).Nodup) (h40 : ∀ b ∈ tids (plug (.branch k lt9 r9) X), b < 40) : Md l yX3_raiseIn wsX3_raiseIn (rmL 4 0 0) D lo Γ [.ref (gxa Γ 3), .int (nI r), .int (nI k)] (C, (th, mn, tm, kt, Q, zs, be, kp), V) none (C, (th, mn, (tm + X.length), kt, (sP (rai k X Q) 3 r (some k)), zs, be, kp), V) := by
  refine Mz_of (cc := cX3_raiseIn) (maxL := 3) (ret := none) (by decide) rfl (Nat.le_of_ble_eq_true rfl) ?_
  intro p e s m args below meth c ls S hr hlocks hK hH hS hl
  have hx := S.1
  have hb := S.2.1
  have hts := S.2.2.2.2
  have f9 : (Cond.fieldLink RX3 9 (TX3 3).1 (TX3 3).2.1 (TX3 3).2.2.1).before args s = true := hts _ (List.mem_of_getElem? (i := 1) rfl)
  have hi3 : ∀ w ∈ wsX30, w ∈ wsX3_raiseIn := by decide +kernel
  have hl : lv_has ls 3 [(0, .ref (gxa Γ 3)), (1, .int (nI r)), (2, .int (nI k))] := hl
  refine lv_aload_n hx hb dX3_raiseIn_0 rfl (lv_at hl 0 rfl) ?_
  refine lv_iload_n hx hb dX3_raiseIn_1 rfl (lv_at hl 2 rfl) ?_
  refine cV S (c_X3_raise (l := l) (D := D) (lo := lo) (Γ := Γ) (C := C) (V := V) (th := th) (mn := mn) (tm := tm) (kt := kt) (Q := Q) (zs := zs) (be := be) (kp := kp) hz hn h40) (cwV 1 hts gX3_raiseIn_X3_raise rfl rfl rfl (by decide +kernel) ⟨Nat.le_of_ble_eq_true rfl, Nat.le_of_ble_eq_true rfl⟩) hK hH (Hp_recv hK hH (gmo hH (j := 3) (by simp)).1 (gmo hH (j := 3) (by simp)).2.1 rfl) hS rfl hl.1 rfl (Nat.le_of_ble_eq_true rfl) dX3_raiseIn_2 ⟨Nat.le_of_ble_eq_true rfl, Nat.le_of_ble_eq_true rfl⟩ (fun v Z1 H locs hpost hH hS => ?_)
  obtain ⟨rfl, rfl⟩ := hpost
  refine lv_aload_n hx hb dX3_raiseIn_5 rfl (lv_at hl 0 rfl) ?_
  refine gM S hi3 hK hH 3 (by decide) f9 (v := .ref (gna Γ)) rfl dX3_raiseIn_6 ?_
  refine lv_sipush (v := 200) hx hb dX3_raiseIn_9 (by decide +kernel) ?_
  refine lv_iload_n hx hb dX3_raiseIn_12 rfl (lv_at hl 1 rfl) ?_
  refine lv_iadd hx hb dX3_raiseIn_13 ?_
  refine lv_iload_n hx hb dX3_raiseIn_14 rfl (lv_at hl 2 rfl) ?_
  refine pNtp S hK hH hS (some k) rfl hr6 dX3_raiseIn_15 (fun H locs hH hS => ?_)
  exact eV S hr hlocks hH hS ⟨rfl, rfl⟩ dX3_raiseIn_16

set_option maxRecDepth 100000 in
set_option maxHeartbeats 4000000 in
theorem c_X3_sizeAt {r : Option Nat} (h : ∀ b, r = some b → b < 40 ∧ zs b = some (zn zs b)) : Md l yX3_sizeAt wsX3_sizeAt (rmL 1 0 0) D lo Γ [.ref (gxa Γ 3), .int (er r)] (C, (th, mn, tm, kt, Q, zs, be, kp), V) (some (.int (er (r.map (zn zs))))) (C, (th, mn, tm, kt, Q, zs, be, kp), V) := by
  refine Mz_of (cc := cX3_sizeAt) (maxL := 2) (ret := (some .int)) (by decide) rfl (Nat.le_of_ble_eq_true rfl) ?_
  intro p e s m args below meth c ls S hr hlocks hK hH hS hl
  have hx := S.1
  have hb := S.2.1
  have hts := S.2.2.2.2
  have f9 : (Cond.fieldLink RX3 9 (TX3 3).1 (TX3 3).2.1 (TX3 3).2.2.1).before args s = true := hts _ (List.mem_of_getElem? (i := 1) rfl)
  have hi3 : ∀ w ∈ wsX30, w ∈ wsX3_sizeAt := by decide +kernel
  have hl : lv_has ls 2 [(0, .ref (gxa Γ 3)), (1, .int (er r))] := hl
  rcases r with _ | b
  · skip
    have hl : lv_has ls 2 [(0, .ref (gxa Γ 3)), (1, .int (-1))] := hl
    refine lv_iload_n hx hb dX3_sizeAt_0 rfl (lv_at hl 1 rfl) ?_
    refine lv_iconst (v := -1) hx hb dX3_sizeAt_1 (by decide) ?_
    refine lv_icmp_ne (tgt := 9) hx hb dX3_sizeAt_2 (by decide) (fun h1 => absurd rfl h1) (fun _ => ?_)
    refine lv_iconst (v := -1) hx hb dX3_sizeAt_5 (by decide) ?_
    refine lv_goto (tgt := 17) hx hb dX3_sizeAt_6 (by decide) ?_
    exact eI S hr hlocks hH hS ⟨rfl, rfl⟩ dX3_sizeAt_17
  · skip
    obtain ⟨lt_b, hb9⟩ := h b rfl
    have hl : lv_has ls 2 [(0, .ref (gxa Γ 3)), (1, .int (nI b))] := hl
    refine lv_iload_n hx hb dX3_sizeAt_0 rfl (lv_at hl 1 rfl) ?_
    refine lv_iconst (v := -1) hx hb dX3_sizeAt_1 (by decide) ?_
    refine lv_icmp_ne (tgt := 9) hx hb dX3_sizeAt_2 (by decide) (fun _ => ?_) (fun h1 => absurd h1 (nI_nm1 (Nat.lt_trans lt_b (by decide))))
    refine lv_aload_n hx hb dX3_sizeAt_9 rfl (lv_at hl 0 rfl) ?_
    refine gM S hi3 hK hH 3 (by decide) f9 (v := .ref (gna Γ)) rfl dX3_sizeAt_10 ?_
    refine lv_iconst (v := 0) hx hb dX3_sizeAt_13 (by decide) ?_
    refine lv_iload_n hx hb dX3_sizeAt_14 rfl (lv_at hl 1 rfl) ?_
    refine lv_iadd hx hb dX3_sizeAt_15 ?_
    refine gN S hK hH (n := b) (x := nI (zn zs b)) ((nI_ofadd (a := 0) rfl).trans (by rw [Nat.zero_add])) (Nat.lt_trans lt_b (by decide)) ((enc_sz lt_b).trans (congrArg er hb9)) dX3_sizeAt_16 ?_
    exact eI S hr hlocks hH hS ⟨rfl, rfl⟩ dX3_sizeAt_17
end MMod2
