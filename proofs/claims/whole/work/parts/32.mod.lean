/-! METHODS of the reference: its helpers -/
def tn (r : Option Nat) : Int32 := match r with
  | none => 0
  | some _ => 1
theorem nI_nm1 {k : Nat} (h : k < 2 ^ 31) : ¬ nI k = -1 := fun e => by
  have h1 : (nI k).toInt = (k : Int) := nI_toInt h
  rw [e] at h1
  have h2 : (-1 : Int32).toInt = -1 := by decide
  omega
/-- a row of the reference holds a tree of places -/
def RT (Q : PF) (zs : Nat → Option Nat) (r : Nat) (t : Tr) : Prop := Q 3 r = rt t ∧ rep Q none t ∧ (tids t).Nodup ∧ ∀ a ∈ tids t, a < 40 ∧ zs a = some (zn zs a) ∧ zn zs a < 1000
section MMod
variable {l : Launch} {D : va_G} {lo : Nat} {Γ : GT} {C : CW} {V : Int64 × UInt64} {th mn tm kt : Nat} {Q : PF} {zs : Nat → Option Nat} {be : Nat → Nat} {kp : Nat → Int32}
set_option maxRecDepth 100000 in
set_option maxHeartbeats 4000000 in
theorem c_X3_thrown  : Md l yX3_thrown wsX3_thrown (rmL 1 0 0) D lo Γ [.ref (gxa Γ 3)] (C, (th, mn, tm, kt, Q, zs, be, kp), V) (some (.int (nI th))) (C, (th, mn, tm, kt, Q, zs, be, kp), V) := by
  refine Mz_of (cc := cX3_thrown) (maxL := 1) (ret := (some .int)) (by decide) rfl (Nat.le_of_ble_eq_true rfl) ?_
  intro p e s m args below meth c ls S hr hlocks hK hH hS hl
  have hx := S.1
  have hb := S.2.1
  have hts := S.2.2.2.2
  have f16 : (Cond.fieldLink RX3 16 (TX3 0).1 (TX3 0).2.1 (TX3 0).2.2.1).before args s = true := hts _ (List.mem_of_getElem? (i := 1) rfl)
  have hi3 : ∀ w ∈ wsX30, w ∈ wsX3_thrown := by decide +kernel
  have hl : lv_has ls 1 [(0, .ref (gxa Γ 3))] := hl
  refine lv_aload_n hx hb dX3_thrown_0 rfl (lv_at hl 0 rfl) ?_
  refine gM S hi3 hK hH 0 (by decide) f16 (v := .int (nI th)) rfl dX3_thrown_1 ?_
  exact eI S hr hlocks hH hS ⟨rfl, rfl⟩ dX3_thrown_4

set_option maxRecDepth 100000 in
set_option maxHeartbeats 4000000 in
theorem c_X3_no {n : Nat} : Md l yX3_no wsX3_no (rmL 1 0 0) D lo Γ [.ref (gxa Γ 3), .int (nI n)] (C, (th, mn, tm, kt, Q, zs, be, kp), V) (some (.int 0)) (C, (n, mn, tm, kt, Q, zs, be, kp), V) := by
  refine Mz_of (cc := cX3_no) (maxL := 2) (ret := (some .int)) (by decide) rfl (Nat.le_of_ble_eq_true rfl) ?_
  intro p e s m args below meth c ls S hr hlocks hK hH hS hl
  have hx := S.1
  have hb := S.2.1
  have hts := S.2.2.2.2
  have f16 : (Cond.fieldLink RX3 16 (TX3 0).1 (TX3 0).2.1 (TX3 0).2.2.1).before args s = true := hts _ (List.mem_of_getElem? (i := 1) rfl)
  have hi3 : ∀ w ∈ wsX30, w ∈ wsX3_no := by decide +kernel
  have hl : lv_has ls 2 [(0, .ref (gxa Γ 3)), (1, .int (nI n))] := hl
  refine lv_aload_n hx hb dX3_no_0 rfl (lv_at hl 0 rfl) ?_
  refine lv_iload_n hx hb dX3_no_1 rfl (lv_at hl 1 rfl) ?_
  refine pM S hi3 hK hH hS 0 (by decide) f16 (n, mn, tm, kt, Q, zs, be, kp) rfl rfl dX3_no_2 (fun H locs hH hS => ?_)
  refine lv_iconst (v := 0) hx hb dX3_no_5 (by decide) ?_
  exact eI S hr hlocks hH hS ⟨rfl, rfl⟩ dX3_no_6

set_option maxRecDepth 100000 in
set_option maxHeartbeats 4000000 in
theorem c_X3_isNot {n : Nat} : Md l yX3_isNot wsX3_isNot (rmL 1 0 0) D lo Γ [.ref (gxa Γ 3), .int (nI n)] (C, (th, mn, tm, kt, Q, zs, be, kp), V) (some (.int 0)) (C, (n, mn, tm, kt, Q, zs, be, kp), V) := by
  refine Mz_of (cc := cX3_isNot) (maxL := 2) (ret := (some .boolean)) (by decide) rfl (Nat.le_of_ble_eq_true rfl) ?_
  intro p e s m args below meth c ls S hr hlocks hK hH hS hl
  have hx := S.1
  have hb := S.2.1
  have hts := S.2.2.2.2
  have f16 : (Cond.fieldLink RX3 16 (TX3 0).1 (TX3 0).2.1 (TX3 0).2.2.1).before args s = true := hts _ (List.mem_of_getElem? (i := 1) rfl)
  have hi3 : ∀ w ∈ wsX30, w ∈ wsX3_isNot := by decide +kernel
  have hl : lv_has ls 2 [(0, .ref (gxa Γ 3)), (1, .int (nI n))] := hl
  refine lv_aload_n hx hb dX3_isNot_0 rfl (lv_at hl 0 rfl) ?_
  refine lv_iload_n hx hb dX3_isNot_1 rfl (lv_at hl 1 rfl) ?_
  refine pM S hi3 hK hH hS 0 (by decide) f16 (n, mn, tm, kt, Q, zs, be, kp) rfl rfl dX3_isNot_2 (fun H locs hH hS => ?_)
  refine lv_iconst (v := 0) hx hb dX3_isNot_5 (by decide) ?_
  exact eZ S hr hlocks (Or.inl rfl) hH hS ⟨rfl, rfl⟩ dX3_isNot_6

set_option maxRecDepth 100000 in
set_option maxHeartbeats 4000000 in
theorem c_X3_ok {x : Int32} : Md l yX3_ok wsX3_ok (rmL 1 0 0) D lo Γ [.ref (gxa Γ 3), .int x] (C, (th, mn, tm, kt, Q, zs, be, kp), V) (some (.int x)) (C, (0, mn, tm, kt, Q, zs, be, kp), V) := by
  refine Mz_of (cc := cX3_ok) (maxL := 2) (ret := (some .int)) (by decide) rfl (Nat.le_of_ble_eq_true rfl) ?_
  intro p e s m args below meth c ls S hr hlocks hK hH hS hl
  have hx := S.1
  have hb := S.2.1
  have hts := S.2.2.2.2
  have f16 : (Cond.fieldLink RX3 16 (TX3 0).1 (TX3 0).2.1 (TX3 0).2.2.1).before args s = true := hts _ (List.mem_of_getElem? (i := 1) rfl)
  have hi3 : ∀ w ∈ wsX30, w ∈ wsX3_ok := by decide +kernel
  have hl : lv_has ls 2 [(0, .ref (gxa Γ 3)), (1, .int x)] := hl
  refine lv_aload_n hx hb dX3_ok_0 rfl (lv_at hl 0 rfl) ?_
  refine lv_iconst (v := 0) hx hb dX3_ok_1 (by decide) ?_
  refine pM S hi3 hK hH hS 0 (by decide) f16 (0, mn, tm, kt, Q, zs, be, kp) rfl rfl dX3_ok_2 (fun H locs hH hS => ?_)
  refine lv_iload_n hx hb dX3_ok_5 rfl (lv_at hl 1 rfl) ?_
  exact eI S hr hlocks hH hS ⟨rfl, rfl⟩ dX3_ok_6

set_option maxRecDepth 100000 in
set_option maxHeartbeats 4000000 in
theorem c_X3_isRow {x : Int32} : Md l yX3_isRow wsX3_isRow (rmL 1 0 0) D lo Γ [.int x] (C, (th, mn, tm, kt, Q, zs, be, kp), V) (some (.int (tn (rowN x)))) (C, (th, mn, tm, kt, Q, zs, be, kp), V) := by
  refine Mz_of (cc := cX3_isRow) (maxL := 1) (ret := (some .boolean)) (by decide) rfl (Nat.le_of_ble_eq_true rfl) ?_
  intro p e s m args below meth c ls S hr hlocks hK hH hS hl
  have hx := S.1
  have hb := S.2.1
  have hts := S.2.2.2.2
  have hl : lv_has ls 1 [(0, .int x)] := hl
  refine lv_iload_n hx hb dX3_isRow_0 rfl (lv_at hl 0 rfl) ?_
  refine lv_if_lt (tgt := 14) hx hb dX3_isRow_1 (by decide) (fun h1 => ?_) (fun h1 => ?_)
  · skip
    refine lv_iconst (v := 0) hx hb dX3_isRow_14 (by decide) ?_
    exact eZ S hr hlocks (Or.inl rfl) hH hS ⟨by rw [rowN, if_pos h1]; rfl, rfl⟩ dX3_isRow_15
  · skip
    refine lv_iload_n hx hb dX3_isRow_4 rfl (lv_at hl 0 rfl) ?_
    refine lv_bipush (v := 6) hx hb dX3_isRow_5 (by decide +kernel) ?_
    refine lv_icmp_ge (tgt := 14) hx hb dX3_isRow_7 (by decide) (fun h2 => ?_) (fun h2 => ?_)
    · skip
      have h2 : ¬ x < 6 := fun q => absurd h2 (Int32.not_le.mpr q)
      refine lv_iconst (v := 0) hx hb dX3_isRow_14 (by decide) ?_
      exact eZ S hr hlocks (Or.inl rfl) hH hS ⟨by rw [rowN, if_neg h1, if_neg h2]; rfl, rfl⟩ dX3_isRow_15
    · skip
      have h2 : x < 6 := Int32.not_le.mp h2
      refine lv_iconst (v := 1) hx hb dX3_isRow_10 (by decide) ?_
      refine lv_goto (tgt := 15) hx hb dX3_isRow_11 (by decide) ?_
      exact eZ S hr hlocks (Or.inr rfl) hH hS ⟨by rw [rowN, if_neg h1, if_pos h2]; rfl, rfl⟩ dX3_isRow_15

set_option maxRecDepth 100000 in
set_option maxHeartbeats 4000000 in
theorem c_X3_isSize {x : Int32} : Md l yX3_isSize wsX3_isSize (rmL 1 0 0) D lo Γ [.int x] (C, (th, mn, tm, kt, Q, zs, be, kp), V) (some (.int (tn (szN x)))) (C, (th, mn, tm, kt, Q, zs, be, kp), V) := by
  refine Mz_of (cc := cX3_isSize) (maxL := 1) (ret := (some .boolean)) (by decide) rfl (Nat.le_of_ble_eq_true rfl) ?_
  intro p e s m args below meth c ls S hr hlocks hK hH hS hl
  have hx := S.1
  have hb := S.2.1
  have hts := S.2.2.2.2
  have hl : lv_has ls 1 [(0, .int x)] := hl
  refine lv_iload_n hx hb dX3_isSize_0 rfl (lv_at hl 0 rfl) ?_
  refine lv_if_lt (tgt := 15) hx hb dX3_isSize_1 (by decide) (fun h1 => ?_) (fun h1 => ?_)
  · skip
    refine lv_iconst (v := 0) hx hb dX3_isSize_15 (by decide) ?_
    exact eZ S hr hlocks (Or.inl rfl) hH hS ⟨by rw [szN, if_pos h1]; rfl, rfl⟩ dX3_isSize_16
  · skip
    refine lv_iload_n hx hb dX3_isSize_4 rfl (lv_at hl 0 rfl) ?_
    refine lv_sipush (v := 999) hx hb dX3_isSize_5 (by decide +kernel) ?_
    refine lv_icmp_gt (tgt := 15) hx hb dX3_isSize_8 (by decide) (fun h2 => ?_) (fun h2 => ?_)
    · skip
      have h2 : ¬ x ≤ 999 := fun q => absurd h2 (Int32.not_lt.mpr q)
      refine lv_iconst (v := 0) hx hb dX3_isSize_15 (by decide) ?_
      exact eZ S hr hlocks (Or.inl rfl) hH hS ⟨by rw [szN, if_neg h1, if_neg h2]; rfl, rfl⟩ dX3_isSize_16
    · skip
      have h2 : x ≤ 999 := Int32.not_lt.mp h2
      refine lv_iconst (v := 1) hx hb dX3_isSize_11 (by decide) ?_
      refine lv_goto (tgt := 16) hx hb dX3_isSize_12 (by decide) ?_
      exact eZ S hr hlocks (Or.inr rfl) hH hS ⟨by rw [szN, if_neg h1, if_pos h2]; rfl, rfl⟩ dX3_isSize_16

set_option maxRecDepth 100000 in
set_option maxHeartbeats 4000000 in
theorem c_X3_find {r : Nat} {t : Tr} {x : Int32} (hr6 : r < 6) (h : RT Q zs r t) : Md l yX3_find wsX3_find (rmL 1 0 0) D lo Γ [.ref (gxa Γ 3), .int (nI r), .int x] (C, (th, mn, tm, kt, Q, zs, be, kp), V) (some (.int (er (fnd (zn zs) x.toInt t)))) (C, (th, mn, tm, kt, Q, zs, be, kp), V) := by
  refine Mz_of (cc := cX3_find) (maxL := 4) (ret := (some .int)) (by decide) rfl (Nat.le_of_ble_eq_true rfl) ?_
  intro p e s m args below meth c ls S hr hlocks hK hH hS hl
  have hx := S.1
  have hb := S.2.1
  have hts := S.2.2.2.2
  have f9 : (Cond.fieldLink RX3 9 (TX3 3).1 (TX3 3).2.1 (TX3 3).2.2.1).before args s = true := hts _ (List.mem_of_getElem? (i := 1) rfl)
  have hi3 : ∀ w ∈ wsX30, w ∈ wsX3_find := by decide +kernel
  have hl : lv_has ls 4 [(0, .ref (gxa Γ 3)), (1, .int (nI r)), (2, .int x)] := hl
  obtain ⟨h_top, h_rep, h_nd, h_ok⟩ := h
  refine lv_aload_n hx hb dX3_find_0 rfl (lv_at hl 0 rfl) ?_
  refine gM S hi3 hK hH 3 (by decide) f9 (v := .ref (gna Γ)) rfl dX3_find_1 ?_
  refine lv_sipush (v := 200) hx hb dX3_find_4 (by decide +kernel) ?_
  refine lv_iload_n hx hb dX3_find_7 rfl (lv_at hl 1 rfl) ?_
  refine lv_iadd hx hb dX3_find_8 ?_
  refine gN S hK hH (n := 200 + r) (x := er (rt t)) (nI_ofadd (a := 200) rfl) (by have := hr6; omega) (enc_tp.trans (congrArg er h_top)) dX3_find_9 ?_
  refine lv_istore_n (lv' := [(3, .int (er (rt t))), (0, .ref (gxa Γ 3)), (1, .int (nI r)), (2, .int x)]) hx hb dX3_find_10 rfl hl (by decide) rfl (fun ls hl => ?_)
  have loop : ∀ (t' : Tr) (par' : Option Nat), rep Q par' t' → (∀ a ∈ tids t', a < 40 ∧ zs a = some (zn zs a) ∧ zn zs a < 1000) → fnd (zn zs) x.toInt t' = fnd (zn zs) x.toInt t → ∀ ls, lv_has ls 4 [(3, .int (er (rt t'))), (0, .ref (gxa Γ 3)), (2, .int x)] → W p l e (rmL 1 0 0) s m args below meth c s.heap [] 0 0 (MQ below (Qz D lo Γ (fun v Z' => v = (some (.int (er (fnd (zn zs) x.toInt t)))) ∧ Z' = (C, (th, mn, tm, kt, Q, zs, be, kp), V))) args s ((rmL 1 0 0) : Room).cells ((rmL 1 0 0) : Room).slots (lA lo)) (F0 m 11 ls []) := by
    intro t'
    induction t' with
    | leaf u =>
      intro par' h2 ok hf ls hl
      have hl : lv_has ls 4 [(3, .int (-1)), (0, .ref (gxa Γ 3)), (2, .int x)] := hl
      refine lv_iload_n hx hb dX3_find_11 rfl (lv_at hl 0 rfl) ?_
      refine lv_iconst (v := -1) hx hb dX3_find_12 (by decide) ?_
      refine lv_icmp_eq (tgt := 58) hx hb dX3_find_13 (by decide) (fun _ => ?_) (fun h1 => absurd rfl h1)
      refine lv_iload_n hx hb dX3_find_58 rfl (lv_at hl 0 rfl) ?_
      exact eI S hr hlocks hH hS ⟨by rw [← hf]; rfl, rfl⟩ dX3_find_59
    | branch k l r ihl ihr =>
      intro par' h2 ok hf ls hl
      have hl : lv_has ls 4 [(3, .int (nI k)), (0, .ref (gxa Γ 3)), (2, .int x)] := hl
      obtain ⟨g2, g0, g1, gl, gr⟩ := h2
      obtain ⟨lt_k, hzk, hz1⟩ := ok k (by simp [tids])
      have hz9 : (nI (zn zs k)).toInt = (zn zs k : Int) := nI_toInt (by omega)
      have okl : ∀ a ∈ tids l, a < 40 ∧ zs a = some (zn zs a) ∧ zn zs a < 1000 := fun a ha => ok a (by simp [tids, ha])
      have okr : ∀ a ∈ tids r, a < 40 ∧ zs a = some (zn zs a) ∧ zn zs a < 1000 := fun a ha => ok a (by simp [tids, ha])
      rw [fnd] at hf
      refine lv_iload_n hx hb dX3_find_11 rfl (lv_at hl 0 rfl) ?_
      refine lv_iconst (v := -1) hx hb dX3_find_12 (by decide) ?_
      refine lv_icmp_eq (tgt := 58) hx hb dX3_find_13 (by decide) (fun h1 => absurd h1 (nI_nm1 (Nat.lt_trans lt_k (by decide)))) (fun _ => ?_)
      refine lv_aload_n hx hb dX3_find_16 rfl (lv_at hl 1 rfl) ?_
      refine gM S hi3 hK hH 3 (by decide) f9 (v := .ref (gna Γ)) rfl dX3_find_17 ?_
      refine lv_iconst (v := 0) hx hb dX3_find_20 (by decide) ?_
      refine lv_iload_n hx hb dX3_find_21 rfl (lv_at hl 0 rfl) ?_
      refine lv_iadd hx hb dX3_find_22 ?_
      refine gN S hK hH (n := k) (x := nI (zn zs k)) ((nI_ofadd (a := 0) rfl).trans (by rw [Nat.zero_add])) (Nat.lt_trans lt_k (by decide)) ((enc_sz lt_k).trans (congrArg er hzk)) dX3_find_23 ?_
      refine lv_iload_n hx hb dX3_find_24 rfl (lv_at hl 2 rfl) ?_
      refine lv_icmp_eq (tgt := 58) hx hb dX3_find_25 (by decide) (fun h1 => ?_) (fun h1 => ?_)
      · skip
        rw [if_pos (by rw [← h1, hz9])] at hf
        refine lv_iload_n hx hb dX3_find_58 rfl (lv_at hl 0 rfl) ?_
        exact eI S hr hlocks hH hS ⟨by rw [← hf]; rfl, rfl⟩ dX3_find_59
      · skip
        rw [if_neg (fun q => h1 (Int32.toInt_inj.mp (by rw [hz9]; exact q.symm)))] at hf
        refine lv_aload_n hx hb dX3_find_28 rfl (lv_at hl 1 rfl) ?_
        refine gM S hi3 hK hH 3 (by decide) f9 (v := .ref (gna Γ)) rfl dX3_find_29 ?_
        refine lv_iload_n hx hb dX3_find_32 rfl (lv_at hl 2 rfl) ?_
        refine lv_aload_n hx hb dX3_find_33 rfl (lv_at hl 1 rfl) ?_
        refine gM S hi3 hK hH 3 (by decide) f9 (v := .ref (gna Γ)) rfl dX3_find_34 ?_
        refine lv_iconst (v := 0) hx hb dX3_find_37 (by decide) ?_
        refine lv_iload_n hx hb dX3_find_38 rfl (lv_at hl 0 rfl) ?_
        refine lv_iadd hx hb dX3_find_39 ?_
        refine gN S hK hH (n := k) (x := nI (zn zs k)) ((nI_ofadd (a := 0) rfl).trans (by rw [Nat.zero_add])) (Nat.lt_trans lt_k (by decide)) ((enc_sz lt_k).trans (congrArg er hzk)) dX3_find_40 ?_
        refine lv_icmp_ge (tgt := 49) hx hb dX3_find_41 (by decide) (fun h2 => ?_) (fun h2 => ?_)
        · skip
          have h3 : ¬ x.toInt < (zn zs k : Int) := by have := Int32.le_iff_toInt_le.mp h2; omega
          rw [if_neg h3] at hf
          refine lv_bipush (v := 80) hx hb dX3_find_49 (by decide +kernel) ?_
          refine lv_iload_n hx hb dX3_find_51 rfl (lv_at hl 0 rfl) ?_
          refine lv_iadd hx hb dX3_find_52 ?_
          refine gN S hK hH (n := 40 * (1 + 1) + k) (x := er (rt r)) (nI_ofadd rfl) (by have := lt_k; omega) ((enc_sd (by decide) lt_k).trans (congrArg er g1)) dX3_find_53 ?_
          refine lv_istore_n (lv' := [(3, .int (er (rt r))), (0, .ref (gxa Γ 3)), (2, .int x)]) hx hb dX3_find_54 rfl hl (by decide) rfl (fun ls hl => ?_)
          refine lv_goto (tgt := 11) hx hb dX3_find_55 (by decide) ?_
          exact ihr (some k) gr okr hf ls (lv_sub hl [0, 1, 2] rfl)
        · skip
          have h3 : x.toInt < (zn zs k : Int) := by have := mt Int32.le_iff_toInt_le.mpr h2; omega
          rw [if_pos h3] at hf
          refine lv_bipush (v := 40) hx hb dX3_find_44 (by decide +kernel) ?_
          refine lv_goto (tgt := 51) hx hb dX3_find_46 (by decide) ?_
          refine lv_iload_n hx hb dX3_find_51 rfl (lv_at hl 0 rfl) ?_
          refine lv_iadd hx hb dX3_find_52 ?_
          refine gN S hK hH (n := 40 * (0 + 1) + k) (x := er (rt l)) (nI_ofadd rfl) (by have := lt_k; omega) ((enc_sd (by decide) lt_k).trans (congrArg er g0)) dX3_find_53 ?_
          refine lv_istore_n (lv' := [(3, .int (er (rt l))), (0, .ref (gxa Γ 3)), (2, .int x)]) hx hb dX3_find_54 rfl hl (by decide) rfl (fun ls hl => ?_)
          refine lv_goto (tgt := 11) hx hb dX3_find_55 (by decide) ?_
          exact ihl (some k) gl okl hf ls (lv_sub hl [0, 1, 2] rfl)
  exact loop t none h_rep h_ok rfl ls (lv_sub hl [0, 1, 3] rfl)

set_option maxRecDepth 100000 in
set_option maxHeartbeats 4000000 in
theorem c_X3_deep {k : Nat} {lt r9 : Tr} {X : Cx} (hz : Zp Q (.branch k lt r9) X) (h40 : ∀ b ∈ tids (plug (.branch k lt r9) X), b < 40) : Md l yX3_deep wsX3_deep (rmL 1 0 0) D lo Γ [.ref (gxa Γ 3), .int (nI k)] (C, (th, mn, tm, kt, Q, zs, be, kp), V) (some (.int (nI X.length))) (C, (th, mn, tm, kt, Q, zs, be, kp), V) := by
  refine Mz_of (cc := cX3_deep) (maxL := 4) (ret := (some .int)) (by decide) rfl (Nat.le_of_ble_eq_true rfl) ?_
  intro p e s m args below meth c ls S hr hlocks hK hH hS hl
  have hx := S.1
  have hb := S.2.1
  have hts := S.2.2.2.2
  have f9 : (Cond.fieldLink RX3 9 (TX3 3).1 (TX3 3).2.1 (TX3 3).2.2.1).before args s = true := hts _ (List.mem_of_getElem? (i := 1) rfl)
  have hi3 : ∀ w ∈ wsX30, w ∈ wsX3_deep := by decide +kernel
  have hl : lv_has ls 4 [(0, .ref (gxa Γ 3)), (1, .int (nI k))] := hl
  obtain ⟨⟨h_up, -⟩, h_c⟩ := hz
  have lt_k : k < 40 := h40 k (by rw [tids_plug]; simp [tids])
  refine lv_iconst (v := 0) hx hb dX3_deep_0 (by decide) ?_
  refine lv_istore_n (lv' := [(2, .int 0), (0, .ref (gxa Γ 3)), (1, .int (nI k))]) hx hb dX3_deep_1 rfl hl (by decide) rfl (fun ls hl => ?_)
  refine lv_aload_n hx hb dX3_deep_2 rfl (lv_at hl 1 rfl) ?_
  refine gM S hi3 hK hH 3 (by decide) f9 (v := .ref (gna Γ)) rfl dX3_deep_3 ?_
  refine lv_bipush (v := 120) hx hb dX3_deep_6 (by decide +kernel) ?_
  refine lv_iload_n hx hb dX3_deep_8 rfl (lv_at hl 2 rfl) ?_
  refine lv_iadd hx hb dX3_deep_9 ?_
  refine gN S hK hH (n := 40 * (2 + 1) + k) (x := er (parC X)) (nI_ofadd rfl) (by have := lt_k; omega) ((enc_sd (by decide) lt_k).trans (congrArg er h_up)) dX3_deep_10 ?_
  refine lv_istore_n (lv' := [(3, .int (er (parC X))), (2, .int 0), (0, .ref (gxa Γ 3)), (1, .int (nI k))]) hx hb dX3_deep_11 rfl hl (by decide) rfl (fun ls hl => ?_)
  have loop : ∀ (X' : Cx) (x9 : Option Nat) (i : Nat), repC Q x9 X' → (∀ b, b ∈ cL X' ∨ b ∈ cR X' → b < 40) → i + X'.length = X.length → ∀ ls, lv_has ls 4 [(3, .int (er (parC X'))), (2, .int (nI i)), (0, .ref (gxa Γ 3))] → W p l e (rmL 1 0 0) s m args below meth c s.heap [] 0 0 (MQ below (Qz D lo Γ (fun v Z' => v = (some (.int (nI X.length))) ∧ Z' = (C, (th, mn, tm, kt, Q, zs, be, kp), V))) args s ((rmL 1 0 0) : Room).cells ((rmL 1 0 0) : Room).slots (lA lo)) (F0 m 12 ls []) := by
    intro X'
    induction X' with
    | nil =>
      intro x9 i h2 ok hi ls hl
      have hl : lv_has ls 4 [(3, .int (-1)), (2, .int (nI i)), (0, .ref (gxa Γ 3))] := hl
      refine lv_iload_n hx hb dX3_deep_12 rfl (lv_at hl 0 rfl) ?_
      refine lv_iconst (v := -1) hx hb dX3_deep_13 (by decide) ?_
      refine lv_icmp_eq (tgt := 33) hx hb dX3_deep_14 (by decide) (fun _ => ?_) (fun h1 => absurd rfl h1)
      refine lv_iload_n hx hb dX3_deep_33 rfl (lv_at hl 1 rfl) ?_
      exact eI S hr hlocks hH hS ⟨by rw [← hi]; rfl, rfl⟩ dX3_deep_34
    | cons f X' ih =>
      intro x9 i h2 ok hi ls hl
      obtain ⟨sd, p, u⟩ := f
      have hl : lv_has ls 4 [(3, .int (nI p)), (2, .int (nI i)), (0, .ref (gxa Γ 3))] := hl
      obtain ⟨-, -, -, g2, gc⟩ := h2
      have lt_p : p < 40 := ok p (by cases sd <;> simp [cL, cR])
      refine lv_iload_n hx hb dX3_deep_12 rfl (lv_at hl 0 rfl) ?_
      refine lv_iconst (v := -1) hx hb dX3_deep_13 (by decide) ?_
      refine lv_icmp_eq (tgt := 33) hx hb dX3_deep_14 (by decide) (fun h1 => absurd h1 (nI_nm1 (Nat.lt_trans lt_p (by decide)))) (fun _ => ?_)
      refine lv_iinc (v := nI (i + 1)) (lv' := [(2, .int (nI (i + 1))), (3, .int (nI p)), (0, .ref (gxa Γ 3))]) hx hb dX3_deep_17 hl (k := 1) rfl (nI_1 i) (by decide) rfl (fun ls hl => ?_)
      refine lv_aload_n hx hb dX3_deep_20 rfl (lv_at hl 2 rfl) ?_
      refine gM S hi3 hK hH 3 (by decide) f9 (v := .ref (gna Γ)) rfl dX3_deep_21 ?_
      refine lv_bipush (v := 120) hx hb dX3_deep_24 (by decide +kernel) ?_
      refine lv_iload_n hx hb dX3_deep_26 rfl (lv_at hl 1 rfl) ?_
      refine lv_iadd hx hb dX3_deep_27 ?_
      refine gN S hK hH (n := 40 * (2 + 1) + p) (x := er (parC X')) (nI_ofadd rfl) (by have := lt_p; omega) ((enc_sd (by decide) lt_p).trans (congrArg er g2)) dX3_deep_28 ?_
      refine lv_istore_n (lv' := [(3, .int (er (parC X'))), (2, .int (nI (i + 1))), (0, .ref (gxa Γ 3))]) hx hb dX3_deep_29 rfl hl (by decide) rfl (fun ls hl => ?_)
      refine lv_goto (tgt := 12) hx hb dX3_deep_30 (by decide) ?_
      exact ih (some p) (i + 1) gc (fun b hb9 => ok b (by cases sd <;> simp only [cL, cR, List.mem_append, List.mem_cons, List.mem_singleton] <;> rcases hb9 with h | h <;> simp [h])) (by rw [← hi, List.length_cons]; omega) ls (lv_sub hl [0, 1, 2] rfl)
  exact loop X (some k) 0 h_c (fun b hb9 => h40 b (by rw [tids_plug]; rcases hb9 with h | h <;> simp [h])) (by omega) ls (lv_sub hl [0, 1, 2] rfl)

set_option maxRecDepth 100000 in
set_option maxHeartbeats 4000000 in
theorem c_X3_free (hz : ∀ k, k < 40 → ∀ n, zs k = some n → n < 1000) (hf : ∃ k, k < 40 ∧ zs k = none) : Mz l yX3_free wsX3_free (rmL 1 0 0) D lo Γ [.ref (gxa Γ 3)] (C, (th, mn, tm, kt, Q, zs, be, kp), V) (fun v Z' => ∃ k, k < 40 ∧ zs k = none ∧ v = some (.int (nI k)) ∧ Z' = (C, (th, mn, tm, kt, Q, zs, be, kp), V)) := by
  refine Mz_of (cc := cX3_free) (maxL := 2) (ret := (some .int)) (by decide) rfl (Nat.le_of_ble_eq_true rfl) ?_
  intro p e s m args below meth c ls S hr hlocks hK hH hS hl
  have hx := S.1
  have hb := S.2.1
  have hts := S.2.2.2.2
  have f9 : (Cond.fieldLink RX3 9 (TX3 3).1 (TX3 3).2.1 (TX3 3).2.2.1).before args s = true := hts _ (List.mem_of_getElem? (i := 1) rfl)
  have hi3 : ∀ w ∈ wsX30, w ∈ wsX3_free := by decide +kernel
  have hl : lv_has ls 2 [(0, .ref (gxa Γ 3))] := hl
  refine lv_iconst (v := 0) hx hb dX3_free_0 (by decide) ?_
  refine lv_istore_n (lv' := [(1, .int 0), (0, .ref (gxa Γ 3))]) hx hb dX3_free_1 rfl hl (by decide) rfl (fun ls hl => ?_)
  have loop : ∀ (n i : Nat), i + n = 40 → (∀ j, j < i → zs j ≠ none) → ∀ ls, lv_has ls 2 [(1, .int (nI i)), (0, .ref (gxa Γ 3))] → W p l e (rmL 1 0 0) s m args below meth c s.heap [] 0 0 (MQ below (Qz D lo Γ (fun v Z' => ∃ k, k < 40 ∧ zs k = none ∧ v = some (.int (nI k)) ∧ Z' = (C, (th, mn, tm, kt, Q, zs, be, kp), V))) args s ((rmL 1 0 0) : Room).cells ((rmL 1 0 0) : Room).slots (lA lo)) (F0 m 2 ls []) := by
    intro n
    induction n with
    | zero =>
      intro i hi ho
      obtain ⟨k, hk, hk2⟩ := hf
      exact absurd hk2 (ho k (by omega))
    | succ n ih =>
      intro i hi ho ls hl
      have lt_i : i < 40 := by omega
      cases hq : zs i with
      | none =>
        refine lv_aload_n hx hb dX3_free_2 rfl (lv_at hl 1 rfl) ?_
        refine gM S hi3 hK hH 3 (by decide) f9 (v := .ref (gna Γ)) rfl dX3_free_3 ?_
        refine lv_iconst (v := 0) hx hb dX3_free_6 (by decide) ?_
        refine lv_iload_n hx hb dX3_free_7 rfl (lv_at hl 0 rfl) ?_
        refine lv_iadd hx hb dX3_free_8 ?_
        refine gN S hK hH (n := i) (x := -1) ((nI_ofadd (a := 0) rfl).trans (by rw [Nat.zero_add])) (Nat.lt_trans lt_i (by decide)) ((enc_sz lt_i).trans (congrArg er hq)) dX3_free_9 ?_
        refine lv_iconst (v := -1) hx hb dX3_free_10 (by decide) ?_
        refine lv_icmp_eq (tgt := 20) hx hb dX3_free_11 (by decide) (fun _ => ?_) (fun h1 => absurd rfl h1)
        refine lv_iload_n hx hb dX3_free_20 rfl (lv_at hl 0 rfl) ?_
        exact eI S hr hlocks hH hS ⟨i, lt_i, hq, rfl, rfl⟩ dX3_free_21
      | some z =>
        have lt_z := hz i lt_i z hq
        refine lv_aload_n hx hb dX3_free_2 rfl (lv_at hl 1 rfl) ?_
        refine gM S hi3 hK hH 3 (by decide) f9 (v := .ref (gna Γ)) rfl dX3_free_3 ?_
        refine lv_iconst (v := 0) hx hb dX3_free_6 (by decide) ?_
        refine lv_iload_n hx hb dX3_free_7 rfl (lv_at hl 0 rfl) ?_
        refine lv_iadd hx hb dX3_free_8 ?_
        refine gN S hK hH (n := i) (x := nI z) ((nI_ofadd (a := 0) rfl).trans (by rw [Nat.zero_add])) (Nat.lt_trans lt_i (by decide)) ((enc_sz lt_i).trans (congrArg er hq)) dX3_free_9 ?_
        refine lv_iconst (v := -1) hx hb dX3_free_10 (by decide) ?_
        refine lv_icmp_eq (tgt := 20) hx hb dX3_free_11 (by decide) (fun h1 => absurd h1 (nI_nm1 (Nat.lt_trans lt_z (by decide)))) (fun _ => ?_)
        refine lv_iinc (v := nI (i + 1)) (lv' := [(1, .int (nI (i + 1))), (0, .ref (gxa Γ 3))]) hx hb dX3_free_14 hl (k := 0) rfl (nI_1 i) (by decide) rfl (fun ls hl => ?_)
        refine lv_goto (tgt := 2) hx hb dX3_free_17 (by decide) ?_
        exact ih (i + 1) (by omega) (fun j hj => by rcases Nat.lt_succ_iff_lt_or_eq.mp hj with h | h; exact ho j h; rw [h, hq]; simp) ls (lv_sub hl [0, 1] rfl)
  exact loop 40 0 rfl (fun j hj => absurd hj (Nat.not_lt_zero j)) ls (lv_sub hl [0, 1] rfl)

set_option maxRecDepth 100000 in
set_option maxHeartbeats 4000000 in
theorem c_X3_endL {t : Tr} {par : Option Nat} (hrep : rep Q par t) (h40 : ∀ a ∈ tids t, a < 40) : Md l yX3_end wsX3_end (rmL 1 0 0) D lo Γ [.ref (gxa Γ 3), .int (er (rt t)), .int 40] (C, (th, mn, tm, kt, Q, zs, be, kp), V) (some (.int (er (tids t).head?))) (C, (th, mn, tm, kt, Q, zs, be, kp), V) := by
  refine Mz_of (cc := cX3_end) (maxL := 4) (ret := (some .int)) (by decide) rfl (Nat.le_of_ble_eq_true rfl) ?_
  intro p e s m args below meth c ls S hr hlocks hK hH hS hl
  have hx := S.1
  have hb := S.2.1
  have hts := S.2.2.2.2
  have f9 : (Cond.fieldLink RX3 9 (TX3 3).1 (TX3 3).2.1 (TX3 3).2.2.1).before args s = true := hts _ (List.mem_of_getElem? (i := 1) rfl)
  have hi3 : ∀ w ∈ wsX30, w ∈ wsX3_end := by decide +kernel
  have hl : lv_has ls 4 [(0, .ref (gxa Γ 3)), (1, .int (er (rt t))), (2, .int 40)] := hl
  refine lv_iload_n hx hb dX3_end_0 rfl (lv_at hl 1 rfl) ?_
  refine lv_istore_n (lv' := [(3, .int (er (rt t))), (0, .ref (gxa Γ 3)), (1, .int (er (rt t))), (2, .int 40)]) hx hb dX3_end_1 rfl hl (by decide) rfl (fun ls hl => ?_)
  have loop : ∀ (t' : Tr) (par' : Option Nat), rep Q par' t' → (∀ a ∈ tids t', a < 40) → (tids t').head? = (tids t).head? → ∀ ls, lv_has ls 4 [(3, .int (er (rt t'))), (2, .int 40), (0, .ref (gxa Γ 3))] → W p l e (rmL 1 0 0) s m args below meth c s.heap [] 0 0 (MQ below (Qz D lo Γ (fun v Z' => v = (some (.int (er (tids t).head?))) ∧ Z' = (C, (th, mn, tm, kt, Q, zs, be, kp), V))) args s ((rmL 1 0 0) : Room).cells ((rmL 1 0 0) : Room).slots (lA lo)) (F0 m 2 ls []) := by
    intro t'
    induction t' with
    | leaf u =>
      intro par' h2 ok hf ls hl
      have hl : lv_has ls 4 [(3, .int (-1)), (2, .int 40), (0, .ref (gxa Γ 3))] := hl
      refine lv_iload_n hx hb dX3_end_2 rfl (lv_at hl 0 rfl) ?_
      refine lv_iconst (v := -1) hx hb dX3_end_3 (by decide) ?_
      refine lv_icmp_eq (tgt := 31) hx hb dX3_end_4 (by decide) (fun _ => ?_) (fun h1 => absurd rfl h1)
      refine lv_iload_n hx hb dX3_end_31 rfl (lv_at hl 0 rfl) ?_
      exact eI S hr hlocks hH hS ⟨by rw [← hf]; rfl, rfl⟩ dX3_end_32
    | branch k l r ihl ihr =>
      intro par' h2 ok hf ls hl
      have hl : lv_has ls 4 [(3, .int (nI k)), (2, .int 40), (0, .ref (gxa Γ 3))] := hl
      obtain ⟨g2, g0, g1, gl, gr⟩ := h2
      have lt_k := ok k (by simp [tids])
      have oks : ∀ a ∈ tids l, a < 40 := fun a ha => ok a (by simp [tids, ha])
      cases hq : l with
      | leaf u =>
        subst hq
        have g0 : Q 0 k = none := g0
        refine lv_iload_n hx hb dX3_end_2 rfl (lv_at hl 0 rfl) ?_
        refine lv_iconst (v := -1) hx hb dX3_end_3 (by decide) ?_
        refine lv_icmp_eq (tgt := 31) hx hb dX3_end_4 (by decide) (fun h1 => absurd h1 (nI_nm1 (Nat.lt_trans lt_k (by decide)))) (fun _ => ?_)
        refine lv_aload_n hx hb dX3_end_7 rfl (lv_at hl 2 rfl) ?_
        refine gM S hi3 hK hH 3 (by decide) f9 (v := .ref (gna Γ)) rfl dX3_end_8 ?_
        refine lv_iload_n hx hb dX3_end_11 rfl (lv_at hl 1 rfl) ?_
        refine lv_iload_n hx hb dX3_end_12 rfl (lv_at hl 0 rfl) ?_
        refine lv_iadd hx hb dX3_end_13 ?_
        refine gN S hK hH (n := 40 * (0 + 1) + k) (x := -1) (nI_ofadd rfl) (by have := lt_k; omega) ((enc_sd (by decide) lt_k).trans (congrArg er g0)) dX3_end_14 ?_
        refine lv_iconst (v := -1) hx hb dX3_end_15 (by decide) ?_
        refine lv_icmp_eq (tgt := 31) hx hb dX3_end_16 (by decide) (fun _ => ?_) (fun h1 => absurd rfl h1)
        refine lv_iload_n hx hb dX3_end_31 rfl (lv_at hl 0 rfl) ?_
        exact eI S hr hlocks hH hS ⟨by rw [← hf, show (tids (.branch k (.leaf u) r)).head? = some k by simp [tids]]; try rfl, rfl⟩ dX3_end_32
      | branch k2 l2 r2 =>
        have g02 : Q 0 k = some k2 := by rw [g0, hq]; rfl
        have lt_k2 : k2 < 40 := oks k2 (by rw [hq]; simp [tids])
        refine lv_iload_n hx hb dX3_end_2 rfl (lv_at hl 0 rfl) ?_
        refine lv_iconst (v := -1) hx hb dX3_end_3 (by decide) ?_
        refine lv_icmp_eq (tgt := 31) hx hb dX3_end_4 (by decide) (fun h1 => absurd h1 (nI_nm1 (Nat.lt_trans lt_k (by decide)))) (fun _ => ?_)
        refine lv_aload_n hx hb dX3_end_7 rfl (lv_at hl 2 rfl) ?_
        refine gM S hi3 hK hH 3 (by decide) f9 (v := .ref (gna Γ)) rfl dX3_end_8 ?_
        refine lv_iload_n hx hb dX3_end_11 rfl (lv_at hl 1 rfl) ?_
        refine lv_iload_n hx hb dX3_end_12 rfl (lv_at hl 0 rfl) ?_
        refine lv_iadd hx hb dX3_end_13 ?_
        refine gN S hK hH (n := 40 * (0 + 1) + k) (x := nI k2) (nI_ofadd rfl) (by have := lt_k; omega) ((enc_sd (by decide) lt_k).trans (congrArg er g02)) dX3_end_14 ?_
        refine lv_iconst (v := -1) hx hb dX3_end_15 (by decide) ?_
        refine lv_icmp_eq (tgt := 31) hx hb dX3_end_16 (by decide) (fun h1 => absurd h1 (nI_nm1 (Nat.lt_trans lt_k2 (by decide)))) (fun _ => ?_)
        refine lv_aload_n hx hb dX3_end_19 rfl (lv_at hl 2 rfl) ?_
        refine gM S hi3 hK hH 3 (by decide) f9 (v := .ref (gna Γ)) rfl dX3_end_20 ?_
        refine lv_iload_n hx hb dX3_end_23 rfl (lv_at hl 1 rfl) ?_
        refine lv_iload_n hx hb dX3_end_24 rfl (lv_at hl 0 rfl) ?_
        refine lv_iadd hx hb dX3_end_25 ?_
        refine gN S hK hH (n := 40 * (0 + 1) + k) (x := nI k2) (nI_ofadd rfl) (by have := lt_k; omega) ((enc_sd (by decide) lt_k).trans (congrArg er g02)) dX3_end_26 ?_
        refine lv_istore_n (lv' := [(3, .int (nI k2)), (2, .int 40), (0, .ref (gxa Γ 3))]) hx hb dX3_end_27 rfl hl (by decide) rfl (fun ls hl => ?_)
        refine lv_goto (tgt := 2) hx hb dX3_end_28 (by decide) ?_
        exact ihl (some k) gl oks (by rw [← hf, tids_branch]; exact (hd_app (by rw [hq]; simp [tids])).symm) ls (by rw [hq]; exact lv_sub hl [0, 1, 2] rfl)
  exact loop t par hrep h40 rfl ls (lv_sub hl [0, 3, 1] rfl)

set_option maxRecDepth 100000 in
set_option maxHeartbeats 4000000 in
theorem c_X3_endR {t : Tr} {par : Option Nat} (hrep : rep Q par t) (h40 : ∀ a ∈ tids t, a < 40) : Md l yX3_end wsX3_end (rmL 1 0 0) D lo Γ [.ref (gxa Γ 3), .int (er (rt t)), .int 80] (C, (th, mn, tm, kt, Q, zs, be, kp), V) (some (.int (er (tids t).getLast?))) (C, (th, mn, tm, kt, Q, zs, be, kp), V) := by
  refine Mz_of (cc := cX3_end) (maxL := 4) (ret := (some .int)) (by decide) rfl (Nat.le_of_ble_eq_true rfl) ?_
  intro p e s m args below meth c ls S hr hlocks hK hH hS hl
  have hx := S.1
  have hb := S.2.1
  have hts := S.2.2.2.2
  have f9 : (Cond.fieldLink RX3 9 (TX3 3).1 (TX3 3).2.1 (TX3 3).2.2.1).before args s = true := hts _ (List.mem_of_getElem? (i := 1) rfl)
  have hi3 : ∀ w ∈ wsX30, w ∈ wsX3_end := by decide +kernel
  have hl : lv_has ls 4 [(0, .ref (gxa Γ 3)), (1, .int (er (rt t))), (2, .int 80)] := hl
  refine lv_iload_n hx hb dX3_end_0 rfl (lv_at hl 1 rfl) ?_
  refine lv_istore_n (lv' := [(3, .int (er (rt t))), (0, .ref (gxa Γ 3)), (1, .int (er (rt t))), (2, .int 80)]) hx hb dX3_end_1 rfl hl (by decide) rfl (fun ls hl => ?_)
  have loop : ∀ (t' : Tr) (par' : Option Nat), rep Q par' t' → (∀ a ∈ tids t', a < 40) → (tids t').getLast? = (tids t).getLast? → ∀ ls, lv_has ls 4 [(3, .int (er (rt t'))), (2, .int 80), (0, .ref (gxa Γ 3))] → W p l e (rmL 1 0 0) s m args below meth c s.heap [] 0 0 (MQ below (Qz D lo Γ (fun v Z' => v = (some (.int (er (tids t).getLast?))) ∧ Z' = (C, (th, mn, tm, kt, Q, zs, be, kp), V))) args s ((rmL 1 0 0) : Room).cells ((rmL 1 0 0) : Room).slots (lA lo)) (F0 m 2 ls []) := by
    intro t'
    induction t' with
    | leaf u =>
      intro par' h2 ok hf ls hl
      have hl : lv_has ls 4 [(3, .int (-1)), (2, .int 80), (0, .ref (gxa Γ 3))] := hl
      refine lv_iload_n hx hb dX3_end_2 rfl (lv_at hl 0 rfl) ?_
      refine lv_iconst (v := -1) hx hb dX3_end_3 (by decide) ?_
      refine lv_icmp_eq (tgt := 31) hx hb dX3_end_4 (by decide) (fun _ => ?_) (fun h1 => absurd rfl h1)
      refine lv_iload_n hx hb dX3_end_31 rfl (lv_at hl 0 rfl) ?_
      exact eI S hr hlocks hH hS ⟨by rw [← hf]; rfl, rfl⟩ dX3_end_32
    | branch k l r ihl ihr =>
      intro par' h2 ok hf ls hl
      have hl : lv_has ls 4 [(3, .int (nI k)), (2, .int 80), (0, .ref (gxa Γ 3))] := hl
      obtain ⟨g2, g0, g1, gl, gr⟩ := h2
      have lt_k := ok k (by simp [tids])
      have oks : ∀ a ∈ tids r, a < 40 := fun a ha => ok a (by simp [tids, ha])
      cases hq : r with
      | leaf u =>
        subst hq
        have g1 : Q 1 k = none := g1
        refine lv_iload_n hx hb dX3_end_2 rfl (lv_at hl 0 rfl) ?_
        refine lv_iconst (v := -1) hx hb dX3_end_3 (by decide) ?_
        refine lv_icmp_eq (tgt := 31) hx hb dX3_end_4 (by decide) (fun h1 => absurd h1 (nI_nm1 (Nat.lt_trans lt_k (by decide)))) (fun _ => ?_)
        refine lv_aload_n hx hb dX3_end_7 rfl (lv_at hl 2 rfl) ?_
        refine gM S hi3 hK hH 3 (by decide) f9 (v := .ref (gna Γ)) rfl dX3_end_8 ?_
        refine lv_iload_n hx hb dX3_end_11 rfl (lv_at hl 1 rfl) ?_
        refine lv_iload_n hx hb dX3_end_12 rfl (lv_at hl 0 rfl) ?_
        refine lv_iadd hx hb dX3_end_13 ?_
        refine gN S hK hH (n := 40 * (1 + 1) + k) (x := -1) (nI_ofadd rfl) (by have := lt_k; omega) ((enc_sd (by decide) lt_k).trans (congrArg er g1)) dX3_end_14 ?_
        refine lv_iconst (v := -1) hx hb dX3_end_15 (by decide) ?_
        refine lv_icmp_eq (tgt := 31) hx hb dX3_end_16 (by decide) (fun _ => ?_) (fun h1 => absurd rfl h1)
        refine lv_iload_n hx hb dX3_end_31 rfl (lv_at hl 0 rfl) ?_
        exact eI S hr hlocks hH hS ⟨by rw [← hf, show (tids (.branch k l (.leaf u))).getLast? = some k by simp [tids]]; try rfl, rfl⟩ dX3_end_32
      | branch k2 l2 r2 =>
        have g12 : Q 1 k = some k2 := by rw [g1, hq]; rfl
        have lt_k2 : k2 < 40 := oks k2 (by rw [hq]; simp [tids])
        refine lv_iload_n hx hb dX3_end_2 rfl (lv_at hl 0 rfl) ?_
        refine lv_iconst (v := -1) hx hb dX3_end_3 (by decide) ?_
        refine lv_icmp_eq (tgt := 31) hx hb dX3_end_4 (by decide) (fun h1 => absurd h1 (nI_nm1 (Nat.lt_trans lt_k (by decide)))) (fun _ => ?_)
        refine lv_aload_n hx hb dX3_end_7 rfl (lv_at hl 2 rfl) ?_
        refine gM S hi3 hK hH 3 (by decide) f9 (v := .ref (gna Γ)) rfl dX3_end_8 ?_
        refine lv_iload_n hx hb dX3_end_11 rfl (lv_at hl 1 rfl) ?_
        refine lv_iload_n hx hb dX3_end_12 rfl (lv_at hl 0 rfl) ?_
        refine lv_iadd hx hb dX3_end_13 ?_
        refine gN S hK hH (n := 40 * (1 + 1) + k) (x := nI k2) (nI_ofadd rfl) (by have := lt_k; omega) ((enc_sd (by decide) lt_k).trans (congrArg er g12)) dX3_end_14 ?_
        refine lv_iconst (v := -1) hx hb dX3_end_15 (by decide) ?_
        refine lv_icmp_eq (tgt := 31) hx hb dX3_end_16 (by decide) (fun h1 => absurd h1 (nI_nm1 (Nat.lt_trans lt_k2 (by decide)))) (fun _ => ?_)
        refine lv_aload_n hx hb dX3_end_19 rfl (lv_at hl 2 rfl) ?_
        refine gM S hi3 hK hH 3 (by decide) f9 (v := .ref (gna Γ)) rfl dX3_end_20 ?_
        refine lv_iload_n hx hb dX3_end_23 rfl (lv_at hl 1 rfl) ?_
        refine lv_iload_n hx hb dX3_end_24 rfl (lv_at hl 0 rfl) ?_
        refine lv_iadd hx hb dX3_end_25 ?_
        refine gN S hK hH (n := 40 * (1 + 1) + k) (x := nI k2) (nI_ofadd rfl) (by have := lt_k; omega) ((enc_sd (by decide) lt_k).trans (congrArg er g12)) dX3_end_26 ?_
        refine lv_istore_n (lv' := [(3, .int (nI k2)), (2, .int 80), (0, .ref (gxa Γ 3))]) hx hb dX3_end_27 rfl hl (by decide) rfl (fun ls hl => ?_)
        refine lv_goto (tgt := 2) hx hb dX3_end_28 (by decide) ?_
        exact ihr (some k) gr oks (by rw [← hf, tids_branch]; exact (la_app (by rw [hq]; simp [tids])).symm) ls (by rw [hq]; exact lv_sub hl [0, 1, 2] rfl)
  exact loop t par hrep h40 rfl ls (lv_sub hl [0, 3, 1] rfl)
end MMod
