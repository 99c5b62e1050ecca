/-! THE HAND-MADE ORCHARD: has; one turning; copying -/
theorem cop_f {U : List Nat} {q : Nat} {x y : Tr} (h : q ∉ U) (hx : ∀ b ∈ tids x, b ∉ U) (hy : ∀ b ∈ tids y, b ∉ U) : ∀ b ∈ tids (.branch q x y), b ∉ U := fun b hb => by
  rw [tids_branch] at hb
  rcases List.mem_append.mp hb with h1 | h1
  · exact hx b h1
  · rcases List.mem_cons.mp h1 with h1 | h1
    · subst h1; exact h
    · exact hy b h1
theorem cop_n {q : Nat} {x y : Tr} (hx : (tids x).Nodup) (hy : (tids y).Nodup) (h1 : ∀ b ∈ tids x, b ≠ q) (h2 : ∀ b ∈ tids y, b ≠ q) (h3 : ∀ b ∈ tids y, b ∉ tids x) : (tids (.branch q x y)).Nodup := by
  rw [tids_branch, List.nodup_append]
  refine ⟨hx, List.nodup_cons.mpr ⟨fun h => h2 q h rfl, hy⟩, fun a ha b hb => ?_⟩
  rcases List.mem_cons.mp hb with h | h
  · rw [h]; exact h1 a ha
  · rintro rfl; exact h3 a h ha
theorem cop_m {z z' : Nat → Nat} {k q : Nat} {x y tl tr : Tr} (h : z' q = z k) (hx : mp z' x = mp z tl) (hy : mp z' y = mp z tr) : mp z' (.branch q x y) = mp z (.branch k tl tr) := by
  simp only [mp]
  rw [h, hx, hy]
section MSim3
variable {l : Launch} {D : va_G} {lo : Nat} {Γ : GT} {C : CW} {V : Int64 × UInt64} {U : List Nat} {E : Nat → va_E} {zz ee : Nat → Nat}
set_option maxRecDepth 100000 in
set_option maxHeartbeats 4000000 in
theorem c_X4_has {t : Tr} {n : Nat} (ht : sT (U, E) zz ee t) (hz : ∀ a ∈ tids t, zz a < 1000) (hn : n < 1000) (h40 : (wy zz n t).length ≤ 40) : My l yX4_has wsX4_has (rmL 2 1 40) D lo Γ [va_rf (rt t), .int (nI n)] (C, (U, E), V) (fun v Z' => v = some (.int (if (fnd zz (n : Int) t).isSome then 1 else 0)) ∧ ∃ C' U' E', Z' = (C', (U', E'), V) ∧ Ext C C' ∧ Gr (U, E) (U', E') []) := by
  refine My_of (cc := cX4_has) (maxL := 3) (ret := (some .boolean)) (by decide) rfl (by cases t <;> exact Nat.le_of_ble_eq_true rfl) ?_
  intro p e s m args below meth c ls hname S hr hlocks hK hH hS hX hl
  have hx := S.1
  have hb := S.2.1
  have hts := S.2.2.2.2
  have f24 : (Cond.fieldLink RX4 24 (TX3 0).1 (TX3 0).2.1 (TX3 0).2.2.1).before args s = true := hts _ (List.mem_of_getElem? (i := 1) rfl)
  have hi3 : ∀ w ∈ wsX30, w ∈ wsX4_has := by decide +kernel
  have hlo : lo ≤ s.heap.size := hH.2.2.1.1
  have hg : Gr (U, E) (U, E) [] := Gr.rf _ _
  have hE : Ext C C := Ext.rf C
  have hl : lv_has ls 3 [(0, va_rf (rt t)), (1, .int (nI n))] := (by cases t <;> exact hl)
  refine lq_aload_n S dX4_has_0 rfl (lv_at hl 0 rfl) ?_
  refine lv_iload_n hx hb dX4_has_1 rfl (lv_at hl 1 rfl) ?_
  refine cyS S (c_X4_path ht hz hn h40) (va_cwS 2 hts gX4_has_X4_path rfl rfl rfl (by decide +kernel) ⟨Nat.le_of_ble_eq_true rfl, Nat.le_of_ble_eq_true rfl⟩) hK hH hX hS rfl hl.1 rfl (by simp [cat_rf, Value.category]) dX4_has_2 ⟨Nat.le_of_ble_eq_true rfl, Nat.le_of_ble_eq_true rfl⟩ (fun v Z1 H locs hpost hH hS => ?_)
  obtain ⟨C1, U1, E1, q, rfl, rfl, hx9, hg9, fr9, m_q, e_q⟩ := hpost
  refine lv_astore_n (lv' := [(2, .ref q), (0, va_rf (rt t)), (1, .int (nI n))]) hx hb dX4_has_5 rfl hl (by decide) rfl (fun ls hl => ?_)
  by_cases ht0 : t = .leaf ()
  · skip
    subst ht0
    have e_q : E1 q = qE Γ 0 (fun i => ([] : List Nat)[i]?) := e_q
    refine lv_aload_n hx hb dX4_has_6 rfl (lv_at hl 0 rfl) ?_
    refine lQ S hK hH m_q e_q dX4_has_7 ?_
    refine lv_if_le (tgt := 28) hx hb dX4_has_8 (by decide) (fun _ => ?_) (fun h1 => absurd (by decide) h1)
    refine lv_iconst (v := 0) hx hb dX4_has_28 (by decide) ?_
    exact eZ S hr hlocks (Or.inl rfl) hH hS ⟨rfl, C1, U1, E1, rfl, hx9, hg9⟩ dX4_has_29
  · skip
    obtain ⟨w, a, ew, ha, hfa⟩ := wy_last (zz := zz) (n := n) t ht0
    have e_q : E1 q = qE Γ (w.length + 1) (fun i => (w ++ [a])[i]?) := by rw [e_q, ew, List.length_append]; rfl
    rw [ew, List.length_append] at h40
    have h40 : w.length + 1 ≤ 40 := h40
    have ht1 := sT_gr ht hg9 (by simp)
    obtain ⟨m_a, x, y, e_a⟩ := sT_at t ht1 a ha
    have za := hz a ha
    refine lv_aload_n hx hb dX4_has_6 rfl (lv_at hl 0 rfl) ?_
    refine lQ S hK hH m_q e_q dX4_has_7 ?_
    refine lv_if_le (tgt := 28) hx hb dX4_has_8 (by decide) (fun h1 => absurd h1 (nI_nle (by omega) (by omega))) (fun _ => ?_)
    refine lv_aload_n hx hb dX4_has_11 rfl (lv_at hl 0 rfl) ?_
    refine lv_aload_n hx hb dX4_has_12 rfl (lv_at hl 0 rfl) ?_
    refine lQ S hK hH m_q e_q dX4_has_13 ?_
    refine lv_iconst (v := 1) hx hb dX4_has_14 (by decide) ?_
    refine lv_isub hx hb dX4_has_15 ?_
    refine gQ S hK hH m_q e_q (j := w.length) (nI_pred _) (by omega) (by omega) (r := (some a)) (by simp) dX4_has_16 ?_
    refine gB S hi3 hK hH m_a e_a 0 (by decide) f24 (v := .int (nI (zz a))) rfl dX4_has_17 ?_
    refine lv_iload_n hx hb dX4_has_20 rfl (lv_at hl 2 rfl) ?_
    refine lv_icmp_ne (tgt := 28) hx hb dX4_has_21 (by decide) (fun h1 => ?_) (fun h1 => ?_)
    · skip
      refine lv_iconst (v := 0) hx hb dX4_has_28 (by decide) ?_
      have h1 : ¬ zz a = n := fun q9 => h1 (by rw [q9])
      exact eZ S hr hlocks (Or.inl rfl) hH hS ⟨by rw [if_neg (fun q9 => h1 (hfa.mpr q9))], C1, U1, E1, rfl, hx9, hg9⟩ dX4_has_29
    · skip
      refine lv_iconst (v := 1) hx hb dX4_has_24 (by decide) ?_
      refine lv_goto (tgt := 29) hx hb dX4_has_25 (by decide) ?_
      have h1 : zz a = n := (nI_eq (by omega) (by omega)).mp h1
      exact eZ S hr hlocks (Or.inr rfl) hH hS ⟨by rw [if_pos (hfa.mp h1)], C1, U1, E1, rfl, hx9, hg9⟩ dX4_has_29

set_option maxRecDepth 100000 in
set_option maxHeartbeats 4000000 in
theorem c_X4_turnL {sa ta tn up own : Nat} {b9 c9 y : Option Nat} (m_sa : sa ∈ U) (e_sa : E sa = .inr (4, [.ref ta, .int (nI tn)])) (m_up : up ∈ U) (e_up : E up = aC zz ee up (some own) y) (m_own : own ∈ U) (e_own : E own = aC zz ee own b9 c9) (hne : up ≠ own) : My l yX4_turn wsX4_turn (rmL 1 0 0) D lo Γ [.ref sa, .ref up, .ref own] (C, (U, E), V) (fun v Z' => v = none ∧ ∃ E', Z' = (C, (U, E'), V) ∧ E' sa = .inr (4, [.ref ta, .int (nI (tn + 1))]) ∧ E' up = aC zz ee up c9 y ∧ E' own = aC zz ee own b9 (some up) ∧ Gr (U, E) (U, E') [sa, up, own]) := by
  refine My_of (cc := cX4_turn) (maxL := 3) (ret := none) (by decide) rfl (Nat.le_of_ble_eq_true rfl) ?_
  intro p e s m args below meth c ls hname S hr hlocks hK hH hS hX hl
  have hx := S.1
  have hb := S.2.1
  have hts := S.2.2.2.2
  have f33 : (Cond.fieldLink RX4 33 (TX3 2).1 (TX3 2).2.1 (TX3 2).2.2.1).before args s = true := hts _ (List.mem_of_getElem? (i := 1) rfl)
  have f37 : (Cond.fieldLink RX4 37 (TX3 3).1 (TX3 3).2.1 (TX3 3).2.2.1).before args s = true := hts _ (List.mem_of_getElem? (i := 2) rfl)
  have f20 : (Cond.fieldLink RX4 20 (TX4 1).1 (TX4 1).2.1 (TX4 1).2.2.1).before args s = true := hts _ (List.mem_of_getElem? (i := 3) rfl)
  have hi3 : ∀ w ∈ wsX30, w ∈ wsX4_turn := by decide +kernel
  have hi4 : ∀ w ∈ wsX40, w ∈ wsX4_turn := by decide +kernel
  have hlo : lo ≤ s.heap.size := hH.2.2.1.1
  have hg : Gr (U, E) (U, E) [sa, up, own] := Gr.rf _ _
  have hE : Ext C C := Ext.rf C
  have hl : lv_has ls 3 [(0, .ref sa), (1, .ref up), (2, .ref own)] := hl
  have w_sa : sa ∈ [sa, up, own] := by simp
  have w_up : up ∈ [sa, up, own] := by simp
  have w_own : own ∈ [sa, up, own] := by simp
  refine lv_aload_n hx hb dX4_turn_0 rfl (lv_at hl 1 rfl) ?_
  refine gB S hi3 hK hH m_up e_up 2 (by decide) f33 (v := .ref own) rfl dX4_turn_1 ?_
  refine lv_aload_n hx hb dX4_turn_4 rfl (lv_at hl 2 rfl) ?_
  refine lv_acmp_ne (rx := some own) (ry := some own) (tgt := 24) hx hb dX4_turn_5 (by decide) (fun hq => absurd rfl hq) (fun _ => ?_)
  refine lv_aload_n hx hb dX4_turn_8 rfl (lv_at hl 1 rfl) ?_
  refine lv_aload_n hx hb dX4_turn_9 rfl (lv_at hl 2 rfl) ?_
  refine gB S hi3 hK hH m_own e_own 3 (by decide) f37 (v := va_rf c9) rfl dX4_turn_10 ?_
  have n9_own : own ≠ up := (Ne.symm hne)
  have n9_sa : sa ≠ up := (Ne.symm (neBM e_up e_sa))
  refine pBr S hi3 hK hH hS m_up e_up 2 (by decide) f33 c9 rfl dX4_turn_13 rfl (fun E1 H locs e_up ho hH hS => ?_)
  have e_up : E1 up = .inr (3, [.int (nI (zz up)), .int (nI (ee up)), va_rf c9, va_rf y]) := e_up
  have e_own : E1 own = .inr (3, [.int (nI (zz own)), .int (nI (ee own)), va_rf b9, va_rf c9]) := (ho own n9_own).trans e_own
  have e_sa : E1 sa = .inr (4, [.ref ta, .int (nI tn)]) := (ho sa n9_sa).trans e_sa
  have hg := hg.put w_up ho
  refine lv_aload_n hx hb dX4_turn_16 rfl (lv_at hl 2 rfl) ?_
  refine lv_aload_n hx hb dX4_turn_17 rfl (lv_at hl 1 rfl) ?_
  have n9_up : up ≠ own := hne
  have n9_sa : sa ≠ own := (Ne.symm (neBM e_own e_sa))
  refine pBr S hi3 hK hH hS m_own e_own 3 (by decide) f37 (some up) rfl dX4_turn_18 rfl (fun E2 H locs e_own ho hH hS => ?_)
  have e_own : E2 own = .inr (3, [.int (nI (zz own)), .int (nI (ee own)), va_rf b9, .ref up]) := e_own
  have e_up : E2 up = .inr (3, [.int (nI (zz up)), .int (nI (ee up)), va_rf c9, va_rf y]) := (ho up n9_up).trans e_up
  have e_sa : E2 sa = .inr (4, [.ref ta, .int (nI tn)]) := (ho sa n9_sa).trans e_sa
  have hg := hg.put w_own ho
  refine lv_goto (tgt := 37) hx hb dX4_turn_21 (by decide) ?_
  refine lv_aload_n hx hb dX4_turn_37 rfl (lv_at hl 0 rfl) ?_
  refine lv_dup hx hb dX4_turn_38 rfl ?_
  refine gM S hi4 hK hH m_sa e_sa 1 (by decide) f20 (v := .int (nI tn)) rfl dX4_turn_39 ?_
  refine lv_iconst (v := 1) hx hb dX4_turn_42 (by decide) ?_
  refine lv_iadd hx hb dX4_turn_43 ?_
  have n9_up : up ≠ sa := (neBM e_up e_sa)
  have n9_own : own ≠ sa := (neBM e_own e_sa)
  refine pM1 S hi4 hK hH hS m_sa e_sa f20 dX4_turn_44 rfl (fun E3 H locs e_sa ho hH hS => ?_)
  have e_sa : E3 sa = .inr (4, [.ref ta, .int (nI tn + 1)]) := e_sa
  have e_up : E3 up = .inr (3, [.int (nI (zz up)), .int (nI (ee up)), va_rf c9, va_rf y]) := (ho up n9_up).trans e_up
  have e_own : E3 own = .inr (3, [.int (nI (zz own)), .int (nI (ee own)), va_rf b9, .ref up]) := (ho own n9_own).trans e_own
  have hg := hg.put w_sa ho
  exact eV S hr hlocks hH hS ⟨rfl, E3, rfl, by rw [e_sa, nI_1], e_up, e_own, hg⟩ dX4_turn_47

set_option maxRecDepth 100000 in
set_option maxHeartbeats 4000000 in
theorem c_X4_turnR {sa ta tn up own : Nat} {b9 c9 x y : Option Nat} (hxo : x ≠ some own) (m_sa : sa ∈ U) (e_sa : E sa = .inr (4, [.ref ta, .int (nI tn)])) (m_up : up ∈ U) (e_up : E up = aC zz ee up (x) y) (m_own : own ∈ U) (e_own : E own = aC zz ee own b9 c9) (hne : up ≠ own) : My l yX4_turn wsX4_turn (rmL 1 0 0) D lo Γ [.ref sa, .ref up, .ref own] (C, (U, E), V) (fun v Z' => v = none ∧ ∃ E', Z' = (C, (U, E'), V) ∧ E' sa = .inr (4, [.ref ta, .int (nI (tn + 1))]) ∧ E' up = aC zz ee up x b9 ∧ E' own = aC zz ee own (some up) c9 ∧ Gr (U, E) (U, E') [sa, up, own]) := by
  refine My_of (cc := cX4_turn) (maxL := 3) (ret := none) (by decide) rfl (Nat.le_of_ble_eq_true rfl) ?_
  intro p e s m args below meth c ls hname S hr hlocks hK hH hS hX hl
  have hx := S.1
  have hb := S.2.1
  have hts := S.2.2.2.2
  have f33 : (Cond.fieldLink RX4 33 (TX3 2).1 (TX3 2).2.1 (TX3 2).2.2.1).before args s = true := hts _ (List.mem_of_getElem? (i := 1) rfl)
  have f37 : (Cond.fieldLink RX4 37 (TX3 3).1 (TX3 3).2.1 (TX3 3).2.2.1).before args s = true := hts _ (List.mem_of_getElem? (i := 2) rfl)
  have f20 : (Cond.fieldLink RX4 20 (TX4 1).1 (TX4 1).2.1 (TX4 1).2.2.1).before args s = true := hts _ (List.mem_of_getElem? (i := 3) rfl)
  have hi3 : ∀ w ∈ wsX30, w ∈ wsX4_turn := by decide +kernel
  have hi4 : ∀ w ∈ wsX40, w ∈ wsX4_turn := by decide +kernel
  have hlo : lo ≤ s.heap.size := hH.2.2.1.1
  have hg : Gr (U, E) (U, E) [sa, up, own] := Gr.rf _ _
  have hE : Ext C C := Ext.rf C
  have hl : lv_has ls 3 [(0, .ref sa), (1, .ref up), (2, .ref own)] := hl
  have w_sa : sa ∈ [sa, up, own] := by simp
  have w_up : up ∈ [sa, up, own] := by simp
  have w_own : own ∈ [sa, up, own] := by simp
  refine lv_aload_n hx hb dX4_turn_0 rfl (lv_at hl 1 rfl) ?_
  refine gB S hi3 hK hH m_up e_up 2 (by decide) f33 (v := va_rf x) rfl dX4_turn_1 ?_
  refine lv_aload_n hx hb dX4_turn_4 rfl (lv_at hl 2 rfl) ?_
  refine lv_acmp_ne (rx := x) (ry := some own) (tgt := 24) hx hb dX4_turn_5 (by decide) (fun _ => ?_) (fun hq => absurd hq hxo)
  refine lv_aload_n hx hb dX4_turn_24 rfl (lv_at hl 1 rfl) ?_
  refine lv_aload_n hx hb dX4_turn_25 rfl (lv_at hl 2 rfl) ?_
  refine gB S hi3 hK hH m_own e_own 2 (by decide) f33 (v := va_rf b9) rfl dX4_turn_26 ?_
  have n9_own : own ≠ up := (Ne.symm hne)
  have n9_sa : sa ≠ up := (Ne.symm (neBM e_up e_sa))
  refine pBr S hi3 hK hH hS m_up e_up 3 (by decide) f37 b9 rfl dX4_turn_29 rfl (fun E1 H locs e_up ho hH hS => ?_)
  have e_up : E1 up = .inr (3, [.int (nI (zz up)), .int (nI (ee up)), va_rf x, va_rf b9]) := e_up
  have e_own : E1 own = .inr (3, [.int (nI (zz own)), .int (nI (ee own)), va_rf b9, va_rf c9]) := (ho own n9_own).trans e_own
  have e_sa : E1 sa = .inr (4, [.ref ta, .int (nI tn)]) := (ho sa n9_sa).trans e_sa
  have hg := hg.put w_up ho
  refine lv_aload_n hx hb dX4_turn_32 rfl (lv_at hl 2 rfl) ?_
  refine lv_aload_n hx hb dX4_turn_33 rfl (lv_at hl 1 rfl) ?_
  have n9_up : up ≠ own := hne
  have n9_sa : sa ≠ own := (Ne.symm (neBM e_own e_sa))
  refine pBr S hi3 hK hH hS m_own e_own 2 (by decide) f33 (some up) rfl dX4_turn_34 rfl (fun E2 H locs e_own ho hH hS => ?_)
  have e_own : E2 own = .inr (3, [.int (nI (zz own)), .int (nI (ee own)), .ref up, va_rf c9]) := e_own
  have e_up : E2 up = .inr (3, [.int (nI (zz up)), .int (nI (ee up)), va_rf x, va_rf b9]) := (ho up n9_up).trans e_up
  have e_sa : E2 sa = .inr (4, [.ref ta, .int (nI tn)]) := (ho sa n9_sa).trans e_sa
  have hg := hg.put w_own ho
  refine lv_aload_n hx hb dX4_turn_37 rfl (lv_at hl 0 rfl) ?_
  refine lv_dup hx hb dX4_turn_38 rfl ?_
  refine gM S hi4 hK hH m_sa e_sa 1 (by decide) f20 (v := .int (nI tn)) rfl dX4_turn_39 ?_
  refine lv_iconst (v := 1) hx hb dX4_turn_42 (by decide) ?_
  refine lv_iadd hx hb dX4_turn_43 ?_
  have n9_up : up ≠ sa := (neBM e_up e_sa)
  have n9_own : own ≠ sa := (neBM e_own e_sa)
  refine pM1 S hi4 hK hH hS m_sa e_sa f20 dX4_turn_44 rfl (fun E3 H locs e_sa ho hH hS => ?_)
  have e_sa : E3 sa = .inr (4, [.ref ta, .int (nI tn + 1)]) := e_sa
  have e_up : E3 up = .inr (3, [.int (nI (zz up)), .int (nI (ee up)), va_rf x, va_rf b9]) := (ho up n9_up).trans e_up
  have e_own : E3 own = .inr (3, [.int (nI (zz own)), .int (nI (ee own)), .ref up, va_rf c9]) := (ho own n9_own).trans e_own
  have hg := hg.put w_sa ho
  exact eV S hr hlocks hH hS ⟨rfl, E3, rfl, by rw [e_sa, nI_1], e_up, e_own, hg⟩ dX4_turn_47

set_option maxRecDepth 100000 in
set_option maxHeartbeats 4000000 in
theorem c_X4_copied  : ∀ (t : Tr) (d : Nat) (C : CW) (U : List Nat) (E : Nat → va_E) (zz ee : Nat → Nat), hgt t ≤ d → sT (U, E) zz ee t → My l yX4_copied wsX4_copied (rmL (d + 3) ((tids t).length) (4 * (tids t).length)) D lo Γ [va_rf (rt t)] (C, (U, E), V) (fun v Z' => ∃ C' U' E' t' zz' ee', v = some (va_rf (rt t')) ∧ Z' = (C', (U', E'), V) ∧ Ext C C' ∧ Gr (U, E) (U', E') [] ∧ (∀ a ∈ U, zz' a = zz a ∧ ee' a = ee a) ∧ sT (U', E') zz' ee' t' ∧ (∀ a ∈ tids t', a ∉ U) ∧ (tids t').Nodup ∧ mp zz' t' = mp zz t) := by
  intro t
  induction t with
  | leaf u =>
    intro d C U E zz ee hd ht
    refine My_of (cc := cX4_copied) (maxL := 2) (ret := (some (.object "SplayOrchardLaw$Apple"))) (by decide) rfl (Nat.le_of_ble_eq_true rfl) ?_
    intro p e s m args below meth c ls hname S hr hlocks hK hH hS hX hl
    have hx := S.1
    have hb := S.2.1
    have hts := S.2.2.2.2
    have f24 : (Cond.fieldLink RX4 24 (TX3 0).1 (TX3 0).2.1 (TX3 0).2.2.1).before args s = true := hts _ (List.mem_of_getElem? (i := 4) rfl)
    have f30 : (Cond.fieldLink RX4 30 (TX3 1).1 (TX3 1).2.1 (TX3 1).2.2.1).before args s = true := hts _ (List.mem_of_getElem? (i := 5) rfl)
    have f33 : (Cond.fieldLink RX4 33 (TX3 2).1 (TX3 2).2.1 (TX3 2).2.2.1).before args s = true := hts _ (List.mem_of_getElem? (i := 6) rfl)
    have f37 : (Cond.fieldLink RX4 37 (TX3 3).1 (TX3 3).2.1 (TX3 3).2.2.1).before args s = true := hts _ (List.mem_of_getElem? (i := 7) rfl)
    have hi3 : ∀ w ∈ wsX30, w ∈ wsX4_copied := by decide +kernel
    have hlo : lo ≤ s.heap.size := hH.2.2.1.1
    have hg : Gr (U, E) (U, E) [] := Gr.rf _ _
    have hE : Ext C C := Ext.rf C
    have hl : lv_has ls 2 [(0, .null)] := hl
    refine lv_aload_nN hx hb dX4_copied_0 rfl (lv_at hl 0 rfl) ?_
    refine lv_ifnonnullN hx hb dX4_copied_1 ?_
    refine lv_null hx hb dX4_copied_4 ?_
    exact eA S hr hlocks none rfl hH hS ⟨C, U, E, .leaf (), zz, ee, rfl, rfl, hE, hg, fun _ _ => ⟨rfl, rfl⟩, trivial, fun _ h => (by cases h), List.Pairwise.nil, rfl⟩ dX4_copied_5
  | branch k tl tr ihl ihr =>
    intro d C U E zz ee hd ht
    have hd2 : ∃ d', d = d' + 1 ∧ hgt tl ≤ d' ∧ hgt tr ≤ d' := ⟨d - 1, by rw [hgt] at hd; omega, by rw [hgt] at hd; omega, by rw [hgt] at hd; omega⟩
    obtain ⟨d, rfl, hdl, hdr⟩ := hd2
    have ht0 := ht
    obtain ⟨⟨m_k, e_k⟩, htl, htr⟩ := ht
    have hlen9 : (tids (.branch k tl tr)).length = (tids tl).length + 1 + (tids tr).length := by rw [tids_branch, List.length_append, List.length_cons]; omega
    refine My_of (cc := cX4_copied) (maxL := 2) (ret := (some (.object "SplayOrchardLaw$Apple"))) (by decide) rfl (Nat.le_of_ble_eq_true rfl) ?_
    intro p e s m args below meth c ls hname S hr hlocks hK hH hS hX hl
    have hx := S.1
    have hb := S.2.1
    have hts := S.2.2.2.2
    have f24 : (Cond.fieldLink RX4 24 (TX3 0).1 (TX3 0).2.1 (TX3 0).2.2.1).before args s = true := hts _ (List.mem_of_getElem? (i := 4) rfl)
    have f30 : (Cond.fieldLink RX4 30 (TX3 1).1 (TX3 1).2.1 (TX3 1).2.2.1).before args s = true := hts _ (List.mem_of_getElem? (i := 5) rfl)
    have f33 : (Cond.fieldLink RX4 33 (TX3 2).1 (TX3 2).2.1 (TX3 2).2.2.1).before args s = true := hts _ (List.mem_of_getElem? (i := 6) rfl)
    have f37 : (Cond.fieldLink RX4 37 (TX3 3).1 (TX3 3).2.1 (TX3 3).2.2.1).before args s = true := hts _ (List.mem_of_getElem? (i := 7) rfl)
    have hi3 : ∀ w ∈ wsX30, w ∈ wsX4_copied := by decide +kernel
    have hlo : lo ≤ s.heap.size := hH.2.2.1.1
    have hg : Gr (U, E) (U, E) [] := Gr.rf _ _
    have hE : Ext C C := Ext.rf C
    have hl : lv_has ls 2 [(0, .ref k)] := hl
    refine lv_aload_n hx hb dX4_copied_0 rfl (lv_at hl 0 rfl) ?_
    refine lv_ifnonnull hx hb dX4_copied_1 (tgt := 6) (by decide) ?_
    refine nB S hi3 (hts _ (List.mem_of_getElem? (i := 1) rfl)) (hts _ (List.mem_of_getElem? (i := 2) rfl)) (hts _ (List.mem_of_getElem? (i := 3) rfl)) hK hH hlo hS (by show 0 + 1 ≤ (tids (.branch k tl tr)).length; omega) (by show 0 + 4 ≤ 4 * (tids (.branch k tl tr)).length; omega) dX4_copied_6 (fun q C3 U2 E1 H fr hx9 m_q su e_q ho hH hS => ?_)
    have n9_k : k ≠ q := fun e9 => fr (by rw [← e9]; exact m_k)
    have e_k : E1 k = .inr (3, [.int (nI (zz k)), .int (nI (ee k)), va_rf (rt tl), va_rf (rt tr)]) := (ho k n9_k).trans e_k
    have m_k := su k m_k
    have n9_k_q := n9_k
    have hg := hg.new fr su ho
    have hE := hE.tr hx9
    have fr0 := fr
    have su9 := su
    have m_q0 := m_q
    have w_q : q ∉ (U, E).1 := fr
    refine lv_dup hx hb dX4_copied_9 rfl ?_
    refine lv_aload_n hx hb dX4_copied_10 rfl (lv_at hl 0 rfl) ?_
    refine gB S hi3 hK hH m_k e_k 0 (by decide) f24 (v := .int (nI (zz k))) rfl dX4_copied_11 ?_
    refine cyI S (c_X3_init (a := q) (n := zz k) m_q e_q) ⟨callB_of 1 hts gX4_copied_X3_init rfl rfl rfl (hts _ (List.mem_of_getElem? (i := 3) rfl)) (hts _ (List.mem_of_getElem? (i := 8) rfl)) (by decide +kernel) ⟨Nat.le_of_ble_eq_true rfl, Nat.le_of_ble_eq_true rfl⟩, rfl, hts _ (List.mem_of_getElem? (i := 9) rfl)⟩ hK hH hX hS rfl hl.1 rfl (by simp [cat_rf, Value.category]) dX4_copied_14 ⟨(by show 0 + 1 + 0 ≤ (tids (.branch k tl tr)).length; omega), (by show 0 + 4 + 0 ≤ 4 * (tids (.branch k tl tr)).length; omega)⟩ (fun v Z1 H locs hpost hH hS => ?_)
    obtain ⟨rfl, E4, rfl, e_q, ho⟩ := hpost
    have e_k : E4 k = .inr (3, [.int (nI (zz k)), .int (nI (ee k)), va_rf (rt tl), va_rf (rt tr)]) := (ho k n9_k_q).trans e_k
    have hg := hg.put' w_q ho
    refine lv_astore_n (lv' := [(1, .ref q), (0, .ref k)]) hx hb dX4_copied_17 rfl hl (by decide) rfl (fun ls hl => ?_)
    refine lv_aload_n hx hb dX4_copied_18 rfl (lv_at hl 0 rfl) ?_
    refine lv_aload_n hx hb dX4_copied_19 rfl (lv_at hl 1 rfl) ?_
    refine gB S hi3 hK hH m_k e_k 1 (by decide) f30 (v := .int (nI (ee k))) rfl dX4_copied_20 ?_
    have n9_k : k ≠ q := n9_k_q
    refine pBi S hi3 hK hH hS m_q e_q 1 (by decide) f30 dX4_copied_23 rfl (fun E5 H locs e_q ho hH hS => ?_)
    have e_q : E5 q = .inr (3, [.int (nI (zz k)), .int (nI (ee k)), .null, .null]) := e_q
    have e_k : E5 k = .inr (3, [.int (nI (zz k)), .int (nI (ee k)), va_rf (rt tl), va_rf (rt tr)]) := (ho k n9_k).trans e_k
    have hg := hg.put' w_q ho
    refine lv_aload_n hx hb dX4_copied_26 rfl (lv_at hl 0 rfl) ?_
    refine lv_aload_n hx hb dX4_copied_27 rfl (lv_at hl 1 rfl) ?_
    refine gB S hi3 hK hH m_k e_k 2 (by decide) f33 (v := va_rf (rt tl)) rfl dX4_copied_28 ?_
    obtain ⟨z0, hz0⟩ : ∃ z0, z0 = va_up zz q (zz k) := ⟨_, rfl⟩
    obtain ⟨e0, he0⟩ : ∃ e0, e0 = va_up ee q (ee k) := ⟨_, rfl⟩
    have zq : ∀ b, b ≠ q → z0 b = zz b ∧ e0 b = ee b := fun b h9 => by rw [hz0, he0]; exact ⟨va_up_ne _ _ h9, va_up_ne _ _ h9⟩
    have zqq : z0 q = zz k ∧ e0 q = ee k := by rw [hz0, he0]; exact ⟨va_up_self _ _ _, va_up_self _ _ _⟩
    have hs9 : sT (U2, E5) z0 e0 tl := sT_cg tl htl (fun b hb9 hM => ⟨hg.1 b hM, hg.2 b hM (by simp), zq b (fun e9 => fr0 (by rw [← e9]; exact hM))⟩)
    refine cyS S (ihl d C3 U2 E5 z0 e0 hdl hs9) (va_cwS 1 hts gX4_copied_X4_copied rfl rfl rfl (by decide +kernel) ⟨(by show d + 3 + 1 ≤ d + 1 + 3; omega), (by show 8 + (2 + 11) + 40 * (d + 3) ≤ 40 * (d + 1 + 3); omega)⟩) hK hH hX hS rfl hl.1 rfl (by simp [cat_rf, Value.category]) dX4_copied_31 ⟨(by show 0 + 1 + 0 + (tids tl).length ≤ (tids (.branch k tl tr)).length; omega), (by show 0 + 4 + 0 + 4 * (tids tl).length ≤ 4 * (tids (.branch k tl tr)).length; omega)⟩ (fun v Z1 H locs hpost hH hS => ?_)
    obtain ⟨Ca0, Ua0, Ea0, ta0, za0, ea0, rfl, rfl, hx9, hg9, hz9, hT0, hf0, hn0, hm0⟩ := hpost
    have e_k : Ea0 k = .inr (3, [.int (nI (zz k)), .int (nI (ee k)), va_rf (rt tl), va_rf (rt tr)]) := (hg9.2 k m_k (by simp)).trans e_k
    have m_k := hg9.1 k m_k
    have e_q : Ea0 q = .inr (3, [.int (nI (zz k)), .int (nI (ee k)), .null, .null]) := (hg9.2 q m_q (by simp)).trans e_q
    have m_q := hg9.1 q m_q
    have hg := hg.tr hg9
    have hE := hE.tr hx9
    have fra : ∀ b ∈ tids ta0, b ≠ q := fun b hb9 e9 => hf0 b hb9 (by rw [e9]; exact m_q0)
    have zs9 : ∀ b, b ∈ U → za0 b = zz b ∧ ea0 b = ee b := fun b hM => by
      obtain ⟨q1, q2⟩ := hz9 b (su9 b hM)
      obtain ⟨q3, q4⟩ := zq b (fun e9 => fr0 (by rw [← e9]; exact hM))
      exact ⟨q1.trans q3, q2.trans q4⟩
    have hqa := hz9 q m_q0
    have n9_k : k ≠ q := n9_k_q
    refine pBr S hi3 hK hH hS m_q e_q 2 (by decide) f33 (rt ta0) rfl dX4_copied_34 rfl (fun E6 H locs e_q ho hH hS => ?_)
    have e_q : E6 q = .inr (3, [.int (nI (zz k)), .int (nI (ee k)), va_rf (rt ta0), .null]) := e_q
    have e_k : E6 k = .inr (3, [.int (nI (zz k)), .int (nI (ee k)), va_rf (rt tl), va_rf (rt tr)]) := (ho k n9_k).trans e_k
    have hg := hg.put' w_q ho
    have hT0 : sT (Ua0, E6) za0 ea0 ta0 := sT_cg ta0 hT0 (fun b hb9 hM => ⟨hM, ho b (fra b hb9), rfl, rfl⟩)
    refine lv_aload_n hx hb dX4_copied_37 rfl (lv_at hl 0 rfl) ?_
    refine lv_aload_n hx hb dX4_copied_38 rfl (lv_at hl 1 rfl) ?_
    refine gB S hi3 hK hH m_k e_k 3 (by decide) f37 (v := va_rf (rt tr)) rfl dX4_copied_39 ?_
    have hs9 : sT (Ua0, E6) za0 ea0 tr := sT_cg tr htr (fun b hb9 hM => ⟨hg.1 b hM, hg.2 b hM (by simp), zs9 b hM⟩)
    refine cyS S (ihr d Ca0 Ua0 E6 za0 ea0 hdr hs9) (va_cwS 1 hts gX4_copied_X4_copied rfl rfl rfl (by decide +kernel) ⟨(by show d + 3 + 1 ≤ d + 1 + 3; omega), (by show 8 + (2 + 11) + 40 * (d + 3) ≤ 40 * (d + 1 + 3); omega)⟩) hK hH hX hS rfl hl.1 rfl (by simp [cat_rf, Value.category]) dX4_copied_42 ⟨(by show 0 + 1 + 0 + (tids tl).length + (tids tr).length ≤ (tids (.branch k tl tr)).length; omega), (by show 0 + 4 + 0 + 4 * (tids tl).length + 4 * (tids tr).length ≤ 4 * (tids (.branch k tl tr)).length; omega)⟩ (fun v Z1 H locs hpost hH hS => ?_)
    obtain ⟨Ca1, Ua1, Ea1, ta1, za1, ea1, rfl, rfl, hx9, hg9, hz9, hT1, hf1, hn1, hm1⟩ := hpost
    have hf1q : ∀ b ∈ tids ta1, b ≠ q := fun b hb9 e9 => hf1 b hb9 (by rw [e9]; exact m_q)
    have hf1a : ∀ b ∈ tids ta1, b ∉ tids ta0 := fun b hb9 h9 => hf1 b hb9 (sT_at _ hT0 b h9).1
    have hf1u : ∀ b ∈ tids ta1, b ∉ U := fun b hb9 h9 => hf1 b hb9 (hg.1 b h9)
    have hqb := hz9 q m_q
    have hzu : ∀ b, b ∈ U → za1 b = zz b ∧ ea1 b = ee b := fun b hM => by
      obtain ⟨q1, q2⟩ := hz9 b (hg.1 b hM)
      obtain ⟨q3, q4⟩ := zs9 b hM
      exact ⟨q1.trans q3, q2.trans q4⟩
    have hza : ∀ b ∈ tids ta0, za1 b = za0 b ∧ ea1 b = ea0 b := fun b hb9 => hz9 b (sT_at _ hT0 b hb9).1
    have hT0 := sT_cg (zz' := za1) (ee' := ea1) ta0 hT0 (fun b hb9 hM => ⟨hg9.1 b hM, hg9.2 b hM (by simp), hza b hb9⟩)
    have e_k : Ea1 k = .inr (3, [.int (nI (zz k)), .int (nI (ee k)), va_rf (rt tl), va_rf (rt tr)]) := (hg9.2 k m_k (by simp)).trans e_k
    have m_k := hg9.1 k m_k
    have e_q : Ea1 q = .inr (3, [.int (nI (zz k)), .int (nI (ee k)), va_rf (rt ta0), .null]) := (hg9.2 q m_q (by simp)).trans e_q
    have m_q := hg9.1 q m_q
    have hg := hg.tr hg9
    have hE := hE.tr hx9
    have n9_k : k ≠ q := n9_k_q
    refine pBr S hi3 hK hH hS m_q e_q 3 (by decide) f37 (rt ta1) rfl dX4_copied_45 rfl (fun E7 H locs e_q ho hH hS => ?_)
    have e_q : E7 q = .inr (3, [.int (nI (zz k)), .int (nI (ee k)), va_rf (rt ta0), va_rf (rt ta1)]) := e_q
    have e_k : E7 k = .inr (3, [.int (nI (zz k)), .int (nI (ee k)), va_rf (rt tl), va_rf (rt tr)]) := (ho k n9_k).trans e_k
    have hg := hg.put' w_q ho
    have hT0 : sT (Ua1, E7) za1 ea1 ta0 := sT_cg ta0 hT0 (fun b hb9 hM => ⟨hM, ho b (fra b hb9), rfl, rfl⟩)
    have hT1 : sT (Ua1, E7) za1 ea1 ta1 := sT_cg ta1 hT1 (fun b hb9 hM => ⟨hM, ho b (hf1q b hb9), rfl, rfl⟩)
    refine lv_aload_n hx hb dX4_copied_48 rfl (lv_at hl 0 rfl) ?_
    have zk1 : za1 q = zz k := hqb.1.trans (hqa.1.trans zqq.1)
    have ek1 : ea1 q = ee k := hqb.2.trans (hqa.2.trans zqq.2)
    refine W.widen (k := ((rmL (d + 1 + 3) ((tids (.branch k tl tr)).length) (4 * (tids (.branch k tl tr)).length)) : Room).cells) (n := ((rmL (d + 1 + 3) ((tids (.branch k tl tr)).length) (4 * (tids (.branch k tl tr)).length)) : Room).slots) (by show 0 + 1 + 0 + (tids tl).length + (tids tr).length ≤ (tids (.branch k tl tr)).length; omega) (by show 0 + 4 + 0 + 4 * (tids tl).length + 4 * (tids tr).length ≤ 4 * (tids (.branch k tl tr)).length; omega) ?_
    exact eA S hr hlocks (some q) rfl hH hS ⟨Ca1, Ua1, E7, .branch q ta0 ta1, za1, ea1, rfl, rfl, hE, hg, hzu, ⟨⟨m_q, e_q.trans (by unfold aC; rw [zk1, ek1])⟩, hT0, hT1⟩, cop_f fr0 (fun b hb9 h9 => hf0 b hb9 (su9 b h9)) hf1u, cop_n hn0 hn1 fra hf1q hf1a, cop_m zk1 ((mp_congr _ (fun b hb9 => (hza b hb9).1)).trans (hm0.trans (mp_congr _ (fun b hb9 => (zq b (fun e9 => fr0 (by rw [← e9]; exact (sT_at _ htl b hb9).1))).1)))) (hm1.trans (mp_congr _ (fun b hb9 => (zs9 b (sT_at _ htr b hb9).1).1)))⟩ dX4_copied_49
end MSim3
