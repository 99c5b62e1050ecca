/-! THE HAND-MADE ORCHARD: what recurs over a tree -/
theorem neBM {E : Nat → va_E} {a b : Nat} {x y : List Value} (ha : E a = .inr (3, x)) (hb : E b = .inr (4, y)) : a ≠ b := fun e => by
  rw [e, hb] at ha
  injection ha with h
  injection h with h1
  cases h1
theorem neBQ {Γ : GT} {E : Nat → va_E} {a b n : Nat} {x : List Value} {f : Nat → Option Nat} (ha : E a = .inr (3, x)) (hb : E b = qE Γ n f) : a ≠ b := fun e => by
  rw [e, hb] at ha
  cases ha
theorem neMQ {Γ : GT} {E : Nat → va_E} {a b n : Nat} {x : List Value} {f : Nat → Option Nat} (ha : E a = .inr (4, x)) (hb : E b = qE Γ n f) : a ≠ b := fun e => by
  rw [e, hb] at ha
  cases ha
theorem Gr.put {A : MW} {U w : List Nat} {E E1 : Nat → va_E} {a : Nat} (hg : Gr A (U, E) w) (ha : a ∈ w) (ho : ∀ b, b ≠ a → E1 b = E b) : Gr A (U, E1) w :=
  ⟨hg.1, fun b hb hw => (ho b (fun e => hw (by rw [e]; exact ha))).trans (hg.2 b hb hw)⟩
theorem Gr.new {A : MW} {U U1 w : List Nat} {E E1 : Nat → va_E} {q : Nat} (hg : Gr A (U, E) w) (fr : q ∉ U) (su : ∀ b, b ∈ U → b ∈ U1) (ho : ∀ b, b ≠ q → E1 b = E b) : Gr A (U1, E1) w :=
  ⟨fun b hb => su b (hg.1 b hb), fun b hb hw => (ho b (fun e => fr (by rw [← e]; exact hg.1 b hb))).trans (hg.2 b hb hw)⟩
/-- a write to a cell that is new -/
theorem Gr.put' {A : MW} {U w : List Nat} {E E1 : Nat → va_E} {a : Nat} (hg : Gr A (U, E) w) (ha : a ∉ A.1) (ho : ∀ b, b ≠ a → E1 b = E b) : Gr A (U, E1) w :=
  ⟨hg.1, fun b hb hw => (ho b (fun e => ha (by rw [← e]; exact hb))).trans (hg.2 b hb hw)⟩
section MSim1
variable {l : Launch} {D : va_G} {lo : Nat} {Γ : GT} {C : CW} {V : Int64 × UInt64} {U : List Nat} {E : Nat → va_E} {zz ee : Nat → Nat}
set_option maxRecDepth 100000 in
set_option maxHeartbeats 4000000 in
theorem c_X4_count  : ∀ (t : Tr) (d : Nat), hgt t ≤ d → sT (U, E) zz ee t → My l yX4_count wsX4_count (rmL (d + 1) 0 0) D lo Γ [va_rf (rt t)] (C, (U, E), V) (fun v Z' => v = some (.int (nI (tids t).length)) ∧ Z' = (C, (U, E), V)) := by
  intro t
  induction t with
  | leaf u =>
    intro d hd ht
    refine My_of (cc := cX4_count) (maxL := 1) (ret := (some .int)) (by decide) rfl (Nat.le_of_ble_eq_true rfl) ?_
    intro p e s m args below meth c ls hname S hr hlocks hK hH hS hX hl
    have hx := S.1
    have hb := S.2.1
    have hts := S.2.2.2.2
    have f33 : (Cond.fieldLink RX4 33 (TX3 2).1 (TX3 2).2.1 (TX3 2).2.2.1).before args s = true := hts _ (List.mem_of_getElem? (i := 1) rfl)
    have f37 : (Cond.fieldLink RX4 37 (TX3 3).1 (TX3 3).2.1 (TX3 3).2.2.1).before args s = true := hts _ (List.mem_of_getElem? (i := 2) rfl)
    have hi3 : ∀ w ∈ wsX30, w ∈ wsX4_count := by decide +kernel
    have hlo : lo ≤ s.heap.size := hH.2.2.1.1
    have hg : Gr (U, E) (U, E) [] := Gr.rf _ _
    have hE : Ext C C := Ext.rf C
    have hl : lv_has ls 1 [(0, .null)] := hl
    refine lv_aload_nN hx hb dX4_count_0 rfl (lv_at hl 0 rfl) ?_
    refine lv_ifnonnullN hx hb dX4_count_1 ?_
    refine lv_iconst (v := 0) hx hb dX4_count_4 (by decide) ?_
    refine lv_goto (tgt := 25) hx hb dX4_count_5 (by decide) ?_
    exact eI S hr hlocks hH hS ⟨rfl, rfl⟩ dX4_count_25
  | branch k tl tr ihl ihr =>
    intro d hd ht
    have hd2 : ∃ d', d = d' + 1 ∧ hgt tl ≤ d' ∧ hgt tr ≤ d' := ⟨d - 1, by rw [hgt] at hd; omega, by rw [hgt] at hd; omega, by rw [hgt] at hd; omega⟩
    obtain ⟨d, rfl, hdl, hdr⟩ := hd2
    obtain ⟨⟨m_k, e_k⟩, htl, htr⟩ := ht
    refine My_of (cc := cX4_count) (maxL := 1) (ret := (some .int)) (by decide) rfl (Nat.le_of_ble_eq_true rfl) ?_
    intro p e s m args below meth c ls hname S hr hlocks hK hH hS hX hl
    have hx := S.1
    have hb := S.2.1
    have hts := S.2.2.2.2
    have f33 : (Cond.fieldLink RX4 33 (TX3 2).1 (TX3 2).2.1 (TX3 2).2.2.1).before args s = true := hts _ (List.mem_of_getElem? (i := 1) rfl)
    have f37 : (Cond.fieldLink RX4 37 (TX3 3).1 (TX3 3).2.1 (TX3 3).2.2.1).before args s = true := hts _ (List.mem_of_getElem? (i := 2) rfl)
    have hi3 : ∀ w ∈ wsX30, w ∈ wsX4_count := by decide +kernel
    have hlo : lo ≤ s.heap.size := hH.2.2.1.1
    have hg : Gr (U, E) (U, E) [] := Gr.rf _ _
    have hE : Ext C C := Ext.rf C
    have hl : lv_has ls 1 [(0, .ref k)] := hl
    refine lv_aload_n hx hb dX4_count_0 rfl (lv_at hl 0 rfl) ?_
    refine lv_ifnonnull hx hb dX4_count_1 (tgt := 8) (by decide) ?_
    refine lv_iconst (v := 1) hx hb dX4_count_8 (by decide) ?_
    refine lv_aload_n hx hb dX4_count_9 rfl (lv_at hl 0 rfl) ?_
    refine gB S hi3 hK hH m_k e_k 2 (by decide) f33 (v := va_rf (rt tl)) rfl dX4_count_10 ?_
    refine cyS S (ihl d hdl htl) (va_cwS 1 hts gX4_count_X4_count rfl rfl rfl (by decide +kernel) ⟨(by show (d + 1) + 1 ≤ (d + 1) + 1; omega), (by show 8 + (1 + 11) + 40 * (d + 1) ≤ 40 * ((d + 1) + 1); omega)⟩) hK hH hX hS rfl hl.1 rfl (by simp [cat_rf, Value.category]) dX4_count_13 ⟨Nat.le_of_ble_eq_true rfl, Nat.le_of_ble_eq_true rfl⟩ (fun v Z1 H locs hpost hH hS => ?_)
    obtain ⟨rfl, rfl⟩ := hpost
    refine lv_iadd hx hb dX4_count_16 ?_
    refine lv_aload_n hx hb dX4_count_17 rfl (lv_at hl 0 rfl) ?_
    refine gB S hi3 hK hH m_k e_k 3 (by decide) f37 (v := va_rf (rt tr)) rfl dX4_count_18 ?_
    refine cyS S (ihr d hdr htr) (va_cwS 1 hts gX4_count_X4_count rfl rfl rfl (by decide +kernel) ⟨(by show (d + 1) + 1 ≤ (d + 1) + 1; omega), (by show 8 + (1 + 11) + 40 * (d + 1) ≤ 40 * ((d + 1) + 1); omega)⟩) hK hH hX hS rfl hl.1 rfl (by simp [cat_rf, Value.category]) dX4_count_21 ⟨Nat.le_of_ble_eq_true rfl, Nat.le_of_ble_eq_true rfl⟩ (fun v Z1 H locs hpost hH hS => ?_)
    obtain ⟨rfl, rfl⟩ := hpost
    refine lv_iadd hx hb dX4_count_24 ?_
    exact eI S hr hlocks hH hS ⟨by show some (Value.int (nI 1 + nI _ + nI _)) = _; rw [nI_add, nI_add, tids_branch, List.length_append, List.length_cons]; exact congrArg (fun z => some (Value.int (nI z))) (by omega), rfl⟩ dX4_count_25

set_option maxRecDepth 100000 in
set_option maxHeartbeats 4000000 in
theorem c_X4_height  : ∀ (t : Tr) (d : Nat), hgt t ≤ d → sT (U, E) zz ee t → hgt t < 2 ^ 31 → My l yX4_height wsX4_height (rmL (d + 1) 0 0) D lo Γ [va_rf (rt t)] (C, (U, E), V) (fun v Z' => v = some (.int (nI (hgt t))) ∧ Z' = (C, (U, E), V)) := by
  intro t
  induction t with
  | leaf u =>
    intro d hd ht h31
    refine My_of (cc := cX4_height) (maxL := 1) (ret := (some .int)) (by decide) rfl (Nat.le_of_ble_eq_true rfl) ?_
    intro p e s m args below meth c ls hname S hr hlocks hK hH hS hX hl
    have hx := S.1
    have hb := S.2.1
    have hts := S.2.2.2.2
    have f33 : (Cond.fieldLink RX4 33 (TX3 2).1 (TX3 2).2.1 (TX3 2).2.2.1).before args s = true := hts _ (List.mem_of_getElem? (i := 1) rfl)
    have f37 : (Cond.fieldLink RX4 37 (TX3 3).1 (TX3 3).2.1 (TX3 3).2.2.1).before args s = true := hts _ (List.mem_of_getElem? (i := 2) rfl)
    have hi3 : ∀ w ∈ wsX30, w ∈ wsX4_height := by decide +kernel
    have hlo : lo ≤ s.heap.size := hH.2.2.1.1
    have hg : Gr (U, E) (U, E) [] := Gr.rf _ _
    have hE : Ext C C := Ext.rf C
    have hl : lv_has ls 1 [(0, .null)] := hl
    refine lv_aload_nN hx hb dX4_height_0 rfl (lv_at hl 0 rfl) ?_
    refine lv_ifnonnullN hx hb dX4_height_1 ?_
    refine lv_iconst (v := 0) hx hb dX4_height_4 (by decide) ?_
    refine lv_goto (tgt := 27) hx hb dX4_height_5 (by decide) ?_
    exact eI S hr hlocks hH hS ⟨rfl, rfl⟩ dX4_height_27
  | branch k tl tr ihl ihr =>
    intro d hd ht h31
    have hd2 : ∃ d', d = d' + 1 ∧ hgt tl ≤ d' ∧ hgt tr ≤ d' := ⟨d - 1, by rw [hgt] at hd; omega, by rw [hgt] at hd; omega, by rw [hgt] at hd; omega⟩
    obtain ⟨d, rfl, hdl, hdr⟩ := hd2
    obtain ⟨⟨m_k, e_k⟩, htl, htr⟩ := ht
    have hgb : hgt tl < 2 ^ 31 ∧ hgt tr < 2 ^ 31 := by rw [hgt] at h31; omega
    refine My_of (cc := cX4_height) (maxL := 1) (ret := (some .int)) (by decide) rfl (Nat.le_of_ble_eq_true rfl) ?_
    intro p e s m args below meth c ls hname S hr hlocks hK hH hS hX hl
    have hx := S.1
    have hb := S.2.1
    have hts := S.2.2.2.2
    have f33 : (Cond.fieldLink RX4 33 (TX3 2).1 (TX3 2).2.1 (TX3 2).2.2.1).before args s = true := hts _ (List.mem_of_getElem? (i := 1) rfl)
    have f37 : (Cond.fieldLink RX4 37 (TX3 3).1 (TX3 3).2.1 (TX3 3).2.2.1).before args s = true := hts _ (List.mem_of_getElem? (i := 2) rfl)
    have hi3 : ∀ w ∈ wsX30, w ∈ wsX4_height := by decide +kernel
    have hlo : lo ≤ s.heap.size := hH.2.2.1.1
    have hg : Gr (U, E) (U, E) [] := Gr.rf _ _
    have hE : Ext C C := Ext.rf C
    have hl : lv_has ls 1 [(0, .ref k)] := hl
    have w1 : (Cond.methodLink RX4 47 Lib.Math.max.name).before args s = true := hts _ (List.mem_of_getElem? (i := 3) rfl)
    have w2 : (Cond.static Lib.Math.max.name).before args s = true := hts _ (List.mem_of_getElem? (i := 4) rfl)
    have w3 : (Cond.initialized "java/lang/Math").before args s = true := hts _ (List.mem_of_getElem? (i := 5) rfl)
    have w4 : (Cond.code Lib.Math.max.name Lib.Math.max.code 2 (some .int)).before args s = true := hts _ (List.mem_of_getElem? (i := 6) rfl)
    refine lv_aload_n hx hb dX4_height_0 rfl (lv_at hl 0 rfl) ?_
    refine lv_ifnonnull hx hb dX4_height_1 (tgt := 8) (by decide) ?_
    refine lv_iconst (v := 1) hx hb dX4_height_8 (by decide) ?_
    refine lv_aload_n hx hb dX4_height_9 rfl (lv_at hl 0 rfl) ?_
    refine gB S hi3 hK hH m_k e_k 2 (by decide) f33 (v := va_rf (rt tl)) rfl dX4_height_10 ?_
    refine cyS S (ihl d hdl htl hgb.1) (va_cwS 1 hts gX4_height_X4_height rfl rfl rfl (by decide +kernel) ⟨(by show (d + 1) + 1 ≤ (d + 1) + 1; omega), (by show 8 + (1 + 11) + 40 * (d + 1) ≤ 40 * ((d + 1) + 1); omega)⟩) hK hH hX hS rfl hl.1 rfl (by simp [cat_rf, Value.category]) dX4_height_13 ⟨Nat.le_of_ble_eq_true rfl, Nat.le_of_ble_eq_true rfl⟩ (fun v Z1 H locs hpost hH hS => ?_)
    obtain ⟨rfl, rfl⟩ := hpost
    refine lv_aload_n hx hb dX4_height_16 rfl (lv_at hl 0 rfl) ?_
    refine gB S hi3 hK hH m_k e_k 3 (by decide) f37 (v := va_rf (rt tr)) rfl dX4_height_17 ?_
    refine cyS S (ihr d hdr htr hgb.2) (va_cwS 1 hts gX4_height_X4_height rfl rfl rfl (by decide +kernel) ⟨(by show (d + 1) + 1 ≤ (d + 1) + 1; omega), (by show 8 + (1 + 11) + 40 * (d + 1) ≤ 40 * ((d + 1) + 1); omega)⟩) hK hH hX hS rfl hl.1 rfl (by simp [cat_rf, Value.category]) dX4_height_20 ⟨Nat.le_of_ble_eq_true rfl, Nat.le_of_ble_eq_true rfl⟩ (fun v Z1 H locs hpost hH hS => ?_)
    obtain ⟨rfl, rfl⟩ := hpost
    refine va_mmax hx hb (S.2.2.1.trans hl.1.symm) S.2.2.2.1 w1 w2 w3 w4 (Nat.le_add_left 1 (d + 1)) (by show 1 + 13 ≤ 40 * (d + 1 + 1); omega) (Nat.le_refl _) (Nat.le_refl _) dX4_height_23 ?_
    rw [nI_max hgb.1 hgb.2]
    refine lv_iadd hx hb dX4_height_26 ?_
    exact eI S hr hlocks hH hS ⟨by show some (Value.int (nI 1 + nI _)) = _; rw [nI_add, hgt], rfl⟩ dX4_height_27

set_option maxRecDepth 100000 in
set_option maxHeartbeats 4000000 in
theorem c_X4_depths  : ∀ (t : Tr) (d : Nat), hgt t ≤ d → sT (U, E) zz ee t → My l yX4_depths wsX4_depths (rmL (d + 2) 0 0) D lo Γ [va_rf (rt t)] (C, (U, E), V) (fun v Z' => v = some (.int (nI (dsm t 0))) ∧ Z' = (C, (U, E), V)) := by
  intro t
  induction t with
  | leaf u =>
    intro d hd ht
    refine My_of (cc := cX4_depths) (maxL := 1) (ret := (some .int)) (by decide) rfl (Nat.le_of_ble_eq_true rfl) ?_
    intro p e s m args below meth c ls hname S hr hlocks hK hH hS hX hl
    have hx := S.1
    have hb := S.2.1
    have hts := S.2.2.2.2
    have f33 : (Cond.fieldLink RX4 33 (TX3 2).1 (TX3 2).2.1 (TX3 2).2.2.1).before args s = true := hts _ (List.mem_of_getElem? (i := 1) rfl)
    have f37 : (Cond.fieldLink RX4 37 (TX3 3).1 (TX3 3).2.1 (TX3 3).2.2.1).before args s = true := hts _ (List.mem_of_getElem? (i := 2) rfl)
    have hi3 : ∀ w ∈ wsX30, w ∈ wsX4_depths := by decide +kernel
    have hlo : lo ≤ s.heap.size := hH.2.2.1.1
    have hg : Gr (U, E) (U, E) [] := Gr.rf _ _
    have hE : Ext C C := Ext.rf C
    have hl : lv_has ls 1 [(0, .null)] := hl
    refine lv_aload_nN hx hb dX4_depths_0 rfl (lv_at hl 0 rfl) ?_
    refine lv_ifnonnullN hx hb dX4_depths_1 ?_
    refine lv_iconst (v := 0) hx hb dX4_depths_4 (by decide) ?_
    refine lv_goto (tgt := 39) hx hb dX4_depths_5 (by decide) ?_
    exact eI S hr hlocks hH hS ⟨rfl, rfl⟩ dX4_depths_39
  | branch k tl tr ihl ihr =>
    intro d hd ht
    have hd2 : ∃ d', d = d' + 1 ∧ hgt tl ≤ d' ∧ hgt tr ≤ d' := ⟨d - 1, by rw [hgt] at hd; omega, by rw [hgt] at hd; omega, by rw [hgt] at hd; omega⟩
    obtain ⟨d, rfl, hdl, hdr⟩ := hd2
    obtain ⟨⟨m_k, e_k⟩, htl, htr⟩ := ht
    refine My_of (cc := cX4_depths) (maxL := 1) (ret := (some .int)) (by decide) rfl (Nat.le_of_ble_eq_true rfl) ?_
    intro p e s m args below meth c ls hname S hr hlocks hK hH hS hX hl
    have hx := S.1
    have hb := S.2.1
    have hts := S.2.2.2.2
    have f33 : (Cond.fieldLink RX4 33 (TX3 2).1 (TX3 2).2.1 (TX3 2).2.2.1).before args s = true := hts _ (List.mem_of_getElem? (i := 1) rfl)
    have f37 : (Cond.fieldLink RX4 37 (TX3 3).1 (TX3 3).2.1 (TX3 3).2.2.1).before args s = true := hts _ (List.mem_of_getElem? (i := 2) rfl)
    have hi3 : ∀ w ∈ wsX30, w ∈ wsX4_depths := by decide +kernel
    have hlo : lo ≤ s.heap.size := hH.2.2.1.1
    have hg : Gr (U, E) (U, E) [] := Gr.rf _ _
    have hE : Ext C C := Ext.rf C
    have hl : lv_has ls 1 [(0, .ref k)] := hl
    refine lv_aload_n hx hb dX4_depths_0 rfl (lv_at hl 0 rfl) ?_
    refine lv_ifnonnull hx hb dX4_depths_1 (tgt := 8) (by decide) ?_
    refine lv_aload_n hx hb dX4_depths_8 rfl (lv_at hl 0 rfl) ?_
    refine gB S hi3 hK hH m_k e_k 2 (by decide) f33 (v := va_rf (rt tl)) rfl dX4_depths_9 ?_
    refine cyS S (ihl d hdl htl) (va_cwS 1 hts gX4_depths_X4_depths rfl rfl rfl (by decide +kernel) ⟨(by show (d + 2) + 1 ≤ (d + 2) + 1; omega), (by show 8 + (1 + 11) + 40 * (d + 2) ≤ 40 * ((d + 2) + 1); omega)⟩) hK hH hX hS rfl hl.1 rfl (by simp [cat_rf, Value.category]) dX4_depths_12 ⟨Nat.le_of_ble_eq_true rfl, Nat.le_of_ble_eq_true rfl⟩ (fun v Z1 H locs hpost hH hS => ?_)
    obtain ⟨rfl, rfl⟩ := hpost
    refine lv_aload_n hx hb dX4_depths_15 rfl (lv_at hl 0 rfl) ?_
    refine gB S hi3 hK hH m_k e_k 2 (by decide) f33 (v := va_rf (rt tl)) rfl dX4_depths_16 ?_
    refine cyS S (c_X4_count tl (d + 1) (by omega) htl) (va_cwS 1 hts gX4_depths_X4_count rfl rfl rfl (by decide +kernel) ⟨(by show (d + 2) + 1 ≤ (d + 2) + 1; omega), (by show 8 + (1 + 11) + 40 * (d + 2) ≤ 40 * ((d + 2) + 1); omega)⟩) hK hH hX hS rfl hl.1 rfl (by simp [cat_rf, Value.category]) dX4_depths_19 ⟨Nat.le_of_ble_eq_true rfl, Nat.le_of_ble_eq_true rfl⟩ (fun v Z1 H locs hpost hH hS => ?_)
    obtain ⟨rfl, rfl⟩ := hpost
    refine lv_iadd hx hb dX4_depths_22 ?_
    refine lv_aload_n hx hb dX4_depths_23 rfl (lv_at hl 0 rfl) ?_
    refine gB S hi3 hK hH m_k e_k 3 (by decide) f37 (v := va_rf (rt tr)) rfl dX4_depths_24 ?_
    refine cyS S (ihr d hdr htr) (va_cwS 1 hts gX4_depths_X4_depths rfl rfl rfl (by decide +kernel) ⟨(by show (d + 2) + 1 ≤ (d + 2) + 1; omega), (by show 8 + (1 + 11) + 40 * (d + 2) ≤ 40 * ((d + 2) + 1); omega)⟩) hK hH hX hS rfl hl.1 rfl (by simp [cat_rf, Value.category]) dX4_depths_27 ⟨Nat.le_of_ble_eq_true rfl, Nat.le_of_ble_eq_true rfl⟩ (fun v Z1 H locs hpost hH hS => ?_)
    obtain ⟨rfl, rfl⟩ := hpost
    refine lv_iadd hx hb dX4_depths_30 ?_
    refine lv_aload_n hx hb dX4_depths_31 rfl (lv_at hl 0 rfl) ?_
    refine gB S hi3 hK hH m_k e_k 3 (by decide) f37 (v := va_rf (rt tr)) rfl dX4_depths_32 ?_
    refine cyS S (c_X4_count tr (d + 1) (by omega) htr) (va_cwS 1 hts gX4_depths_X4_count rfl rfl rfl (by decide +kernel) ⟨(by show (d + 2) + 1 ≤ (d + 2) + 1; omega), (by show 8 + (1 + 11) + 40 * (d + 2) ≤ 40 * ((d + 2) + 1); omega)⟩) hK hH hX hS rfl hl.1 rfl (by simp [cat_rf, Value.category]) dX4_depths_35 ⟨Nat.le_of_ble_eq_true rfl, Nat.le_of_ble_eq_true rfl⟩ (fun v Z1 H locs hpost hH hS => ?_)
    obtain ⟨rfl, rfl⟩ := hpost
    refine lv_iadd hx hb dX4_depths_38 ?_
    exact eI S hr hlocks hH hS ⟨by rw [nI_add, nI_add, nI_add, dsm, dsm_s, dsm_s]; exact congrArg (fun z => some (Value.int (nI z))) (by omega), rfl⟩ dX4_depths_39

set_option maxRecDepth 100000 in
set_option maxHeartbeats 4000000 in
theorem c_X4_leaves  : ∀ (t : Tr) (d : Nat), hgt t ≤ d → sT (U, E) zz ee t → My l yX4_leaves wsX4_leaves (rmL (d + 1) 0 0) D lo Γ [va_rf (rt t)] (C, (U, E), V) (fun v Z' => v = some (.int (nI (lvs t))) ∧ Z' = (C, (U, E), V)) := by
  intro t
  induction t with
  | leaf u =>
    intro d hd ht
    refine My_of (cc := cX4_leaves) (maxL := 1) (ret := (some .int)) (by decide) rfl (Nat.le_of_ble_eq_true rfl) ?_
    intro p e s m args below meth c ls hname S hr hlocks hK hH hS hX hl
    have hx := S.1
    have hb := S.2.1
    have hts := S.2.2.2.2
    have f33 : (Cond.fieldLink RX4 33 (TX3 2).1 (TX3 2).2.1 (TX3 2).2.2.1).before args s = true := hts _ (List.mem_of_getElem? (i := 1) rfl)
    have f37 : (Cond.fieldLink RX4 37 (TX3 3).1 (TX3 3).2.1 (TX3 3).2.2.1).before args s = true := hts _ (List.mem_of_getElem? (i := 2) rfl)
    have hi3 : ∀ w ∈ wsX30, w ∈ wsX4_leaves := by decide +kernel
    have hlo : lo ≤ s.heap.size := hH.2.2.1.1
    have hg : Gr (U, E) (U, E) [] := Gr.rf _ _
    have hE : Ext C C := Ext.rf C
    have hl : lv_has ls 1 [(0, .null)] := hl
    refine lv_aload_nN hx hb dX4_leaves_0 rfl (lv_at hl 0 rfl) ?_
    refine lv_ifnonnullN hx hb dX4_leaves_1 ?_
    refine lv_iconst (v := 0) hx hb dX4_leaves_4 (by decide) ?_
    refine lv_goto (tgt := 41) hx hb dX4_leaves_5 (by decide) ?_
    exact eI S hr hlocks hH hS ⟨rfl, rfl⟩ dX4_leaves_41
  | branch k tl tr ihl ihr =>
    intro d hd ht
    have hd2 : ∃ d', d = d' + 1 ∧ hgt tl ≤ d' ∧ hgt tr ≤ d' := ⟨d - 1, by rw [hgt] at hd; omega, by rw [hgt] at hd; omega, by rw [hgt] at hd; omega⟩
    obtain ⟨d, rfl, hdl, hdr⟩ := hd2
    obtain ⟨⟨m_k, e_k⟩, htl, htr⟩ := ht
    refine My_of (cc := cX4_leaves) (maxL := 1) (ret := (some .int)) (by decide) rfl (Nat.le_of_ble_eq_true rfl) ?_
    intro p e s m args below meth c ls hname S hr hlocks hK hH hS hX hl
    have hx := S.1
    have hb := S.2.1
    have hts := S.2.2.2.2
    have f33 : (Cond.fieldLink RX4 33 (TX3 2).1 (TX3 2).2.1 (TX3 2).2.2.1).before args s = true := hts _ (List.mem_of_getElem? (i := 1) rfl)
    have f37 : (Cond.fieldLink RX4 37 (TX3 3).1 (TX3 3).2.1 (TX3 3).2.2.1).before args s = true := hts _ (List.mem_of_getElem? (i := 2) rfl)
    have hi3 : ∀ w ∈ wsX30, w ∈ wsX4_leaves := by decide +kernel
    have hlo : lo ≤ s.heap.size := hH.2.2.1.1
    have hg : Gr (U, E) (U, E) [] := Gr.rf _ _
    have hE : Ext C C := Ext.rf C
    have hl : lv_has ls 1 [(0, .ref k)] := hl
    cases htl9 : tl with
    | leaf ul =>
      subst htl9
      cases htr9 : tr with
      | leaf ur =>
        subst htr9
        have e_k : E k = .inr (3, [.int (nI (zz k)), .int (nI (ee k)), .null, .null]) := e_k
        refine lv_aload_n hx hb dX4_leaves_0 rfl (lv_at hl 0 rfl) ?_
        refine lv_ifnonnull hx hb dX4_leaves_1 (tgt := 8) (by decide) ?_
        refine lv_aload_n hx hb dX4_leaves_8 rfl (lv_at hl 0 rfl) ?_
        refine gB S hi3 hK hH m_k e_k 2 (by decide) f33 (v := .null) rfl dX4_leaves_9 ?_
        refine lv_ifnonnullN hx hb dX4_leaves_12 ?_
        refine lv_aload_n hx hb dX4_leaves_15 rfl (lv_at hl 0 rfl) ?_
        refine gB S hi3 hK hH m_k e_k 3 (by decide) f37 (v := .null) rfl dX4_leaves_16 ?_
        refine lv_ifnonnullN hx hb dX4_leaves_19 ?_
        refine lv_iconst (v := 1) hx hb dX4_leaves_22 (by decide) ?_
        refine lv_goto (tgt := 41) hx hb dX4_leaves_23 (by decide) ?_
        exact eI S hr hlocks hH hS ⟨rfl, rfl⟩ dX4_leaves_41
      | branch b x y =>
        subst htr9
        have e_k : E k = .inr (3, [.int (nI (zz k)), .int (nI (ee k)), .null, .ref b]) := e_k
        refine lv_aload_n hx hb dX4_leaves_0 rfl (lv_at hl 0 rfl) ?_
        refine lv_ifnonnull hx hb dX4_leaves_1 (tgt := 8) (by decide) ?_
        refine lv_aload_n hx hb dX4_leaves_8 rfl (lv_at hl 0 rfl) ?_
        refine gB S hi3 hK hH m_k e_k 2 (by decide) f33 (v := .null) rfl dX4_leaves_9 ?_
        refine lv_ifnonnullN hx hb dX4_leaves_12 ?_
        refine lv_aload_n hx hb dX4_leaves_15 rfl (lv_at hl 0 rfl) ?_
        refine gB S hi3 hK hH m_k e_k 3 (by decide) f37 (v := .ref b) rfl dX4_leaves_16 ?_
        refine lv_ifnonnull hx hb dX4_leaves_19 (tgt := 26) (by decide) ?_
        refine lv_aload_n hx hb dX4_leaves_26 rfl (lv_at hl 0 rfl) ?_
        refine gB S hi3 hK hH m_k e_k 2 (by decide) f33 (v := .null) rfl dX4_leaves_27 ?_
        refine cyS S (ihl d hdl htl) (va_cwS 1 hts gX4_leaves_X4_leaves rfl rfl rfl (by decide +kernel) ⟨(by show (d + 1) + 1 ≤ (d + 1) + 1; omega), (by show 8 + (1 + 11) + 40 * (d + 1) ≤ 40 * ((d + 1) + 1); omega)⟩) hK hH hX hS rfl hl.1 rfl (by simp [cat_rf, Value.category]) dX4_leaves_30 ⟨Nat.le_of_ble_eq_true rfl, Nat.le_of_ble_eq_true rfl⟩ (fun v Z1 H locs hpost hH hS => ?_)
        obtain ⟨rfl, rfl⟩ := hpost
        refine lv_aload_n hx hb dX4_leaves_33 rfl (lv_at hl 0 rfl) ?_
        refine gB S hi3 hK hH m_k e_k 3 (by decide) f37 (v := .ref b) rfl dX4_leaves_34 ?_
        refine cyS S (ihr d hdr htr) (va_cwS 1 hts gX4_leaves_X4_leaves rfl rfl rfl (by decide +kernel) ⟨(by show (d + 1) + 1 ≤ (d + 1) + 1; omega), (by show 8 + (1 + 11) + 40 * (d + 1) ≤ 40 * ((d + 1) + 1); omega)⟩) hK hH hX hS rfl hl.1 rfl (by simp [cat_rf, Value.category]) dX4_leaves_37 ⟨Nat.le_of_ble_eq_true rfl, Nat.le_of_ble_eq_true rfl⟩ (fun v Z1 H locs hpost hH hS => ?_)
        obtain ⟨rfl, rfl⟩ := hpost
        refine lv_iadd hx hb dX4_leaves_40 ?_
        exact eI S hr hlocks hH hS ⟨by rw [nI_add]; rfl, rfl⟩ dX4_leaves_41
    | branch a x y =>
      subst htl9
      cases htr9 : tr with
      | leaf ur =>
        subst htr9
        have e_k : E k = .inr (3, [.int (nI (zz k)), .int (nI (ee k)), .ref a, .null]) := e_k
        refine lv_aload_n hx hb dX4_leaves_0 rfl (lv_at hl 0 rfl) ?_
        refine lv_ifnonnull hx hb dX4_leaves_1 (tgt := 8) (by decide) ?_
        refine lv_aload_n hx hb dX4_leaves_8 rfl (lv_at hl 0 rfl) ?_
        refine gB S hi3 hK hH m_k e_k 2 (by decide) f33 (v := .ref a) rfl dX4_leaves_9 ?_
        refine lv_ifnonnull hx hb dX4_leaves_12 (tgt := 26) (by decide) ?_
        refine lv_aload_n hx hb dX4_leaves_26 rfl (lv_at hl 0 rfl) ?_
        refine gB S hi3 hK hH m_k e_k 2 (by decide) f33 (v := .ref a) rfl dX4_leaves_27 ?_
        refine cyS S (ihl d hdl htl) (va_cwS 1 hts gX4_leaves_X4_leaves rfl rfl rfl (by decide +kernel) ⟨(by show (d + 1) + 1 ≤ (d + 1) + 1; omega), (by show 8 + (1 + 11) + 40 * (d + 1) ≤ 40 * ((d + 1) + 1); omega)⟩) hK hH hX hS rfl hl.1 rfl (by simp [cat_rf, Value.category]) dX4_leaves_30 ⟨Nat.le_of_ble_eq_true rfl, Nat.le_of_ble_eq_true rfl⟩ (fun v Z1 H locs hpost hH hS => ?_)
        obtain ⟨rfl, rfl⟩ := hpost
        refine lv_aload_n hx hb dX4_leaves_33 rfl (lv_at hl 0 rfl) ?_
        refine gB S hi3 hK hH m_k e_k 3 (by decide) f37 (v := .null) rfl dX4_leaves_34 ?_
        refine cyS S (ihr d hdr htr) (va_cwS 1 hts gX4_leaves_X4_leaves rfl rfl rfl (by decide +kernel) ⟨(by show (d + 1) + 1 ≤ (d + 1) + 1; omega), (by show 8 + (1 + 11) + 40 * (d + 1) ≤ 40 * ((d + 1) + 1); omega)⟩) hK hH hX hS rfl hl.1 rfl (by simp [cat_rf, Value.category]) dX4_leaves_37 ⟨Nat.le_of_ble_eq_true rfl, Nat.le_of_ble_eq_true rfl⟩ (fun v Z1 H locs hpost hH hS => ?_)
        obtain ⟨rfl, rfl⟩ := hpost
        refine lv_iadd hx hb dX4_leaves_40 ?_
        exact eI S hr hlocks hH hS ⟨by rw [nI_add]; rfl, rfl⟩ dX4_leaves_41
      | branch b x2 y2 =>
        subst htr9
        have e_k : E k = .inr (3, [.int (nI (zz k)), .int (nI (ee k)), .ref a, .ref b]) := e_k
        refine lv_aload_n hx hb dX4_leaves_0 rfl (lv_at hl 0 rfl) ?_
        refine lv_ifnonnull hx hb dX4_leaves_1 (tgt := 8) (by decide) ?_
        refine lv_aload_n hx hb dX4_leaves_8 rfl (lv_at hl 0 rfl) ?_
        refine gB S hi3 hK hH m_k e_k 2 (by decide) f33 (v := .ref a) rfl dX4_leaves_9 ?_
        refine lv_ifnonnull hx hb dX4_leaves_12 (tgt := 26) (by decide) ?_
        refine lv_aload_n hx hb dX4_leaves_26 rfl (lv_at hl 0 rfl) ?_
        refine gB S hi3 hK hH m_k e_k 2 (by decide) f33 (v := .ref a) rfl dX4_leaves_27 ?_
        refine cyS S (ihl d hdl htl) (va_cwS 1 hts gX4_leaves_X4_leaves rfl rfl rfl (by decide +kernel) ⟨(by show (d + 1) + 1 ≤ (d + 1) + 1; omega), (by show 8 + (1 + 11) + 40 * (d + 1) ≤ 40 * ((d + 1) + 1); omega)⟩) hK hH hX hS rfl hl.1 rfl (by simp [cat_rf, Value.category]) dX4_leaves_30 ⟨Nat.le_of_ble_eq_true rfl, Nat.le_of_ble_eq_true rfl⟩ (fun v Z1 H locs hpost hH hS => ?_)
        obtain ⟨rfl, rfl⟩ := hpost
        refine lv_aload_n hx hb dX4_leaves_33 rfl (lv_at hl 0 rfl) ?_
        refine gB S hi3 hK hH m_k e_k 3 (by decide) f37 (v := .ref b) rfl dX4_leaves_34 ?_
        refine cyS S (ihr d hdr htr) (va_cwS 1 hts gX4_leaves_X4_leaves rfl rfl rfl (by decide +kernel) ⟨(by show (d + 1) + 1 ≤ (d + 1) + 1; omega), (by show 8 + (1 + 11) + 40 * (d + 1) ≤ 40 * ((d + 1) + 1); omega)⟩) hK hH hX hS rfl hl.1 rfl (by simp [cat_rf, Value.category]) dX4_leaves_37 ⟨Nat.le_of_ble_eq_true rfl, Nat.le_of_ble_eq_true rfl⟩ (fun v Z1 H locs hpost hH hS => ?_)
        obtain ⟨rfl, rfl⟩ := hpost
        refine lv_iadd hx hb dX4_leaves_40 ?_
        exact eI S hr hlocks hH hS ⟨by rw [nI_add]; rfl, rfl⟩ dX4_leaves_41

set_option maxRecDepth 100000 in
set_option maxHeartbeats 4000000 in
theorem c_X4_most  : ∀ (t : Tr) (d : Nat), hgt t ≤ d → sT (U, E) zz ee t → t ≠ .leaf () → My l yX4_most wsX4_most (rmL (d + 1) 0 0) D lo Γ [va_rf (rt t)] (C, (U, E), V) (fun v Z' => ∃ b, (tids t).getLast? = some b ∧ v = some (.int (nI (zz b))) ∧ Z' = (C, (U, E), V)) := by
  intro t
  induction t with
  | leaf u =>
    intro d hd ht h0
    exact absurd rfl h0
  | branch k tl tr ihl ihr =>
    intro d hd ht _
    have hd2 : ∃ d', d = d' + 1 ∧ hgt tl ≤ d' ∧ hgt tr ≤ d' := ⟨d - 1, by rw [hgt] at hd; omega, by rw [hgt] at hd; omega, by rw [hgt] at hd; omega⟩
    obtain ⟨d, rfl, hdl, hdr⟩ := hd2
    obtain ⟨⟨m_k, e_k⟩, htl, htr⟩ := ht
    refine My_of (cc := cX4_most) (maxL := 1) (ret := (some .int)) (by decide) rfl (Nat.le_of_ble_eq_true rfl) ?_
    intro p e s m args below meth c ls hname S hr hlocks hK hH hS hX hl
    have hx := S.1
    have hb := S.2.1
    have hts := S.2.2.2.2
    have f37 : (Cond.fieldLink RX4 37 (TX3 3).1 (TX3 3).2.1 (TX3 3).2.2.1).before args s = true := hts _ (List.mem_of_getElem? (i := 1) rfl)
    have f24 : (Cond.fieldLink RX4 24 (TX3 0).1 (TX3 0).2.1 (TX3 0).2.2.1).before args s = true := hts _ (List.mem_of_getElem? (i := 2) rfl)
    have hi3 : ∀ w ∈ wsX30, w ∈ wsX4_most := by decide +kernel
    have hlo : lo ≤ s.heap.size := hH.2.2.1.1
    have hg : Gr (U, E) (U, E) [] := Gr.rf _ _
    have hE : Ext C C := Ext.rf C
    have hl : lv_has ls 1 [(0, .ref k)] := hl
    cases hs9 : tr with
    | leaf u =>
      subst hs9
      have e_k : E k = .inr (3, [.int (nI (zz k)), .int (nI (ee k)), va_rf (rt tl), .null]) := e_k
      refine lv_aload_n hx hb dX4_most_0 rfl (lv_at hl 0 rfl) ?_
      refine gB S hi3 hK hH m_k e_k 3 (by decide) f37 (v := .null) rfl dX4_most_1 ?_
      refine lv_ifnonnullN hx hb dX4_most_4 ?_
      refine lv_aload_n hx hb dX4_most_7 rfl (lv_at hl 0 rfl) ?_
      refine gB S hi3 hK hH m_k e_k 0 (by decide) f24 (v := .int (nI (zz k))) rfl dX4_most_8 ?_
      refine lv_goto (tgt := 21) hx hb dX4_most_11 (by decide) ?_
      exact eI S hr hlocks hH hS ⟨k, by simp [tids], rfl, rfl⟩ dX4_most_21
    | branch a x y =>
      subst hs9
      have e_k : E k = .inr (3, [.int (nI (zz k)), .int (nI (ee k)), va_rf (rt tl), .ref a]) := e_k
      refine lv_aload_n hx hb dX4_most_0 rfl (lv_at hl 0 rfl) ?_
      refine gB S hi3 hK hH m_k e_k 3 (by decide) f37 (v := .ref a) rfl dX4_most_1 ?_
      refine lv_ifnonnull hx hb dX4_most_4 (tgt := 14) (by decide) ?_
      refine lv_aload_n hx hb dX4_most_14 rfl (lv_at hl 0 rfl) ?_
      refine gB S hi3 hK hH m_k e_k 3 (by decide) f37 (v := .ref a) rfl dX4_most_15 ?_
      refine cyS S (ihr d hdr htr (by simp)) (va_cwS 1 hts gX4_most_X4_most rfl rfl rfl (by decide +kernel) ⟨(by show (d + 1) + 1 ≤ (d + 1) + 1; omega), (by show 8 + (1 + 11) + 40 * (d + 1) ≤ 40 * ((d + 1) + 1); omega)⟩) hK hH hX hS rfl hl.1 rfl (by simp [cat_rf, Value.category]) dX4_most_18 ⟨Nat.le_of_ble_eq_true rfl, Nat.le_of_ble_eq_true rfl⟩ (fun v Z1 H locs hpost hH hS => ?_)
      obtain ⟨b, hb1, rfl, rfl⟩ := hpost
      exact eI S hr hlocks hH hS ⟨b, by rw [tids_branch]; exact (la_app (by simp [tids])).trans hb1, rfl, rfl⟩ dX4_most_21

set_option maxRecDepth 100000 in
set_option maxHeartbeats 4000000 in
theorem c_X4_least  : ∀ (t : Tr) (d : Nat), hgt t ≤ d → sT (U, E) zz ee t → t ≠ .leaf () → My l yX4_least wsX4_least (rmL (d + 1) 0 0) D lo Γ [va_rf (rt t)] (C, (U, E), V) (fun v Z' => ∃ b, (tids t).head? = some b ∧ v = some (.int (nI (zz b))) ∧ Z' = (C, (U, E), V)) := by
  intro t
  induction t with
  | leaf u =>
    intro d hd ht h0
    exact absurd rfl h0
  | branch k tl tr ihl ihr =>
    intro d hd ht _
    have hd2 : ∃ d', d = d' + 1 ∧ hgt tl ≤ d' ∧ hgt tr ≤ d' := ⟨d - 1, by rw [hgt] at hd; omega, by rw [hgt] at hd; omega, by rw [hgt] at hd; omega⟩
    obtain ⟨d, rfl, hdl, hdr⟩ := hd2
    obtain ⟨⟨m_k, e_k⟩, htl, htr⟩ := ht
    refine My_of (cc := cX4_least) (maxL := 1) (ret := (some .int)) (by decide) rfl (Nat.le_of_ble_eq_true rfl) ?_
    intro p e s m args below meth c ls hname S hr hlocks hK hH hS hX hl
    have hx := S.1
    have hb := S.2.1
    have hts := S.2.2.2.2
    have f33 : (Cond.fieldLink RX4 33 (TX3 2).1 (TX3 2).2.1 (TX3 2).2.2.1).before args s = true := hts _ (List.mem_of_getElem? (i := 1) rfl)
    have f24 : (Cond.fieldLink RX4 24 (TX3 0).1 (TX3 0).2.1 (TX3 0).2.2.1).before args s = true := hts _ (List.mem_of_getElem? (i := 2) rfl)
    have hi3 : ∀ w ∈ wsX30, w ∈ wsX4_least := by decide +kernel
    have hlo : lo ≤ s.heap.size := hH.2.2.1.1
    have hg : Gr (U, E) (U, E) [] := Gr.rf _ _
    have hE : Ext C C := Ext.rf C
    have hl : lv_has ls 1 [(0, .ref k)] := hl
    cases hs9 : tl with
    | leaf u =>
      subst hs9
      have e_k : E k = .inr (3, [.int (nI (zz k)), .int (nI (ee k)), .null, va_rf (rt tr)]) := e_k
      refine lv_aload_n hx hb dX4_least_0 rfl (lv_at hl 0 rfl) ?_
      refine gB S hi3 hK hH m_k e_k 2 (by decide) f33 (v := .null) rfl dX4_least_1 ?_
      refine lv_ifnonnullN hx hb dX4_least_4 ?_
      refine lv_aload_n hx hb dX4_least_7 rfl (lv_at hl 0 rfl) ?_
      refine gB S hi3 hK hH m_k e_k 0 (by decide) f24 (v := .int (nI (zz k))) rfl dX4_least_8 ?_
      refine lv_goto (tgt := 21) hx hb dX4_least_11 (by decide) ?_
      exact eI S hr hlocks hH hS ⟨k, by simp [tids], rfl, rfl⟩ dX4_least_21
    | branch a x y =>
      subst hs9
      have e_k : E k = .inr (3, [.int (nI (zz k)), .int (nI (ee k)), .ref a, va_rf (rt tr)]) := e_k
      refine lv_aload_n hx hb dX4_least_0 rfl (lv_at hl 0 rfl) ?_
      refine gB S hi3 hK hH m_k e_k 2 (by decide) f33 (v := .ref a) rfl dX4_least_1 ?_
      refine lv_ifnonnull hx hb dX4_least_4 (tgt := 14) (by decide) ?_
      refine lv_aload_n hx hb dX4_least_14 rfl (lv_at hl 0 rfl) ?_
      refine gB S hi3 hK hH m_k e_k 2 (by decide) f33 (v := .ref a) rfl dX4_least_15 ?_
      refine cyS S (ihl d hdl htl (by simp)) (va_cwS 1 hts gX4_least_X4_least rfl rfl rfl (by decide +kernel) ⟨(by show (d + 1) + 1 ≤ (d + 1) + 1; omega), (by show 8 + (1 + 11) + 40 * (d + 1) ≤ 40 * ((d + 1) + 1); omega)⟩) hK hH hX hS rfl hl.1 rfl (by simp [cat_rf, Value.category]) dX4_least_18 ⟨Nat.le_of_ble_eq_true rfl, Nat.le_of_ble_eq_true rfl⟩ (fun v Z1 H locs hpost hH hS => ?_)
      obtain ⟨b, hb1, rfl, rfl⟩ := hpost
      exact eI S hr hlocks hH hS ⟨b, by rw [tids_branch]; exact (hd_app (by simp [tids])).trans hb1, rfl, rfl⟩ dX4_least_21
end MSim1
