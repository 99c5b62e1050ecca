/-! THE HAND-MADE ORCHARD: its constructors; laying out in order; the way to a size -/
theorem eQ {p : Program} {l : Launch} {e : Env} {R : Room} {s : State} {m : MethodId} {args : Array Value} {below : List Frame} {meth : Method} {c : Code} {H : Heap} {locs : List Loc} {cells slots : Nat} {cc : ByteArray} {pc nL q : Nat} {ls : Array Slot} {D : va_G} {lo : Nat} {Γ : GT} {Ts : List Cond} {own : String} {Z1 : WS} {post : Option Value → WS → Prop} {t0 : FieldType} (S : CallFix p m c cc nL s args Ts own) (hr : meth.sig.returnType = some (.array t0)) (hlocks : meth.locks = false) (hH : Hp D lo Γ Z1 H) (hS : va_S (lA lo) s.heap H locs) (hp : post (some (.ref q)) Z1) (hdg : decode cc pc = .ok (.areturn, 1)) : W p l e R s m args below meth c H locs cells slots (MQ below (Qz D lo Γ post) args s cells slots (lA lo)) (F0 m pc ls [.ref q]) :=
  W.aret S.1 S.2.1 hr (Or.inr ⟨_, rfl⟩) (Or.inr ⟨_, rfl⟩) (fun t ht hW => ⟨⟨_, Z1, rfl, hp, by rw [ht]; exact hH⟩, hS.F ht⟩) hS.2.2 hdg hlocks
section MSim2
variable {l : Launch} {D : va_G} {lo : Nat} {Γ : GT} {C : CW} {V : Int64 × UInt64} {U : List Nat} {E : Nat → va_E} {zz ee : Nat → Nat}
set_option maxRecDepth 100000 in
set_option maxHeartbeats 4000000 in
theorem c_X3_init {a n : Nat} (m_a : a ∈ U) (e_a : E a = .inr (3, [.int 0, .int 0, .null, .null])) : My l yX3_init wsX3_init (rmL 2 0 0) D lo Γ [.ref a, .int (nI n)] (C, (U, E), V) (fun v Z' => v = none ∧ ∃ E', Z' = (C, (U, E'), V) ∧ E' a = .inr (3, [.int (nI n), .int 0, .null, .null]) ∧ ∀ b, b ≠ a → E' b = E b) := by
  refine My_of (cc := cX3_init) (maxL := 2) (ret := none) (by decide) rfl (Nat.le_of_ble_eq_true rfl) ?_
  intro p e s m args below meth c ls hname S hr hlocks hK hH hS hX hl
  have hx := S.1
  have hb := S.2.1
  have hts := S.2.2.2.2
  have f7 : (Cond.fieldLink RX3 7 (TX3 0).1 (TX3 0).2.1 (TX3 0).2.2.1).before args s = true := hts _ (List.mem_of_getElem? (i := 4) rfl)
  have hi3 : ∀ w ∈ wsX30, w ∈ wsX3_init := by decide +kernel
  have hlo : lo ≤ s.heap.size := hH.2.2.1.1
  have hg : Gr (U, E) (U, E) [a] := Gr.rf _ _
  have hE : Ext C C := Ext.rf C
  have hl : lv_has ls 2 [(0, .ref a), (1, .int (nI n))] := hl
  have w_a : a ∈ [a] := by simp
  refine lv_aload_n hx hb dX3_init_0 rfl (lv_at hl 0 rfl) ?_
  refine W.objInit hx hb S.2.2.2.1 (hts (.methodLink RX3 1 objectInit) (by decide +kernel)) (hts (.instanceMethod objectInit) (by decide +kernel)) (hts (.code objectInit ⟨#[0xb1]⟩ 1 none) (by decide +kernel)) rfl (hl.1.trans S.2.2.1.symm) rfl dX3_init_1 (Nat.le_of_ble_eq_true rfl) (Nat.le_of_ble_eq_true rfl) ?_
  refine lv_aload_n hx hb dX3_init_4 rfl (lv_at hl 0 rfl) ?_
  refine lv_iload_n hx hb dX3_init_5 rfl (lv_at hl 1 rfl) ?_
  refine pBi S hi3 hK hH hS m_a e_a 0 (by decide) f7 dX3_init_6 rfl (fun E1 H locs e_a ho hH hS => ?_)
  have e_a : E1 a = .inr (3, [.int (nI n), .int 0, .null, .null]) := e_a
  have hg := hg.put w_a ho
  exact eV S hr hlocks hH hS ⟨rfl, E1, rfl, e_a, ho⟩ dX3_init_9

set_option maxRecDepth 100000 in
set_option maxHeartbeats 4000000 in
theorem c_X4_init {a : Nat} (m_a : a ∈ U) (e_a : E a = .inr (4, [.null, .int 0])) : My l yX4_init wsX4_init (rmL 2 1 6) D lo Γ [.ref a] (C, (U, E), V) (fun v Z' => v = none ∧ ∃ C' U' E' q, Z' = (C', (U', E'), V) ∧ Ext C C' ∧ Gr (U, E) (U', E') [a] ∧ q ∉ U ∧ q ∈ U' ∧ E' q = qE Γ 6 (fun _ => none) ∧ E' a = .inr (4, [.ref q, .int 0])) := by
  refine My_of (cc := cX4_init) (maxL := 1) (ret := none) (by decide) rfl (Nat.le_of_ble_eq_true rfl) ?_
  intro p e s m args below meth c ls hname S hr hlocks hK hH hS hX hl
  have hx := S.1
  have hb := S.2.1
  have hts := S.2.2.2.2
  have f9 : (Cond.fieldLink RX4 9 (TX4 0).1 (TX4 0).2.1 (TX4 0).2.2.1).before args s = true := hts _ (List.mem_of_getElem? (i := 5) rfl)
  have hi4 : ∀ w ∈ wsX40, w ∈ wsX4_init := by decide +kernel
  have hlo : lo ≤ s.heap.size := hH.2.2.1.1
  have hg : Gr (U, E) (U, E) [a] := Gr.rf _ _
  have hE : Ext C C := Ext.rf C
  have hl : lv_has ls 1 [(0, .ref a)] := hl
  have w_a : a ∈ [a] := by simp
  refine lv_aload_n hx hb dX4_init_0 rfl (lv_at hl 0 rfl) ?_
  refine W.objInit hx hb S.2.2.2.1 (hts (.methodLink RX4 1 objectInit) (by decide +kernel)) (hts (.instanceMethod objectInit) (by decide +kernel)) (hts (.code objectInit ⟨#[0xb1]⟩ 1 none) (by decide +kernel)) rfl (hl.1.trans S.2.2.1.symm) rfl dX4_init_1 (Nat.le_of_ble_eq_true rfl) (Nat.le_of_ble_eq_true rfl) ?_
  refine lv_aload_n hx hb dX4_init_4 rfl (lv_at hl 0 rfl) ?_
  refine lv_bipush (v := 6) hx hb dX4_init_5 (by decide +kernel) ?_
  refine nQ S (hts _ (List.mem_of_getElem? (i := 4) rfl)) hX hK hH hlo hS (n := 6) rfl (by decide) (Nat.le_of_ble_eq_true rfl) (Nat.le_of_ble_eq_true rfl) dX4_init_7 (fun q C3 U2 E1 H fr hx9 m_q su e_q ho hH hS => ?_)
  have n9_a : a ≠ q := fun e9 => fr (by rw [← e9]; exact m_a)
  have e_a : E1 a = .inr (4, [.null, .int 0]) := (ho a n9_a).trans e_a
  have m_a := su a m_a
  have n9_a_q := n9_a
  have hg := hg.new fr su ho
  have hE := hE.tr hx9
  have fr0 := fr
  have n9_q : q ≠ a := (Ne.symm n9_a_q)
  refine pM0 S hi4 hK hH hS m_a e_a f9 dX4_init_10 rfl (fun E4 H locs e_a ho hH hS => ?_)
  have e_a : E4 a = .inr (4, [.ref q, .int 0]) := e_a
  have e_q : E4 q = qE Γ 6 (fun _ => none) := (ho q n9_q).trans e_q
  have hg := hg.put w_a ho
  exact eV S hr hlocks hH hS ⟨rfl, C3, U2, E4, q, rfl, hE, hg, fr0, m_q, e_q, e_a⟩ dX4_init_13

set_option maxRecDepth 100000 in
set_option maxHeartbeats 4000000 in
theorem c_X4_order {q n : Nat} : ∀ (t : Tr) (d i : Nat) (E : Nat → va_E) (f : Nat → Option Nat), hgt t ≤ d → sT (U, E) zz ee t → q ∈ U → E q = qE Γ n f → i + (tids t).length ≤ n → n ≤ 1000 → My l yX4_order wsX4_order (rmL (d + 1) 0 0) D lo Γ [va_rf (rt t), .ref q, .int (nI i)] (C, (U, E), V) (fun v Z' => v = some (.int (nI (i + (tids t).length))) ∧ ∃ E', Z' = (C, (U, E'), V) ∧ E' q = qE Γ n (oF f i (tids t)) ∧ ∀ b, b ≠ q → E' b = E b) := by
  intro t
  induction t with
  | leaf u =>
    intro d i E f hd ht m_q e_q hi hn
    refine My_of (cc := cX4_order) (maxL := 4) (ret := (some .int)) (by decide) rfl (Nat.le_of_ble_eq_true rfl) ?_
    intro p e s m args below meth c ls hname S hr hlocks hK hH hS hX hl
    have hx := S.1
    have hb := S.2.1
    have hts := S.2.2.2.2
    have f33 : (Cond.fieldLink RX4 33 (TX3 2).1 (TX3 2).2.1 (TX3 2).2.2.1).before args s = true := hts _ (List.mem_of_getElem? (i := 1) rfl)
    have f37 : (Cond.fieldLink RX4 37 (TX3 3).1 (TX3 3).2.1 (TX3 3).2.2.1).before args s = true := hts _ (List.mem_of_getElem? (i := 2) rfl)
    have hi3 : ∀ w ∈ wsX30, w ∈ wsX4_order := by decide +kernel
    have hlo : lo ≤ s.heap.size := hH.2.2.1.1
    have hg : Gr (U, E) (U, E) [q] := Gr.rf _ _
    have hE : Ext C C := Ext.rf C
    have hl : lv_has ls 4 [(0, .null), (1, .ref q), (2, .int (nI i))] := hl
    refine lv_aload_nN hx hb dX4_order_0 rfl (lv_at hl 0 rfl) ?_
    refine lv_ifnonnullN hx hb dX4_order_1 ?_
    refine lv_iload_n hx hb dX4_order_4 rfl (lv_at hl 2 rfl) ?_
    exact eI S hr hlocks hH hS ⟨rfl, E, rfl, e_q, fun _ _ => rfl⟩ dX4_order_5
  | branch k tl tr ihl ihr =>
    intro d i E f hd ht m_q e_q hi hn
    have hd2 : ∃ d', d = d' + 1 ∧ hgt tl ≤ d' ∧ hgt tr ≤ d' := ⟨d - 1, by rw [hgt] at hd; omega, by rw [hgt] at hd; omega, by rw [hgt] at hd; omega⟩
    obtain ⟨d, rfl, hdl, hdr⟩ := hd2
    have ht0 := ht
    obtain ⟨⟨m_k, e_k⟩, htl, htr⟩ := ht
    rw [tids_branch, List.length_append, List.length_cons] at hi
    have qn : ∀ b ∈ tids (.branch k tl tr), b ≠ q := fun b hb9 => by
      obtain ⟨-, x9, y9, h9⟩ := sT_at _ ht0 b hb9
      exact neBQ h9 e_q
    refine My_of (cc := cX4_order) (maxL := 4) (ret := (some .int)) (by decide) rfl (Nat.le_of_ble_eq_true rfl) ?_
    intro p e s m args below meth c ls hname S hr hlocks hK hH hS hX hl
    have hx := S.1
    have hb := S.2.1
    have hts := S.2.2.2.2
    have f33 : (Cond.fieldLink RX4 33 (TX3 2).1 (TX3 2).2.1 (TX3 2).2.2.1).before args s = true := hts _ (List.mem_of_getElem? (i := 1) rfl)
    have f37 : (Cond.fieldLink RX4 37 (TX3 3).1 (TX3 3).2.1 (TX3 3).2.2.1).before args s = true := hts _ (List.mem_of_getElem? (i := 2) rfl)
    have hi3 : ∀ w ∈ wsX30, w ∈ wsX4_order := by decide +kernel
    have hlo : lo ≤ s.heap.size := hH.2.2.1.1
    have hg : Gr (U, E) (U, E) [q] := Gr.rf _ _
    have hE : Ext C C := Ext.rf C
    have hl : lv_has ls 4 [(0, .ref k), (1, .ref q), (2, .int (nI i))] := hl
    refine lv_aload_n hx hb dX4_order_0 rfl (lv_at hl 0 rfl) ?_
    refine lv_ifnonnull hx hb dX4_order_1 (tgt := 6) (by decide) ?_
    refine lv_aload_n hx hb dX4_order_6 rfl (lv_at hl 0 rfl) ?_
    refine gB S hi3 hK hH m_k e_k 2 (by decide) f33 (v := va_rf (rt tl)) rfl dX4_order_7 ?_
    refine lv_aload_n hx hb dX4_order_10 rfl (lv_at hl 1 rfl) ?_
    refine lv_iload_n hx hb dX4_order_11 rfl (lv_at hl 2 rfl) ?_
    refine cyS S (ihl d i E f hdl htl m_q e_q (by omega) hn) (va_cwS 3 hts gX4_order_X4_order rfl rfl rfl (by decide +kernel) ⟨(by show (d + 1) + 1 ≤ (d + 1) + 1; omega), (by show 8 + (4 + 11) + 40 * (d + 1) ≤ 40 * ((d + 1) + 1); omega)⟩) hK hH hX hS rfl hl.1 rfl (by simp [cat_rf, Value.category]) dX4_order_12 ⟨Nat.le_of_ble_eq_true rfl, Nat.le_of_ble_eq_true rfl⟩ (fun v Z1 H locs hpost hH hS => ?_)
    obtain ⟨rfl, E1, rfl, e_q, ho9⟩ := hpost
    have ho8 := ho9
    have e_k : E1 k = .inr (3, [.int (nI (zz k)), .int (nI (ee k)), va_rf (rt tl), va_rf (rt tr)]) := (ho9 k (qn k (by simp [tids]))).trans e_k
    have hg := hg.put (by simp) ho9
    have htr := sT_cg (M' := (U, E1)) tr htr (fun b hb9 hM => ⟨hM, ho9 b (qn b (by simp [tids, hb9])), rfl, rfl⟩)
    refine lv_istore_n (lv' := [(3, .int (nI (i + (tids tl).length))), (0, .ref k), (1, .ref q), (2, .int (nI i))]) hx hb dX4_order_15 rfl hl (by decide) rfl (fun ls hl => ?_)
    refine lv_aload_n hx hb dX4_order_16 rfl (lv_at hl 2 rfl) ?_
    refine lv_iload_n hx hb dX4_order_17 rfl (lv_at hl 0 rfl) ?_
    refine lv_aload_n hx hb dX4_order_18 rfl (lv_at hl 1 rfl) ?_
    have w_q : q ∈ [q] := by simp
    have n9_k : k ≠ q := (neBQ e_k e_q)
    refine pQ S hK hH hS m_q e_q (j := (i + (tids tl).length)) rfl (by omega) (by omega) (some k) (fun b h => by cases h; exact ⟨m_k, _, e_k⟩) rfl dX4_order_19 (fun E2 H locs e_q ho hH hS => ?_)
    have e_k : E2 k = .inr (3, [.int (nI (zz k)), .int (nI (ee k)), va_rf (rt tl), va_rf (rt tr)]) := (ho k n9_k).trans e_k
    have hg := hg.put w_q ho
    have htr := sT_cg (M' := (U, E2)) tr htr (fun b hb9 hM => ⟨hM, ho b (qn b (by simp [tids, hb9])), rfl, rfl⟩)
    refine lv_aload_n hx hb dX4_order_20 rfl (lv_at hl 1 rfl) ?_
    refine gB S hi3 hK hH m_k e_k 3 (by decide) f37 (v := va_rf (rt tr)) rfl dX4_order_21 ?_
    refine lv_aload_n hx hb dX4_order_24 rfl (lv_at hl 2 rfl) ?_
    refine lv_iload_n hx hb dX4_order_25 rfl (lv_at hl 0 rfl) ?_
    refine lv_iconst (v := 1) hx hb dX4_order_26 (by decide) ?_
    refine lv_iadd hx hb dX4_order_27 ?_
    rw [nI_1]
    refine cyS S (ihr d (i + (tids tl).length + 1) E2 _ hdr htr m_q e_q (by omega) hn) (va_cwS 3 hts gX4_order_X4_order rfl rfl rfl (by decide +kernel) ⟨(by show (d + 1) + 1 ≤ (d + 1) + 1; omega), (by show 8 + (4 + 11) + 40 * (d + 1) ≤ 40 * ((d + 1) + 1); omega)⟩) hK hH hX hS rfl hl.1 rfl (by simp [cat_rf, Value.category]) dX4_order_28 ⟨Nat.le_of_ble_eq_true rfl, Nat.le_of_ble_eq_true rfl⟩ (fun v Z1 H locs hpost hH hS => ?_)
    obtain ⟨rfl, E3, rfl, e_q, ho9⟩ := hpost
    have hg := hg.put w_q ho9
    exact eI S hr hlocks hH hS ⟨by rw [tids_branch, List.length_append, List.length_cons]; exact congrArg (fun z => some (Value.int (nI z))) (by omega), E3, rfl, by rw [e_q, tids_branch, oF_app, oF], fun b hb9 => (ho9 b hb9).trans ((ho b hb9).trans (ho8 b hb9))⟩ dX4_order_31

set_option maxRecDepth 100000 in
set_option maxHeartbeats 4000000 in
theorem c_X4_path {t : Tr} {n : Nat} (ht : sT (U, E) zz ee t) (hz : ∀ a ∈ tids t, zz a < 1000) (hn : n < 1000) (h40 : (wy zz n t).length ≤ 40) : My l yX4_path wsX4_path (rmL 1 1 40) D lo Γ [va_rf (rt t), .int (nI n)] (C, (U, E), V) (fun v Z' => ∃ C' U' E' q, v = some (.ref q) ∧ Z' = (C', (U', E'), V) ∧ Ext C C' ∧ Gr (U, E) (U', E') [] ∧ q ∉ U ∧ q ∈ U' ∧ E' q = qE Γ (wy zz n t).length (fun i => (wy zz n t)[i]?)) := by
  refine My_of (cc := cX4_path) (maxL := 6) (ret := (some (.array (.object "SplayOrchardLaw$Apple")))) (by decide) rfl (by cases t <;> exact Nat.le_of_ble_eq_true rfl) ?_
  intro p e s m args below meth c ls hname S hr hlocks hK hH hS hX hl
  have hx := S.1
  have hb := S.2.1
  have hts := S.2.2.2.2
  have f24 : (Cond.fieldLink RX4 24 (TX3 0).1 (TX3 0).2.1 (TX3 0).2.2.1).before args s = true := hts _ (List.mem_of_getElem? (i := 1) rfl)
  have f33 : (Cond.fieldLink RX4 33 (TX3 2).1 (TX3 2).2.1 (TX3 2).2.2.1).before args s = true := hts _ (List.mem_of_getElem? (i := 2) rfl)
  have f37 : (Cond.fieldLink RX4 37 (TX3 3).1 (TX3 3).2.1 (TX3 3).2.2.1).before args s = true := hts _ (List.mem_of_getElem? (i := 3) rfl)
  have hi3 : ∀ w ∈ wsX30, w ∈ wsX4_path := by decide +kernel
  have hlo : lo ≤ s.heap.size := hH.2.2.1.1
  have hg : Gr (U, E) (U, E) [] := Gr.rf _ _
  have hE : Ext C C := Ext.rf C
  have hl : lv_has ls 6 [(0, va_rf (rt t)), (1, .int (nI n))] := (by cases t <;> exact hl)
  refine lv_iconst (v := 0) hx hb dX4_path_0 (by decide) ?_
  refine lv_istore_n (lv' := [(2, .int 0), (0, va_rf (rt t)), (1, .int (nI n))]) hx hb dX4_path_1 rfl hl (by decide) rfl (fun ls hl => ?_)
  refine lq_aload_n S dX4_path_2 rfl (lv_at hl 1 rfl) ?_
  refine lq_astore_n (i := 3) (lv' := [(2, .int 0), (0, va_rf (rt t)), (1, .int (nI n))]) S dX4_path_3 rfl hl (by decide) rfl (fun ls hl => ?_)
  have endp : ∀ ls, lv_has ls 6 [(3, .null), (2, .int (nI (wy zz n t).length)), (0, va_rf (rt t)), (1, .int (nI n))] → W p l e (rmL 1 1 40) s m args below meth c s.heap [] 0 0 (MQ below (Qz D lo Γ (fun v Z' => ∃ C' U' E' q, v = some (.ref q) ∧ Z' = (C', (U', E'), V) ∧ Ext C C' ∧ Gr (U, E) (U', E') [] ∧ q ∉ U ∧ q ∈ U' ∧ E' q = qE Γ (wy zz n t).length (fun i => (wy zz n t)[i]?))) args s ((rmL 1 1 40) : Room).cells ((rmL 1 1 40) : Room).slots (lA lo)) (F0 m 4 ls []) := by
    intro ls hl
    refine lv_aload_nN hx hb dX4_path_4 rfl (lv_at hl 0 rfl) ?_
    refine lv_ifnullN hx hb dX4_path_5 (tgt := 46) (by decide) ?_
    refine lv_iload_n hx hb dX4_path_46 rfl (lv_at hl 1 rfl) ?_
    refine nQ S (hts _ (List.mem_of_getElem? (i := 4) rfl)) hX hK hH hlo hS (n := (wy zz n t).length) rfl (by omega) (Nat.le_of_ble_eq_true rfl) (by show 0 + (wy zz n t).length ≤ 40; omega) dX4_path_47 (fun q C3 U2 E1 H fr hx9 m_q su e_q ho hH hS => ?_)
    have hg := hg.new fr su ho
    have hE := hE.tr hx9
    have w_q : q ∉ (U, E).1 := fr
    have fr0 := fr
    refine lv_astore_n (lv' := [(3, .ref q), (2, .int (nI (wy zz n t).length)), (0, va_rf (rt t)), (1, .int (nI n))]) hx hb dX4_path_50 rfl hl (by decide) rfl (fun ls hl => ?_)
    refine lv_iconst (v := 0) hx hb dX4_path_51 (by decide) ?_
    refine lv_istore (lv' := [(4, .int 0), (3, .ref q), (2, .int (nI (wy zz n t).length)), (0, va_rf (rt t)), (1, .int (nI n))]) hx hb dX4_path_52 hl (by decide) rfl (fun ls hl => ?_)
    refine lq_aload_n S dX4_path_54 rfl (lv_at hl 3 rfl) ?_
    refine lq_astore (i := 5) (lv' := [(4, .int 0), (3, .ref q), (2, .int (nI (wy zz n t).length)), (0, va_rf (rt t)), (1, .int (nI n))]) S dX4_path_55 hl (by decide) rfl (fun ls hl => ?_)
    have ht1 : sT (U2, E1) zz ee t := sT_gr ht hg (by simp)
    have inner : ∀ (t' : Tr) (pre : List Nat) (j : Nat) (E' : Nat → va_E), j = pre.length → sT (U2, E') zz ee t' → (∀ a ∈ tids t', zz a < 1000) → (j < (wy zz n t).length → wy zz n t = pre ++ wy zz n t') → j ≤ (wy zz n t).length → (j = (wy zz n t).length → pre = wy zz n t) → Gr (U, E) (U2, E') [] → E' q = qE Γ (wy zz n t).length (fun i => pre[i]?) → ∀ H locs, Hp D lo Γ (C3, (U2, E'), V) H → va_S (lA lo) s.heap H locs → ∀ ls, lv_has ls 6 [(5, va_rf (rt t')), (4, .int (nI j)), (3, .ref q), (2, .int (nI (wy zz n t).length)), (1, .int (nI n))] → W p l e (rmL 1 1 40) s m args below meth c H locs (0 + 1) (0 + (wy zz n t).length) (MQ below (Qz D lo Γ (fun v Z' => ∃ C' U' E' q, v = some (.ref q) ∧ Z' = (C', (U', E'), V) ∧ Ext C C' ∧ Gr (U, E) (U', E') [] ∧ q ∉ U ∧ q ∈ U' ∧ E' q = qE Γ (wy zz n t).length (fun i => (wy zz n t)[i]?))) args s ((rmL 1 1 40) : Room).cells ((rmL 1 1 40) : Room).slots (lA lo)) (F0 m 57 ls []) := by
      intro t'
      induction t' with
      | leaf u =>
        intro pre j E' hj _ _ hw hjl hp hg e_q H locs hH hS ls hl
        have hje : j = (wy zz n t).length := Nat.le_antisymm hjl (Nat.not_lt.mp (fun h => by
          have := hw h
          rw [this] at h
          simp [wy] at h
          omega))
        subst hje
        refine lv_iload hx hb dX4_path_57 (lv_at hl 1 rfl) ?_
        refine lv_iload_n hx hb dX4_path_59 rfl (lv_at hl 3 rfl) ?_
        refine lv_icmp_ge (tgt := 99) hx hb dX4_path_60 (by decide) (fun _ => ?_) (fun h1 => absurd (Int32.le_refl _) h1)
        refine lv_aload_n hx hb dX4_path_99 rfl (lv_at hl 2 rfl) ?_
        refine W.widen (k := ((rmL 1 1 40) : Room).cells) (n := ((rmL 1 1 40) : Room).slots) (Nat.le_refl _) (by show 0 + (wy zz n t).length ≤ 40; omega) ?_
        exact eQ S hr hlocks hH hS ⟨C3, U2, E', q, rfl, rfl, hE, hg, fr0, m_q, by rw [e_q, hp rfl]⟩ dX4_path_100
      | branch k tl tr ihl ihr =>
        intro pre j E' hj ht' hz' hw hjl hp hg e_q H locs hH hS ls hl
        by_cases hjn : j < (wy zz n t).length
        · skip
          have hw := hw hjn
          obtain ⟨⟨m_k, e_k⟩, htl, htr⟩ := ht'
          have zk := hz' k (by simp [tids])
          have hkz : (nI n < nI (zz k)) = (n < zz k) := propext (nI_ltI (by omega) (by omega))
          refine lv_iload hx hb dX4_path_57 (lv_at hl 1 rfl) ?_
          refine lv_iload_n hx hb dX4_path_59 rfl (lv_at hl 3 rfl) ?_
          refine lv_icmp_ge (tgt := 99) hx hb dX4_path_60 (by decide) (fun h1 => absurd h1 (nI_ge hjn (by omega))) (fun _ => ?_)
          refine lv_aload_n hx hb dX4_path_63 rfl (lv_at hl 2 rfl) ?_
          refine lv_iload hx hb dX4_path_64 (lv_at hl 1 rfl) ?_
          refine lv_aload hx hb dX4_path_66 (lv_at hl 0 rfl) ?_
          have qn : ∀ b ∈ tids (.branch k tl tr), b ≠ q := fun b hb9 => by
            obtain ⟨-, x9, y9, h9⟩ := sT_at _ (show sT (U2, E') zz ee (.branch k tl tr) from ⟨⟨m_k, e_k⟩, htl, htr⟩) b hb9
            exact neBQ h9 e_q
          have n9_k : k ≠ q := (neBQ e_k e_q)
          refine pQ S hK hH hS m_q e_q (j := j) rfl hjn (by omega) (some k) (fun b h => by cases h; exact ⟨m_k, _, e_k⟩) rfl dX4_path_68 (fun E101 H locs e_q ho hH hS => ?_)
          have e_k : E101 k = .inr (3, [.int (nI (zz k)), .int (nI (ee k)), va_rf (rt tl), va_rf (rt tr)]) := (ho k n9_k).trans e_k
          have hg := hg.put' w_q ho
          have e_q : E101 q = qE Γ (wy zz n t).length (fun i => (pre ++ [k])[i]?) := by
            rw [e_q]
            refine congrArg (qE Γ _) (funext fun i => ?_)
            by_cases hij : i = j
            · subst hij; rw [va_up_self, hj]; simp
            · rw [va_up_ne _ _ hij]
              rcases Nat.lt_or_gt_of_ne hij with h | h
              · rw [List.getElem?_append_left (by omega)]
              · rw [List.getElem?_eq_none (by omega), List.getElem?_eq_none (by simp; omega)]
          have side : ∀ u : Tr, (∀ b ∈ tids u, b ∈ tids (.branch k tl tr)) → sT (U2, E') zz ee u → sT (U2, E101) zz ee u := fun u hu h => sT_cg u h (fun b hb9 hM => ⟨hM, ho b (qn b (hu b hb9)), rfl, rfl⟩)
          have htl := side tl (fun b h => by simp [tids, h]) htl
          have htr := side tr (fun b h => by simp [tids, h]) htr
          have hjl2 : j + 1 ≤ (wy zz n t).length := hjn
          rw [wy] at hw
          have stop9 : n = zz k → j + 1 = (wy zz n t).length ∧ pre ++ [k] = wy zz n t := fun h9 => by
            rw [if_pos h9] at hw
            rw [hw]
            exact ⟨by simp [hj], rfl⟩
          have full : j + 1 = (wy zz n t).length → pre ++ [k] = wy zz n t := fun h9 => by
            have h8 := congrArg List.length hw
            rw [List.length_append, List.length_cons] at h8
            rw [hw]
            congr 2
            exact (List.length_eq_zero_iff.mp (by omega)).symm
          refine lv_iinc (v := nI (j + 1)) (lv' := [(4, .int (nI (j + 1))), (5, .ref k), (3, .ref q), (2, .int (nI (wy zz n t).length)), (1, .int (nI n))]) hx hb dX4_path_69 hl (k := 1) rfl (nI_1 j) (by decide) rfl (fun ls hl => ?_)
          refine lv_iload_n hx hb dX4_path_72 rfl (lv_at hl 4 rfl) ?_
          refine lv_aload hx hb dX4_path_73 (lv_at hl 1 rfl) ?_
          refine gB S hi3 hK hH m_k e_k 0 (by decide) f24 (v := .int (nI (zz k))) rfl dX4_path_75 ?_
          refine lv_icmp_ge (tgt := 89) hx hb dX4_path_78 (by decide) (fun h2 => ?_) (fun h2 => ?_)
          · skip
            have h2 : ¬ n < zz k := fun q9 => absurd h2 (fun q8 => by have := (nI_leI (by omega) (by omega)).mp q8; omega)
            refine lv_aload hx hb dX4_path_89 (lv_at hl 1 rfl) ?_
            refine gB S hi3 hK hH m_k e_k 3 (by decide) f37 (v := va_rf (rt tr)) rfl dX4_path_91 ?_
            refine lq_astore (i := 5) (lv' := [(4, .int (nI (j + 1))), (3, .ref q), (2, .int (nI (wy zz n t).length)), (1, .int (nI n))]) S dX4_path_94 hl (by decide) rfl (fun ls hl => ?_)
            refine lv_goto (tgt := 57) hx hb dX4_path_96 (by decide) ?_
            exact ihr (pre ++ [k]) (j + 1) E101 (by simp [hj]) htr (fun a ha => hz' a (by simp [tids, ha])) (fun h9 => by rw [hw, if_neg (fun e9 => by have := (stop9 e9).1; omega), if_neg h2]; simp) hjl2 full hg e_q H locs hH hS ls (lv_sub hl [0, 1, 2, 3, 4] rfl)
          · skip
            have h2 : n < zz k := Nat.lt_of_not_le (fun q9 => h2 (nI_le q9 (by omega)))
            refine lv_aload hx hb dX4_path_81 (lv_at hl 1 rfl) ?_
            refine gB S hi3 hK hH m_k e_k 2 (by decide) f33 (v := va_rf (rt tl)) rfl dX4_path_83 ?_
            refine lv_goto (tgt := 94) hx hb dX4_path_86 (by decide) ?_
            refine lq_astore (i := 5) (lv' := [(4, .int (nI (j + 1))), (3, .ref q), (2, .int (nI (wy zz n t).length)), (1, .int (nI n))]) S dX4_path_94 hl (by decide) rfl (fun ls hl => ?_)
            refine lv_goto (tgt := 57) hx hb dX4_path_96 (by decide) ?_
            exact ihl (pre ++ [k]) (j + 1) E101 (by simp [hj]) htl (fun a ha => hz' a (by simp [tids, ha])) (fun h9 => by rw [hw, if_neg (fun e9 => by have := (stop9 e9).1; omega), if_pos h2]; simp) hjl2 full hg e_q H locs hH hS ls (lv_sub hl [0, 1, 2, 3, 4] rfl)
        · skip
          have hje : j = (wy zz n t).length := by omega
          subst hje
          refine lv_iload hx hb dX4_path_57 (lv_at hl 1 rfl) ?_
          refine lv_iload_n hx hb dX4_path_59 rfl (lv_at hl 3 rfl) ?_
          refine lv_icmp_ge (tgt := 99) hx hb dX4_path_60 (by decide) (fun _ => ?_) (fun h1 => absurd (Int32.le_refl _) h1)
          refine lv_aload_n hx hb dX4_path_99 rfl (lv_at hl 2 rfl) ?_
          refine W.widen (k := ((rmL 1 1 40) : Room).cells) (n := ((rmL 1 1 40) : Room).slots) (Nat.le_refl _) (by show 0 + (wy zz n t).length ≤ 40; omega) ?_
          exact eQ S hr hlocks hH hS ⟨C3, U2, E', q, rfl, rfl, hE, hg, fr0, m_q, by rw [e_q, hp rfl]⟩ dX4_path_100
    exact inner t [] 0 E1 rfl ht1 hz (fun _ => rfl) (Nat.zero_le _) (fun h9 => (List.length_eq_zero_iff.mp h9.symm).symm) hg e_q H _ hH hS ls (lv_sub hl [0, 1, 2, 3, 5] rfl)
  have loop : ∀ (t' : Tr) (i : Nat), sT (U, E) zz ee t' → (∀ a ∈ tids t', zz a < 1000) → i + (wy zz n t').length = (wy zz n t).length → ∀ ls, lv_has ls 6 [(3, va_rf (rt t')), (2, .int (nI i)), (0, va_rf (rt t)), (1, .int (nI n))] → W p l e (rmL 1 1 40) s m args below meth c s.heap [] 0 0 (MQ below (Qz D lo Γ (fun v Z' => ∃ C' U' E' q, v = some (.ref q) ∧ Z' = (C', (U', E'), V) ∧ Ext C C' ∧ Gr (U, E) (U', E') [] ∧ q ∉ U ∧ q ∈ U' ∧ E' q = qE Γ (wy zz n t).length (fun i => (wy zz n t)[i]?))) args s ((rmL 1 1 40) : Room).cells ((rmL 1 1 40) : Room).slots (lA lo)) (F0 m 4 ls []) := by
    intro t'
    induction t' with
    | leaf u =>
      intro i _ _ hi ls hl
      have hi : i = (wy zz n t).length := by simpa [wy] using hi
      subst hi
      exact endp ls hl
    | branch k tl tr ihl ihr =>
      intro i ht' hz' hi ls hl
      obtain ⟨⟨m_k, e_k⟩, htl, htr⟩ := ht'
      have zk := hz' k (by simp [tids])
      rw [wy, List.length_cons] at hi
      refine lv_aload_n hx hb dX4_path_4 rfl (lv_at hl 0 rfl) ?_
      refine lv_ifnull hx hb dX4_path_5 ?_
      refine lv_iinc (v := nI (i + 1)) (lv' := [(2, .int (nI (i + 1))), (3, .ref k), (0, va_rf (rt t)), (1, .int (nI n))]) hx hb dX4_path_8 hl (k := 1) rfl (nI_1 i) (by decide) rfl (fun ls hl => ?_)
      refine lv_aload_n hx hb dX4_path_11 rfl (lv_at hl 1 rfl) ?_
      refine gB S hi3 hK hH m_k e_k 0 (by decide) f24 (v := .int (nI (zz k))) rfl dX4_path_12 ?_
      refine lv_iload_n hx hb dX4_path_15 rfl (lv_at hl 3 rfl) ?_
      refine lv_icmp_ne (tgt := 23) hx hb dX4_path_16 (by decide) (fun h1 => ?_) (fun h1 => ?_)
      · skip
        have h1 : ¬ n = zz k := fun q9 => h1 (by rw [q9])
        rw [if_neg h1] at hi
        refine lv_iload_n hx hb dX4_path_23 rfl (lv_at hl 3 rfl) ?_
        refine lv_aload_n hx hb dX4_path_24 rfl (lv_at hl 1 rfl) ?_
        refine gB S hi3 hK hH m_k e_k 0 (by decide) f24 (v := .int (nI (zz k))) rfl dX4_path_25 ?_
        refine lv_icmp_ge (tgt := 38) hx hb dX4_path_28 (by decide) (fun h2 => ?_) (fun h2 => ?_)
        · skip
          have h2 : ¬ n < zz k := fun q9 => absurd h2 (fun q8 => by have := (nI_leI (by omega) (by omega)).mp q8; omega)
          rw [if_neg h2] at hi
          refine lv_aload_n hx hb dX4_path_38 rfl (lv_at hl 1 rfl) ?_
          refine gB S hi3 hK hH m_k e_k 3 (by decide) f37 (v := va_rf (rt tr)) rfl dX4_path_39 ?_
          refine lq_astore_n (i := 3) (lv' := [(2, .int (nI (i + 1))), (0, va_rf (rt t)), (1, .int (nI n))]) S dX4_path_42 rfl hl (by decide) rfl (fun ls hl => ?_)
          refine lv_goto (tgt := 4) hx hb dX4_path_43 (by decide) ?_
          exact ihr (i + 1) htr (fun a ha => hz' a (by simp [tids, ha])) (by omega) ls (lv_sub hl [0, 1, 2, 3] rfl)
        · skip
          have h2 : n < zz k := Nat.lt_of_not_le (fun q9 => h2 (nI_le q9 (by omega)))
          rw [if_pos h2] at hi
          refine lv_aload_n hx hb dX4_path_31 rfl (lv_at hl 1 rfl) ?_
          refine gB S hi3 hK hH m_k e_k 2 (by decide) f33 (v := va_rf (rt tl)) rfl dX4_path_32 ?_
          refine lv_goto (tgt := 42) hx hb dX4_path_35 (by decide) ?_
          refine lq_astore_n (i := 3) (lv' := [(2, .int (nI (i + 1))), (0, va_rf (rt t)), (1, .int (nI n))]) S dX4_path_42 rfl hl (by decide) rfl (fun ls hl => ?_)
          refine lv_goto (tgt := 4) hx hb dX4_path_43 (by decide) ?_
          exact ihl (i + 1) htl (fun a ha => hz' a (by simp [tids, ha])) (by omega) ls (lv_sub hl [0, 1, 2, 3] rfl)
      · skip
        have h1 : n = zz k := ((nI_eq (by omega) (by omega)).mp h1).symm
        rw [if_pos h1] at hi
        refine lv_null hx hb dX4_path_19 ?_
        refine lv_goto (tgt := 42) hx hb dX4_path_20 (by decide) ?_
        refine lv_astore_nN (lv' := [(3, .null), (2, .int (nI (i + 1))), (0, va_rf (rt t)), (1, .int (nI n))]) hx hb dX4_path_42 rfl hl (by decide) rfl (fun ls hl => ?_)
        refine lv_goto (tgt := 4) hx hb dX4_path_43 (by decide) ?_
        have hi : i + 1 = (wy zz n t).length := by simpa using hi
        exact endp ls (by rw [← hi]; exact lv_sub hl [0, 1, 2, 3] rfl)
  exact loop t 0 ht hz (by omega) ls (lv_sub hl [0, 1, 2, 3] rfl)
end MSim2
