/-! METHODS of SplayOrchard$Tree, the second part -/
def hngT (P : PF) (t0 a : Nat) (C : Cx) : PF := match C with
  | [] => stp P t0 (some a)
  | (s, p, _) :: _ => hng P (some a) (some p) (bt s)
def atL : List Nat → Int32 → Nat → Option Nat
  | [], _, _ => none
  | b :: l, x, i => if nI i = x then some b else atL l x (i + 1)
def fvs (bi : Nat → Nat) : Option Nat → List Nat → Option Nat
  | acc, [] => acc
  | none, b :: l => fvs bi (some b) l
  | some g, b :: l => fvs bi (if nI (bi b) ≤ nI (bi g) then some g else some b) l
theorem inc_side {sz : Nat → Nat} {z : Int} : ∀ (T : Tr) (C : Cx), (∀ f, C.head? = some f → f.1 = !decide (z < (sz f.2.1 : Int))) → ∀ f, (inc sz z T C).head? = some f → f.1 = !decide (z < (sz f.2.1 : Int)) := by
  intro T
  induction T with
  | leaf u => intro C h f hf; exact h f hf
  | branch k l r ihl ihr =>
    intro C h f hf
    unfold inc at hf
    split at hf
    · rename_i hlt
      exact ihl _ (fun g hg => by cases hg; simp [hlt]) f hf
    · rename_i hlt
      exact ihr _ (fun g hg => by cases hg; simp [hlt]) f hf
theorem iol_of {P : PF} {k p : Nat} {s : Bool} {u : Tr} {C : Cx} (h : repC P (some k) ((s, p, u) :: C)) (hp : P 2 k = some p) (hk : k ∉ tids u) : iol P k = !s := by
  obtain ⟨h1, h2, -⟩ := h
  unfold iol
  rw [hp]
  cases s
  · have h1 : P 0 p = some k := h1
    simp [h1]
  · have h2 : P 0 p = rt u := h2
    simp only [h2]
    simp only [Bool.not_true, decide_eq_false_iff_not]
    exact fun e => hk (rt_mem e)
theorem trn_apart3 {a : Nat} {l r : Tr} {s1 s2 : Bool} {p1 p2 : Nat} {u1 u2 : Tr} {C : Cx} (hn : (tids (plug (.branch a l r) ((s1, p1, u1) :: (s2, p2, u2) :: C))).Nodup) : p1 ∉ tids u2 := by
  obtain ⟨x, y, e1, -⟩ := nd_zz s1 p1 p2 (.branch a l r) u1 u2
  have hn1 : (tids (plug (.branch p1 x y) ((s2, p2, u2) :: C))).Nodup := by rw [← e1]; exact hn
  exact fun q => ((trn_apart hn1).2.2.1 p1 q).1 rfl
theorem nI_m2 (n : Nat) : nI (n + 2) + Int32.ofInt (-2) = nI n := by
  have h1 : nI (n + 2) = nI n + 2 := (nI_add n 2).symm
  rw [h1, Int32.add_assoc]
  have h2 : (2 : Int32) + Int32.ofInt (-2) = 0 := by decide
  rw [h2, Int32.add_zero]
section MTree2
variable {l : Launch} {D : va_G} {lo : Nat} {Γ : GT} {L : List Nat} {K : Nat → Nat} {sz : Nat → Nat} {si : Nat → Option Nat} {P : PF} {bi : Nat → Nat} {tu : Nat} {M : MW} {V : Int64 × UInt64}
set_option maxRecDepth 100000 in
set_option maxHeartbeats 4000000 in
theorem c_X1_hang {t0 a : Nat} {T : Tr} (h : TR L K sz P t0 T) (ok_a : okA L K a) (ha9 : sz a < 1000) (hf : fnd sz (sz a : Int) T = none) : Md l yX1_hang wsX1_hang (rmL 3 0 0) D lo Γ [.ref t0, .ref a] ((L, K, sz, si, P, bi, tu), M, V) none ((L, K, sz, si, (hngT P t0 a (inc sz (sz a : Int) T [])), bi, tu), M, V) := by
  refine Mz_of (cc := cX1_hang) (maxL := 3) (ret := none) (by decide) rfl (Nat.le_of_ble_eq_true rfl) ?_
  intro p e s m args below meth c ls S hr hlocks hK hH hS hl
  have hx := S.1
  have hb := S.2.1
  have hts := S.2.2.2.2
  have f32 : (Cond.fieldLink RX1 32 (TX0 0).1 (TX0 0).2.1 (TX0 0).2.2.1).before args s = true := hts _ (List.mem_of_getElem? (i := 1) rfl)
  have hi0 : ∀ w ∈ wsX00, w ∈ wsX1_hang := by decide +kernel
  have hl : lv_has ls 3 [(0, .ref t0), (1, .ref a)] := hl
  have hT := h
  obtain ⟨t_in, t_k, t_top, t_rep, t_nd, t_ok⟩ := h
  have ok_t0 : t0 ∈ L ∧ K t0 = 1 := ⟨t_in, t_k⟩
  have hz9 : (nI (sz a)).toInt = (sz a : Int) := nI_toInt (by omega)
  refine lv_aload_n hx hb dX1_hang_0 rfl (lv_at hl 0 rfl) ?_
  refine lv_aload_n hx hb dX1_hang_1 rfl (lv_at hl 1 rfl) ?_
  refine gA S hi0 hK hH ok_a 0 (by decide) f32 (v := .int (nI (sz a))) rfl dX1_hang_2 ?_
  refine cV S (c_X1_nearest (l := l) (D := D) (lo := lo) (Γ := Γ) (sz := sz) (si := si) (P := P) (bi := bi) (tu := tu) (M := M) (V := V) (x := nI (sz a)) hT) (cwV 1 hts gX1_hang_X1_nearest rfl rfl rfl (by decide +kernel) ⟨Nat.le_of_ble_eq_true rfl, Nat.le_of_ble_eq_true rfl⟩) hK hH (Hp_recv hK hH ok_t0.1 ok_t0.2 rfl) hS rfl hl.1 rfl (Nat.le_of_ble_eq_true rfl) dX1_hang_5 ⟨Nat.le_of_ble_eq_true rfl, Nat.le_of_ble_eq_true rfl⟩ (fun v Z1 H locs hpost hH hS => ?_)
  obtain ⟨rfl, rfl⟩ := hpost
  have hn9 : nrs sz (nI (sz a)).toInt T [] = parC (inc sz (sz a : Int) T []) := by rw [hz9, nrs, hf]
  rw [hn9]
  have hside := inc_side (sz := sz) (z := (sz a : Int)) T [] (fun f hf => by cases hf)
  rcases hi : inc sz (sz a : Int) T [] with _ | ⟨⟨s9, p9, u9⟩, C9⟩
  · skip
    refine lv_astore_nN (lv' := [(2, .null), (0, .ref t0), (1, .ref a)]) hx hb dX1_hang_8 rfl hl (by decide) rfl (fun ls hl => ?_)
    refine lv_aload_nN hx hb dX1_hang_9 rfl (lv_at hl 0 rfl) ?_
    refine lv_ifnonnullN hx hb dX1_hang_10 ?_
    refine lv_aload_n hx hb dX1_hang_13 rfl (lv_at hl 1 rfl) ?_
    refine lv_aload_n hx hb dX1_hang_14 rfl (lv_at hl 2 rfl) ?_
    refine cV S (c_X1_setTop (l := l) (D := D) (lo := lo) (Γ := Γ) (sz := sz) (si := si) (P := P) (bi := bi) (tu := tu) (M := M) (V := V) (r := some a) ok_t0 (fun b h => by cases h; exact ok_a)) (cwV 1 hts gX1_hang_X1_setTop rfl rfl rfl (by decide +kernel) ⟨Nat.le_of_ble_eq_true rfl, Nat.le_of_ble_eq_true rfl⟩) hK hH (Hp_recv hK hH ok_t0.1 ok_t0.2 rfl) hS rfl hl.1 rfl (Nat.le_of_ble_eq_true rfl) dX1_hang_15 ⟨Nat.le_of_ble_eq_true rfl, Nat.le_of_ble_eq_true rfl⟩ (fun v Z1 H locs hpost hH hS => ?_)
    obtain ⟨rfl, rfl⟩ := hpost
    refine lv_goto (tgt := 45) hx hb dX1_hang_18 (by decide) ?_
    exact eV S hr hlocks hH hS ⟨rfl, by rw [hngT]⟩ dX1_hang_45
  · skip
    have hpT : p9 ∈ tids T := by rcases inc_par T [] p9 (by rw [hi]; rfl) with h | h; exact h; cases h
    have ok_p9 := (t_ok p9 hpT).1
    have hz8 : (nI (sz p9)).toInt = (sz p9 : Int) := nI_toInt (by have := (t_ok p9 hpT).2; omega)
    refine lv_astore_n (lv' := [(2, .ref p9), (0, .ref t0), (1, .ref a)]) hx hb dX1_hang_8 rfl hl (by decide) rfl (fun ls hl => ?_)
    refine lv_aload_n hx hb dX1_hang_9 rfl (lv_at hl 0 rfl) ?_
    refine lv_ifnonnull hx hb dX1_hang_10 (tgt := 21) (by decide) ?_
    refine lv_aload_n hx hb dX1_hang_21 rfl (lv_at hl 2 rfl) ?_
    refine gA S hi0 hK hH ok_a 0 (by decide) f32 (v := .int (nI (sz a))) rfl dX1_hang_22 ?_
    refine lv_aload_n hx hb dX1_hang_25 rfl (lv_at hl 0 rfl) ?_
    refine gA S hi0 hK hH ok_p9 0 (by decide) f32 (v := .int (nI (sz p9))) rfl dX1_hang_26 ?_
    refine lv_icmp_ge (tgt := 40) hx hb dX1_hang_29 (by decide) (fun h1 => ?_) (fun h1 => ?_)
    · skip
      have hs9 : s9 = true := by
        have h2 : s9 = !decide ((sz a : Int) < (sz p9 : Int)) := hside (s9, p9, u9) (by rw [hi]; rfl)
        rw [h2]
        have h3 := Int32.le_iff_toInt_le (x := nI (sz p9)) (y := nI (sz a))
        rw [hz9, hz8] at h3
        have h4 := h3.mp h1
        simp; omega
      subst hs9
      refine lv_aload_n hx hb dX1_hang_40 rfl (lv_at hl 0 rfl) ?_
      refine lv_aload_n hx hb dX1_hang_41 rfl (lv_at hl 2 rfl) ?_
      refine cV S (c_X0_hangRight (l := l) (D := D) (lo := lo) (Γ := Γ) (sz := sz) (si := si) (P := P) (bi := bi) (tu := tu) (M := M) (V := V) (r := some a) ok_p9 (fun b h => by cases h; exact ok_a)) (cwV 1 hts gX1_hang_X0_hangRight rfl rfl rfl (by decide +kernel) ⟨Nat.le_of_ble_eq_true rfl, Nat.le_of_ble_eq_true rfl⟩) hK hH (Hp_recv hK hH ok_p9.1 ok_p9.2 rfl) hS rfl hl.1 rfl (Nat.le_of_ble_eq_true rfl) dX1_hang_42 ⟨Nat.le_of_ble_eq_true rfl, Nat.le_of_ble_eq_true rfl⟩ (fun v Z1 H locs hpost hH hS => ?_)
      obtain ⟨rfl, rfl⟩ := hpost
      exact eV S hr hlocks hH hS ⟨rfl, by rw [hngT]; rfl⟩ dX1_hang_45
    · skip
      have hs9 : s9 = false := by
        have h2 : s9 = !decide ((sz a : Int) < (sz p9 : Int)) := hside (s9, p9, u9) (by rw [hi]; rfl)
        rw [h2]
        have h3 := Int32.le_iff_toInt_le (x := nI (sz p9)) (y := nI (sz a))
        rw [hz9, hz8] at h3
        have h4 := mt h3.mpr h1
        simp; omega
      subst hs9
      refine lv_aload_n hx hb dX1_hang_32 rfl (lv_at hl 0 rfl) ?_
      refine lv_aload_n hx hb dX1_hang_33 rfl (lv_at hl 2 rfl) ?_
      refine cV S (c_X0_hangLeft (l := l) (D := D) (lo := lo) (Γ := Γ) (sz := sz) (si := si) (P := P) (bi := bi) (tu := tu) (M := M) (V := V) (r := some a) ok_p9 (fun b h => by cases h; exact ok_a)) (cwV 1 hts gX1_hang_X0_hangLeft rfl rfl rfl (by decide +kernel) ⟨Nat.le_of_ble_eq_true rfl, Nat.le_of_ble_eq_true rfl⟩) hK hH (Hp_recv hK hH ok_p9.1 ok_p9.2 rfl) hS rfl hl.1 rfl (Nat.le_of_ble_eq_true rfl) dX1_hang_34 ⟨Nat.le_of_ble_eq_true rfl, Nat.le_of_ble_eq_true rfl⟩ (fun v Z1 H locs hpost hH hS => ?_)
      obtain ⟨rfl, rfl⟩ := hpost
      refine lv_goto (tgt := 45) hx hb dX1_hang_37 (by decide) ?_
      exact eV S hr hlocks hH hS ⟨rfl, by rw [hngT]; rfl⟩ dX1_hang_45

set_option maxRecDepth 100000 in
set_option maxHeartbeats 4000000 in
theorem c_X1_bringUp {t0 a : Nat} {lt r9 : Tr} {C : Cx} (ok_t0 : t0 ∈ L ∧ K t0 = 1) (hz : Zp P (.branch a lt r9) C) (hn : (tids (plug (.branch a lt r9) C)).Nodup) (hok : ∀ b ∈ tids (plug (.branch a lt r9) C), okA L K b) (h40 : C.length < 1000) : Md l yX1_bringUp wsX1_bringUp (rmL 3 0 0) D lo Γ [.ref t0, .ref a] ((L, K, sz, si, P, bi, tu), M, V) (some (.int (nI C.length))) ((L, K, sz, si, (sP (rai a C P) 3 t0 (some a)), bi, tu), M, V) := by
  refine Mz_of (cc := cX1_bringUp) (maxL := 6) (ret := (some .int)) (by decide) rfl (Nat.le_of_ble_eq_true rfl) ?_
  intro p e s m args below meth c ls S hr hlocks hK hH hS hl
  have hx := S.1
  have hb := S.2.1
  have hts := S.2.2.2.2
  have f13 : (Cond.fieldLink RX1 13 (TX0 2).1 (TX0 2).2.1 (TX0 2).2.2.1).before args s = true := hts _ (List.mem_of_getElem? (i := 1) rfl)
  have f7 : (Cond.fieldLink RX1 7 (TX1 0).1 (TX1 0).2.1 (TX1 0).2.2.1).before args s = true := hts _ (List.mem_of_getElem? (i := 2) rfl)
  have hi0 : ∀ w ∈ wsX00, w ∈ wsX1_bringUp := by decide +kernel
  have hi1 : ∀ w ∈ wsX10, w ∈ wsX1_bringUp := by decide +kernel
  have hl : lv_has ls 6 [(0, .ref t0), (1, .ref a)] := hl
  have ok_a : okA L K a := hok a (by rw [tids_zip]; simp)
  refine lv_aload_n hx hb dX1_bringUp_0 rfl (lv_at hl 1 rfl) ?_
  refine cV S (c_X0_depth (l := l) (D := D) (lo := lo) (Γ := Γ) (sz := sz) (si := si) (P := P) (bi := bi) (tu := tu) (M := M) (V := V) (d := C.length) ok_a (by rw [show P 2 a = parC C from hz.1.1]; exact UC_of C _ hz.2)) (cwV 0 hts gX1_bringUp_X0_depth rfl rfl rfl (by decide +kernel) ⟨Nat.le_of_ble_eq_true rfl, Nat.le_of_ble_eq_true rfl⟩) hK hH (Hp_recv hK hH ok_a.1 ok_a.2 rfl) hS rfl hl.1 rfl (Nat.le_of_ble_eq_true rfl) dX1_bringUp_1 ⟨Nat.le_of_ble_eq_true rfl, Nat.le_of_ble_eq_true rfl⟩ (fun v Z1 H locs hpost hH hS => ?_)
  obtain ⟨rfl, rfl⟩ := hpost
  refine lv_istore_n (lv' := [(2, .int (nI C.length)), (0, .ref t0), (1, .ref a)]) hx hb dX1_bringUp_4 rfl hl (by decide) rfl (fun ls hl => ?_)
  refine lv_iload_n hx hb dX1_bringUp_5 rfl (lv_at hl 0 rfl) ?_
  refine lv_istore_n (lv' := [(3, .int (nI C.length)), (2, .int (nI C.length)), (0, .ref t0), (1, .ref a)]) hx hb dX1_bringUp_6 rfl hl (by decide) rfl (fun ls hl => ?_)
  have loop : ∀ (n : Nat) (C' : Cx) (P' : PF) (l' r' : Tr) (x3 : Int32), C'.length ≤ n → Zp P' (.branch a l' r') C' → tids (plug (.branch a l' r') C') = tids (plug (.branch a lt r9) C) → rai a C' P' = rai a C P → C'.length < 1000 → (C' = [] → x3 = 0 ∨ x3 = -1) → (C' ≠ [] → x3 = nI C'.length) → ∀ H locs, Hp D lo Γ ((L, K, sz, si, P', bi, tu), M, V) H → va_S (lA lo) s.heap H locs → ∀ ls, lv_has ls 6 [(3, .int x3), (2, .int (nI C.length)), (0, .ref t0), (1, .ref a)] → W p l e (rmL 3 0 0) s m args below meth c H locs 0 0 (MQ below (Qz D lo Γ (fun v Z' => v = (some (.int (nI C.length))) ∧ Z' = ((L, K, sz, si, (sP (rai a C P) 3 t0 (some a)), bi, tu), M, V))) args s ((rmL 3 0 0) : Room).cells ((rmL 3 0 0) : Room).slots (lA lo)) (F0 m 7 ls []) := by
    have hend : ∀ (P' : PF) (x3 : Int32), (x3 = 0 ∨ x3 = -1) → P' = rai a C P → ∀ H locs, Hp D lo Γ ((L, K, sz, si, P', bi, tu), M, V) H → va_S (lA lo) s.heap H locs → ∀ ls, lv_has ls 6 [(3, .int x3), (2, .int (nI C.length)), (0, .ref t0), (1, .ref a)] → W p l e (rmL 3 0 0) s m args below meth c H locs 0 0 (MQ below (Qz D lo Γ (fun v Z' => v = (some (.int (nI C.length))) ∧ Z' = ((L, K, sz, si, (sP (rai a C P) 3 t0 (some a)), bi, tu), M, V))) args s ((rmL 3 0 0) : Room).cells ((rmL 3 0 0) : Room).slots (lA lo)) (F0 m 7 ls []) := by
      intro P' x3 hx3 hP' H locs hH hS ls hl
      refine lv_iload_n hx hb dX1_bringUp_7 rfl (lv_at hl 0 rfl) ?_
      refine lv_if_le (tgt := 65) hx hb dX1_bringUp_8 (by decide) (fun h1 => ?_) (fun h1 => absurd (by rcases hx3 with rfl | rfl <;> decide) h1)
      refine lv_aload_n hx hb dX1_bringUp_65 rfl (lv_at hl 2 rfl) ?_
      refine lv_aload_n hx hb dX1_bringUp_66 rfl (lv_at hl 3 rfl) ?_
      refine pT S hi1 hK hH hS ok_t0.1 ok_t0.2 (some a) (fun b h => by cases h; exact ok_a) f7 rfl dX1_bringUp_67 (fun H locs hH hS => ?_)
      refine lv_iload_n hx hb dX1_bringUp_70 rfl (lv_at hl 1 rfl) ?_
      exact eI S hr hlocks hH hS ⟨rfl, by rw [hP']⟩ dX1_bringUp_71
    intro n
    induction n with
    | zero =>
      intro C' P' l' r' x3 h0 hz' hid hrai h1000 hx3 _ H locs hH hS ls hl
      have hC0 : C' = [] := List.length_eq_zero_iff.mp (by omega)
      subst hC0
      exact hend P' x3 (hx3 rfl) hrai H locs hH hS ls hl
    | succ n ih =>
      intro C' P' l' r' x3 h0 hz' hid hrai h1000 hx3 hx4 H locs hH hS ls hl
      have hnd : (tids (plug (.branch a l' r') C')).Nodup := by rw [hid]; exact hn
      match C', h0, hz', hid, hrai, h1000, hx3, hx4, hnd with
      | [], h0, hz', hid, hrai, h1000, hx3, hx4, hnd => exact hend P' x3 (hx3 rfl) hrai H locs hH hS ls hl
      | [(s1, p1, u1)], h0, hz', hid, hrai, h1000, hx3, hx4, hnd =>
        have e3 : x3 = nI 1 := hx4 (by simp)
        subst e3
        have hp : P' 2 a = some p1 := hz'.1.1
        have hpp : P' 2 p1 = none := hz'.2.2.2.2.1
        have ok_p1 := hH.2.2.2.1 a ok_a 2 (by decide) p1 hp
        refine lv_iload_n hx hb dX1_bringUp_7 rfl (lv_at hl 0 rfl) ?_
        refine lv_if_le (tgt := 65) hx hb dX1_bringUp_8 (by decide) (fun h1 => absurd h1 (by decide)) (fun h1 => ?_)
        refine lv_aload_n hx hb dX1_bringUp_11 rfl (lv_at hl 3 rfl) ?_
        refine gA S hi0 hK hH ok_a 2 (by decide) f13 (v := .ref p1) (by show some (va_rf (P' 2 a)) = _; rw [hp]; rfl) dX1_bringUp_12 ?_
        refine lv_astore (lv' := [(4, .ref p1), (3, .int (nI 1)), (2, .int (nI C.length)), (0, .ref t0), (1, .ref a)]) hx hb dX1_bringUp_15 hl (by decide) rfl (fun ls hl => ?_)
        refine lv_aload hx hb dX1_bringUp_17 (lv_at hl 0 rfl) ?_
        refine lv_ifnull hx hb dX1_bringUp_19 ?_
        refine lv_aload hx hb dX1_bringUp_22 (lv_at hl 0 rfl) ?_
        refine gA S hi0 hK hH ok_p1 2 (by decide) f13 (v := .null) (by show some (va_rf (P' 2 p1)) = _; rw [hpp]; rfl) dX1_bringUp_24 ?_
        refine lv_ifnullN hx hb dX1_bringUp_27 (tgt := 55) (by decide) ?_
        refine lv_aload_n hx hb dX1_bringUp_55 rfl (lv_at hl 4 rfl) ?_
        refine cV S (c_X0_turn (l := l) (D := D) (lo := lo) (Γ := Γ) (sz := sz) (si := si) (P := P') (bi := bi) (tu := tu) (M := M) (V := V) ok_a) (cwV 0 hts gX1_bringUp_X0_turn rfl rfl rfl (by decide +kernel) ⟨Nat.le_of_ble_eq_true rfl, Nat.le_of_ble_eq_true rfl⟩) hK hH (Hp_recv hK hH ok_a.1 ok_a.2 rfl) hS rfl hl.1 rfl (Nat.le_of_ble_eq_true rfl) dX1_bringUp_56 ⟨Nat.le_of_ble_eq_true rfl, Nat.le_of_ble_eq_true rfl⟩ (fun v Z1 H locs hpost hH hS => ?_)
        obtain ⟨rfl, rfl⟩ := hpost
        refine lv_iinc (v := -1) (lv' := [(3, .int (-1)), (4, .ref p1), (2, .int (nI C.length)), (0, .ref t0), (1, .ref a)]) hx hb dX1_bringUp_59 hl (k := 1) rfl (by decide) (by decide) rfl (fun ls hl => ?_)
        refine lv_goto (tgt := 7) hx hb dX1_bringUp_62 (by decide) ?_
        exact hend (trn P' a) (-1) (Or.inr rfl) hrai H locs hH hS ls (lv_sub hl [0, 2, 3, 4] rfl)
      | (s1, p1, u1) :: (s2, p2, u2) :: C2, h0, hz', hid, hrai, h1000, hx3, hx4, hnd =>
        have e3 : x3 = nI (C2.length + 2) := hx4 (by simp)
        subst e3
        have hp : P' 2 a = some p1 := hz'.1.1
        have hpp : P' 2 p1 = some p2 := hz'.2.2.2.2.1
        have ok_p1 := hH.2.2.2.1 a ok_a 2 (by decide) p1 hp
        have hau : a ∉ tids u1 := fun q => ((trn_apart hnd).2.2.1 a q).1 rfl
        have hpu : p1 ∉ tids u2 := (trn_apart3 hnd)
        have i1 : iol P' a = !s1 := iol_of hz'.2 hp hau
        have i2 : iol P' p1 = !s2 := iol_of hz'.2.2.2.2.2 hpp hpu
        obtain ⟨l2, r2, g1, g2, g3, g4, g5⟩ := rai_step hz' hnd
        have hlen9 : C2.length + 2 < 1000 := h1000
        refine lv_iload_n hx hb dX1_bringUp_7 rfl (lv_at hl 0 rfl) ?_
        refine lv_if_le (tgt := 65) hx hb dX1_bringUp_8 (by decide) (fun h1 => absurd h1 (nI_nle (by omega) (by omega))) (fun h1 => ?_)
        refine lv_aload_n hx hb dX1_bringUp_11 rfl (lv_at hl 3 rfl) ?_
        refine gA S hi0 hK hH ok_a 2 (by decide) f13 (v := .ref p1) (by show some (va_rf (P' 2 a)) = _; rw [hp]; rfl) dX1_bringUp_12 ?_
        refine lv_astore (lv' := [(4, .ref p1), (3, .int (nI (C2.length + 2))), (2, .int (nI C.length)), (0, .ref t0), (1, .ref a)]) hx hb dX1_bringUp_15 hl (by decide) rfl (fun ls hl => ?_)
        refine lv_aload hx hb dX1_bringUp_17 (lv_at hl 0 rfl) ?_
        refine lv_ifnull hx hb dX1_bringUp_19 ?_
        refine lv_aload hx hb dX1_bringUp_22 (lv_at hl 0 rfl) ?_
        refine gA S hi0 hK hH ok_p1 2 (by decide) f13 (v := .ref p2) (by show some (va_rf (P' 2 p1)) = _; rw [hpp]; rfl) dX1_bringUp_24 ?_
        refine lv_ifnull hx hb dX1_bringUp_27 ?_
        refine lv_aload_n hx hb dX1_bringUp_30 rfl (lv_at hl 4 rfl) ?_
        refine cV S (c_X0_isOnTheLeft (l := l) (D := D) (lo := lo) (Γ := Γ) (sz := sz) (si := si) (P := P') (bi := bi) (tu := tu) (M := M) (V := V) ok_a) (cwV 0 hts gX1_bringUp_X0_isOnTheLeft rfl rfl rfl (by decide +kernel) ⟨Nat.le_of_ble_eq_true rfl, Nat.le_of_ble_eq_true rfl⟩) hK hH (Hp_recv hK hH ok_a.1 ok_a.2 rfl) hS rfl hl.1 rfl (Nat.le_of_ble_eq_true rfl) dX1_bringUp_31 ⟨Nat.le_of_ble_eq_true rfl, Nat.le_of_ble_eq_true rfl⟩ (fun v Z1 H locs hpost hH hS => ?_)
        obtain ⟨rfl, rfl⟩ := hpost
        refine lv_aload hx hb dX1_bringUp_34 (lv_at hl 0 rfl) ?_
        refine cV S (c_X0_isOnTheLeft (l := l) (D := D) (lo := lo) (Γ := Γ) (sz := sz) (si := si) (P := P') (bi := bi) (tu := tu) (M := M) (V := V) ok_p1) (cwV 0 hts gX1_bringUp_X0_isOnTheLeft rfl rfl rfl (by decide +kernel) ⟨Nat.le_of_ble_eq_true rfl, Nat.le_of_ble_eq_true rfl⟩) hK hH (Hp_recv hK hH ok_p1.1 ok_p1.2 rfl) hS rfl hl.1 rfl (Nat.le_of_ble_eq_true rfl) dX1_bringUp_36 ⟨Nat.le_of_ble_eq_true rfl, Nat.le_of_ble_eq_true rfl⟩ (fun v Z1 H locs hpost hH hS => ?_)
        obtain ⟨rfl, rfl⟩ := hpost
        refine lv_icmp_ne (tgt := 47) hx hb dX1_bringUp_39 (by decide) (fun h1 => ?_) (fun h1 => ?_)
        · skip
          rw [i1, i2] at h1
          have hs12 : ¬ s1 = s2 := fun q => h1 (by rw [q])
          rw [if_neg hs12] at g2 g4 g5
          refine lv_aload_n hx hb dX1_bringUp_47 rfl (lv_at hl 4 rfl) ?_
          refine lv_astore (lv' := [(5, .ref a), (4, .ref p1), (3, .int (nI (C2.length + 2))), (2, .int (nI C.length)), (0, .ref t0), (1, .ref a)]) hx hb dX1_bringUp_48 hl (by decide) rfl (fun ls hl => ?_)
          refine lv_aload hx hb dX1_bringUp_50 (lv_at hl 0 rfl) ?_
          refine cV S (c_X0_turn (l := l) (D := D) (lo := lo) (Γ := Γ) (sz := sz) (si := si) (P := P') (bi := bi) (tu := tu) (M := M) (V := V) ok_a) (cwV 0 hts gX1_bringUp_X0_turn rfl rfl rfl (by decide +kernel) ⟨Nat.le_of_ble_eq_true rfl, Nat.le_of_ble_eq_true rfl⟩) hK hH (Hp_recv hK hH ok_a.1 ok_a.2 rfl) hS rfl hl.1 rfl (Nat.le_of_ble_eq_true rfl) dX1_bringUp_52 ⟨Nat.le_of_ble_eq_true rfl, Nat.le_of_ble_eq_true rfl⟩ (fun v Z1 H locs hpost hH hS => ?_)
          obtain ⟨rfl, rfl⟩ := hpost
          refine lv_aload_n hx hb dX1_bringUp_55 rfl (lv_at hl 5 rfl) ?_
          refine cV S (c_X0_turn (l := l) (D := D) (lo := lo) (Γ := Γ) (sz := sz) (si := si) (P := (trn P' a)) (bi := bi) (tu := tu) (M := M) (V := V) ok_a) (cwV 0 hts gX1_bringUp_X0_turn rfl rfl rfl (by decide +kernel) ⟨Nat.le_of_ble_eq_true rfl, Nat.le_of_ble_eq_true rfl⟩) hK hH (Hp_recv hK hH ok_a.1 ok_a.2 rfl) hS rfl hl.1 rfl (Nat.le_of_ble_eq_true rfl) dX1_bringUp_56 ⟨Nat.le_of_ble_eq_true rfl, Nat.le_of_ble_eq_true rfl⟩ (fun v Z1 H locs hpost hH hS => ?_)
          obtain ⟨rfl, rfl⟩ := hpost
          refine lv_iinc (v := nI C2.length) (lv' := [(3, .int (nI C2.length)), (5, .ref a), (4, .ref p1), (2, .int (nI C.length)), (0, .ref t0), (1, .ref a)]) hx hb dX1_bringUp_59 hl (k := 2) rfl (nI_m2 _) (by decide) rfl (fun ls hl => ?_)
          refine lv_goto (tgt := 7) hx hb dX1_bringUp_62 (by decide) ?_
          exact ih C2 _ l2 r2 (nI C2.length) (by simp only [List.length_cons] at h0; omega) g2 (by rw [g3, hid]) (by rw [← hrai]; show _ = rai a C2 _; rw [if_neg hs12]) (by omega) (fun e => by subst e; exact Or.inl rfl) (fun _ => rfl) H locs hH hS ls (lv_sub hl [0, 3, 4, 5] rfl)
        · skip
          rw [i1, i2] at h1
          have hs12 : s1 = s2 := by cases s1 <;> cases s2 <;> first | rfl | exact absurd h1 (by decide)
          rw [if_pos hs12] at g2 g4 g5
          refine lv_aload hx hb dX1_bringUp_42 (lv_at hl 0 rfl) ?_
          refine lv_goto (tgt := 48) hx hb dX1_bringUp_44 (by decide) ?_
          refine lv_astore (lv' := [(5, .ref p1), (4, .ref p1), (3, .int (nI (C2.length + 2))), (2, .int (nI C.length)), (0, .ref t0), (1, .ref a)]) hx hb dX1_bringUp_48 hl (by decide) rfl (fun ls hl => ?_)
          refine lv_aload hx hb dX1_bringUp_50 (lv_at hl 0 rfl) ?_
          refine cV S (c_X0_turn (l := l) (D := D) (lo := lo) (Γ := Γ) (sz := sz) (si := si) (P := P') (bi := bi) (tu := tu) (M := M) (V := V) ok_p1) (cwV 0 hts gX1_bringUp_X0_turn rfl rfl rfl (by decide +kernel) ⟨Nat.le_of_ble_eq_true rfl, Nat.le_of_ble_eq_true rfl⟩) hK hH (Hp_recv hK hH ok_p1.1 ok_p1.2 rfl) hS rfl hl.1 rfl (Nat.le_of_ble_eq_true rfl) dX1_bringUp_52 ⟨Nat.le_of_ble_eq_true rfl, Nat.le_of_ble_eq_true rfl⟩ (fun v Z1 H locs hpost hH hS => ?_)
          obtain ⟨rfl, rfl⟩ := hpost
          refine lv_aload_n hx hb dX1_bringUp_55 rfl (lv_at hl 5 rfl) ?_
          refine cV S (c_X0_turn (l := l) (D := D) (lo := lo) (Γ := Γ) (sz := sz) (si := si) (P := (trn P' p1)) (bi := bi) (tu := tu) (M := M) (V := V) ok_a) (cwV 0 hts gX1_bringUp_X0_turn rfl rfl rfl (by decide +kernel) ⟨Nat.le_of_ble_eq_true rfl, Nat.le_of_ble_eq_true rfl⟩) hK hH (Hp_recv hK hH ok_a.1 ok_a.2 rfl) hS rfl hl.1 rfl (Nat.le_of_ble_eq_true rfl) dX1_bringUp_56 ⟨Nat.le_of_ble_eq_true rfl, Nat.le_of_ble_eq_true rfl⟩ (fun v Z1 H locs hpost hH hS => ?_)
          obtain ⟨rfl, rfl⟩ := hpost
          refine lv_iinc (v := nI C2.length) (lv' := [(3, .int (nI C2.length)), (5, .ref p1), (4, .ref p1), (2, .int (nI C.length)), (0, .ref t0), (1, .ref a)]) hx hb dX1_bringUp_59 hl (k := 2) rfl (nI_m2 _) (by decide) rfl (fun ls hl => ?_)
          refine lv_goto (tgt := 7) hx hb dX1_bringUp_62 (by decide) ?_
          exact ih C2 _ l2 r2 (nI C2.length) (by simp only [List.length_cons] at h0; omega) g2 (by rw [g3, hid]) (by rw [← hrai]; show _ = rai a C2 _; rw [if_pos hs12]) (by omega) (fun e => by subst e; exact Or.inl rfl) (fun _ => rfl) H locs hH hS ls (lv_sub hl [0, 3, 4, 5] rfl)
  exact loop C.length C P lt r9 (nI C.length) (Nat.le_refl _) hz rfl rfl h40 (fun e => by subst e; exact Or.inl rfl) (fun _ => rfl) _ _ hH hS ls (lv_sub hl [0, 1, 2, 3] rfl)

set_option maxRecDepth 100000 in
set_option maxHeartbeats 4000000 in
theorem c_X1_at {t0 : Nat} {T : Tr} {x : Int32} (h : TR L K sz P t0 T) : Md l yX1_at wsX1_at (rmL 3 0 0) D lo Γ [.ref t0, .int x] ((L, K, sz, si, P, bi, tu), M, V) (some (va_rf (atL (tids T) x 0))) ((L, K, sz, si, P, bi, tu), M, V) := by
  refine Mz_of (cc := cX1_at) (maxL := 4) (ret := (some (.object "SplayOrchard$Apple"))) (by decide) rfl (Nat.le_of_ble_eq_true rfl) ?_
  intro p e s m args below meth c ls S hr hlocks hK hH hS hl
  have hx := S.1
  have hb := S.2.1
  have hts := S.2.2.2.2
  have hl : lv_has ls 4 [(0, .ref t0), (1, .int x)] := hl
  have hT := h
  obtain ⟨t_in, t_k, t_top, t_rep, t_nd, t_ok⟩ := h
  have ok_t0 : t0 ∈ L ∧ K t0 = 1 := ⟨t_in, t_k⟩
  refine lv_iconst (v := 0) hx hb dX1_at_0 (by decide) ?_
  refine lv_istore_n (lv' := [(2, .int 0), (0, .ref t0), (1, .int x)]) hx hb dX1_at_1 rfl hl (by decide) rfl (fun ls hl => ?_)
  refine lv_aload_n hx hb dX1_at_2 rfl (lv_at hl 1 rfl) ?_
  refine cV S (c_X1_first (l := l) (D := D) (lo := lo) (Γ := Γ) (sz := sz) (si := si) (P := P) (bi := bi) (tu := tu) (M := M) (V := V) hT) (cwV 0 hts gX1_at_X1_first rfl rfl rfl (by decide +kernel) ⟨Nat.le_of_ble_eq_true rfl, Nat.le_of_ble_eq_true rfl⟩) hK hH (Hp_recv hK hH ok_t0.1 ok_t0.2 rfl) hS rfl hl.1 rfl (Nat.le_of_ble_eq_true rfl) dX1_at_3 ⟨Nat.le_of_ble_eq_true rfl, Nat.le_of_ble_eq_true rfl⟩ (fun v Z1 H locs hpost hH hS => ?_)
  obtain ⟨rfl, rfl⟩ := hpost
  refine lq_astore_n (lv' := [(2, .int 0), (0, .ref t0), (1, .int x)]) S dX1_at_6 rfl hl (by decide) rfl (fun ls hl => ?_)
  have loop : ∀ (post pre : List Nat), tids T = pre ++ post → atL post x pre.length = atL (tids T) x 0 → ∀ H locs, Hp D lo Γ ((L, K, sz, si, P, bi, tu), M, V) H → va_S (lA lo) s.heap H locs → ∀ ls, lv_has ls 4 [(3, va_rf (post.head?)), (2, .int (nI pre.length)), (0, .ref t0), (1, .int x)] → W p l e (rmL 3 0 0) s m args below meth c H locs 0 0 (MQ below (Qz D lo Γ (fun v Z' => v = (some (va_rf (atL (tids T) x 0))) ∧ Z' = ((L, K, sz, si, P, bi, tu), M, V))) args s ((rmL 3 0 0) : Room).cells ((rmL 3 0 0) : Room).slots (lA lo)) (F0 m 7 ls []) := by
    intro post
    induction post with
    | nil =>
      intro pre hx2 h3 H locs hH hS ls hl
      refine lv_aload_nN hx hb dX1_at_7 rfl (lv_at hl 0 rfl) ?_
      refine lv_ifnullN hx hb dX1_at_8 (tgt := 29) (by decide) ?_
      refine lv_null hx hb dX1_at_29 ?_
      exact eA S hr hlocks none rfl hH hS ⟨by rw [← h3]; rfl, rfl⟩ dX1_at_30
    | cons b post ih =>
      intro pre hx2 h3 H locs hH hS ls hl
      have hbT : b ∈ tids T := by rw [hx2]; simp
      have ok_b := (t_ok b hbT).1
      refine lv_aload_n hx hb dX1_at_7 rfl (lv_at hl 0 rfl) ?_
      refine lv_ifnull hx hb dX1_at_8 ?_
      refine lv_iload_n hx hb dX1_at_11 rfl (lv_at hl 1 rfl) ?_
      refine lv_iload_n hx hb dX1_at_12 rfl (lv_at hl 3 rfl) ?_
      refine lv_icmp_ne (tgt := 18) hx hb dX1_at_13 (by decide) (fun h1 => ?_) (fun h1 => ?_)
      · skip
        refine lv_iinc (v := nI (pre.length + 1)) (lv' := [(2, .int (nI (pre.length + 1))), (3, .ref b), (0, .ref t0), (1, .int x)]) hx hb dX1_at_18 hl (k := 1) rfl (nI_1 pre.length) (by decide) rfl (fun ls hl => ?_)
        refine lv_aload_n hx hb dX1_at_21 rfl (lv_at hl 1 rfl) ?_
        refine cV S (c_X0_nextL (l := l) (D := D) (lo := lo) (Γ := Γ) (sz := sz) (si := si) (P := P) (bi := bi) (tu := tu) (M := M) (V := V) ok_b t_rep t_nd hx2) (cwV 0 hts gX1_at_X0_next rfl rfl rfl (by decide +kernel) ⟨Nat.le_of_ble_eq_true rfl, Nat.le_of_ble_eq_true rfl⟩) hK hH (Hp_recv hK hH ok_b.1 ok_b.2 rfl) hS rfl hl.1 rfl (Nat.le_of_ble_eq_true rfl) dX1_at_22 ⟨Nat.le_of_ble_eq_true rfl, Nat.le_of_ble_eq_true rfl⟩ (fun v Z1 H locs hpost hH hS => ?_)
        obtain ⟨rfl, rfl⟩ := hpost
        refine lq_astore_n (lv' := [(2, .int (nI (pre.length + 1))), (0, .ref t0), (1, .int x)]) S dX1_at_25 rfl hl (by decide) rfl (fun ls hl => ?_)
        refine lv_goto (tgt := 7) hx hb dX1_at_26 (by decide) ?_
        rw [atL, if_neg h1] at h3
        exact ih (pre ++ [b]) (by rw [hx2]; simp) (by rw [← h3]; simp) H locs hH hS ls (by rw [show (pre ++ [b]).length = pre.length + 1 by simp]; exact lv_sub hl [0, 1, 2, 3] rfl)
      · skip
        refine lv_aload_n hx hb dX1_at_16 rfl (lv_at hl 0 rfl) ?_
        exact eA S hr hlocks (some b) rfl hH hS ⟨by rw [← h3, atL, if_pos h1], rfl⟩ dX1_at_17
  exact loop (tids T) [] rfl rfl _ _ hH hS ls (lv_sub hl [0, 1, 2, 3] rfl)

set_option maxRecDepth 100000 in
set_option maxHeartbeats 4000000 in
theorem c_X1_countBelow {t0 : Nat} {T : Tr} {x : Int32} (h : TR L K sz P t0 T) : Md l yX1_countBelow wsX1_countBelow (rmL 3 0 0) D lo Γ [.ref t0, .int x] ((L, K, sz, si, P, bi, tu), M, V) (some (.int (nI (blw sz x.toInt T).length))) ((L, K, sz, si, P, bi, tu), M, V) := by
  refine Mz_of (cc := cX1_countBelow) (maxL := 4) (ret := (some .int)) (by decide) rfl (Nat.le_of_ble_eq_true rfl) ?_
  intro p e s m args below meth c ls S hr hlocks hK hH hS hl
  have hx := S.1
  have hb := S.2.1
  have hts := S.2.2.2.2
  have f32 : (Cond.fieldLink RX1 32 (TX0 0).1 (TX0 0).2.1 (TX0 0).2.2.1).before args s = true := hts _ (List.mem_of_getElem? (i := 1) rfl)
  have hi0 : ∀ w ∈ wsX00, w ∈ wsX1_countBelow := by decide +kernel
  have hl : lv_has ls 4 [(0, .ref t0), (1, .int x)] := hl
  have hT := h
  obtain ⟨t_in, t_k, t_top, t_rep, t_nd, t_ok⟩ := h
  have ok_t0 : t0 ∈ L ∧ K t0 = 1 := ⟨t_in, t_k⟩
  refine lv_iconst (v := 0) hx hb dX1_countBelow_0 (by decide) ?_
  refine lv_istore_n (lv' := [(2, .int 0), (0, .ref t0), (1, .int x)]) hx hb dX1_countBelow_1 rfl hl (by decide) rfl (fun ls hl => ?_)
  refine lv_aload_n hx hb dX1_countBelow_2 rfl (lv_at hl 1 rfl) ?_
  refine cV S (c_X1_first (l := l) (D := D) (lo := lo) (Γ := Γ) (sz := sz) (si := si) (P := P) (bi := bi) (tu := tu) (M := M) (V := V) hT) (cwV 0 hts gX1_countBelow_X1_first rfl rfl rfl (by decide +kernel) ⟨Nat.le_of_ble_eq_true rfl, Nat.le_of_ble_eq_true rfl⟩) hK hH (Hp_recv hK hH ok_t0.1 ok_t0.2 rfl) hS rfl hl.1 rfl (Nat.le_of_ble_eq_true rfl) dX1_countBelow_3 ⟨Nat.le_of_ble_eq_true rfl, Nat.le_of_ble_eq_true rfl⟩ (fun v Z1 H locs hpost hH hS => ?_)
  obtain ⟨rfl, rfl⟩ := hpost
  refine lq_astore_n (lv' := [(2, .int 0), (0, .ref t0), (1, .int x)]) S dX1_countBelow_6 rfl hl (by decide) rfl (fun ls hl => ?_)
  have loop : ∀ (post pre : List Nat), tids T = pre ++ post → pre ++ post.takeWhile (fun a => decide ((sz a : Int) < x.toInt)) = blw sz x.toInt T → ∀ H locs, Hp D lo Γ ((L, K, sz, si, P, bi, tu), M, V) H → va_S (lA lo) s.heap H locs → ∀ ls, lv_has ls 4 [(3, va_rf (post.head?)), (2, .int (nI pre.length)), (0, .ref t0), (1, .int x)] → W p l e (rmL 3 0 0) s m args below meth c H locs 0 0 (MQ below (Qz D lo Γ (fun v Z' => v = (some (.int (nI (blw sz x.toInt T).length))) ∧ Z' = ((L, K, sz, si, P, bi, tu), M, V))) args s ((rmL 3 0 0) : Room).cells ((rmL 3 0 0) : Room).slots (lA lo)) (F0 m 7 ls []) := by
    intro post
    induction post with
    | nil =>
      intro pre hx2 h3 H locs hH hS ls hl
      refine lv_aload_nN hx hb dX1_countBelow_7 rfl (lv_at hl 0 rfl) ?_
      refine lv_ifnullN hx hb dX1_countBelow_8 (tgt := 30) (by decide) ?_
      refine lv_iload_n hx hb dX1_countBelow_30 rfl (lv_at hl 1 rfl) ?_
      exact eI S hr hlocks hH hS ⟨by rw [← h3]; simp, rfl⟩ dX1_countBelow_31
    | cons b post ih =>
      intro pre hx2 h3 H locs hH hS ls hl
      have hbT : b ∈ tids T := by rw [hx2]; simp
      have ok_b := (t_ok b hbT).1
      refine lv_aload_n hx hb dX1_countBelow_7 rfl (lv_at hl 0 rfl) ?_
      refine lv_ifnull hx hb dX1_countBelow_8 ?_
      have hk9 : (nI (sz b)).toInt = (sz b : Int) := nI_toInt (by have := (t_ok b hbT).2; omega)
      refine lv_aload_n hx hb dX1_countBelow_11 rfl (lv_at hl 0 rfl) ?_
      refine gA S hi0 hK hH ok_b 0 (by decide) f32 (v := .int (nI (sz b))) rfl dX1_countBelow_12 ?_
      refine lv_iload_n hx hb dX1_countBelow_15 rfl (lv_at hl 3 rfl) ?_
      refine lv_icmp_ge (tgt := 30) hx hb dX1_countBelow_16 (by decide) (fun h1 => ?_) (fun h1 => ?_)
      · skip
        have h2 := Int32.le_iff_toInt_le.mp h1
        rw [hk9] at h2
        rw [List.takeWhile_cons, if_neg (by simpa using h2)] at h3
        refine lv_iload_n hx hb dX1_countBelow_30 rfl (lv_at hl 1 rfl) ?_
        exact eI S hr hlocks hH hS ⟨by rw [← h3]; simp, rfl⟩ dX1_countBelow_31
      · skip
        have h2 : (sz b : Int) < x.toInt := by have h0 := mt Int32.le_iff_toInt_le.mpr h1; rw [hk9] at h0; omega
        rw [List.takeWhile_cons, if_pos (by simpa using h2)] at h3
        refine lv_iinc (v := nI (pre.length + 1)) (lv' := [(2, .int (nI (pre.length + 1))), (3, .ref b), (0, .ref t0), (1, .int x)]) hx hb dX1_countBelow_19 hl (k := 1) rfl (nI_1 pre.length) (by decide) rfl (fun ls hl => ?_)
        refine lv_aload_n hx hb dX1_countBelow_22 rfl (lv_at hl 1 rfl) ?_
        refine cV S (c_X0_nextL (l := l) (D := D) (lo := lo) (Γ := Γ) (sz := sz) (si := si) (P := P) (bi := bi) (tu := tu) (M := M) (V := V) ok_b t_rep t_nd hx2) (cwV 0 hts gX1_countBelow_X0_next rfl rfl rfl (by decide +kernel) ⟨Nat.le_of_ble_eq_true rfl, Nat.le_of_ble_eq_true rfl⟩) hK hH (Hp_recv hK hH ok_b.1 ok_b.2 rfl) hS rfl hl.1 rfl (Nat.le_of_ble_eq_true rfl) dX1_countBelow_23 ⟨Nat.le_of_ble_eq_true rfl, Nat.le_of_ble_eq_true rfl⟩ (fun v Z1 H locs hpost hH hS => ?_)
        obtain ⟨rfl, rfl⟩ := hpost
        refine lq_astore_n (lv' := [(2, .int (nI (pre.length + 1))), (0, .ref t0), (1, .int x)]) S dX1_countBelow_26 rfl hl (by decide) rfl (fun ls hl => ?_)
        refine lv_goto (tgt := 7) hx hb dX1_countBelow_27 (by decide) ?_
        exact ih (pre ++ [b]) (by rw [hx2]; simp) (by rw [← h3]; simp) H locs hH hS ls (by rw [show (pre ++ [b]).length = pre.length + 1 by simp]; exact lv_sub hl [0, 1, 2, 3] rfl)
  exact loop (tids T) [] rfl rfl _ _ hH hS ls (lv_sub hl [0, 1, 2, 3] rfl)

set_option maxRecDepth 100000 in
set_option maxHeartbeats 4000000 in
theorem c_X1_greatestBelow {t0 : Nat} {T : Tr} {x : Int32} (h : TR L K sz P t0 T) : Md l yX1_greatestBelow wsX1_greatestBelow (rmL 3 0 0) D lo Γ [.ref t0, .int x] ((L, K, sz, si, P, bi, tu), M, V) (some (va_rf (blw sz x.toInt T).getLast?)) ((L, K, sz, si, P, bi, tu), M, V) := by
  refine Mz_of (cc := cX1_greatestBelow) (maxL := 4) (ret := (some (.object "SplayOrchard$Apple"))) (by decide) rfl (Nat.le_of_ble_eq_true rfl) ?_
  intro p e s m args below meth c ls S hr hlocks hK hH hS hl
  have hx := S.1
  have hb := S.2.1
  have hts := S.2.2.2.2
  have f32 : (Cond.fieldLink RX1 32 (TX0 0).1 (TX0 0).2.1 (TX0 0).2.2.1).before args s = true := hts _ (List.mem_of_getElem? (i := 1) rfl)
  have hi0 : ∀ w ∈ wsX00, w ∈ wsX1_greatestBelow := by decide +kernel
  have hl : lv_has ls 4 [(0, .ref t0), (1, .int x)] := hl
  have hT := h
  obtain ⟨t_in, t_k, t_top, t_rep, t_nd, t_ok⟩ := h
  have ok_t0 : t0 ∈ L ∧ K t0 = 1 := ⟨t_in, t_k⟩
  refine lv_null hx hb dX1_greatestBelow_0 ?_
  refine lv_astore_nN (lv' := [(2, .null), (0, .ref t0), (1, .int x)]) hx hb dX1_greatestBelow_1 rfl hl (by decide) rfl (fun ls hl => ?_)
  refine lv_aload_n hx hb dX1_greatestBelow_2 rfl (lv_at hl 1 rfl) ?_
  refine cV S (c_X1_first (l := l) (D := D) (lo := lo) (Γ := Γ) (sz := sz) (si := si) (P := P) (bi := bi) (tu := tu) (M := M) (V := V) hT) (cwV 0 hts gX1_greatestBelow_X1_first rfl rfl rfl (by decide +kernel) ⟨Nat.le_of_ble_eq_true rfl, Nat.le_of_ble_eq_true rfl⟩) hK hH (Hp_recv hK hH ok_t0.1 ok_t0.2 rfl) hS rfl hl.1 rfl (Nat.le_of_ble_eq_true rfl) dX1_greatestBelow_3 ⟨Nat.le_of_ble_eq_true rfl, Nat.le_of_ble_eq_true rfl⟩ (fun v Z1 H locs hpost hH hS => ?_)
  obtain ⟨rfl, rfl⟩ := hpost
  refine lq_astore_n (lv' := [(2, .null), (0, .ref t0), (1, .int x)]) S dX1_greatestBelow_6 rfl hl (by decide) rfl (fun ls hl => ?_)
  have loop : ∀ (post pre : List Nat), tids T = pre ++ post → pre ++ post.takeWhile (fun a => decide ((sz a : Int) < x.toInt)) = blw sz x.toInt T → ∀ H locs, Hp D lo Γ ((L, K, sz, si, P, bi, tu), M, V) H → va_S (lA lo) s.heap H locs → ∀ ls, lv_has ls 4 [(3, va_rf (post.head?)), (2, va_rf (pre.getLast?)), (0, .ref t0), (1, .int x)] → W p l e (rmL 3 0 0) s m args below meth c H locs 0 0 (MQ below (Qz D lo Γ (fun v Z' => v = (some (va_rf (blw sz x.toInt T).getLast?)) ∧ Z' = ((L, K, sz, si, P, bi, tu), M, V))) args s ((rmL 3 0 0) : Room).cells ((rmL 3 0 0) : Room).slots (lA lo)) (F0 m 7 ls []) := by
    intro post
    induction post with
    | nil =>
      intro pre hx2 h3 H locs hH hS ls hl
      refine lv_aload_nN hx hb dX1_greatestBelow_7 rfl (lv_at hl 0 rfl) ?_
      refine lv_ifnullN hx hb dX1_greatestBelow_8 (tgt := 29) (by decide) ?_
      refine lq_aload_n S dX1_greatestBelow_29 rfl (lv_at hl 1 rfl) ?_
      exact eA S hr hlocks _ rfl hH hS ⟨by rw [← h3]; simp, rfl⟩ dX1_greatestBelow_30
    | cons b post ih =>
      intro pre hx2 h3 H locs hH hS ls hl
      have hbT : b ∈ tids T := by rw [hx2]; simp
      have ok_b := (t_ok b hbT).1
      refine lv_aload_n hx hb dX1_greatestBelow_7 rfl (lv_at hl 0 rfl) ?_
      refine lv_ifnull hx hb dX1_greatestBelow_8 ?_
      have hk9 : (nI (sz b)).toInt = (sz b : Int) := nI_toInt (by have := (t_ok b hbT).2; omega)
      refine lv_aload_n hx hb dX1_greatestBelow_11 rfl (lv_at hl 0 rfl) ?_
      refine gA S hi0 hK hH ok_b 0 (by decide) f32 (v := .int (nI (sz b))) rfl dX1_greatestBelow_12 ?_
      refine lv_iload_n hx hb dX1_greatestBelow_15 rfl (lv_at hl 3 rfl) ?_
      refine lv_icmp_ge (tgt := 29) hx hb dX1_greatestBelow_16 (by decide) (fun h1 => ?_) (fun h1 => ?_)
      · skip
        have h2 := Int32.le_iff_toInt_le.mp h1
        rw [hk9] at h2
        rw [List.takeWhile_cons, if_neg (by simpa using h2)] at h3
        refine lq_aload_n S dX1_greatestBelow_29 rfl (lv_at hl 1 rfl) ?_
        exact eA S hr hlocks _ rfl hH hS ⟨by rw [← h3]; simp, rfl⟩ dX1_greatestBelow_30
      · skip
        have h2 : (sz b : Int) < x.toInt := by have h0 := mt Int32.le_iff_toInt_le.mpr h1; rw [hk9] at h0; omega
        rw [List.takeWhile_cons, if_pos (by simpa using h2)] at h3
        refine lv_aload_n hx hb dX1_greatestBelow_19 rfl (lv_at hl 0 rfl) ?_
        refine lv_astore_n (lv' := [(2, .ref b), (3, .ref b), (0, .ref t0), (1, .int x)]) hx hb dX1_greatestBelow_20 rfl hl (by decide) rfl (fun ls hl => ?_)
        refine lv_aload_n hx hb dX1_greatestBelow_21 rfl (lv_at hl 1 rfl) ?_
        refine cV S (c_X0_nextL (l := l) (D := D) (lo := lo) (Γ := Γ) (sz := sz) (si := si) (P := P) (bi := bi) (tu := tu) (M := M) (V := V) ok_b t_rep t_nd hx2) (cwV 0 hts gX1_greatestBelow_X0_next rfl rfl rfl (by decide +kernel) ⟨Nat.le_of_ble_eq_true rfl, Nat.le_of_ble_eq_true rfl⟩) hK hH (Hp_recv hK hH ok_b.1 ok_b.2 rfl) hS rfl hl.1 rfl (Nat.le_of_ble_eq_true rfl) dX1_greatestBelow_22 ⟨Nat.le_of_ble_eq_true rfl, Nat.le_of_ble_eq_true rfl⟩ (fun v Z1 H locs hpost hH hS => ?_)
        obtain ⟨rfl, rfl⟩ := hpost
        refine lq_astore_n (lv' := [(2, .ref b), (0, .ref t0), (1, .int x)]) S dX1_greatestBelow_25 rfl hl (by decide) rfl (fun ls hl => ?_)
        refine lv_goto (tgt := 7) hx hb dX1_greatestBelow_26 (by decide) ?_
        exact ih (pre ++ [b]) (by rw [hx2]; simp) (by rw [← h3]; simp) H locs hH hS ls (by rw [show (pre ++ [b]).getLast? = some b by simp]; exact lv_sub hl [0, 1, 2, 3] rfl)
  exact loop (tids T) [] rfl rfl _ _ hH hS ls (lv_sub hl [0, 1, 2, 3] rfl)

set_option maxRecDepth 100000 in
set_option maxHeartbeats 4000000 in
theorem c_X1_mostBitten {t0 : Nat} {T : Tr} (h : TR L K sz P t0 T) : Md l yX1_mostBitten wsX1_mostBitten (rmL 3 0 0) D lo Γ [.ref t0] ((L, K, sz, si, P, bi, tu), M, V) (some (va_rf (fvs bi none (tids T)))) ((L, K, sz, si, P, bi, tu), M, V) := by
  refine Mz_of (cc := cX1_mostBitten) (maxL := 3) (ret := (some (.object "SplayOrchard$Apple"))) (by decide) rfl (Nat.le_of_ble_eq_true rfl) ?_
  intro p e s m args below meth c ls S hr hlocks hK hH hS hl
  have hx := S.1
  have hb := S.2.1
  have hts := S.2.2.2.2
  have f78 : (Cond.fieldLink RX1 78 (TX0 5).1 (TX0 5).2.1 (TX0 5).2.2.1).before args s = true := hts _ (List.mem_of_getElem? (i := 1) rfl)
  have hi0 : ∀ w ∈ wsX00, w ∈ wsX1_mostBitten := by decide +kernel
  have hl : lv_has ls 3 [(0, .ref t0)] := hl
  have hT := h
  obtain ⟨t_in, t_k, t_top, t_rep, t_nd, t_ok⟩ := h
  have ok_t0 : t0 ∈ L ∧ K t0 = 1 := ⟨t_in, t_k⟩
  refine lv_null hx hb dX1_mostBitten_0 ?_
  refine lv_astore_nN (lv' := [(1, .null), (0, .ref t0)]) hx hb dX1_mostBitten_1 rfl hl (by decide) rfl (fun ls hl => ?_)
  refine lv_aload_n hx hb dX1_mostBitten_2 rfl (lv_at hl 1 rfl) ?_
  refine cV S (c_X1_first (l := l) (D := D) (lo := lo) (Γ := Γ) (sz := sz) (si := si) (P := P) (bi := bi) (tu := tu) (M := M) (V := V) hT) (cwV 0 hts gX1_mostBitten_X1_first rfl rfl rfl (by decide +kernel) ⟨Nat.le_of_ble_eq_true rfl, Nat.le_of_ble_eq_true rfl⟩) hK hH (Hp_recv hK hH ok_t0.1 ok_t0.2 rfl) hS rfl hl.1 rfl (Nat.le_of_ble_eq_true rfl) dX1_mostBitten_3 ⟨Nat.le_of_ble_eq_true rfl, Nat.le_of_ble_eq_true rfl⟩ (fun v Z1 H locs hpost hH hS => ?_)
  obtain ⟨rfl, rfl⟩ := hpost
  refine lq_astore_n (lv' := [(1, .null), (0, .ref t0)]) S dX1_mostBitten_6 rfl hl (by decide) rfl (fun ls hl => ?_)
  have loop : ∀ (post pre : List Nat) (acc : Option Nat), tids T = pre ++ post → (∀ b, acc = some b → okA L K b) → fvs bi acc post = fvs bi none (tids T) → ∀ H locs, Hp D lo Γ ((L, K, sz, si, P, bi, tu), M, V) H → va_S (lA lo) s.heap H locs → ∀ ls, lv_has ls 3 [(2, va_rf (post.head?)), (1, va_rf acc), (0, .ref t0)] → W p l e (rmL 3 0 0) s m args below meth c H locs 0 0 (MQ below (Qz D lo Γ (fun v Z' => v = (some (va_rf (fvs bi none (tids T)))) ∧ Z' = ((L, K, sz, si, P, bi, tu), M, V))) args s ((rmL 3 0 0) : Room).cells ((rmL 3 0 0) : Room).slots (lA lo)) (F0 m 7 ls []) := by
    intro post
    induction post with
    | nil =>
      intro pre acc hx2 okq h3 H locs hH hS ls hl
      refine lv_aload_nN hx hb dX1_mostBitten_7 rfl (lv_at hl 0 rfl) ?_
      refine lv_ifnullN hx hb dX1_mostBitten_8 (tgt := 36) (by decide) ?_
      refine lq_aload_n S dX1_mostBitten_36 rfl (lv_at hl 1 rfl) ?_
      exact eA S hr hlocks acc rfl hH hS ⟨by rw [← h3]; rfl, rfl⟩ dX1_mostBitten_37
    | cons b post ih =>
      intro pre acc hx2 okq h3 H locs hH hS ls hl
      have hbT : b ∈ tids T := by rw [hx2]; simp
      have ok_b := (t_ok b hbT).1
      refine lv_aload_n hx hb dX1_mostBitten_7 rfl (lv_at hl 0 rfl) ?_
      refine lv_ifnull hx hb dX1_mostBitten_8 ?_
      refine lq_aload_n S dX1_mostBitten_11 rfl (lv_at hl 1 rfl) ?_
      refine lq_ifnull S dX1_mostBitten_12 (tgt := 26) (by decide) (fun hq => ?_) (fun g hq => ?_)
      · skip
        subst hq
        rw [fvs] at h3
        refine lv_aload_n hx hb dX1_mostBitten_26 rfl (lv_at hl 0 rfl) ?_
        refine lv_astore_n (lv' := [(1, .ref b), (2, .ref b), (0, .ref t0)]) hx hb dX1_mostBitten_27 rfl hl (by decide) rfl (fun ls hl => ?_)
        refine lv_aload_n hx hb dX1_mostBitten_28 rfl (lv_at hl 1 rfl) ?_
        refine cV S (c_X0_nextL (l := l) (D := D) (lo := lo) (Γ := Γ) (sz := sz) (si := si) (P := P) (bi := bi) (tu := tu) (M := M) (V := V) ok_b t_rep t_nd hx2) (cwV 0 hts gX1_mostBitten_X0_next rfl rfl rfl (by decide +kernel) ⟨Nat.le_of_ble_eq_true rfl, Nat.le_of_ble_eq_true rfl⟩) hK hH (Hp_recv hK hH ok_b.1 ok_b.2 rfl) hS rfl hl.1 rfl (Nat.le_of_ble_eq_true rfl) dX1_mostBitten_29 ⟨Nat.le_of_ble_eq_true rfl, Nat.le_of_ble_eq_true rfl⟩ (fun v Z1 H locs hpost hH hS => ?_)
        obtain ⟨rfl, rfl⟩ := hpost
        refine lq_astore_n (lv' := [(1, .ref b), (0, .ref t0)]) S dX1_mostBitten_32 rfl hl (by decide) rfl (fun ls hl => ?_)
        refine lv_goto (tgt := 7) hx hb dX1_mostBitten_33 (by decide) ?_
        exact ih (pre ++ [b]) (some b) (by rw [hx2]; simp) (fun y hy => by cases hy; exact ok_b) h3 H locs hH hS ls (lv_sub hl [0, 1, 2] rfl)
      · skip
        subst hq
        have ok_g := okq g rfl
        rw [fvs] at h3
        refine lv_aload_n hx hb dX1_mostBitten_15 rfl (lv_at hl 0 rfl) ?_
        refine gA S hi0 hK hH ok_b 5 (by decide) f78 (v := .int (nI (bi b))) rfl dX1_mostBitten_16 ?_
        refine lv_aload_n hx hb dX1_mostBitten_19 rfl (lv_at hl 1 rfl) ?_
        refine gA S hi0 hK hH ok_g 5 (by decide) f78 (v := .int (nI (bi g))) rfl dX1_mostBitten_20 ?_
        refine lv_icmp_le (tgt := 28) hx hb dX1_mostBitten_23 (by decide) (fun h1 => ?_) (fun h1 => ?_)
        · skip
          rw [if_pos h1] at h3
          refine lv_aload_n hx hb dX1_mostBitten_28 rfl (lv_at hl 0 rfl) ?_
          refine cV S (c_X0_nextL (l := l) (D := D) (lo := lo) (Γ := Γ) (sz := sz) (si := si) (P := P) (bi := bi) (tu := tu) (M := M) (V := V) ok_b t_rep t_nd hx2) (cwV 0 hts gX1_mostBitten_X0_next rfl rfl rfl (by decide +kernel) ⟨Nat.le_of_ble_eq_true rfl, Nat.le_of_ble_eq_true rfl⟩) hK hH (Hp_recv hK hH ok_b.1 ok_b.2 rfl) hS rfl hl.1 rfl (Nat.le_of_ble_eq_true rfl) dX1_mostBitten_29 ⟨Nat.le_of_ble_eq_true rfl, Nat.le_of_ble_eq_true rfl⟩ (fun v Z1 H locs hpost hH hS => ?_)
          obtain ⟨rfl, rfl⟩ := hpost
          refine lq_astore_n (lv' := [(1, .ref g), (0, .ref t0)]) S dX1_mostBitten_32 rfl hl (by decide) rfl (fun ls hl => ?_)
          refine lv_goto (tgt := 7) hx hb dX1_mostBitten_33 (by decide) ?_
          exact ih (pre ++ [b]) (some g) (by rw [hx2]; simp) okq h3 H locs hH hS ls (lv_sub hl [0, 1, 2] rfl)
        · skip
          rw [if_neg h1] at h3
          refine lv_aload_n hx hb dX1_mostBitten_26 rfl (lv_at hl 0 rfl) ?_
          refine lv_astore_n (lv' := [(1, .ref b), (2, .ref b), (0, .ref t0)]) hx hb dX1_mostBitten_27 rfl hl (by decide) rfl (fun ls hl => ?_)
          refine lv_aload_n hx hb dX1_mostBitten_28 rfl (lv_at hl 1 rfl) ?_
          refine cV S (c_X0_nextL (l := l) (D := D) (lo := lo) (Γ := Γ) (sz := sz) (si := si) (P := P) (bi := bi) (tu := tu) (M := M) (V := V) ok_b t_rep t_nd hx2) (cwV 0 hts gX1_mostBitten_X0_next rfl rfl rfl (by decide +kernel) ⟨Nat.le_of_ble_eq_true rfl, Nat.le_of_ble_eq_true rfl⟩) hK hH (Hp_recv hK hH ok_b.1 ok_b.2 rfl) hS rfl hl.1 rfl (Nat.le_of_ble_eq_true rfl) dX1_mostBitten_29 ⟨Nat.le_of_ble_eq_true rfl, Nat.le_of_ble_eq_true rfl⟩ (fun v Z1 H locs hpost hH hS => ?_)
          obtain ⟨rfl, rfl⟩ := hpost
          refine lq_astore_n (lv' := [(1, .ref b), (0, .ref t0)]) S dX1_mostBitten_32 rfl hl (by decide) rfl (fun ls hl => ?_)
          refine lv_goto (tgt := 7) hx hb dX1_mostBitten_33 (by decide) ?_
          exact ih (pre ++ [b]) (some b) (by rw [hx2]; simp) (fun y hy => by cases hy; exact ok_b) h3 H locs hH hS ls (lv_sub hl [0, 1, 2] rfl)
  exact loop (tids T) [] none rfl (fun b h => by cases h) rfl _ _ hH hS ls (lv_sub hl [0, 1, 2] rfl)
end MTree2
