/-! METHODS of SplayOrchard$Tree, the third part -/
theorem cx_len2 : ∀ C : Cx, C.length ≤ (cL C).length + (cR C).length := by
  intro C
  induction C with
  | nil => simp
  | cons f C ih =>
    obtain ⟨s, p, u⟩ := f
    cases s <;> simp [cL, cR] <;> omega
theorem cx_len {T : Tr} {z : Zi} (h : z ∈ zs T []) : z.2.2.2.length < (tids T).length := by
  have h1 := zs_plug T [] z h
  have h2 : (tids (plug (.branch z.1 z.2.1 z.2.2.1) z.2.2.2)).length = (tids T).length := by rw [h1]; rfl
  rw [tids_zip] at h2
  have h3 := cx_len2 z.2.2.2
  simp only [List.length_append, List.length_cons] at h2
  omega
theorem nI_max {a b : Nat} (ha : a < 2 ^ 31) (hb : b < 2 ^ 31) : (if nI a < nI b then nI b else nI a) = nI (max a b) := by
  by_cases h : a < b
  · rw [if_pos ((nI_ltI ha hb).mpr h), Nat.max_eq_right (by omega)]
  · rw [if_neg (fun q => h ((nI_ltI ha hb).mp q)), Nat.max_eq_left (by omega)]
theorem nI_min {a b : Nat} (ha : a < 2 ^ 31) (hb : b < 2 ^ 31) : (if nI b < nI a then nI b else nI a) = nI (min a b) := by
  by_cases h : b < a
  · rw [if_pos ((nI_ltI hb ha).mpr h), Nat.min_eq_right (by omega)]
  · rw [if_neg (fun q => h ((nI_ltI hb ha).mp q)), Nat.min_eq_left (by omega)]
theorem isE_f {t : Tr} {y : Nat} (h : rt t = some y) : isE t = false := by cases t with
  | leaf u => cases h
  | branch k l r => rfl
def lnks (P : PF) (si : Nat → Option Nat) : List Nat → PF
  | [] => P
  | a :: l => lnks (match si a with | some b => lnk P si a b | none => P) si l
theorem lnk_ne {P : PF} {si : Nat → Option Nat} {a b j x : Nat} (h : x ≠ b) : lnk P si a b j x = P j x := by
  unfold lnk
  rw [sP_na h, sP_na h, sP_na h]
theorem lnk_3 {P : PF} {si : Nat → Option Nat} {a b x : Nat} : lnk P si a b 3 x = P 3 x := by
  unfold lnk
  rw [sP_nk (by decide), sP_nk (by decide), sP_nk (by decide)]
section MTree3
variable {l : Launch} {D : va_G} {lo : Nat} {Γ : GT} {L : List Nat} {K : Nat → Nat} {sz : Nat → Nat} {si : Nat → Option Nat} {P : PF} {bi : Nat → Nat} {tu : Nat} {M : MW} {V : Int64 × UInt64}
set_option maxRecDepth 100000 in
set_option maxHeartbeats 4000000 in
theorem c_X1_depthSum {t0 : Nat} {T : Tr} (h : TR L K sz P t0 T) : Md l yX1_depthSum wsX1_depthSum (rmL 3 0 0) D lo Γ [.ref t0] ((L, K, sz, si, P, bi, tu), M, V) (some (.int (nI (dsm T 0)))) ((L, K, sz, si, P, bi, tu), M, V) := by
  refine Mz_of (cc := cX1_depthSum) (maxL := 3) (ret := (some .int)) (by decide) rfl (Nat.le_of_ble_eq_true rfl) ?_
  intro p e s m args below meth c ls S hr hlocks hK hH hS hl
  have hx := S.1
  have hb := S.2.1
  have hts := S.2.2.2.2
  have hl : lv_has ls 3 [(0, .ref t0)] := hl
  have hT := h
  obtain ⟨t_in, t_k, t_top, t_rep, t_nd, t_ok⟩ := h
  have ok_t0 : t0 ∈ L ∧ K t0 = 1 := ⟨t_in, t_k⟩
  refine lv_iconst (v := 0) hx hb dX1_depthSum_0 (by decide) ?_
  refine lv_istore_n (lv' := [(1, .int 0), (0, .ref t0)]) hx hb dX1_depthSum_1 rfl hl (by decide) rfl (fun ls hl => ?_)
  refine lv_aload_n hx hb dX1_depthSum_2 rfl (lv_at hl 1 rfl) ?_
  refine cV S (c_X1_first (l := l) (D := D) (lo := lo) (Γ := Γ) (sz := sz) (si := si) (P := P) (bi := bi) (tu := tu) (M := M) (V := V) hT) (cwV 0 hts gX1_depthSum_X1_first rfl rfl rfl (by decide +kernel) ⟨Nat.le_of_ble_eq_true rfl, Nat.le_of_ble_eq_true rfl⟩) hK hH (Hp_recv hK hH ok_t0.1 ok_t0.2 rfl) hS rfl hl.1 rfl (Nat.le_of_ble_eq_true rfl) dX1_depthSum_3 ⟨Nat.le_of_ble_eq_true rfl, Nat.le_of_ble_eq_true rfl⟩ (fun v Z1 H locs hpost hH hS => ?_)
  obtain ⟨rfl, rfl⟩ := hpost
  refine lq_astore_n (lv' := [(1, .int 0), (0, .ref t0)]) S dX1_depthSum_6 rfl hl (by decide) rfl (fun ls hl => ?_)
  rw [← zs_ids T []] at hl
  have loop : ∀ (post pre : List Zi) (acc : Nat), zs T [] = pre ++ post → acc + (post.map (fun z => z.2.2.2.length)).sum = dsm T 0 → ∀ H locs, Hp D lo Γ ((L, K, sz, si, P, bi, tu), M, V) H → va_S (lA lo) s.heap H locs → ∀ ls, lv_has ls 3 [(2, va_rf ((post.map (fun z => z.1)).head?)), (1, .int (nI acc)), (0, .ref t0)] → W p l e (rmL 3 0 0) s m args below meth c H locs 0 0 (MQ below (Qz D lo Γ (fun v Z' => v = (some (.int (nI (dsm T 0)))) ∧ Z' = ((L, K, sz, si, P, bi, tu), M, V))) args s ((rmL 3 0 0) : Room).cells ((rmL 3 0 0) : Room).slots (lA lo)) (F0 m 7 ls []) := by
    intro post
    induction post with
    | nil =>
      intro pre acc hx2 h3 H locs hH hS ls hl
      refine lv_aload_nN hx hb dX1_depthSum_7 rfl (lv_at hl 0 rfl) ?_
      refine lv_ifnullN hx hb dX1_depthSum_8 (tgt := 26) (by decide) ?_
      refine lv_iload_n hx hb dX1_depthSum_26 rfl (lv_at hl 1 rfl) ?_
      exact eI S hr hlocks hH hS ⟨by rw [← h3]; rfl, rfl⟩ dX1_depthSum_27
    | cons z post ih =>
      intro pre acc hx2 h3 H locs hH hS ls hl
      have hzT : z ∈ zs T [] := by rw [hx2]; simp
      have hbT : z.1 ∈ tids T := by rw [← zs_ids T []]; exact List.mem_map.mpr ⟨z, hzT, rfl⟩
      have ok_b := (t_ok z.1 hbT).1
      refine lv_aload_n hx hb dX1_depthSum_7 rfl (lv_at hl 0 rfl) ?_
      refine lv_ifnull hx hb dX1_depthSum_8 ?_
      refine lv_iload_n hx hb dX1_depthSum_11 rfl (lv_at hl 1 rfl) ?_
      refine lv_aload_n hx hb dX1_depthSum_12 rfl (lv_at hl 0 rfl) ?_
      refine cV S (c_X0_depthZ (l := l) (D := D) (lo := lo) (Γ := Γ) (sz := sz) (si := si) (P := P) (bi := bi) (tu := tu) (M := M) (V := V) ok_b t_rep hzT) (cwV 0 hts gX1_depthSum_X0_depth rfl rfl rfl (by decide +kernel) ⟨Nat.le_of_ble_eq_true rfl, Nat.le_of_ble_eq_true rfl⟩) hK hH (Hp_recv hK hH ok_b.1 ok_b.2 rfl) hS rfl hl.1 rfl (Nat.le_of_ble_eq_true rfl) dX1_depthSum_13 ⟨Nat.le_of_ble_eq_true rfl, Nat.le_of_ble_eq_true rfl⟩ (fun v Z1 H locs hpost hH hS => ?_)
      obtain ⟨rfl, rfl⟩ := hpost
      refine lv_iadd hx hb dX1_depthSum_16 ?_
      rw [nI_add]
      refine lv_istore_n (lv' := [(1, .int (nI (acc + z.2.2.2.length))), (2, .ref z.1), (0, .ref t0)]) hx hb dX1_depthSum_17 rfl hl (by decide) rfl (fun ls hl => ?_)
      refine lv_aload_n hx hb dX1_depthSum_18 rfl (lv_at hl 1 rfl) ?_
      refine cV S (c_X0_nextZ (l := l) (D := D) (lo := lo) (Γ := Γ) (sz := sz) (si := si) (P := P) (bi := bi) (tu := tu) (M := M) (V := V) ok_b t_rep t_nd hx2) (cwV 0 hts gX1_depthSum_X0_next rfl rfl rfl (by decide +kernel) ⟨Nat.le_of_ble_eq_true rfl, Nat.le_of_ble_eq_true rfl⟩) hK hH (Hp_recv hK hH ok_b.1 ok_b.2 rfl) hS rfl hl.1 rfl (Nat.le_of_ble_eq_true rfl) dX1_depthSum_19 ⟨Nat.le_of_ble_eq_true rfl, Nat.le_of_ble_eq_true rfl⟩ (fun v Z1 H locs hpost hH hS => ?_)
      obtain ⟨rfl, rfl⟩ := hpost
      refine lq_astore_n (lv' := [(1, .int (nI (acc + z.2.2.2.length))), (0, .ref t0)]) S dX1_depthSum_22 rfl hl (by decide) rfl (fun ls hl => ?_)
      refine lv_goto (tgt := 7) hx hb dX1_depthSum_23 (by decide) ?_
      exact ih (pre ++ [z]) (acc + z.2.2.2.length) (by rw [hx2]; simp) (by rw [← h3]; simp only [List.map_cons, List.sum_cons]; omega) H locs hH hS ls (lv_sub hl [0, 1, 2] rfl)
  exact loop (zs T []) [] 0 rfl (by rw [Nat.zero_add, dsm_zs]; rfl) _ _ hH hS ls (lv_sub hl [0, 1, 2] rfl)

set_option maxRecDepth 100000 in
set_option maxHeartbeats 4000000 in
theorem c_X1_levels {t0 : Nat} {T : Tr} (h : TR L K sz P t0 T) (h40 : (tids T).length < 1000) : Md l yX1_levels wsX1_levels (rmL 3 0 0) D lo Γ [.ref t0] ((L, K, sz, si, P, bi, tu), M, V) (some (.int (nI (hgt T)))) ((L, K, sz, si, P, bi, tu), M, V) := by
  refine Mz_of (cc := cX1_levels) (maxL := 3) (ret := (some .int)) (by decide) rfl (Nat.le_of_ble_eq_true rfl) ?_
  intro p e s m args below meth c ls S hr hlocks hK hH hS hl
  have hx := S.1
  have hb := S.2.1
  have hts := S.2.2.2.2
  have hl : lv_has ls 3 [(0, .ref t0)] := hl
  have hT := h
  obtain ⟨t_in, t_k, t_top, t_rep, t_nd, t_ok⟩ := h
  have ok_t0 : t0 ∈ L ∧ K t0 = 1 := ⟨t_in, t_k⟩
  have w1 : (Cond.methodLink RX1 66 Lib.Math.max.name).before args s = true := hts _ (List.mem_of_getElem? (i := 1) rfl)
  have w2 : (Cond.static Lib.Math.max.name).before args s = true := hts _ (List.mem_of_getElem? (i := 2) rfl)
  have w3 : (Cond.initialized "java/lang/Math").before args s = true := hts _ (List.mem_of_getElem? (i := 3) rfl)
  have w4 : (Cond.code Lib.Math.max.name Lib.Math.max.code 2 (some .int)).before args s = true := hts _ (List.mem_of_getElem? (i := 4) rfl)
  refine lv_iconst (v := 0) hx hb dX1_levels_0 (by decide) ?_
  refine lv_istore_n (lv' := [(1, .int 0), (0, .ref t0)]) hx hb dX1_levels_1 rfl hl (by decide) rfl (fun ls hl => ?_)
  refine lv_aload_n hx hb dX1_levels_2 rfl (lv_at hl 1 rfl) ?_
  refine cV S (c_X1_first (l := l) (D := D) (lo := lo) (Γ := Γ) (sz := sz) (si := si) (P := P) (bi := bi) (tu := tu) (M := M) (V := V) hT) (cwV 0 hts gX1_levels_X1_first rfl rfl rfl (by decide +kernel) ⟨Nat.le_of_ble_eq_true rfl, Nat.le_of_ble_eq_true rfl⟩) hK hH (Hp_recv hK hH ok_t0.1 ok_t0.2 rfl) hS rfl hl.1 rfl (Nat.le_of_ble_eq_true rfl) dX1_levels_3 ⟨Nat.le_of_ble_eq_true rfl, Nat.le_of_ble_eq_true rfl⟩ (fun v Z1 H locs hpost hH hS => ?_)
  obtain ⟨rfl, rfl⟩ := hpost
  refine lq_astore_n (lv' := [(1, .int 0), (0, .ref t0)]) S dX1_levels_6 rfl hl (by decide) rfl (fun ls hl => ?_)
  rw [← zs_ids T []] at hl
  have loop : ∀ (post pre : List Zi) (acc : Nat), zs T [] = pre ++ post → acc < 2000 → (post.map (fun z => z.2.2.2.length + 1)).foldl max acc = hgt T → ∀ H locs, Hp D lo Γ ((L, K, sz, si, P, bi, tu), M, V) H → va_S (lA lo) s.heap H locs → ∀ ls, lv_has ls 3 [(2, va_rf ((post.map (fun z => z.1)).head?)), (1, .int (nI acc)), (0, .ref t0)] → W p l e (rmL 3 0 0) s m args below meth c H locs 0 0 (MQ below (Qz D lo Γ (fun v Z' => v = (some (.int (nI (hgt T)))) ∧ Z' = ((L, K, sz, si, P, bi, tu), M, V))) args s ((rmL 3 0 0) : Room).cells ((rmL 3 0 0) : Room).slots (lA lo)) (F0 m 7 ls []) := by
    intro post
    induction post with
    | nil =>
      intro pre acc hx2 h1000 h3 H locs hH hS ls hl
      refine lv_aload_nN hx hb dX1_levels_7 rfl (lv_at hl 0 rfl) ?_
      refine lv_ifnullN hx hb dX1_levels_8 (tgt := 30) (by decide) ?_
      refine lv_iload_n hx hb dX1_levels_30 rfl (lv_at hl 1 rfl) ?_
      exact eI S hr hlocks hH hS ⟨by rw [← h3]; rfl, rfl⟩ dX1_levels_31
    | cons z post ih =>
      intro pre acc hx2 h1000 h3 H locs hH hS ls hl
      have hzT : z ∈ zs T [] := by rw [hx2]; simp
      have hbT : z.1 ∈ tids T := by rw [← zs_ids T []]; exact List.mem_map.mpr ⟨z, hzT, rfl⟩
      have ok_b := (t_ok z.1 hbT).1
      refine lv_aload_n hx hb dX1_levels_7 rfl (lv_at hl 0 rfl) ?_
      refine lv_ifnull hx hb dX1_levels_8 ?_
      refine lv_iload_n hx hb dX1_levels_11 rfl (lv_at hl 1 rfl) ?_
      refine lv_aload_n hx hb dX1_levels_12 rfl (lv_at hl 0 rfl) ?_
      refine cV S (c_X0_depthZ (l := l) (D := D) (lo := lo) (Γ := Γ) (sz := sz) (si := si) (P := P) (bi := bi) (tu := tu) (M := M) (V := V) ok_b t_rep hzT) (cwV 0 hts gX1_levels_X0_depth rfl rfl rfl (by decide +kernel) ⟨Nat.le_of_ble_eq_true rfl, Nat.le_of_ble_eq_true rfl⟩) hK hH (Hp_recv hK hH ok_b.1 ok_b.2 rfl) hS rfl hl.1 rfl (Nat.le_of_ble_eq_true rfl) dX1_levels_13 ⟨Nat.le_of_ble_eq_true rfl, Nat.le_of_ble_eq_true rfl⟩ (fun v Z1 H locs hpost hH hS => ?_)
      obtain ⟨rfl, rfl⟩ := hpost
      refine lv_iconst (v := 1) hx hb dX1_levels_16 (by decide) ?_
      refine lv_iadd hx hb dX1_levels_17 ?_
      have hlen9 : z.2.2.2.length < 1000 := Nat.lt_of_lt_of_le (cx_len hzT) (Nat.le_of_lt h40)
      refine va_mmax hx hb (S.2.2.1.trans hl.1.symm) S.2.2.2.1 w1 w2 w3 w4 (Nat.le_of_ble_eq_true rfl) (Nat.le_of_ble_eq_true rfl) (Nat.le_refl _) (Nat.le_refl _) dX1_levels_18 ?_
      rw [nI_1, nI_max (by omega) (by omega)]
      refine lv_istore_n (lv' := [(1, .int (nI (max acc (z.2.2.2.length + 1)))), (2, .ref z.1), (0, .ref t0)]) hx hb dX1_levels_21 rfl hl (by decide) rfl (fun ls hl => ?_)
      refine lv_aload_n hx hb dX1_levels_22 rfl (lv_at hl 1 rfl) ?_
      refine cV S (c_X0_nextZ (l := l) (D := D) (lo := lo) (Γ := Γ) (sz := sz) (si := si) (P := P) (bi := bi) (tu := tu) (M := M) (V := V) ok_b t_rep t_nd hx2) (cwV 0 hts gX1_levels_X0_next rfl rfl rfl (by decide +kernel) ⟨Nat.le_of_ble_eq_true rfl, Nat.le_of_ble_eq_true rfl⟩) hK hH (Hp_recv hK hH ok_b.1 ok_b.2 rfl) hS rfl hl.1 rfl (Nat.le_of_ble_eq_true rfl) dX1_levels_23 ⟨Nat.le_of_ble_eq_true rfl, Nat.le_of_ble_eq_true rfl⟩ (fun v Z1 H locs hpost hH hS => ?_)
      obtain ⟨rfl, rfl⟩ := hpost
      refine lq_astore_n (lv' := [(1, .int (nI (max acc (z.2.2.2.length + 1)))), (0, .ref t0)]) S dX1_levels_26 rfl hl (by decide) rfl (fun ls hl => ?_)
      refine lv_goto (tgt := 7) hx hb dX1_levels_27 (by decide) ?_
      exact ih (pre ++ [z]) (max acc (z.2.2.2.length + 1)) (by rw [hx2]; simp) (by omega) h3 H locs hH hS ls (lv_sub hl [0, 1, 2] rfl)
  exact loop (zs T []) [] 0 rfl (by omega) (by rw [hgt_zs]; cases T <;> simp [isE, hgt]) _ _ hH hS ls (lv_sub hl [0, 1, 2] rfl)

set_option maxRecDepth 100000 in
set_option maxHeartbeats 4000000 in
theorem c_X1_leafCount {t0 : Nat} {T : Tr} (h : TR L K sz P t0 T) : Md l yX1_leafCount wsX1_leafCount (rmL 3 0 0) D lo Γ [.ref t0] ((L, K, sz, si, P, bi, tu), M, V) (some (.int (nI (lvs T)))) ((L, K, sz, si, P, bi, tu), M, V) := by
  refine Mz_of (cc := cX1_leafCount) (maxL := 3) (ret := (some .int)) (by decide) rfl (Nat.le_of_ble_eq_true rfl) ?_
  intro p e s m args below meth c ls S hr hlocks hK hH hS hl
  have hx := S.1
  have hb := S.2.1
  have hts := S.2.2.2.2
  have f72 : (Cond.fieldLink RX1 72 (TX0 3).1 (TX0 3).2.1 (TX0 3).2.2.1).before args s = true := hts _ (List.mem_of_getElem? (i := 1) rfl)
  have f75 : (Cond.fieldLink RX1 75 (TX0 4).1 (TX0 4).2.1 (TX0 4).2.2.1).before args s = true := hts _ (List.mem_of_getElem? (i := 2) rfl)
  have hi0 : ∀ w ∈ wsX00, w ∈ wsX1_leafCount := by decide +kernel
  have hl : lv_has ls 3 [(0, .ref t0)] := hl
  have hT := h
  obtain ⟨t_in, t_k, t_top, t_rep, t_nd, t_ok⟩ := h
  have ok_t0 : t0 ∈ L ∧ K t0 = 1 := ⟨t_in, t_k⟩
  refine lv_iconst (v := 0) hx hb dX1_leafCount_0 (by decide) ?_
  refine lv_istore_n (lv' := [(1, .int 0), (0, .ref t0)]) hx hb dX1_leafCount_1 rfl hl (by decide) rfl (fun ls hl => ?_)
  refine lv_aload_n hx hb dX1_leafCount_2 rfl (lv_at hl 1 rfl) ?_
  refine cV S (c_X1_first (l := l) (D := D) (lo := lo) (Γ := Γ) (sz := sz) (si := si) (P := P) (bi := bi) (tu := tu) (M := M) (V := V) hT) (cwV 0 hts gX1_leafCount_X1_first rfl rfl rfl (by decide +kernel) ⟨Nat.le_of_ble_eq_true rfl, Nat.le_of_ble_eq_true rfl⟩) hK hH (Hp_recv hK hH ok_t0.1 ok_t0.2 rfl) hS rfl hl.1 rfl (Nat.le_of_ble_eq_true rfl) dX1_leafCount_3 ⟨Nat.le_of_ble_eq_true rfl, Nat.le_of_ble_eq_true rfl⟩ (fun v Z1 H locs hpost hH hS => ?_)
  obtain ⟨rfl, rfl⟩ := hpost
  refine lq_astore_n (lv' := [(1, .int 0), (0, .ref t0)]) S dX1_leafCount_6 rfl hl (by decide) rfl (fun ls hl => ?_)
  rw [← zs_ids T []] at hl
  have loop : ∀ (post pre : List Zi) (acc : Nat), zs T [] = pre ++ post → acc + (post.filter (fun z => isE z.2.1 && isE z.2.2.1)).length = lvs T → ∀ H locs, Hp D lo Γ ((L, K, sz, si, P, bi, tu), M, V) H → va_S (lA lo) s.heap H locs → ∀ ls, lv_has ls 3 [(2, va_rf ((post.map (fun z => z.1)).head?)), (1, .int (nI acc)), (0, .ref t0)] → W p l e (rmL 3 0 0) s m args below meth c H locs 0 0 (MQ below (Qz D lo Γ (fun v Z' => v = (some (.int (nI (lvs T)))) ∧ Z' = ((L, K, sz, si, P, bi, tu), M, V))) args s ((rmL 3 0 0) : Room).cells ((rmL 3 0 0) : Room).slots (lA lo)) (F0 m 7 ls []) := by
    intro post
    induction post with
    | nil =>
      intro pre acc hx2 h3 H locs hH hS ls hl
      refine lv_aload_nN hx hb dX1_leafCount_7 rfl (lv_at hl 0 rfl) ?_
      refine lv_ifnullN hx hb dX1_leafCount_8 (tgt := 36) (by decide) ?_
      refine lv_iload_n hx hb dX1_leafCount_36 rfl (lv_at hl 1 rfl) ?_
      exact eI S hr hlocks hH hS ⟨by rw [← h3]; rfl, rfl⟩ dX1_leafCount_37
    | cons z post ih =>
      intro pre acc hx2 h3 H locs hH hS ls hl
      have hzT : z ∈ zs T [] := by rw [hx2]; simp
      have hbT : z.1 ∈ tids T := by rw [← zs_ids T []]; exact List.mem_map.mpr ⟨z, hzT, rfl⟩
      have ok_b := (t_ok z.1 hbT).1
      refine lv_aload_n hx hb dX1_leafCount_7 rfl (lv_at hl 0 rfl) ?_
      refine lv_ifnull hx hb dX1_leafCount_8 ?_
      have hzp := (Zp_plug z.2.2.2 (.branch z.1 z.2.1 z.2.2.1)).mpr (by rw [zs_plug T [] z hzT]; exact t_rep)
      have z0 : P 0 z.1 = rt z.2.1 := hzp.1.2.1
      have z1 : P 1 z.1 = rt z.2.2.1 := hzp.1.2.2.1
      refine lv_aload_n hx hb dX1_leafCount_11 rfl (lv_at hl 0 rfl) ?_
      refine gA S hi0 hK hH ok_b 3 (by decide) f72 (v := va_rf (P 0 z.1)) rfl dX1_leafCount_12 ?_
      refine lq_ifnonnull S dX1_leafCount_15 (tgt := 28) (by decide) (fun y hq => ?_) (fun hq => ?_)
      · skip
        have hE : isE z.2.1 = false := isE_f (z0.symm.trans hq)
        refine lv_aload_n hx hb dX1_leafCount_28 rfl (lv_at hl 0 rfl) ?_
        refine cV S (c_X0_nextZ (l := l) (D := D) (lo := lo) (Γ := Γ) (sz := sz) (si := si) (P := P) (bi := bi) (tu := tu) (M := M) (V := V) ok_b t_rep t_nd hx2) (cwV 0 hts gX1_leafCount_X0_next rfl rfl rfl (by decide +kernel) ⟨Nat.le_of_ble_eq_true rfl, Nat.le_of_ble_eq_true rfl⟩) hK hH (Hp_recv hK hH ok_b.1 ok_b.2 rfl) hS rfl hl.1 rfl (Nat.le_of_ble_eq_true rfl) dX1_leafCount_29 ⟨Nat.le_of_ble_eq_true rfl, Nat.le_of_ble_eq_true rfl⟩ (fun v Z1 H locs hpost hH hS => ?_)
        obtain ⟨rfl, rfl⟩ := hpost
        refine lq_astore_n (lv' := [(1, .int (nI acc)), (0, .ref t0)]) S dX1_leafCount_32 rfl hl (by decide) rfl (fun ls hl => ?_)
        refine lv_goto (tgt := 7) hx hb dX1_leafCount_33 (by decide) ?_
        exact ih (pre ++ [z]) acc (by rw [hx2]; simp) (by rw [← h3, List.filter_cons, if_neg (by simp [hE])]) H locs hH hS ls (lv_sub hl [0, 1, 2] rfl)
      · skip
        have hE : isE z.2.1 = true := by rw [rt_none (z0.symm.trans hq)]; rfl
        refine lv_aload_n hx hb dX1_leafCount_18 rfl (lv_at hl 0 rfl) ?_
        refine gA S hi0 hK hH ok_b 4 (by decide) f75 (v := va_rf (P 1 z.1)) rfl dX1_leafCount_19 ?_
        refine lq_ifnonnull S dX1_leafCount_22 (tgt := 28) (by decide) (fun y hq2 => ?_) (fun hq2 => ?_)
        · skip
          have hE2 : isE z.2.2.1 = false := isE_f (z1.symm.trans hq2)
          refine lv_aload_n hx hb dX1_leafCount_28 rfl (lv_at hl 0 rfl) ?_
          refine cV S (c_X0_nextZ (l := l) (D := D) (lo := lo) (Γ := Γ) (sz := sz) (si := si) (P := P) (bi := bi) (tu := tu) (M := M) (V := V) ok_b t_rep t_nd hx2) (cwV 0 hts gX1_leafCount_X0_next rfl rfl rfl (by decide +kernel) ⟨Nat.le_of_ble_eq_true rfl, Nat.le_of_ble_eq_true rfl⟩) hK hH (Hp_recv hK hH ok_b.1 ok_b.2 rfl) hS rfl hl.1 rfl (Nat.le_of_ble_eq_true rfl) dX1_leafCount_29 ⟨Nat.le_of_ble_eq_true rfl, Nat.le_of_ble_eq_true rfl⟩ (fun v Z1 H locs hpost hH hS => ?_)
          obtain ⟨rfl, rfl⟩ := hpost
          refine lq_astore_n (lv' := [(1, .int (nI acc)), (0, .ref t0)]) S dX1_leafCount_32 rfl hl (by decide) rfl (fun ls hl => ?_)
          refine lv_goto (tgt := 7) hx hb dX1_leafCount_33 (by decide) ?_
          exact ih (pre ++ [z]) acc (by rw [hx2]; simp) (by rw [← h3, List.filter_cons, if_neg (by simp [hE2])]) H locs hH hS ls (lv_sub hl [0, 1, 2] rfl)
        · skip
          have hE2 : isE z.2.2.1 = true := by rw [rt_none (z1.symm.trans hq2)]; rfl
          refine lv_iinc (v := nI (acc + 1)) (lv' := [(1, .int (nI (acc + 1))), (2, .ref z.1), (0, .ref t0)]) hx hb dX1_leafCount_25 hl (k := 1) rfl (nI_1 acc) (by decide) rfl (fun ls hl => ?_)
          refine lv_aload_n hx hb dX1_leafCount_28 rfl (lv_at hl 1 rfl) ?_
          refine cV S (c_X0_nextZ (l := l) (D := D) (lo := lo) (Γ := Γ) (sz := sz) (si := si) (P := P) (bi := bi) (tu := tu) (M := M) (V := V) ok_b t_rep t_nd hx2) (cwV 0 hts gX1_leafCount_X0_next rfl rfl rfl (by decide +kernel) ⟨Nat.le_of_ble_eq_true rfl, Nat.le_of_ble_eq_true rfl⟩) hK hH (Hp_recv hK hH ok_b.1 ok_b.2 rfl) hS rfl hl.1 rfl (Nat.le_of_ble_eq_true rfl) dX1_leafCount_29 ⟨Nat.le_of_ble_eq_true rfl, Nat.le_of_ble_eq_true rfl⟩ (fun v Z1 H locs hpost hH hS => ?_)
          obtain ⟨rfl, rfl⟩ := hpost
          refine lq_astore_n (lv' := [(1, .int (nI (acc + 1))), (0, .ref t0)]) S dX1_leafCount_32 rfl hl (by decide) rfl (fun ls hl => ?_)
          refine lv_goto (tgt := 7) hx hb dX1_leafCount_33 (by decide) ?_
          exact ih (pre ++ [z]) (acc + 1) (by rw [hx2]; simp) (by rw [← h3, List.filter_cons, if_pos (by simp [hE, hE2]), List.length_cons]; omega) H locs hH hS ls (lv_sub hl [0, 1, 2] rfl)
  exact loop (zs T []) [] 0 rfl (by rw [Nat.zero_add, lvs_zs]) _ _ hH hS ls (lv_sub hl [0, 1, 2] rfl)

set_option maxRecDepth 100000 in
set_option maxHeartbeats 4000000 in
theorem c_X1_meeting {t0 a b : Nat} {T : Tr} (h : TR L K sz P t0 T) (hs : srt sz T) (ha : a ∈ tids T) (hb9 : b ∈ tids T) : Md l yX1_meeting wsX1_meeting (rmL 2 0 0) D lo Γ [.ref t0, .ref a, .ref b] ((L, K, sz, si, P, bi, tu), M, V) (some (va_rf (some (lca T a b)))) ((L, K, sz, si, P, bi, tu), M, V) := by
  refine Mz_of (cc := cX1_meeting) (maxL := 6) (ret := (some (.object "SplayOrchard$Apple"))) (by decide) rfl (Nat.le_of_ble_eq_true rfl) ?_
  intro p e s m args below meth c ls S hr hlocks hK hH hS hl
  have hx := S.1
  have hb := S.2.1
  have hts := S.2.2.2.2
  have f32 : (Cond.fieldLink RX1 32 (TX0 0).1 (TX0 0).2.1 (TX0 0).2.2.1).before args s = true := hts _ (List.mem_of_getElem? (i := 1) rfl)
  have f7 : (Cond.fieldLink RX1 7 (TX1 0).1 (TX1 0).2.1 (TX1 0).2.2.1).before args s = true := hts _ (List.mem_of_getElem? (i := 9) rfl)
  have hi0 : ∀ w ∈ wsX00, w ∈ wsX1_meeting := by decide +kernel
  have hi1 : ∀ w ∈ wsX10, w ∈ wsX1_meeting := by decide +kernel
  have hl : lv_has ls 6 [(0, .ref t0), (1, .ref a), (2, .ref b)] := hl
  have hT := h
  obtain ⟨t_in, t_k, t_top, t_rep, t_nd, t_ok⟩ := h
  have ok_t0 : t0 ∈ L ∧ K t0 = 1 := ⟨t_in, t_k⟩
  have w1 : (Cond.methodLink RX1 66 Lib.Math.max.name).before args s = true := hts _ (List.mem_of_getElem? (i := 6) rfl)
  have w2 : (Cond.static Lib.Math.max.name).before args s = true := hts _ (List.mem_of_getElem? (i := 7) rfl)
  have w3 : (Cond.initialized "java/lang/Math").before args s = true := hts _ (List.mem_of_getElem? (i := 4) rfl)
  have w4 : (Cond.code Lib.Math.max.name Lib.Math.max.code 2 (some .int)).before args s = true := hts _ (List.mem_of_getElem? (i := 8) rfl)
  have v1 : (Cond.methodLink RX1 81 Lib.Math.min.name).before args s = true := hts _ (List.mem_of_getElem? (i := 2) rfl)
  have v2 : (Cond.static Lib.Math.min.name).before args s = true := hts _ (List.mem_of_getElem? (i := 3) rfl)
  have v4 : (Cond.code Lib.Math.min.name Lib.Math.min.code 2 (some .int)).before args s = true := hts _ (List.mem_of_getElem? (i := 5) rfl)
  have ok_a := (t_ok a ha).1
  have ok_b := (t_ok b hb9).1
  have ha9 := (t_ok a ha).2
  have hb8 := (t_ok b hb9).2
  refine lv_aload_n hx hb dX1_meeting_0 rfl (lv_at hl 1 rfl) ?_
  refine gA S hi0 hK hH ok_a 0 (by decide) f32 (v := .int (nI (sz a))) rfl dX1_meeting_1 ?_
  refine lv_aload_n hx hb dX1_meeting_4 rfl (lv_at hl 2 rfl) ?_
  refine gA S hi0 hK hH ok_b 0 (by decide) f32 (v := .int (nI (sz b))) rfl dX1_meeting_5 ?_
  refine va_mmin hx hb (S.2.2.1.trans hl.1.symm) S.2.2.2.1 v1 v2 w3 v4 (Nat.le_of_ble_eq_true rfl) (Nat.le_of_ble_eq_true rfl) (Nat.le_refl _) (Nat.le_refl _) dX1_meeting_8 ?_
  rw [nI_min (by omega) (by omega)]
  refine lv_istore_n (lv' := [(3, .int (nI (min (sz a) (sz b)))), (0, .ref t0), (1, .ref a), (2, .ref b)]) hx hb dX1_meeting_11 rfl hl (by decide) rfl (fun ls hl => ?_)
  refine lv_aload_n hx hb dX1_meeting_12 rfl (lv_at hl 2 rfl) ?_
  refine gA S hi0 hK hH ok_a 0 (by decide) f32 (v := .int (nI (sz a))) rfl dX1_meeting_13 ?_
  refine lv_aload_n hx hb dX1_meeting_16 rfl (lv_at hl 3 rfl) ?_
  refine gA S hi0 hK hH ok_b 0 (by decide) f32 (v := .int (nI (sz b))) rfl dX1_meeting_17 ?_
  refine va_mmax hx hb (S.2.2.1.trans hl.1.symm) S.2.2.2.1 w1 w2 w3 w4 (Nat.le_of_ble_eq_true rfl) (Nat.le_of_ble_eq_true rfl) (Nat.le_refl _) (Nat.le_refl _) dX1_meeting_20 ?_
  rw [nI_max (by omega) (by omega)]
  refine lv_istore (lv' := [(4, .int (nI (max (sz a) (sz b)))), (3, .int (nI (min (sz a) (sz b)))), (0, .ref t0), (1, .ref a), (2, .ref b)]) hx hb dX1_meeting_23 hl (by decide) rfl (fun ls hl => ?_)
  refine lv_aload_n hx hb dX1_meeting_25 rfl (lv_at hl 2 rfl) ?_
  refine gTp S hi1 hK hH ok_t0.1 ok_t0.2 f7 (v := va_rf (P 3 t0)) rfl dX1_meeting_26 ?_
  refine lq_astore (lv' := [(4, .int (nI (max (sz a) (sz b)))), (3, .int (nI (min (sz a) (sz b)))), (0, .ref t0), (1, .ref a), (2, .ref b)]) S dX1_meeting_29 hl (by decide) rfl (fun ls hl => ?_)
  obtain ⟨mn9, hmn⟩ : ∃ n, n = min (sz a) (sz b) := ⟨_, rfl⟩
  obtain ⟨mx9, hmx⟩ : ∃ n, n = max (sz a) (sz b) := ⟨_, rfl⟩
  rw [← hmn, ← hmx, t_top] at hl
  have loop : ∀ (T' : Tr) (par : Option Nat), rep P par T' → srt sz T' → (∀ x ∈ tids T', okA L K x ∧ sz x < 1000) → a ∈ tids T' → b ∈ tids T' → lca T' a b = lca T a b → ∀ H locs, Hp D lo Γ ((L, K, sz, si, P, bi, tu), M, V) H → va_S (lA lo) s.heap H locs → ∀ ls, lv_has ls 6 [(5, va_rf (rt T')), (4, .int (nI mx9)), (3, .int (nI mn9)), (0, .ref t0), (1, .ref a), (2, .ref b)] → W p l e (rmL 2 0 0) s m args below meth c H locs 0 0 (MQ below (Qz D lo Γ (fun v Z' => v = (some (va_rf (some (lca T a b)))) ∧ Z' = ((L, K, sz, si, P, bi, tu), M, V))) args s ((rmL 2 0 0) : Room).cells ((rmL 2 0 0) : Room).slots (lA lo)) (F0 m 31 ls []) := by
    intro T'
    induction T' with
    | leaf u => intro par _ _ _ h; cases h
    | branch k lt r9 ihl ihr =>
      intro par hrep hsr hok hin1 hin2 h3 H locs hH hS ls hl
      obtain ⟨g2, g0, g1, gl, gr⟩ := hrep
      obtain ⟨q1, q2, q3, q4⟩ := srt_l hsr
      have ok_k := (hok k (by simp [tids])).1
      have hk1000 := (hok k (by simp [tids])).2
      have hcl : ∀ x, x ∈ tids (.branch k lt r9) → (x ∈ tids lt ∧ sz x < sz k) ∨ x = k ∨ (x ∈ tids r9 ∧ sz k < sz x) := by
        intro x hx9
        rw [tids_branch] at hx9
        rcases List.mem_append.mp hx9 with h | h
        · exact Or.inl ⟨h, q3 x h⟩
        · rcases List.mem_cons.mp h with h | h
          · exact Or.inr (Or.inl h)
          · exact Or.inr (Or.inr ⟨h, q4 x h⟩)
      refine lv_aload hx hb dX1_meeting_31 (lv_at hl 0 rfl) ?_
      refine lv_ifnull hx hb dX1_meeting_33 ?_
      refine lv_aload hx hb dX1_meeting_36 (lv_at hl 0 rfl) ?_
      refine gA S hi0 hK hH ok_k 0 (by decide) f32 (v := .int (nI (sz k))) rfl dX1_meeting_38 ?_
      refine lv_iload_n hx hb dX1_meeting_41 rfl (lv_at hl 2 rfl) ?_
      refine lv_icmp_lt (tgt := 58) hx hb dX1_meeting_42 (by decide) (fun h1 => ?_) (fun h1 => ?_)
      · skip
        have h1 := (nI_ltI (by omega) (by omega)).mp h1
        refine lv_aload hx hb dX1_meeting_58 (lv_at hl 0 rfl) ?_
        refine lv_iload_n hx hb dX1_meeting_60 rfl (lv_at hl 2 rfl) ?_
        refine cV S (c_X0_towards (l := l) (D := D) (lo := lo) (Γ := Γ) (sz := sz) (si := si) (P := P) (bi := bi) (tu := tu) (M := M) (V := V) (x := nI mn9) ok_k) (cwV 1 hts gX1_meeting_X0_towards rfl rfl rfl (by decide +kernel) ⟨Nat.le_of_ble_eq_true rfl, Nat.le_of_ble_eq_true rfl⟩) hK hH (Hp_recv hK hH ok_k.1 ok_k.2 rfl) hS rfl hl.1 rfl (Nat.le_of_ble_eq_true rfl) dX1_meeting_61 ⟨Nat.le_of_ble_eq_true rfl, Nat.le_of_ble_eq_true rfl⟩ (fun v Z1 H locs hpost hH hS => ?_)
        obtain ⟨rfl, rfl⟩ := hpost
        refine lq_astore (lv' := [(4, .int (nI mx9)), (3, .int (nI mn9)), (0, .ref t0), (1, .ref a), (2, .ref b)]) S dX1_meeting_64 hl (by decide) rfl (fun ls hl => ?_)
        refine lv_goto (tgt := 31) hx hb dX1_meeting_66 (by decide) ?_
        have hia : a ∈ tids r9 := by rcases hcl a hin1 with h | h | h; omega; (subst h; omega); exact h.1
        have hib : b ∈ tids r9 := by rcases hcl b hin2 with h | h | h; omega; (subst h; omega); exact h.1
        have hna : ¬ (a ∈ tids lt ∧ b ∈ tids lt) := fun q => by have h5 := q3 a q.1; omega
        rw [lca, if_neg hna, if_pos ⟨hia, hib⟩] at h3
        have e1 : twd P sz (nI mn9) k = rt r9 := by rw [twd, if_neg (fun e => by have h5 := (nI_eq (by omega) (by omega)).mp e; omega), if_neg (fun e => by have h5 := (nI_ltI (by omega) (by omega)).mp e; omega), g1]
        rw [e1] at hl
        exact ihr (some k) gr q2 (fun x hx9 => hok x (by simp [tids, hx9])) hia hib h3 H locs hH hS ls (lv_sub hl [0, 1, 2, 3, 4, 5] rfl)
      · skip
        have h1 := fun q => h1 ((nI_ltI (a := sz k) (b := mn9) (by omega) (by omega)).mpr q)
        refine lv_aload hx hb dX1_meeting_45 (lv_at hl 0 rfl) ?_
        refine gA S hi0 hK hH ok_k 0 (by decide) f32 (v := .int (nI (sz k))) rfl dX1_meeting_47 ?_
        refine lv_iload hx hb dX1_meeting_50 (lv_at hl 1 rfl) ?_
        refine lv_icmp_gt (tgt := 58) hx hb dX1_meeting_52 (by decide) (fun h2 => ?_) (fun h2 => ?_)
        · skip
          have h2 := (nI_ltI (by omega) (by omega)).mp h2
          refine lv_aload hx hb dX1_meeting_58 (lv_at hl 0 rfl) ?_
          refine lv_iload_n hx hb dX1_meeting_60 rfl (lv_at hl 2 rfl) ?_
          refine cV S (c_X0_towards (l := l) (D := D) (lo := lo) (Γ := Γ) (sz := sz) (si := si) (P := P) (bi := bi) (tu := tu) (M := M) (V := V) (x := nI mn9) ok_k) (cwV 1 hts gX1_meeting_X0_towards rfl rfl rfl (by decide +kernel) ⟨Nat.le_of_ble_eq_true rfl, Nat.le_of_ble_eq_true rfl⟩) hK hH (Hp_recv hK hH ok_k.1 ok_k.2 rfl) hS rfl hl.1 rfl (Nat.le_of_ble_eq_true rfl) dX1_meeting_61 ⟨Nat.le_of_ble_eq_true rfl, Nat.le_of_ble_eq_true rfl⟩ (fun v Z1 H locs hpost hH hS => ?_)
          obtain ⟨rfl, rfl⟩ := hpost
          refine lq_astore (lv' := [(4, .int (nI mx9)), (3, .int (nI mn9)), (0, .ref t0), (1, .ref a), (2, .ref b)]) S dX1_meeting_64 hl (by decide) rfl (fun ls hl => ?_)
          refine lv_goto (tgt := 31) hx hb dX1_meeting_66 (by decide) ?_
          have hia : a ∈ tids lt := by rcases hcl a hin1 with h | h | h; exact h.1; (subst h; omega); omega
          have hib : b ∈ tids lt := by rcases hcl b hin2 with h | h | h; exact h.1; (subst h; omega); omega
          rw [lca, if_pos ⟨hia, hib⟩] at h3
          have e1 : twd P sz (nI mn9) k = rt lt := by rw [twd, if_neg (fun e => by have h5 := (nI_eq (by omega) (by omega)).mp e; omega), if_pos ((nI_ltI (by omega) (by omega)).mpr (by omega)), g0]
          rw [e1] at hl
          exact ihl (some k) gl q1 (fun x hx9 => hok x (by simp [tids, hx9])) hia hib h3 H locs hH hS ls (lv_sub hl [0, 1, 2, 3, 4, 5] rfl)
        · skip
          have h2 := fun q => h2 ((nI_ltI (a := mx9) (b := sz k) (by omega) (by omega)).mpr q)
          refine lv_aload hx hb dX1_meeting_55 (lv_at hl 0 rfl) ?_
          have h1 : mn9 ≤ sz k := Nat.not_lt.mp h1
          have h2 : sz k ≤ mx9 := Nat.not_lt.mp h2
          have hnl : ¬ (a ∈ tids lt ∧ b ∈ tids lt) := fun q => by have h5 := q3 a q.1; have h6 := q3 b q.2; omega
          have hnr : ¬ (a ∈ tids r9 ∧ b ∈ tids r9) := fun q => by have h5 := q4 a q.1; have h6 := q4 b q.2; omega
          rw [lca, if_neg hnl, if_neg hnr] at h3
          exact eA S hr hlocks (some k) rfl hH hS ⟨by rw [← h3], rfl⟩ dX1_meeting_57
  exact loop T none t_rep hs t_ok ha hb9 rfl _ _ hH hS ls (lv_sub hl [0, 1, 2, 3, 4, 5] rfl)

set_option maxRecDepth 100000 in
set_option maxHeartbeats 4000000 in
theorem c_X1_standInFor {t9 t0 : Nat} {T : Tr} (ok_t9 : t9 ∈ L ∧ K t9 = 1) (h : TR L K sz P t0 T) (hsi : ∀ a ∈ tids T, ∃ b, si a = some b ∧ b ∉ tids T) : Md l yX1_standInFor wsX1_standInFor (rmL 3 0 0) D lo Γ [.ref t9, .ref t0] ((L, K, sz, si, P, bi, tu), M, V) none ((L, K, sz, si, (sP (lnks P si (tids T)) 3 t9 ((rt T).bind si)), bi, tu), M, V) := by
  refine Mz_of (cc := cX1_standInFor) (maxL := 3) (ret := none) (by decide) rfl (Nat.le_of_ble_eq_true rfl) ?_
  intro p e s m args below meth c ls S hr hlocks hK hH hS hl
  have hx := S.1
  have hb := S.2.1
  have hts := S.2.2.2.2
  have f7 : (Cond.fieldLink RX1 7 (TX1 0).1 (TX1 0).2.1 (TX1 0).2.2.1).before args s = true := hts _ (List.mem_of_getElem? (i := 1) rfl)
  have hi1 : ∀ w ∈ wsX10, w ∈ wsX1_standInFor := by decide +kernel
  have hl : lv_has ls 3 [(0, .ref t9), (1, .ref t0)] := hl
  have hT := h
  obtain ⟨t_in, t_k, t_top, t_rep, t_nd, t_ok⟩ := h
  have ok_t0 : t0 ∈ L ∧ K t0 = 1 := ⟨t_in, t_k⟩
  refine lv_aload_n hx hb dX1_standInFor_0 rfl (lv_at hl 1 rfl) ?_
  refine cV S (c_X1_first (l := l) (D := D) (lo := lo) (Γ := Γ) (sz := sz) (si := si) (P := P) (bi := bi) (tu := tu) (M := M) (V := V) hT) (cwV 0 hts gX1_standInFor_X1_first rfl rfl rfl (by decide +kernel) ⟨Nat.le_of_ble_eq_true rfl, Nat.le_of_ble_eq_true rfl⟩) hK hH (Hp_recv hK hH ok_t0.1 ok_t0.2 rfl) hS rfl hl.1 rfl (Nat.le_of_ble_eq_true rfl) dX1_standInFor_1 ⟨Nat.le_of_ble_eq_true rfl, Nat.le_of_ble_eq_true rfl⟩ (fun v Z1 H locs hpost hH hS => ?_)
  obtain ⟨rfl, rfl⟩ := hpost
  refine lq_astore_n (lv' := [(0, .ref t9), (1, .ref t0)]) S dX1_standInFor_4 rfl hl (by decide) rfl (fun ls hl => ?_)
  have loop : ∀ (post pre : List Nat) (P' : PF), tids T = pre ++ post → rep P' none T → P' 3 t0 = rt T → lnks P' si post = lnks P si (tids T) → ∀ H locs, Hp D lo Γ ((L, K, sz, si, P', bi, tu), M, V) H → va_S (lA lo) s.heap H locs → ∀ ls, lv_has ls 3 [(2, va_rf (post.head?)), (0, .ref t9), (1, .ref t0)] → W p l e (rmL 3 0 0) s m args below meth c H locs 0 0 (MQ below (Qz D lo Γ (fun v Z' => v = none ∧ Z' = ((L, K, sz, si, (sP (lnks P si (tids T)) 3 t9 ((rt T).bind si)), bi, tu), M, V))) args s ((rmL 3 0 0) : Room).cells ((rmL 3 0 0) : Room).slots (lA lo)) (F0 m 5 ls []) := by
    intro post
    induction post with
    | nil =>
      intro pre P' hx2 hrep htop h3 H locs hH hS ls hl
      refine lv_aload_nN hx hb dX1_standInFor_5 rfl (lv_at hl 0 rfl) ?_
      refine lv_ifnullN hx hb dX1_standInFor_6 (tgt := 21) (by decide) ?_
      refine lv_aload_n hx hb dX1_standInFor_21 rfl (lv_at hl 1 rfl) ?_
      refine lv_aload_n hx hb dX1_standInFor_22 rfl (lv_at hl 2 rfl) ?_
      refine gTp S hi1 hK hH ok_t0.1 ok_t0.2 f7 (v := va_rf (P' 3 t0)) rfl dX1_standInFor_23 ?_
      rw [htop]
      refine cSt S (c_X0_standInOf (l := l) (D := D) (lo := lo) (Γ := Γ) (sz := sz) (si := si) (P := P') (bi := bi) (tu := tu) (M := M) (V := V) (r := rt T) (fun x h => (t_ok x (rt_mem h)).1)) (va_cwS 1 hts gX1_standInFor_X0_standInOf rfl rfl rfl (by decide +kernel) ⟨Nat.le_of_ble_eq_true rfl, Nat.le_of_ble_eq_true rfl⟩) hK hH hS rfl hl.1 rfl (Nat.le_of_ble_eq_true rfl) dX1_standInFor_26 ⟨Nat.le_of_ble_eq_true rfl, Nat.le_of_ble_eq_true rfl⟩ (fun v Z1 H locs hpost hH hS => ?_)
      obtain ⟨rfl, rfl⟩ := hpost
      refine pT S hi1 hK hH hS ok_t9.1 ok_t9.2 ((rt T).bind si) (fun x h => by obtain ⟨y, h1, h2⟩ := Option.bind_eq_some_iff.mp h; exact hH.2.2.2.2.1 y (t_ok y (rt_mem h1)).1 x h2) f7 rfl dX1_standInFor_29 (fun H locs hH hS => ?_)
      exact eV S hr hlocks hH hS ⟨rfl, by rw [← h3]; rfl⟩ dX1_standInFor_32
    | cons b post ih =>
      intro pre P' hx2 hrep htop h3 H locs hH hS ls hl
      have hbT : b ∈ tids T := by rw [hx2]; simp
      have ok_b := (t_ok b hbT).1
      obtain ⟨b', hsb, hbn⟩ := hsi b hbT
      refine lv_aload_n hx hb dX1_standInFor_5 rfl (lv_at hl 0 rfl) ?_
      refine lv_ifnull hx hb dX1_standInFor_6 ?_
      refine lv_aload_n hx hb dX1_standInFor_9 rfl (lv_at hl 0 rfl) ?_
      refine cV S (c_X0_linkStandIn (l := l) (D := D) (lo := lo) (Γ := Γ) (sz := sz) (si := si) (P := P') (bi := bi) (tu := tu) (M := M) (V := V) ok_b hsb) (cwV 0 hts gX1_standInFor_X0_linkStandIn rfl rfl rfl (by decide +kernel) ⟨Nat.le_of_ble_eq_true rfl, Nat.le_of_ble_eq_true rfl⟩) hK hH (Hp_recv hK hH ok_b.1 ok_b.2 rfl) hS rfl hl.1 rfl (Nat.le_of_ble_eq_true rfl) dX1_standInFor_10 ⟨Nat.le_of_ble_eq_true rfl, Nat.le_of_ble_eq_true rfl⟩ (fun v Z1 H locs hpost hH hS => ?_)
      obtain ⟨rfl, rfl⟩ := hpost
      refine lv_aload_n hx hb dX1_standInFor_13 rfl (lv_at hl 0 rfl) ?_
      have hrep2 : rep (lnk P' si b b') none T := rep_congr T _ hrep (fun x hx9 => by
        have hne : x ≠ b' := fun e => hbn (by rw [← e]; exact hx9)
        exact ⟨lnk_ne hne, lnk_ne hne, lnk_ne hne⟩)
      refine cV S (c_X0_nextL (l := l) (D := D) (lo := lo) (Γ := Γ) (sz := sz) (si := si) (P := (lnk P' si b b')) (bi := bi) (tu := tu) (M := M) (V := V) ok_b hrep2 t_nd hx2) (cwV 0 hts gX1_standInFor_X0_next rfl rfl rfl (by decide +kernel) ⟨Nat.le_of_ble_eq_true rfl, Nat.le_of_ble_eq_true rfl⟩) hK hH (Hp_recv hK hH ok_b.1 ok_b.2 rfl) hS rfl hl.1 rfl (Nat.le_of_ble_eq_true rfl) dX1_standInFor_14 ⟨Nat.le_of_ble_eq_true rfl, Nat.le_of_ble_eq_true rfl⟩ (fun v Z1 H locs hpost hH hS => ?_)
      obtain ⟨rfl, rfl⟩ := hpost
      refine lq_astore_n (lv' := [(0, .ref t9), (1, .ref t0)]) S dX1_standInFor_17 rfl hl (by decide) rfl (fun ls hl => ?_)
      refine lv_goto (tgt := 5) hx hb dX1_standInFor_18 (by decide) ?_
      exact ih (pre ++ [b]) (lnk P' si b b') (by rw [hx2]; simp) hrep2 (by rw [lnk_3]; exact htop) (by rw [← h3, lnks, hsb]) H locs hH hS ls (lv_sub hl [0, 1, 2] rfl)
  exact loop (tids T) [] P rfl t_rep t_top rfl _ _ hH hS ls (lv_sub hl [0, 1, 2] rfl)
end MTree3
