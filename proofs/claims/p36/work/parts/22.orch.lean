/-! METHODS of SplayOrchard: what the class is, its helpers -/
def rowN (x : Int32) : Option Nat := if x < 0 then none else if x < 6 then some x.toNatClampNeg else none
def szN (x : Int32) : Option Nat := if x < 0 then none else if x ≤ 999 then some x.toNatClampNeg else none
theorem rowN_in {x : Int32} (h1 : ¬ x < 0) (h2 : x < 6) : ∃ r, r < 6 ∧ x = nI r := by
  obtain ⟨j, hj, rfl⟩ := nI_of h1
  exact ⟨j, (nI_ltI (b := 6) hj (by omega)).mp h2, rfl⟩
theorem rowN_nI {r : Nat} (h : r < 6) : rowN (nI r) = some r := by
  rw [rowN, if_neg (nI_pos (by omega)), if_pos (show nI r < 6 from (nI_ltI (b := 6) (by omega) (by omega)).mpr h), nI_clamp (by omega)]
theorem rowN_some {x : Int32} {r : Nat} (h : rowN x = some r) : r < 6 ∧ x = nI r := by
  unfold rowN at h
  split at h
  · cases h
  · rename_i h1
    split at h
    · rename_i h2
      obtain ⟨j, hj, rfl⟩ := rowN_in h1 h2
      rw [nI_clamp (by omega)] at h
      cases h
      exact ⟨hj, rfl⟩
    · cases h
theorem szN_in {x : Int32} (h1 : ¬ x < 0) (h2 : x ≤ 999) : ∃ n, szN x = some n := ⟨_, by rw [szN, if_neg h1, if_pos h2]⟩
theorem szN_some {x : Int32} {n : Nat} (h : szN x = some n) : n < 1000 ∧ x = nI n := by
  unfold szN at h
  split at h
  · cases h
  · rename_i h1
    split at h
    · rename_i h2
      obtain ⟨j, hj, rfl⟩ := nI_of h1
      have := (nI_leI (b := 999) hj (by omega)).mp h2
      rw [nI_clamp (by omega)] at h
      cases h
      exact ⟨by omega, rfl⟩
    · cases h
def gids (T : Nat → Tr) : List Nat := tids (T 0) ++ (tids (T 1) ++ (tids (T 2) ++ (tids (T 3) ++ (tids (T 4) ++ tids (T 5)))))
theorem gids_mem {T : Nat → Tr} {a : Nat} : a ∈ gids T ↔ ∃ r, r < 6 ∧ a ∈ tids (T r) := by
  unfold gids
  simp only [List.mem_append]
  constructor
  · rintro (h | h | h | h | h | h)
    · exact ⟨0, by omega, h⟩
    · exact ⟨1, by omega, h⟩
    · exact ⟨2, by omega, h⟩
    · exact ⟨3, by omega, h⟩
    · exact ⟨4, by omega, h⟩
    · exact ⟨5, by omega, h⟩
  · rintro ⟨r, hr, h⟩
    rcases r with _ | _ | _ | _ | _ | _ | r
    · exact Or.inl h
    · exact Or.inr (Or.inl h)
    · exact Or.inr (Or.inr (Or.inl h))
    · exact Or.inr (Or.inr (Or.inr (Or.inl h)))
    · exact Or.inr (Or.inr (Or.inr (Or.inr (Or.inl h))))
    · exact Or.inr (Or.inr (Or.inr (Or.inr (Or.inr h))))
    · omega
/-- how many from the row r on -/
def cntF (T : Nat → Tr) (r : Nat) : Nat := (((List.range 6).drop r).map (fun i => (tids (T i)).length)).sum
theorem cntF_0 (T : Nat → Tr) : cntF T 0 = (gids T).length := by
  simp [cntF, gids, List.range, List.range.loop]
theorem cntF_s {T : Nat → Tr} {r : Nat} (h : r < 6) : cntF T r = (tids (T r)).length + cntF T (r + 1) := by
  have : r = 0 ∨ r = 1 ∨ r = 2 ∨ r = 3 ∨ r = 4 ∨ r = 5 := by omega
  rcases this with rfl | rfl | rfl | rfl | rfl | rfl <;> simp [cntF, List.range, List.range.loop]
def OG (Γ : GT) (o : Nat) (L : List Nat) (K : Nat → Nat) : Prop := (o ∈ L ∧ K o = 2) ∧ (∀ b, b ∈ L → K b = 2 → b = o) ∧ (gra Γ ∈ L ∧ K (gra Γ) = 6) ∧ (gtt Γ ∈ L ∧ K (gtt Γ) = 1) ∧ (∀ r, r < 6 → gta Γ r ≠ gtt Γ) ∧ ∀ r r', r < 6 → r' < 6 → gta Γ r = gta Γ r' → r = r'
/-- the class's state: T the trees of the six rows -/
def CI (Γ : GT) (o : Nat) (T : Nat → Tr) (L : List Nat) (K sz : Nat → Nat) (si : Nat → Option Nat) (P : PF) : Prop :=
  OG Γ o L K ∧ (∀ r, r < 6 → TR L K sz P (gta Γ r) (T r) ∧ srt sz (T r)) ∧ (gids T).Nodup ∧ (∀ a ∈ gids T, ∃ b, si a = some b ∧ okA L K b ∧ b ∉ gids T ∧ sz b = sz a) ∧ (∀ a ∈ gids T, ∀ a' ∈ gids T, si a = si a' → a = a') ∧ (gids T).length ≤ 40
def CSW (Γ : GT) (o : Nat) (T : Nat → Tr) (sz bi : Nat → Nat) (tu : Nat) (M : MW) (V : Int64 × UInt64) (Z : WS) : Prop := ∃ L K si P, Z = ((L, K, sz, si, P, bi, tu), M, V) ∧ CI Γ o T L K sz si P
/-- a query's answer: its code (0: an answer, else which exception), the number -/
def PoI (Γ : GT) (o : Nat) (T : Nat → Tr) (sz bi : Nat → Nat) (tu : Nat) (M : MW) (V : Int64 × UInt64) (rs : Nat × Int32) : Option Value → WS → Prop := fun v Z' => rs.1 = 0 ∧ v = some (.int rs.2) ∧ CSW Γ o T sz bi tu M V Z'
def PxI (Γ : GT) (o : Nat) (T : Nat → Tr) (sz bi : Nat → Nat) (tu : Nat) (M : MW) (V : Int64 × UInt64) (rs : Nat × Int32) (en : Nat → String) : String → WS → Prop := fun E Z' => rs.1 ≠ 0 ∧ E = en rs.1 ∧ CSW Γ o T sz bi tu M V Z'
def en2 (k : Nat) : String := if k = 1 then "java/lang/IndexOutOfBoundsException" else "java/lang/IllegalStateException"
def en3 (k : Nat) : String := if k = 1 then "java/lang/IndexOutOfBoundsException" else if k = 2 then "java/lang/IllegalArgumentException" else "java/lang/IllegalStateException"
def qr (row : Int32) (f : Nat → Int32) : Nat × Int32 := match rowN row with
  | none => (1, 0)
  | some r => (0, f r)
def qa (T : Nat → Tr) (sz : Nat → Nat) (row x : Int32) (f : Nat → Nat → Int32) : Nat × Int32 := match rowN row with
  | none => (1, 0)
  | some r => match fnd sz x.toInt (T r) with
    | none => (2, 0)
    | some a => (0, f r a)
section MOrch
variable {l : Launch} {D : va_G} {lo : Nat} {Γ : GT} {L : List Nat} {K : Nat → Nat} {sz : Nat → Nat} {si : Nat → Option Nat} {P : PF} {bi : Nat → Nat} {tu : Nat} {M : MW} {V : Int64 × UInt64}
set_option maxRecDepth 100000 in
set_option maxHeartbeats 4000000 in
theorem c_X2_treeOf {o : Nat} {T : Nat → Tr} {row : Int32} (hst : l.stackTraces = false) (hc : CI Γ o T L K sz si P) : Mx l yX2_treeOf wsX2_treeOf (rmL 6 1 6) D lo Γ [.ref o, .int row] ((L, K, sz, si, P, bi, tu), M, V) (fun v Z' => ∃ r, rowN row = some r ∧ v = some (.ref (gta Γ r)) ∧ Z' = ((L, K, sz, si, P, bi, tu), M, V)) (fun E Z' => E = "java/lang/IndexOutOfBoundsException" ∧ rowN row = none ∧ Z' = ((L, K, sz, si, P, bi, tu), M, V)) := by
  refine Mx_of (cc := cX2_treeOf) (maxL := 2) (ret := (some (.object "SplayOrchard$Tree"))) (by decide) rfl (Nat.le_of_ble_eq_true rfl) ?_
  intro p e s m args below meth c ls S hr hlocks hK hH hS hX ht hl
  have hx := S.1
  have hb := S.2.1
  have hts := S.2.2.2.2
  have f11 : (Cond.fieldLink RX2 11 (TX2 0).1 (TX2 0).2.1 (TX2 0).2.2.1).before args s = true := hts _ (List.mem_of_getElem? (i := 3) rfl)
  have hi2 : ∀ w ∈ wsX20, w ∈ wsX2_treeOf := by decide +kernel
  have hl : lv_has ls 2 [(0, .ref o), (1, .int row)] := hl
  have hc0 := hc
  obtain ⟨hg, c_t, c_nd, c_si, c_inj, c_40⟩ := hc
  obtain ⟨ok_o, o_u, ok_ra, ok_tt, tt_ne, ta_inj⟩ := hg
  refine lv_iload_n hx hb dX2_treeOf_0 rfl (lv_at hl 1 rfl) ?_
  refine lv_if_lt (tgt := 13) hx hb dX2_treeOf_1 (by decide) (fun h1 => ?_) (fun h1 => ?_)
  · skip
    exact tS (cls := "java/lang/IndexOutOfBoundsException") (text := "no such row") (ik := 125) (is := 206) (ic := 129) S hst hX hlocks ht hH hS ⟨rfl, by rw [rowN, if_pos h1], rfl⟩ (by simp [xstr]) (by decide +kernel) (hts _ (List.mem_of_getElem? (i := 1) rfl)) (hts _ (List.mem_of_getElem? (i := 2) rfl)) (xg_all xg1 (hX.2.2.2.1 _ (by simp [xcl])) hX.2.2.2.2 (fun w h => hts w (List.mem_cons_of_mem _ (List.mem_append_right _ h)))) (by decide +kernel) hl.1 dX2_treeOf_13 dX2_treeOf_16 dX2_treeOf_17 dX2_treeOf_19 dX2_treeOf_22 (Nat.le_of_ble_eq_true rfl) (Nat.le_of_ble_eq_true rfl) (Nat.le_of_ble_eq_true rfl) (Nat.le_of_ble_eq_true rfl) (Nat.le_of_ble_eq_true rfl) (Nat.le_of_ble_eq_true rfl)
  · skip
    refine lv_iload_n hx hb dX2_treeOf_4 rfl (lv_at hl 1 rfl) ?_
    refine lv_aload_n hx hb dX2_treeOf_5 rfl (lv_at hl 0 rfl) ?_
    refine gO S hi2 hK hH ok_o.1 ok_o.2 0 (by decide) f11 (v := .ref (gra Γ)) rfl dX2_treeOf_6 ?_
    refine gRl S hK hH ok_ra dX2_treeOf_9 ?_
    refine lv_icmp_lt (tgt := 23) hx hb dX2_treeOf_10 (by decide) (fun h2 => ?_) (fun h2 => ?_)
    · skip
      obtain ⟨r, hr6, hrow⟩ := rowN_in h1 h2
      refine lv_aload_n hx hb dX2_treeOf_23 rfl (lv_at hl 0 rfl) ?_
      refine gO S hi2 hK hH ok_o.1 ok_o.2 0 (by decide) f11 (v := .ref (gra Γ)) rfl dX2_treeOf_24 ?_
      refine lv_iload_n hx hb dX2_treeOf_27 rfl (lv_at hl 1 rfl) ?_
      refine gR (L := L) (K := K) S hK hH ok_ra hr6 hrow dX2_treeOf_28 ?_
      refine W.widen (k := 1) (n := 6) (Nat.le_of_ble_eq_true rfl) (Nat.le_of_ble_eq_true rfl) ?_
      exact vx_ret (eA S hr hlocks (some (gta Γ r)) rfl hH hS ⟨r, by rw [hrow]; exact rowN_nI hr6, rfl, rfl⟩ dX2_treeOf_29)
    · skip
      exact tS (cls := "java/lang/IndexOutOfBoundsException") (text := "no such row") (ik := 125) (is := 206) (ic := 129) S hst hX hlocks ht hH hS ⟨rfl, by rw [rowN, if_neg h1, if_neg h2], rfl⟩ (by simp [xstr]) (by decide +kernel) (hts _ (List.mem_of_getElem? (i := 1) rfl)) (hts _ (List.mem_of_getElem? (i := 2) rfl)) (xg_all xg1 (hX.2.2.2.1 _ (by simp [xcl])) hX.2.2.2.2 (fun w h => hts w (List.mem_cons_of_mem _ (List.mem_append_right _ h)))) (by decide +kernel) hl.1 dX2_treeOf_13 dX2_treeOf_16 dX2_treeOf_17 dX2_treeOf_19 dX2_treeOf_22 (Nat.le_of_ble_eq_true rfl) (Nat.le_of_ble_eq_true rfl) (Nat.le_of_ble_eq_true rfl) (Nat.le_of_ble_eq_true rfl) (Nat.le_of_ble_eq_true rfl) (Nat.le_of_ble_eq_true rfl)

set_option maxRecDepth 100000 in
set_option maxHeartbeats 4000000 in
theorem c_X2_checkSize {x : Int32} (hst : l.stackTraces = false) : Mx l yX2_checkSize wsX2_checkSize (rmL 6 1 6) D lo Γ [.int x] ((L, K, sz, si, P, bi, tu), M, V) (fun v Z' => ∃ n, szN x = some n ∧ v = none ∧ Z' = ((L, K, sz, si, P, bi, tu), M, V)) (fun E Z' => E = "java/lang/IllegalArgumentException" ∧ szN x = none ∧ Z' = ((L, K, sz, si, P, bi, tu), M, V)) := by
  refine Mx_of (cc := cX2_checkSize) (maxL := 1) (ret := none) (by decide) rfl (Nat.le_of_ble_eq_true rfl) ?_
  intro p e s m args below meth c ls S hr hlocks hK hH hS hX ht hl
  have hx := S.1
  have hb := S.2.1
  have hts := S.2.2.2.2
  have hl : lv_has ls 1 [(0, .int x)] := hl
  refine lv_iload_n hx hb dX2_checkSize_0 rfl (lv_at hl 0 rfl) ?_
  refine lv_if_lt (tgt := 11) hx hb dX2_checkSize_1 (by decide) (fun h1 => ?_) (fun h1 => ?_)
  · skip
    exact tS (cls := "java/lang/IllegalArgumentException") (text := "the size is not 0 to 999") (ik := 208) (is := 210) (ic := 212) S hst hX hlocks ht hH hS ⟨rfl, by rw [szN, if_pos h1], rfl⟩ (by simp [xstr]) (by decide +kernel) (hts _ (List.mem_of_getElem? (i := 1) rfl)) (hts _ (List.mem_of_getElem? (i := 2) rfl)) (xg_all xg2 (hX.2.2.2.1 _ (by simp [xcl])) hX.2.2.2.2 (fun w h => hts w (List.mem_cons_of_mem _ (List.mem_append_right _ h)))) (by decide +kernel) hl.1 dX2_checkSize_11 dX2_checkSize_14 dX2_checkSize_15 dX2_checkSize_17 dX2_checkSize_20 (Nat.le_of_ble_eq_true rfl) (Nat.le_of_ble_eq_true rfl) (Nat.le_of_ble_eq_true rfl) (Nat.le_of_ble_eq_true rfl) (Nat.le_of_ble_eq_true rfl) (Nat.le_of_ble_eq_true rfl)
  · skip
    refine lv_iload_n hx hb dX2_checkSize_4 rfl (lv_at hl 0 rfl) ?_
    refine lv_sipush (v := 999) hx hb dX2_checkSize_5 (by decide +kernel) ?_
    refine lv_icmp_le (tgt := 21) hx hb dX2_checkSize_8 (by decide) (fun h2 => ?_) (fun h2 => ?_)
    · skip
      obtain ⟨n9, hn9⟩ := szN_in h1 h2
      refine W.widen (k := 1) (n := 6) (Nat.le_of_ble_eq_true rfl) (Nat.le_of_ble_eq_true rfl) ?_
      exact vx_ret (eV S hr hlocks hH hS ⟨n9, hn9, rfl, rfl⟩ dX2_checkSize_21)
    · skip
      exact tS (cls := "java/lang/IllegalArgumentException") (text := "the size is not 0 to 999") (ik := 208) (is := 210) (ic := 212) S hst hX hlocks ht hH hS ⟨rfl, by rw [szN, if_neg h1, if_neg h2], rfl⟩ (by simp [xstr]) (by decide +kernel) (hts _ (List.mem_of_getElem? (i := 1) rfl)) (hts _ (List.mem_of_getElem? (i := 2) rfl)) (xg_all xg2 (hX.2.2.2.1 _ (by simp [xcl])) hX.2.2.2.2 (fun w h => hts w (List.mem_cons_of_mem _ (List.mem_append_right _ h)))) (by decide +kernel) hl.1 dX2_checkSize_11 dX2_checkSize_14 dX2_checkSize_15 dX2_checkSize_17 dX2_checkSize_20 (Nat.le_of_ble_eq_true rfl) (Nat.le_of_ble_eq_true rfl) (Nat.le_of_ble_eq_true rfl) (Nat.le_of_ble_eq_true rfl) (Nat.le_of_ble_eq_true rfl) (Nat.le_of_ble_eq_true rfl)

set_option maxRecDepth 100000 in
set_option maxHeartbeats 4000000 in
theorem c_X2_appleOf {t0 : Nat} {T : Tr} {x : Int32} (hst : l.stackTraces = false) (h : TR L K sz P t0 T) : Mx l yX2_appleOf wsX2_appleOf (rmL 6 1 6) D lo Γ [.ref t0, .int x] ((L, K, sz, si, P, bi, tu), M, V) (fun v Z' => ∃ a, fnd sz x.toInt T = some a ∧ v = some (.ref a) ∧ Z' = ((L, K, sz, si, P, bi, tu), M, V)) (fun E Z' => E = "java/lang/IllegalStateException" ∧ fnd sz x.toInt T = none ∧ Z' = ((L, K, sz, si, P, bi, tu), M, V)) := by
  refine Mx_of (cc := cX2_appleOf) (maxL := 3) (ret := (some (.object "SplayOrchard$Apple"))) (by decide) rfl (Nat.le_of_ble_eq_true rfl) ?_
  intro p e s m args below meth c ls S hr hlocks hK hH hS hX ht hl
  have hx := S.1
  have hb := S.2.1
  have hts := S.2.2.2.2
  have hl : lv_has ls 3 [(0, .ref t0), (1, .int x)] := hl
  have ok_t0 : t0 ∈ L ∧ K t0 = 1 := ⟨h.1, h.2.1⟩
  refine lv_aload_n hx hb dX2_appleOf_0 rfl (lv_at hl 0 rfl) ?_
  refine lv_iload_n hx hb dX2_appleOf_1 rfl (lv_at hl 1 rfl) ?_
  refine cV S (c_X1_find (l := l) (D := D) (lo := lo) (Γ := Γ) (sz := sz) (si := si) (P := P) (bi := bi) (tu := tu) (M := M) (V := V) (x := x) h) (cwV 1 hts gX2_appleOf_X1_find rfl rfl rfl (by decide +kernel) ⟨Nat.le_of_ble_eq_true rfl, Nat.le_of_ble_eq_true rfl⟩) hK hH (Hp_recv hK hH ok_t0.1 ok_t0.2 rfl) hS rfl hl.1 rfl (Nat.le_of_ble_eq_true rfl) dX2_appleOf_2 ⟨Nat.le_of_ble_eq_true rfl, Nat.le_of_ble_eq_true rfl⟩ (fun v Z1 H locs hpost hH hS => ?_)
  obtain ⟨rfl, rfl⟩ := hpost
  refine lq_astore_n (lv' := [(0, .ref t0), (1, .int x)]) S dX2_appleOf_5 rfl hl (by decide) rfl (fun ls hl => ?_)
  refine lq_aload_n S dX2_appleOf_6 rfl (lv_at hl 0 rfl) ?_
  refine lq_ifnonnull S dX2_appleOf_7 (tgt := 20) (by decide) (fun a hq => ?_) (fun hq => ?_)
  · skip
    refine lq_aload_n S dX2_appleOf_20 rfl (lv_at hl 0 rfl) ?_
    refine W.widen (k := 1) (n := 6) (Nat.le_of_ble_eq_true rfl) (Nat.le_of_ble_eq_true rfl) ?_
    exact vx_ret (eA S hr hlocks _ rfl hH hS ⟨a, hq, by rw [hq]; rfl, rfl⟩ dX2_appleOf_21)
  · skip
    exact tS (cls := "java/lang/IllegalStateException") (text := "no apple of this size in the row") (ik := 32) (is := 213) (ic := 36) S hst hX hlocks ht hH hS ⟨rfl, hq, rfl⟩ (by simp [xstr]) (by decide +kernel) (hts _ (List.mem_of_getElem? (i := 1) rfl)) (hts _ (List.mem_of_getElem? (i := 2) rfl)) (xg_all xg3 (hX.2.2.2.1 _ (by simp [xcl])) hX.2.2.2.2 (fun w h => hts w (List.mem_cons_of_mem _ (List.mem_append_right _ h)))) (by decide +kernel) hl.1 dX2_appleOf_10 dX2_appleOf_13 dX2_appleOf_14 dX2_appleOf_16 dX2_appleOf_19 (Nat.le_of_ble_eq_true rfl) (Nat.le_of_ble_eq_true rfl) (Nat.le_of_ble_eq_true rfl) (Nat.le_of_ble_eq_true rfl) (Nat.le_of_ble_eq_true rfl) (Nat.le_of_ble_eq_true rfl)

set_option maxRecDepth 100000 in
set_option maxHeartbeats 4000000 in
theorem c_X2_sizeOrNone {r : Option Nat} (okq : ∀ b, r = some b → okA L K b) : Md l yX2_sizeOrNone wsX2_sizeOrNone (rmL 1 0 0) D lo Γ [va_rf r] ((L, K, sz, si, P, bi, tu), M, V) (some (.int (er (r.map sz)))) ((L, K, sz, si, P, bi, tu), M, V) := by
  refine Mz_of (cc := cX2_sizeOrNone) (maxL := 1) (ret := (some .int)) (by decide) rfl (by cases r <;> exact Nat.le_of_ble_eq_true rfl) ?_
  intro p e s m args below meth c ls S hr hlocks hK hH hS hl
  have hx := S.1
  have hb := S.2.1
  have hts := S.2.2.2.2
  have f130 : (Cond.fieldLink RX2 130 (TX0 0).1 (TX0 0).2.1 (TX0 0).2.2.1).before args s = true := hts _ (List.mem_of_getElem? (i := 1) rfl)
  have hi0 : ∀ w ∈ wsX00, w ∈ wsX2_sizeOrNone := by decide +kernel
  have hl : lv_has ls 1 [(0, va_rf r)] := hl
  refine lq_aload_n S dX2_sizeOrNone_0 rfl (lv_at hl 0 rfl) ?_
  refine lq_ifnonnull S dX2_sizeOrNone_1 (tgt := 8) (by decide) (fun x hq => ?_) (fun hq => ?_)
  · skip
    subst hq
    have ok_x := okq x rfl
    refine lv_aload_n hx hb dX2_sizeOrNone_8 rfl (lv_at hl 0 rfl) ?_
    refine gA S hi0 hK hH ok_x 0 (by decide) f130 (v := .int (nI (sz x))) rfl dX2_sizeOrNone_9 ?_
    exact eI S hr hlocks hH hS ⟨rfl, rfl⟩ dX2_sizeOrNone_12
  · skip
    subst hq
    refine lv_iconst (v := -1) hx hb dX2_sizeOrNone_4 (by decide) ?_
    refine lv_goto (tgt := 12) hx hb dX2_sizeOrNone_5 (by decide) ?_
    exact eI S hr hlocks hH hS ⟨rfl, rfl⟩ dX2_sizeOrNone_12

set_option maxRecDepth 100000 in
set_option maxHeartbeats 4000000 in
theorem c_X2_turnings {o : Nat} (ok_o : o ∈ L ∧ K o = 2) : Md l yX2_turnings wsX2_turnings (rmL 1 0 0) D lo Γ [.ref o] ((L, K, sz, si, P, bi, tu), M, V) (some (.int (nI tu))) ((L, K, sz, si, P, bi, tu), M, V) := by
  refine Mz_of (cc := cX2_turnings) (maxL := 1) (ret := (some .int)) (by decide) rfl (Nat.le_of_ble_eq_true rfl) ?_
  intro p e s m args below meth c ls S hr hlocks hK hH hS hl
  have hx := S.1
  have hb := S.2.1
  have hts := S.2.2.2.2
  have f102 : (Cond.fieldLink RX2 102 (TX2 2).1 (TX2 2).2.1 (TX2 2).2.2.1).before args s = true := hts _ (List.mem_of_getElem? (i := 1) rfl)
  have hi2 : ∀ w ∈ wsX20, w ∈ wsX2_turnings := by decide +kernel
  have hl : lv_has ls 1 [(0, .ref o)] := hl
  refine lv_aload_n hx hb dX2_turnings_0 rfl (lv_at hl 0 rfl) ?_
  refine gO S hi2 hK hH ok_o.1 ok_o.2 2 (by decide) f102 (v := .int (nI tu)) rfl dX2_turnings_1 ?_
  exact eI S hr hlocks hH hS ⟨rfl, rfl⟩ dX2_turnings_4

set_option maxRecDepth 100000 in
set_option maxHeartbeats 4000000 in
theorem c_X2_apples {o : Nat} {T : Nat → Tr} (hc : CI Γ o T L K sz si P) : Md l yX2_apples wsX2_apples (rmL 5 0 0) D lo Γ [.ref o] ((L, K, sz, si, P, bi, tu), M, V) (some (.int (nI (gids T).length))) ((L, K, sz, si, P, bi, tu), M, V) := by
  refine Mz_of (cc := cX2_apples) (maxL := 6) (ret := (some .int)) (by decide) rfl (Nat.le_of_ble_eq_true rfl) ?_
  intro p e s m args below meth c ls S hr hlocks hK hH hS hl
  have hx := S.1
  have hb := S.2.1
  have hts := S.2.2.2.2
  have f11 : (Cond.fieldLink RX2 11 (TX2 0).1 (TX2 0).2.1 (TX2 0).2.2.1).before args s = true := hts _ (List.mem_of_getElem? (i := 1) rfl)
  have hi2 : ∀ w ∈ wsX20, w ∈ wsX2_apples := by decide +kernel
  have hl : lv_has ls 6 [(0, .ref o)] := hl
  have hc0 := hc
  obtain ⟨hg, c_t, c_nd, c_si, c_inj, c_40⟩ := hc
  obtain ⟨ok_o, o_u, ok_ra, ok_tt, tt_ne, ta_inj⟩ := hg
  refine lv_iconst (v := 0) hx hb dX2_apples_0 (by decide) ?_
  refine lv_istore_n (lv' := [(1, .int 0), (0, .ref o)]) hx hb dX2_apples_1 rfl hl (by decide) rfl (fun ls hl => ?_)
  refine lv_aload_n hx hb dX2_apples_2 rfl (lv_at hl 1 rfl) ?_
  refine gO S hi2 hK hH ok_o.1 ok_o.2 0 (by decide) f11 (v := .ref (gra Γ)) rfl dX2_apples_3 ?_
  refine lv_astore_n (lv' := [(2, .ref (gra Γ)), (1, .int 0), (0, .ref o)]) hx hb dX2_apples_6 rfl hl (by decide) rfl (fun ls hl => ?_)
  refine lv_aload_n hx hb dX2_apples_7 rfl (lv_at hl 0 rfl) ?_
  refine gRl S hK hH ok_ra dX2_apples_8 ?_
  refine lv_istore_n (lv' := [(3, .int 6), (2, .ref (gra Γ)), (1, .int 0), (0, .ref o)]) hx hb dX2_apples_9 rfl hl (by decide) rfl (fun ls hl => ?_)
  refine lv_iconst (v := 0) hx hb dX2_apples_10 (by decide) ?_
  refine lv_istore (lv' := [(4, .int 0), (3, .int 6), (2, .ref (gra Γ)), (1, .int 0), (0, .ref o)]) hx hb dX2_apples_11 hl (by decide) rfl (fun ls hl => ?_)
  have loop : ∀ (n r acc : Nat), n + r = 6 → acc + cntF T r = (gids T).length → ∀ H locs, Hp D lo Γ ((L, K, sz, si, P, bi, tu), M, V) H → va_S (lA lo) s.heap H locs → ∀ ls, lv_has ls 6 [(4, .int (nI r)), (1, .int (nI acc)), (3, .int 6), (2, .ref (gra Γ))] → W p l e (rmL 5 0 0) s m args below meth c H locs 0 0 (MQ below (Qz D lo Γ (fun v Z' => v = (some (.int (nI (gids T).length))) ∧ Z' = ((L, K, sz, si, P, bi, tu), M, V))) args s ((rmL 5 0 0) : Room).cells ((rmL 5 0 0) : Room).slots (lA lo)) (F0 m 13 ls []) := by
    intro n
    induction n with
    | zero =>
      intro r acc hn hacc H locs hH hS ls hl
      have hr6 : r = 6 := by omega
      subst hr6
      refine lv_iload hx hb dX2_apples_13 (lv_at hl 0 rfl) ?_
      refine lv_iload_n hx hb dX2_apples_15 rfl (lv_at hl 2 rfl) ?_
      refine lv_icmp_ge (tgt := 39) hx hb dX2_apples_16 (by decide) (fun h1 => ?_) (fun h1 => absurd (by decide) h1)
      refine lv_iload_n hx hb dX2_apples_39 rfl (lv_at hl 1 rfl) ?_
      exact eI S hr hlocks hH hS ⟨by rw [← hacc]; rfl, rfl⟩ dX2_apples_40
    | succ n ih =>
      intro r acc hn hacc H locs hH hS ls hl
      have hr6 : r < 6 := by omega
      have htr := (c_t r hr6).1
      have ok_t : gta Γ r ∈ L ∧ K (gta Γ r) = 1 := ⟨htr.1, htr.2.1⟩
      refine lv_iload hx hb dX2_apples_13 (lv_at hl 0 rfl) ?_
      refine lv_iload_n hx hb dX2_apples_15 rfl (lv_at hl 2 rfl) ?_
      refine lv_icmp_ge (tgt := 39) hx hb dX2_apples_16 (by decide) (fun h1 => absurd h1 (fun q => by have := (nI_leI (a := 6) (b := r) (by omega) (by omega)).mp q; omega)) (fun h1 => ?_)
      refine lv_aload_n hx hb dX2_apples_19 rfl (lv_at hl 3 rfl) ?_
      refine lv_iload hx hb dX2_apples_20 (lv_at hl 0 rfl) ?_
      refine gR (L := L) (K := K) S hK hH ok_ra hr6 rfl dX2_apples_22 ?_
      refine lv_astore (lv' := [(5, .ref (gta Γ r)), (4, .int (nI r)), (1, .int (nI acc)), (3, .int 6), (2, .ref (gra Γ))]) hx hb dX2_apples_23 hl (by decide) rfl (fun ls hl => ?_)
      refine lv_iload_n hx hb dX2_apples_25 rfl (lv_at hl 2 rfl) ?_
      refine lv_aload hx hb dX2_apples_26 (lv_at hl 0 rfl) ?_
      refine cV S (c_X1_count (l := l) (D := D) (lo := lo) (Γ := Γ) (sz := sz) (si := si) (P := P) (bi := bi) (tu := tu) (M := M) (V := V) htr) (cwV 0 hts gX2_apples_X1_count rfl rfl rfl (by decide +kernel) ⟨Nat.le_of_ble_eq_true rfl, Nat.le_of_ble_eq_true rfl⟩) hK hH (Hp_recv hK hH ok_t.1 ok_t.2 rfl) hS rfl hl.1 rfl (Nat.le_of_ble_eq_true rfl) dX2_apples_28 ⟨Nat.le_of_ble_eq_true rfl, Nat.le_of_ble_eq_true rfl⟩ (fun v Z1 H locs hpost hH hS => ?_)
      obtain ⟨rfl, rfl⟩ := hpost
      refine lv_iadd hx hb dX2_apples_31 ?_
      rw [nI_add]
      refine lv_istore_n (lv' := [(1, .int (nI (acc + (tids (T r)).length))), (5, .ref (gta Γ r)), (4, .int (nI r)), (3, .int 6), (2, .ref (gra Γ))]) hx hb dX2_apples_32 rfl hl (by decide) rfl (fun ls hl => ?_)
      refine lv_iinc (v := nI (r + 1)) (lv' := [(4, .int (nI (r + 1))), (1, .int (nI (acc + (tids (T r)).length))), (5, .ref (gta Γ r)), (3, .int 6), (2, .ref (gra Γ))]) hx hb dX2_apples_33 hl (k := 2) rfl (nI_1 r) (by decide) rfl (fun ls hl => ?_)
      refine lv_goto (tgt := 13) hx hb dX2_apples_36 (by decide) ?_
      exact ih (r + 1) (acc + (tids (T r)).length) (by omega) (by rw [← hacc, cntF_s hr6]; omega) H locs hH hS ls (lv_sub hl [0, 1, 3, 4] rfl)
  exact loop 6 0 0 rfl (by rw [Nat.zero_add]; exact cntF_0 T) _ _ hH hS ls (lv_sub hl [0, 3, 1, 2] rfl)
end MOrch
