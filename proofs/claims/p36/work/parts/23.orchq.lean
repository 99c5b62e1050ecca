/-! METHODS of SplayOrchard: queries -/
/-- the place of a node -/
def zof (t : Tr) (a : Nat) : Zi := ((zs t []).find? (fun z => z.1 == a)).getD (a, .leaf (), .leaf (), [])
theorem zof_in {t : Tr} {a : Nat} (h : a ∈ tids t) : zof t a ∈ zs t [] ∧ (zof t a).1 = a := by
  obtain ⟨l, r, C, hm⟩ := zs_mem (C := []) h
  unfold zof
  cases hf : (zs t []).find? (fun z => z.1 == a) with
  | none => exact absurd (List.find?_eq_none.mp hf _ hm) (by simp)
  | some z => exact ⟨List.mem_of_find?_eq_some hf, by simpa using List.find?_some hf⟩
theorem zof_eq {t : Tr} {a : Nat} {l r : Tr} {C : Cx} (hn : (tids t).Nodup) (h : (a, l, r, C) ∈ zs t []) : zof t a = (a, l, r, C) := by
  have ha : a ∈ tids t := by rw [← zs_ids t []]; exact List.mem_map.mpr ⟨_, h, rfl⟩
  obtain ⟨h1, h2⟩ := zof_in ha
  generalize hz : zof t a = z at h1 h2
  obtain ⟨b, l', r', C'⟩ := z
  have h2 : b = a := h2
  subst h2
  obtain ⟨e1, e2, e3⟩ := zs_uniq hn h1 h
  rw [e1, e2, e3]
theorem zof_plug {t : Tr} {a : Nat} (h : a ∈ tids t) : plug (.branch a (zof t a).2.1 (zof t a).2.2.1) (zof t a).2.2.2 = t := by
  obtain ⟨h1, h2⟩ := zof_in h
  have h3 := zs_plug t [] _ h1
  rw [h2] at h3
  exact h3
theorem gids_le {T : Nat → Tr} {r : Nat} (h : r < 6) : (tids (T r)).length ≤ (gids T).length := by
  have : r = 0 ∨ r = 1 ∨ r = 2 ∨ r = 3 ∨ r = 4 ∨ r = 5 := by omega
  rcases this with rfl | rfl | rfl | rfl | rfl | rfl <;> simp only [gids, List.length_append] <;> omega
theorem fvs_mem2 {bi : Nat → Nat} : ∀ (l : List Nat) (acc : Option Nat) (b : Nat), fvs bi acc l = some b → acc = some b ∨ b ∈ l := by
  intro l
  induction l with
  | nil => intro acc b h; cases acc <;> exact Or.inl h
  | cons a l ih =>
    intro acc b h
    cases acc with
    | none =>
      rcases ih _ b h with h1 | h1
      · cases h1; exact Or.inr (by simp)
      · exact Or.inr (by simp [h1])
    | some g =>
      rw [fvs] at h
      rcases ih _ b h with h1 | h1
      · split at h1
        · exact Or.inl h1
        · cases h1; exact Or.inr (by simp)
      · exact Or.inr (by simp [h1])
theorem fvs_mem {bi : Nat → Nat} {l : List Nat} {b : Nat} (h : fvs bi none l = some b) : b ∈ l := by
  rcases fvs_mem2 l none b h with h1 | h1
  · cases h1
  · exact h1
theorem atL_mem : ∀ {l : List Nat} {x : Int32} {i b : Nat}, atL l x i = some b → b ∈ l := by
  intro l
  induction l with
  | nil => intro x i b h; cases h
  | cons a l ih =>
    intro x i b h
    rw [atL] at h
    split at h
    · cases h; simp
    · simp [ih h]
/-- the least height for so many -/
def lhF : Nat → Nat → Nat
  | 0, _ => 0
  | f + 1, n => if n = 0 then 0 else lhF f (n / 2) + 1
def lh (n : Nat) : Nat := lhF 64 n
theorem lh_eq : ∀ n, n < 41 → ∀ k, k < 7 → n ≤ 2 ^ k - 1 → (k = 0 ∨ 2 ^ (k - 1) - 1 < n) → k = lh n := by decide +kernel
theorem pow_small : ∀ k, k < 7 → 2 ^ k - 1 < 200 := by decide +kernel
theorem pow_step : ∀ k, k < 7 → (2 * nI (2 ^ k - 1)) + 1 = nI (2 ^ (k + 1) - 1) := by decide +kernel
def qo (T : Nat → Tr) (sz : Nat → Nat) (row x : Int32) : Nat × Int32 := match rowN row with
  | none => (1, 0)
  | some r => match atL (tids (T r)) x 0 with
    | none => (1, 0)
    | some a => (0, nI (sz a))
section MOrchQ
variable {l : Launch} {D : va_G} {lo : Nat} {Γ : GT} {L : List Nat} {K : Nat → Nat} {sz : Nat → Nat} {si : Nat → Option Nat} {P : PF} {bi : Nat → Nat} {tu : Nat} {M : MW} {V : Int64 × UInt64}
theorem PoI_r {o : Nat} {T : Nat → Tr} {row : Int32} {r : Nat} {f : Nat → Int32} (h : rowN row = some r) (hc : CI Γ o T L K sz si P) : PoI Γ o T sz bi tu M V (qr row f) (some (.int (f r))) ((L, K, sz, si, P, bi, tu), M, V) := by
  have e : qr row f = (0, f r) := by rw [qr, h]
  rw [e]
  exact ⟨rfl, rfl, L, K, si, P, rfl, hc⟩
theorem PxI_r {o : Nat} {T : Nat → Tr} {row : Int32} {f : Nat → Int32} (h : rowN row = none) (hc : CI Γ o T L K sz si P) : PxI Γ o T sz bi tu M V (qr row f) en2 "java/lang/IndexOutOfBoundsException" ((L, K, sz, si, P, bi, tu), M, V) := by
  have e : qr row f = (1, 0) := by rw [qr, h]
  rw [e]
  exact ⟨by decide, rfl, L, K, si, P, rfl, hc⟩
theorem PoI_a {o : Nat} {T : Nat → Tr} {row x : Int32} {r a : Nat} {f : Nat → Nat → Int32} (h : rowN row = some r) (ha : fnd sz x.toInt (T r) = some a) (hc : CI Γ o T L K sz si P) : PoI Γ o T sz bi tu M V (qa T sz row x f) (some (.int (f r a))) ((L, K, sz, si, P, bi, tu), M, V) := by
  have e : qa T sz row x f = (0, f r a) := by rw [qa, h]; simp [ha]
  rw [e]
  exact ⟨rfl, rfl, L, K, si, P, rfl, hc⟩
theorem PxI_a1 {o : Nat} {T : Nat → Tr} {row x : Int32} {f : Nat → Nat → Int32} (h : rowN row = none) (hc : CI Γ o T L K sz si P) : PxI Γ o T sz bi tu M V (qa T sz row x f) en2 "java/lang/IndexOutOfBoundsException" ((L, K, sz, si, P, bi, tu), M, V) := by
  have e : qa T sz row x f = (1, 0) := by rw [qa, h]
  rw [e]
  exact ⟨by decide, rfl, L, K, si, P, rfl, hc⟩
theorem PxI_a2 {o : Nat} {T : Nat → Tr} {row x : Int32} {r : Nat} {f : Nat → Nat → Int32} (h : rowN row = some r) (ha : fnd sz x.toInt (T r) = none) (hc : CI Γ o T L K sz si P) : PxI Γ o T sz bi tu M V (qa T sz row x f) en2 "java/lang/IllegalStateException" ((L, K, sz, si, P, bi, tu), M, V) := by
  have e : qa T sz row x f = (2, 0) := by rw [qa, h]; simp [ha]
  rw [e]
  exact ⟨by decide, rfl, L, K, si, P, rfl, hc⟩
theorem c_X0_depthA {t0 a : Nat} {T : Tr} (h : TR L K sz P t0 T) (ha : a ∈ tids T) : Md l yX0_depth wsX0_depth (rmL 1 0 0) D lo Γ [.ref a] ((L, K, sz, si, P, bi, tu), M, V) (some (.int (nI (zof T a).2.2.2.length))) ((L, K, sz, si, P, bi, tu), M, V) := by
  obtain ⟨h1, h2⟩ := zof_in ha
  have h3 := c_X0_depthZ (l := l) (D := D) (lo := lo) (Γ := Γ) (si := si) (bi := bi) (tu := tu) (M := M) (V := V) (sz := sz) (z := zof T a) (by rw [h2]; exact (h.2.2.2.2.2 a ha).1) h.2.2.2.1 h1
  rw [h2] at h3
  exact h3
theorem up_of {t0 a : Nat} {T : Tr} (h : TR L K sz P t0 T) (ha : a ∈ tids T) : P 2 a = parC (zof T a).2.2.2 ∧ P 0 a = rt (zof T a).2.1 ∧ P 1 a = rt (zof T a).2.2.1 := by
  have hz := (Zp_plug (zof T a).2.2.2 (.branch a (zof T a).2.1 (zof T a).2.2.1)).mpr (by rw [zof_plug ha]; exact h.2.2.2.1)
  exact ⟨hz.1.1, hz.1.2.1, hz.1.2.2.1⟩
theorem c_X0_countA {t0 a : Nat} {T : Tr} (h : TR L K sz P t0 T) (ha : a ∈ tids T) : Md l yX0_countUnder wsX0_countUnder (rmL 3 0 0) D lo Γ [.ref a] ((L, K, sz, si, P, bi, tu), M, V) (some (.int (nI ((tids (zof T a).2.1).length + (tids (zof T a).2.2.1).length)))) ((L, K, sz, si, P, bi, tu), M, V) := by
  have hz := zof_plug ha
  refine c_X0_countUnder (h.2.2.2.2.2 a ha).1 (C := (zof T a).2.2.2) ((Zp_plug _ _).mpr (by rw [hz]; exact h.2.2.2.1)) (by rw [hz]; exact h.2.2.2.2.1) (fun b hb => (h.2.2.2.2.2 b ?_).1)
  have h1 : b ∈ tids (plug (.branch a (zof T a).2.1 (zof T a).2.2.1) (zof T a).2.2.2) := by rw [tids_plug]; simp [hb]
  rw [hz] at h1
  exact h1
set_option maxRecDepth 100000 in
set_option maxHeartbeats 4000000 in
theorem c_X2_sizeOf {o : Nat} {T : Nat → Tr} {row : Int32}  (hst : l.stackTraces = false) (hc : CI Γ o T L K sz si P) : Mx l yX2_sizeOf wsX2_sizeOf (rmL 7 1 6) D lo Γ [.ref o, .int row] ((L, K, sz, si, P, bi, tu), M, V) (PoI Γ o T sz bi tu M V (qr row (fun r => nI (tids (T r)).length))) (PxI Γ o T sz bi tu M V (qr row (fun r => nI (tids (T r)).length)) en2) := by
  refine Mx_of (cc := cX2_sizeOf) (maxL := 2) (ret := (some .int)) (by decide) rfl (Nat.le_of_ble_eq_true rfl) ?_
  intro p e s m args below meth c ls S hr hlocks hK hH hS hX ht hl
  have hx := S.1
  have hb := S.2.1
  have hts := S.2.2.2.2
  have hl : lv_has ls 2 [(0, .ref o), (1, .int row)] := hl
  have hc0 := hc
  obtain ⟨hg, c_t, c_nd, c_si, c_inj, c_40⟩ := hc
  obtain ⟨ok_o, o_u, ok_ra, ok_tt, tt_ne, ta_inj⟩ := hg
  refine lv_aload_n hx hb dX2_sizeOf_0 rfl (lv_at hl 0 rfl) ?_
  refine lv_iload_n hx hb dX2_sizeOf_1 rfl (lv_at hl 1 rfl) ?_
  refine cVx S (c_X2_treeOf (l := l) (D := D) (lo := lo) (Γ := Γ) (sz := sz) (si := si) (P := P) (bi := bi) (tu := tu) (M := M) (V := V) (row := row) hst hc0) (cwV 1 hts gX2_sizeOf_X2_treeOf rfl rfl rfl (by decide +kernel) ⟨Nat.le_of_ble_eq_true rfl, Nat.le_of_ble_eq_true rfl⟩) hK hH hX (Hp_recv hK hH ok_o.1 ok_o.2 rfl) hS rfl hl.1 rfl (by simp [cat_rf, Value.category]) dX2_sizeOf_2 ⟨Nat.le_of_ble_eq_true rfl, Nat.le_of_ble_eq_true rfl⟩ (fun E Z1 H locs ce q9 hpx hH hS hce hcv hcl => ?_) (fun v Z1 H locs hpost hH hS => ?_)
  · obtain ⟨rfl, hrow, rfl⟩ := hpx
    exact xO ht hlocks (PxI_r hrow hc0) hH hS hce hcv hcl (Nat.le_of_ble_eq_true rfl) (Nat.le_of_ble_eq_true rfl)
  obtain ⟨r, hrow, rfl, rfl⟩ := hpost
  have hr6 := (rowN_some hrow).1
  have htr := (c_t r hr6).1
  have ok_t : gta Γ r ∈ L ∧ K (gta Γ r) = 1 := ⟨htr.1, htr.2.1⟩
  refine cV S (c_X1_count (l := l) (D := D) (lo := lo) (Γ := Γ) (sz := sz) (si := si) (P := P) (bi := bi) (tu := tu) (M := M) (V := V)  htr) (cwV 0 hts gX2_sizeOf_X1_count rfl rfl rfl (by decide +kernel) ⟨Nat.le_of_ble_eq_true rfl, Nat.le_of_ble_eq_true rfl⟩) hK hH (Hp_recv hK hH ok_t.1 ok_t.2 rfl) hS rfl hl.1 rfl (Nat.le_of_ble_eq_true rfl) dX2_sizeOf_5 ⟨Nat.le_of_ble_eq_true rfl, Nat.le_of_ble_eq_true rfl⟩ (fun v Z1 H locs hpost hH hS => ?_)
  obtain ⟨rfl, rfl⟩ := hpost
  refine W.widen (k := 1) (n := 6) (Nat.le_of_ble_eq_true rfl) (Nat.le_of_ble_eq_true rfl) ?_
  exact vx_ret (eI S hr hlocks hH hS (PoI_r hrow hc0) dX2_sizeOf_8)

set_option maxRecDepth 100000 in
set_option maxHeartbeats 4000000 in
theorem c_X2_height {o : Nat} {T : Nat → Tr} {row : Int32}  (hst : l.stackTraces = false) (hc : CI Γ o T L K sz si P) : Mx l yX2_height wsX2_height (rmL 7 1 6) D lo Γ [.ref o, .int row] ((L, K, sz, si, P, bi, tu), M, V) (PoI Γ o T sz bi tu M V (qr row (fun r => nI (hgt (T r))))) (PxI Γ o T sz bi tu M V (qr row (fun r => nI (hgt (T r)))) en2) := by
  refine Mx_of (cc := cX2_height) (maxL := 2) (ret := (some .int)) (by decide) rfl (Nat.le_of_ble_eq_true rfl) ?_
  intro p e s m args below meth c ls S hr hlocks hK hH hS hX ht hl
  have hx := S.1
  have hb := S.2.1
  have hts := S.2.2.2.2
  have hl : lv_has ls 2 [(0, .ref o), (1, .int row)] := hl
  have hc0 := hc
  obtain ⟨hg, c_t, c_nd, c_si, c_inj, c_40⟩ := hc
  obtain ⟨ok_o, o_u, ok_ra, ok_tt, tt_ne, ta_inj⟩ := hg
  refine lv_aload_n hx hb dX2_height_0 rfl (lv_at hl 0 rfl) ?_
  refine lv_iload_n hx hb dX2_height_1 rfl (lv_at hl 1 rfl) ?_
  refine cVx S (c_X2_treeOf (l := l) (D := D) (lo := lo) (Γ := Γ) (sz := sz) (si := si) (P := P) (bi := bi) (tu := tu) (M := M) (V := V) (row := row) hst hc0) (cwV 1 hts gX2_height_X2_treeOf rfl rfl rfl (by decide +kernel) ⟨Nat.le_of_ble_eq_true rfl, Nat.le_of_ble_eq_true rfl⟩) hK hH hX (Hp_recv hK hH ok_o.1 ok_o.2 rfl) hS rfl hl.1 rfl (by simp [cat_rf, Value.category]) dX2_height_2 ⟨Nat.le_of_ble_eq_true rfl, Nat.le_of_ble_eq_true rfl⟩ (fun E Z1 H locs ce q9 hpx hH hS hce hcv hcl => ?_) (fun v Z1 H locs hpost hH hS => ?_)
  · obtain ⟨rfl, hrow, rfl⟩ := hpx
    exact xO ht hlocks (PxI_r hrow hc0) hH hS hce hcv hcl (Nat.le_of_ble_eq_true rfl) (Nat.le_of_ble_eq_true rfl)
  obtain ⟨r, hrow, rfl, rfl⟩ := hpost
  have hr6 := (rowN_some hrow).1
  have htr := (c_t r hr6).1
  have ok_t : gta Γ r ∈ L ∧ K (gta Γ r) = 1 := ⟨htr.1, htr.2.1⟩
  refine cV S (c_X1_levels (l := l) (D := D) (lo := lo) (Γ := Γ) (sz := sz) (si := si) (P := P) (bi := bi) (tu := tu) (M := M) (V := V)  htr (by have := gids_le (T := T) hr6; omega)) (cwV 0 hts gX2_height_X1_levels rfl rfl rfl (by decide +kernel) ⟨Nat.le_of_ble_eq_true rfl, Nat.le_of_ble_eq_true rfl⟩) hK hH (Hp_recv hK hH ok_t.1 ok_t.2 rfl) hS rfl hl.1 rfl (Nat.le_of_ble_eq_true rfl) dX2_height_5 ⟨Nat.le_of_ble_eq_true rfl, Nat.le_of_ble_eq_true rfl⟩ (fun v Z1 H locs hpost hH hS => ?_)
  obtain ⟨rfl, rfl⟩ := hpost
  refine W.widen (k := 1) (n := 6) (Nat.le_of_ble_eq_true rfl) (Nat.le_of_ble_eq_true rfl) ?_
  exact vx_ret (eI S hr hlocks hH hS (PoI_r hrow hc0) dX2_height_8)

set_option maxRecDepth 100000 in
set_option maxHeartbeats 4000000 in
theorem c_X2_depths {o : Nat} {T : Nat → Tr} {row : Int32}  (hst : l.stackTraces = false) (hc : CI Γ o T L K sz si P) : Mx l yX2_depths wsX2_depths (rmL 7 1 6) D lo Γ [.ref o, .int row] ((L, K, sz, si, P, bi, tu), M, V) (PoI Γ o T sz bi tu M V (qr row (fun r => nI (dsm (T r) 0)))) (PxI Γ o T sz bi tu M V (qr row (fun r => nI (dsm (T r) 0))) en2) := by
  refine Mx_of (cc := cX2_depths) (maxL := 2) (ret := (some .int)) (by decide) rfl (Nat.le_of_ble_eq_true rfl) ?_
  intro p e s m args below meth c ls S hr hlocks hK hH hS hX ht hl
  have hx := S.1
  have hb := S.2.1
  have hts := S.2.2.2.2
  have hl : lv_has ls 2 [(0, .ref o), (1, .int row)] := hl
  have hc0 := hc
  obtain ⟨hg, c_t, c_nd, c_si, c_inj, c_40⟩ := hc
  obtain ⟨ok_o, o_u, ok_ra, ok_tt, tt_ne, ta_inj⟩ := hg
  refine lv_aload_n hx hb dX2_depths_0 rfl (lv_at hl 0 rfl) ?_
  refine lv_iload_n hx hb dX2_depths_1 rfl (lv_at hl 1 rfl) ?_
  refine cVx S (c_X2_treeOf (l := l) (D := D) (lo := lo) (Γ := Γ) (sz := sz) (si := si) (P := P) (bi := bi) (tu := tu) (M := M) (V := V) (row := row) hst hc0) (cwV 1 hts gX2_depths_X2_treeOf rfl rfl rfl (by decide +kernel) ⟨Nat.le_of_ble_eq_true rfl, Nat.le_of_ble_eq_true rfl⟩) hK hH hX (Hp_recv hK hH ok_o.1 ok_o.2 rfl) hS rfl hl.1 rfl (by simp [cat_rf, Value.category]) dX2_depths_2 ⟨Nat.le_of_ble_eq_true rfl, Nat.le_of_ble_eq_true rfl⟩ (fun E Z1 H locs ce q9 hpx hH hS hce hcv hcl => ?_) (fun v Z1 H locs hpost hH hS => ?_)
  · obtain ⟨rfl, hrow, rfl⟩ := hpx
    exact xO ht hlocks (PxI_r hrow hc0) hH hS hce hcv hcl (Nat.le_of_ble_eq_true rfl) (Nat.le_of_ble_eq_true rfl)
  obtain ⟨r, hrow, rfl, rfl⟩ := hpost
  have hr6 := (rowN_some hrow).1
  have htr := (c_t r hr6).1
  have ok_t : gta Γ r ∈ L ∧ K (gta Γ r) = 1 := ⟨htr.1, htr.2.1⟩
  refine cV S (c_X1_depthSum (l := l) (D := D) (lo := lo) (Γ := Γ) (sz := sz) (si := si) (P := P) (bi := bi) (tu := tu) (M := M) (V := V)  htr) (cwV 0 hts gX2_depths_X1_depthSum rfl rfl rfl (by decide +kernel) ⟨Nat.le_of_ble_eq_true rfl, Nat.le_of_ble_eq_true rfl⟩) hK hH (Hp_recv hK hH ok_t.1 ok_t.2 rfl) hS rfl hl.1 rfl (Nat.le_of_ble_eq_true rfl) dX2_depths_5 ⟨Nat.le_of_ble_eq_true rfl, Nat.le_of_ble_eq_true rfl⟩ (fun v Z1 H locs hpost hH hS => ?_)
  obtain ⟨rfl, rfl⟩ := hpost
  refine W.widen (k := 1) (n := 6) (Nat.le_of_ble_eq_true rfl) (Nat.le_of_ble_eq_true rfl) ?_
  exact vx_ret (eI S hr hlocks hH hS (PoI_r hrow hc0) dX2_depths_8)

set_option maxRecDepth 100000 in
set_option maxHeartbeats 4000000 in
theorem c_X2_leaves {o : Nat} {T : Nat → Tr} {row : Int32}  (hst : l.stackTraces = false) (hc : CI Γ o T L K sz si P) : Mx l yX2_leaves wsX2_leaves (rmL 7 1 6) D lo Γ [.ref o, .int row] ((L, K, sz, si, P, bi, tu), M, V) (PoI Γ o T sz bi tu M V (qr row (fun r => nI (lvs (T r))))) (PxI Γ o T sz bi tu M V (qr row (fun r => nI (lvs (T r)))) en2) := by
  refine Mx_of (cc := cX2_leaves) (maxL := 2) (ret := (some .int)) (by decide) rfl (Nat.le_of_ble_eq_true rfl) ?_
  intro p e s m args below meth c ls S hr hlocks hK hH hS hX ht hl
  have hx := S.1
  have hb := S.2.1
  have hts := S.2.2.2.2
  have hl : lv_has ls 2 [(0, .ref o), (1, .int row)] := hl
  have hc0 := hc
  obtain ⟨hg, c_t, c_nd, c_si, c_inj, c_40⟩ := hc
  obtain ⟨ok_o, o_u, ok_ra, ok_tt, tt_ne, ta_inj⟩ := hg
  refine lv_aload_n hx hb dX2_leaves_0 rfl (lv_at hl 0 rfl) ?_
  refine lv_iload_n hx hb dX2_leaves_1 rfl (lv_at hl 1 rfl) ?_
  refine cVx S (c_X2_treeOf (l := l) (D := D) (lo := lo) (Γ := Γ) (sz := sz) (si := si) (P := P) (bi := bi) (tu := tu) (M := M) (V := V) (row := row) hst hc0) (cwV 1 hts gX2_leaves_X2_treeOf rfl rfl rfl (by decide +kernel) ⟨Nat.le_of_ble_eq_true rfl, Nat.le_of_ble_eq_true rfl⟩) hK hH hX (Hp_recv hK hH ok_o.1 ok_o.2 rfl) hS rfl hl.1 rfl (by simp [cat_rf, Value.category]) dX2_leaves_2 ⟨Nat.le_of_ble_eq_true rfl, Nat.le_of_ble_eq_true rfl⟩ (fun E Z1 H locs ce q9 hpx hH hS hce hcv hcl => ?_) (fun v Z1 H locs hpost hH hS => ?_)
  · obtain ⟨rfl, hrow, rfl⟩ := hpx
    exact xO ht hlocks (PxI_r hrow hc0) hH hS hce hcv hcl (Nat.le_of_ble_eq_true rfl) (Nat.le_of_ble_eq_true rfl)
  obtain ⟨r, hrow, rfl, rfl⟩ := hpost
  have hr6 := (rowN_some hrow).1
  have htr := (c_t r hr6).1
  have ok_t : gta Γ r ∈ L ∧ K (gta Γ r) = 1 := ⟨htr.1, htr.2.1⟩
  refine cV S (c_X1_leafCount (l := l) (D := D) (lo := lo) (Γ := Γ) (sz := sz) (si := si) (P := P) (bi := bi) (tu := tu) (M := M) (V := V)  htr) (cwV 0 hts gX2_leaves_X1_leafCount rfl rfl rfl (by decide +kernel) ⟨Nat.le_of_ble_eq_true rfl, Nat.le_of_ble_eq_true rfl⟩) hK hH (Hp_recv hK hH ok_t.1 ok_t.2 rfl) hS rfl hl.1 rfl (Nat.le_of_ble_eq_true rfl) dX2_leaves_5 ⟨Nat.le_of_ble_eq_true rfl, Nat.le_of_ble_eq_true rfl⟩ (fun v Z1 H locs hpost hH hS => ?_)
  obtain ⟨rfl, rfl⟩ := hpost
  refine W.widen (k := 1) (n := 6) (Nat.le_of_ble_eq_true rfl) (Nat.le_of_ble_eq_true rfl) ?_
  exact vx_ret (eI S hr hlocks hH hS (PoI_r hrow hc0) dX2_leaves_8)

set_option maxRecDepth 100000 in
set_option maxHeartbeats 4000000 in
theorem c_X2_smaller {o : Nat} {T : Nat → Tr} {row : Int32} {x : Int32} (hst : l.stackTraces = false) (hc : CI Γ o T L K sz si P) : Mx l yX2_smaller wsX2_smaller (rmL 7 1 6) D lo Γ [.ref o, .int row, .int x] ((L, K, sz, si, P, bi, tu), M, V) (PoI Γ o T sz bi tu M V (qr row (fun r => nI (blw sz x.toInt (T r)).length))) (PxI Γ o T sz bi tu M V (qr row (fun r => nI (blw sz x.toInt (T r)).length)) en2) := by
  refine Mx_of (cc := cX2_smaller) (maxL := 3) (ret := (some .int)) (by decide) rfl (Nat.le_of_ble_eq_true rfl) ?_
  intro p e s m args below meth c ls S hr hlocks hK hH hS hX ht hl
  have hx := S.1
  have hb := S.2.1
  have hts := S.2.2.2.2
  have hl : lv_has ls 3 [(0, .ref o), (1, .int row), (2, .int x)] := hl
  have hc0 := hc
  obtain ⟨hg, c_t, c_nd, c_si, c_inj, c_40⟩ := hc
  obtain ⟨ok_o, o_u, ok_ra, ok_tt, tt_ne, ta_inj⟩ := hg
  refine lv_aload_n hx hb dX2_smaller_0 rfl (lv_at hl 0 rfl) ?_
  refine lv_iload_n hx hb dX2_smaller_1 rfl (lv_at hl 1 rfl) ?_
  refine cVx S (c_X2_treeOf (l := l) (D := D) (lo := lo) (Γ := Γ) (sz := sz) (si := si) (P := P) (bi := bi) (tu := tu) (M := M) (V := V) (row := row) hst hc0) (cwV 1 hts gX2_smaller_X2_treeOf rfl rfl rfl (by decide +kernel) ⟨Nat.le_of_ble_eq_true rfl, Nat.le_of_ble_eq_true rfl⟩) hK hH hX (Hp_recv hK hH ok_o.1 ok_o.2 rfl) hS rfl hl.1 rfl (by simp [cat_rf, Value.category]) dX2_smaller_2 ⟨Nat.le_of_ble_eq_true rfl, Nat.le_of_ble_eq_true rfl⟩ (fun E Z1 H locs ce q9 hpx hH hS hce hcv hcl => ?_) (fun v Z1 H locs hpost hH hS => ?_)
  · obtain ⟨rfl, hrow, rfl⟩ := hpx
    exact xO ht hlocks (PxI_r hrow hc0) hH hS hce hcv hcl (Nat.le_of_ble_eq_true rfl) (Nat.le_of_ble_eq_true rfl)
  obtain ⟨r, hrow, rfl, rfl⟩ := hpost
  have hr6 := (rowN_some hrow).1
  have htr := (c_t r hr6).1
  have ok_t : gta Γ r ∈ L ∧ K (gta Γ r) = 1 := ⟨htr.1, htr.2.1⟩
  refine lv_iload_n hx hb dX2_smaller_5 rfl (lv_at hl 2 rfl) ?_
  refine cV S (c_X1_countBelow (l := l) (D := D) (lo := lo) (Γ := Γ) (sz := sz) (si := si) (P := P) (bi := bi) (tu := tu) (M := M) (V := V) (x := x) htr) (cwV 1 hts gX2_smaller_X1_countBelow rfl rfl rfl (by decide +kernel) ⟨Nat.le_of_ble_eq_true rfl, Nat.le_of_ble_eq_true rfl⟩) hK hH (Hp_recv hK hH ok_t.1 ok_t.2 rfl) hS rfl hl.1 rfl (Nat.le_of_ble_eq_true rfl) dX2_smaller_6 ⟨Nat.le_of_ble_eq_true rfl, Nat.le_of_ble_eq_true rfl⟩ (fun v Z1 H locs hpost hH hS => ?_)
  obtain ⟨rfl, rfl⟩ := hpost
  refine W.widen (k := 1) (n := 6) (Nat.le_of_ble_eq_true rfl) (Nat.le_of_ble_eq_true rfl) ?_
  exact vx_ret (eI S hr hlocks hH hS (PoI_r hrow hc0) dX2_smaller_9)

set_option maxRecDepth 100000 in
set_option maxHeartbeats 4000000 in
theorem c_X2_top {o : Nat} {T : Nat → Tr} {row : Int32} (hst : l.stackTraces = false) (hc : CI Γ o T L K sz si P) : Mx l yX2_top wsX2_top (rmL 7 1 6) D lo Γ [.ref o, .int row] ((L, K, sz, si, P, bi, tu), M, V) (PoI Γ o T sz bi tu M V (qr row (fun r => er ((rt (T r)).map sz)))) (PxI Γ o T sz bi tu M V (qr row (fun r => er ((rt (T r)).map sz))) en2) := by
  refine Mx_of (cc := cX2_top) (maxL := 2) (ret := (some .int)) (by decide) rfl (Nat.le_of_ble_eq_true rfl) ?_
  intro p e s m args below meth c ls S hr hlocks hK hH hS hX ht hl
  have hx := S.1
  have hb := S.2.1
  have hts := S.2.2.2.2
  have f82 : (Cond.fieldLink RX2 82 (TX1 0).1 (TX1 0).2.1 (TX1 0).2.2.1).before args s = true := hts _ (List.mem_of_getElem? (i := 1) rfl)
  have hi1 : ∀ w ∈ wsX10, w ∈ wsX2_top := by decide +kernel
  have hl : lv_has ls 2 [(0, .ref o), (1, .int row)] := hl
  have hc0 := hc
  obtain ⟨hg, c_t, c_nd, c_si, c_inj, c_40⟩ := hc
  obtain ⟨ok_o, o_u, ok_ra, ok_tt, tt_ne, ta_inj⟩ := hg
  refine lv_aload_n hx hb dX2_top_0 rfl (lv_at hl 0 rfl) ?_
  refine lv_iload_n hx hb dX2_top_1 rfl (lv_at hl 1 rfl) ?_
  refine cVx S (c_X2_treeOf (l := l) (D := D) (lo := lo) (Γ := Γ) (sz := sz) (si := si) (P := P) (bi := bi) (tu := tu) (M := M) (V := V) (row := row) hst hc0) (cwV 1 hts gX2_top_X2_treeOf rfl rfl rfl (by decide +kernel) ⟨Nat.le_of_ble_eq_true rfl, Nat.le_of_ble_eq_true rfl⟩) hK hH hX (Hp_recv hK hH ok_o.1 ok_o.2 rfl) hS rfl hl.1 rfl (by simp [cat_rf, Value.category]) dX2_top_2 ⟨Nat.le_of_ble_eq_true rfl, Nat.le_of_ble_eq_true rfl⟩ (fun E Z1 H locs ce q9 hpx hH hS hce hcv hcl => ?_) (fun v Z1 H locs hpost hH hS => ?_)
  · obtain ⟨rfl, hrow, rfl⟩ := hpx
    exact xO ht hlocks (PxI_r hrow hc0) hH hS hce hcv hcl (Nat.le_of_ble_eq_true rfl) (Nat.le_of_ble_eq_true rfl)
  obtain ⟨r, hrow, rfl, rfl⟩ := hpost
  have hr6 := (rowN_some hrow).1
  have htr := (c_t r hr6).1
  have ok_t : gta Γ r ∈ L ∧ K (gta Γ r) = 1 := ⟨htr.1, htr.2.1⟩
  refine gTp S hi1 hK hH ok_t.1 ok_t.2 f82 (v := va_rf (P 3 (gta Γ r))) rfl dX2_top_5 ?_
  rw [htr.2.2.1]
  refine cSt S (c_X2_sizeOrNone (l := l) (D := D) (lo := lo) (Γ := Γ) (sz := sz) (si := si) (P := P) (bi := bi) (tu := tu) (M := M) (V := V) (r := rt (T r)) (fun b h => (htr.2.2.2.2.2 b (rt_mem h)).1)) (va_cwS 1 hts gX2_top_X2_sizeOrNone rfl rfl rfl (by decide +kernel) ⟨Nat.le_of_ble_eq_true rfl, Nat.le_of_ble_eq_true rfl⟩) hK hH hS rfl hl.1 rfl (Nat.le_of_ble_eq_true rfl) dX2_top_8 ⟨Nat.le_of_ble_eq_true rfl, Nat.le_of_ble_eq_true rfl⟩ (fun v Z1 H locs hpost hH hS => ?_)
  obtain ⟨rfl, rfl⟩ := hpost
  refine W.widen (k := 1) (n := 6) (Nat.le_of_ble_eq_true rfl) (Nat.le_of_ble_eq_true rfl) ?_
  exact vx_ret (eI S hr hlocks hH hS (PoI_r hrow hc0) dX2_top_11)

set_option maxRecDepth 100000 in
set_option maxHeartbeats 4000000 in
theorem c_X2_smallest {o : Nat} {T : Nat → Tr} {row : Int32}  (hst : l.stackTraces = false) (hc : CI Γ o T L K sz si P) : Mx l yX2_smallest wsX2_smallest (rmL 7 1 6) D lo Γ [.ref o, .int row] ((L, K, sz, si, P, bi, tu), M, V) (PoI Γ o T sz bi tu M V (qr row (fun r => er (((tids (T r)).head?).map sz)))) (PxI Γ o T sz bi tu M V (qr row (fun r => er (((tids (T r)).head?).map sz))) en2) := by
  refine Mx_of (cc := cX2_smallest) (maxL := 2) (ret := (some .int)) (by decide) rfl (Nat.le_of_ble_eq_true rfl) ?_
  intro p e s m args below meth c ls S hr hlocks hK hH hS hX ht hl
  have hx := S.1
  have hb := S.2.1
  have hts := S.2.2.2.2
  have hl : lv_has ls 2 [(0, .ref o), (1, .int row)] := hl
  have hc0 := hc
  obtain ⟨hg, c_t, c_nd, c_si, c_inj, c_40⟩ := hc
  obtain ⟨ok_o, o_u, ok_ra, ok_tt, tt_ne, ta_inj⟩ := hg
  refine lv_aload_n hx hb dX2_smallest_0 rfl (lv_at hl 0 rfl) ?_
  refine lv_iload_n hx hb dX2_smallest_1 rfl (lv_at hl 1 rfl) ?_
  refine cVx S (c_X2_treeOf (l := l) (D := D) (lo := lo) (Γ := Γ) (sz := sz) (si := si) (P := P) (bi := bi) (tu := tu) (M := M) (V := V) (row := row) hst hc0) (cwV 1 hts gX2_smallest_X2_treeOf rfl rfl rfl (by decide +kernel) ⟨Nat.le_of_ble_eq_true rfl, Nat.le_of_ble_eq_true rfl⟩) hK hH hX (Hp_recv hK hH ok_o.1 ok_o.2 rfl) hS rfl hl.1 rfl (by simp [cat_rf, Value.category]) dX2_smallest_2 ⟨Nat.le_of_ble_eq_true rfl, Nat.le_of_ble_eq_true rfl⟩ (fun E Z1 H locs ce q9 hpx hH hS hce hcv hcl => ?_) (fun v Z1 H locs hpost hH hS => ?_)
  · obtain ⟨rfl, hrow, rfl⟩ := hpx
    exact xO ht hlocks (PxI_r hrow hc0) hH hS hce hcv hcl (Nat.le_of_ble_eq_true rfl) (Nat.le_of_ble_eq_true rfl)
  obtain ⟨r, hrow, rfl, rfl⟩ := hpost
  have hr6 := (rowN_some hrow).1
  have htr := (c_t r hr6).1
  have ok_t : gta Γ r ∈ L ∧ K (gta Γ r) = 1 := ⟨htr.1, htr.2.1⟩
  refine cV S (c_X1_first (l := l) (D := D) (lo := lo) (Γ := Γ) (sz := sz) (si := si) (P := P) (bi := bi) (tu := tu) (M := M) (V := V) htr) (cwV 0 hts gX2_smallest_X1_first rfl rfl rfl (by decide +kernel) ⟨Nat.le_of_ble_eq_true rfl, Nat.le_of_ble_eq_true rfl⟩) hK hH (Hp_recv hK hH ok_t.1 ok_t.2 rfl) hS rfl hl.1 rfl (Nat.le_of_ble_eq_true rfl) dX2_smallest_5 ⟨Nat.le_of_ble_eq_true rfl, Nat.le_of_ble_eq_true rfl⟩ (fun v Z1 H locs hpost hH hS => ?_)
  obtain ⟨rfl, rfl⟩ := hpost
  refine cSt S (c_X2_sizeOrNone (l := l) (D := D) (lo := lo) (Γ := Γ) (sz := sz) (si := si) (P := P) (bi := bi) (tu := tu) (M := M) (V := V) (r := (tids (T r)).head?) (fun b h => (htr.2.2.2.2.2 b (List.mem_of_head? h)).1)) (va_cwS 1 hts gX2_smallest_X2_sizeOrNone rfl rfl rfl (by decide +kernel) ⟨Nat.le_of_ble_eq_true rfl, Nat.le_of_ble_eq_true rfl⟩) hK hH hS rfl hl.1 rfl (Nat.le_of_ble_eq_true rfl) dX2_smallest_8 ⟨Nat.le_of_ble_eq_true rfl, Nat.le_of_ble_eq_true rfl⟩ (fun v Z1 H locs hpost hH hS => ?_)
  obtain ⟨rfl, rfl⟩ := hpost
  refine W.widen (k := 1) (n := 6) (Nat.le_of_ble_eq_true rfl) (Nat.le_of_ble_eq_true rfl) ?_
  exact vx_ret (eI S hr hlocks hH hS (PoI_r hrow hc0) dX2_smallest_11)

set_option maxRecDepth 100000 in
set_option maxHeartbeats 4000000 in
theorem c_X2_greatest {o : Nat} {T : Nat → Tr} {row : Int32}  (hst : l.stackTraces = false) (hc : CI Γ o T L K sz si P) : Mx l yX2_greatest wsX2_greatest (rmL 7 1 6) D lo Γ [.ref o, .int row] ((L, K, sz, si, P, bi, tu), M, V) (PoI Γ o T sz bi tu M V (qr row (fun r => er (((tids (T r)).getLast?).map sz)))) (PxI Γ o T sz bi tu M V (qr row (fun r => er (((tids (T r)).getLast?).map sz))) en2) := by
  refine Mx_of (cc := cX2_greatest) (maxL := 2) (ret := (some .int)) (by decide) rfl (Nat.le_of_ble_eq_true rfl) ?_
  intro p e s m args below meth c ls S hr hlocks hK hH hS hX ht hl
  have hx := S.1
  have hb := S.2.1
  have hts := S.2.2.2.2
  have hl : lv_has ls 2 [(0, .ref o), (1, .int row)] := hl
  have hc0 := hc
  obtain ⟨hg, c_t, c_nd, c_si, c_inj, c_40⟩ := hc
  obtain ⟨ok_o, o_u, ok_ra, ok_tt, tt_ne, ta_inj⟩ := hg
  refine lv_aload_n hx hb dX2_greatest_0 rfl (lv_at hl 0 rfl) ?_
  refine lv_iload_n hx hb dX2_greatest_1 rfl (lv_at hl 1 rfl) ?_
  refine cVx S (c_X2_treeOf (l := l) (D := D) (lo := lo) (Γ := Γ) (sz := sz) (si := si) (P := P) (bi := bi) (tu := tu) (M := M) (V := V) (row := row) hst hc0) (cwV 1 hts gX2_greatest_X2_treeOf rfl rfl rfl (by decide +kernel) ⟨Nat.le_of_ble_eq_true rfl, Nat.le_of_ble_eq_true rfl⟩) hK hH hX (Hp_recv hK hH ok_o.1 ok_o.2 rfl) hS rfl hl.1 rfl (by simp [cat_rf, Value.category]) dX2_greatest_2 ⟨Nat.le_of_ble_eq_true rfl, Nat.le_of_ble_eq_true rfl⟩ (fun E Z1 H locs ce q9 hpx hH hS hce hcv hcl => ?_) (fun v Z1 H locs hpost hH hS => ?_)
  · obtain ⟨rfl, hrow, rfl⟩ := hpx
    exact xO ht hlocks (PxI_r hrow hc0) hH hS hce hcv hcl (Nat.le_of_ble_eq_true rfl) (Nat.le_of_ble_eq_true rfl)
  obtain ⟨r, hrow, rfl, rfl⟩ := hpost
  have hr6 := (rowN_some hrow).1
  have htr := (c_t r hr6).1
  have ok_t : gta Γ r ∈ L ∧ K (gta Γ r) = 1 := ⟨htr.1, htr.2.1⟩
  refine cV S (c_X1_last (l := l) (D := D) (lo := lo) (Γ := Γ) (sz := sz) (si := si) (P := P) (bi := bi) (tu := tu) (M := M) (V := V) htr) (cwV 0 hts gX2_greatest_X1_last rfl rfl rfl (by decide +kernel) ⟨Nat.le_of_ble_eq_true rfl, Nat.le_of_ble_eq_true rfl⟩) hK hH (Hp_recv hK hH ok_t.1 ok_t.2 rfl) hS rfl hl.1 rfl (Nat.le_of_ble_eq_true rfl) dX2_greatest_5 ⟨Nat.le_of_ble_eq_true rfl, Nat.le_of_ble_eq_true rfl⟩ (fun v Z1 H locs hpost hH hS => ?_)
  obtain ⟨rfl, rfl⟩ := hpost
  refine cSt S (c_X2_sizeOrNone (l := l) (D := D) (lo := lo) (Γ := Γ) (sz := sz) (si := si) (P := P) (bi := bi) (tu := tu) (M := M) (V := V) (r := (tids (T r)).getLast?) (fun b h => (htr.2.2.2.2.2 b (List.mem_of_getLast? h)).1)) (va_cwS 1 hts gX2_greatest_X2_sizeOrNone rfl rfl rfl (by decide +kernel) ⟨Nat.le_of_ble_eq_true rfl, Nat.le_of_ble_eq_true rfl⟩) hK hH hS rfl hl.1 rfl (Nat.le_of_ble_eq_true rfl) dX2_greatest_8 ⟨Nat.le_of_ble_eq_true rfl, Nat.le_of_ble_eq_true rfl⟩ (fun v Z1 H locs hpost hH hS => ?_)
  obtain ⟨rfl, rfl⟩ := hpost
  refine W.widen (k := 1) (n := 6) (Nat.le_of_ble_eq_true rfl) (Nat.le_of_ble_eq_true rfl) ?_
  exact vx_ret (eI S hr hlocks hH hS (PoI_r hrow hc0) dX2_greatest_11)

set_option maxRecDepth 100000 in
set_option maxHeartbeats 4000000 in
theorem c_X2_favourite {o : Nat} {T : Nat → Tr} {row : Int32}  (hst : l.stackTraces = false) (hc : CI Γ o T L K sz si P) : Mx l yX2_favourite wsX2_favourite (rmL 7 1 6) D lo Γ [.ref o, .int row] ((L, K, sz, si, P, bi, tu), M, V) (PoI Γ o T sz bi tu M V (qr row (fun r => er ((fvs bi none (tids (T r))).map sz)))) (PxI Γ o T sz bi tu M V (qr row (fun r => er ((fvs bi none (tids (T r))).map sz))) en2) := by
  refine Mx_of (cc := cX2_favourite) (maxL := 2) (ret := (some .int)) (by decide) rfl (Nat.le_of_ble_eq_true rfl) ?_
  intro p e s m args below meth c ls S hr hlocks hK hH hS hX ht hl
  have hx := S.1
  have hb := S.2.1
  have hts := S.2.2.2.2
  have hl : lv_has ls 2 [(0, .ref o), (1, .int row)] := hl
  have hc0 := hc
  obtain ⟨hg, c_t, c_nd, c_si, c_inj, c_40⟩ := hc
  obtain ⟨ok_o, o_u, ok_ra, ok_tt, tt_ne, ta_inj⟩ := hg
  refine lv_aload_n hx hb dX2_favourite_0 rfl (lv_at hl 0 rfl) ?_
  refine lv_iload_n hx hb dX2_favourite_1 rfl (lv_at hl 1 rfl) ?_
  refine cVx S (c_X2_treeOf (l := l) (D := D) (lo := lo) (Γ := Γ) (sz := sz) (si := si) (P := P) (bi := bi) (tu := tu) (M := M) (V := V) (row := row) hst hc0) (cwV 1 hts gX2_favourite_X2_treeOf rfl rfl rfl (by decide +kernel) ⟨Nat.le_of_ble_eq_true rfl, Nat.le_of_ble_eq_true rfl⟩) hK hH hX (Hp_recv hK hH ok_o.1 ok_o.2 rfl) hS rfl hl.1 rfl (by simp [cat_rf, Value.category]) dX2_favourite_2 ⟨Nat.le_of_ble_eq_true rfl, Nat.le_of_ble_eq_true rfl⟩ (fun E Z1 H locs ce q9 hpx hH hS hce hcv hcl => ?_) (fun v Z1 H locs hpost hH hS => ?_)
  · obtain ⟨rfl, hrow, rfl⟩ := hpx
    exact xO ht hlocks (PxI_r hrow hc0) hH hS hce hcv hcl (Nat.le_of_ble_eq_true rfl) (Nat.le_of_ble_eq_true rfl)
  obtain ⟨r, hrow, rfl, rfl⟩ := hpost
  have hr6 := (rowN_some hrow).1
  have htr := (c_t r hr6).1
  have ok_t : gta Γ r ∈ L ∧ K (gta Γ r) = 1 := ⟨htr.1, htr.2.1⟩
  refine cV S (c_X1_mostBitten (l := l) (D := D) (lo := lo) (Γ := Γ) (sz := sz) (si := si) (P := P) (bi := bi) (tu := tu) (M := M) (V := V) htr) (cwV 0 hts gX2_favourite_X1_mostBitten rfl rfl rfl (by decide +kernel) ⟨Nat.le_of_ble_eq_true rfl, Nat.le_of_ble_eq_true rfl⟩) hK hH (Hp_recv hK hH ok_t.1 ok_t.2 rfl) hS rfl hl.1 rfl (Nat.le_of_ble_eq_true rfl) dX2_favourite_5 ⟨Nat.le_of_ble_eq_true rfl, Nat.le_of_ble_eq_true rfl⟩ (fun v Z1 H locs hpost hH hS => ?_)
  obtain ⟨rfl, rfl⟩ := hpost
  refine cSt S (c_X2_sizeOrNone (l := l) (D := D) (lo := lo) (Γ := Γ) (sz := sz) (si := si) (P := P) (bi := bi) (tu := tu) (M := M) (V := V) (r := fvs bi none (tids (T r))) (fun b h => (htr.2.2.2.2.2 b (fvs_mem h)).1)) (va_cwS 1 hts gX2_favourite_X2_sizeOrNone rfl rfl rfl (by decide +kernel) ⟨Nat.le_of_ble_eq_true rfl, Nat.le_of_ble_eq_true rfl⟩) hK hH hS rfl hl.1 rfl (Nat.le_of_ble_eq_true rfl) dX2_favourite_8 ⟨Nat.le_of_ble_eq_true rfl, Nat.le_of_ble_eq_true rfl⟩ (fun v Z1 H locs hpost hH hS => ?_)
  obtain ⟨rfl, rfl⟩ := hpost
  refine W.widen (k := 1) (n := 6) (Nat.le_of_ble_eq_true rfl) (Nat.le_of_ble_eq_true rfl) ?_
  exact vx_ret (eI S hr hlocks hH hS (PoI_r hrow hc0) dX2_favourite_11)

set_option maxRecDepth 100000 in
set_option maxHeartbeats 4000000 in
theorem c_X2_has {o : Nat} {T : Nat → Tr} {row : Int32} {x : Int32} (hst : l.stackTraces = false) (hc : CI Γ o T L K sz si P) : Mx l yX2_has wsX2_has (rmL 7 1 6) D lo Γ [.ref o, .int row, .int x] ((L, K, sz, si, P, bi, tu), M, V) (PoI Γ o T sz bi tu M V (qr row (fun r => if (fnd sz x.toInt (T r)).isSome then 1 else 0))) (PxI Γ o T sz bi tu M V (qr row (fun r => if (fnd sz x.toInt (T r)).isSome then 1 else 0)) en2) := by
  refine Mx_of (cc := cX2_has) (maxL := 3) (ret := (some .boolean)) (by decide) rfl (Nat.le_of_ble_eq_true rfl) ?_
  intro p e s m args below meth c ls S hr hlocks hK hH hS hX ht hl
  have hx := S.1
  have hb := S.2.1
  have hts := S.2.2.2.2
  have hl : lv_has ls 3 [(0, .ref o), (1, .int row), (2, .int x)] := hl
  have hc0 := hc
  obtain ⟨hg, c_t, c_nd, c_si, c_inj, c_40⟩ := hc
  obtain ⟨ok_o, o_u, ok_ra, ok_tt, tt_ne, ta_inj⟩ := hg
  refine lv_aload_n hx hb dX2_has_0 rfl (lv_at hl 0 rfl) ?_
  refine lv_iload_n hx hb dX2_has_1 rfl (lv_at hl 1 rfl) ?_
  refine cVx S (c_X2_treeOf (l := l) (D := D) (lo := lo) (Γ := Γ) (sz := sz) (si := si) (P := P) (bi := bi) (tu := tu) (M := M) (V := V) (row := row) hst hc0) (cwV 1 hts gX2_has_X2_treeOf rfl rfl rfl (by decide +kernel) ⟨Nat.le_of_ble_eq_true rfl, Nat.le_of_ble_eq_true rfl⟩) hK hH hX (Hp_recv hK hH ok_o.1 ok_o.2 rfl) hS rfl hl.1 rfl (by simp [cat_rf, Value.category]) dX2_has_2 ⟨Nat.le_of_ble_eq_true rfl, Nat.le_of_ble_eq_true rfl⟩ (fun E Z1 H locs ce q9 hpx hH hS hce hcv hcl => ?_) (fun v Z1 H locs hpost hH hS => ?_)
  · obtain ⟨rfl, hrow, rfl⟩ := hpx
    exact xO ht hlocks (PxI_r hrow hc0) hH hS hce hcv hcl (Nat.le_of_ble_eq_true rfl) (Nat.le_of_ble_eq_true rfl)
  obtain ⟨r, hrow, rfl, rfl⟩ := hpost
  have hr6 := (rowN_some hrow).1
  have htr := (c_t r hr6).1
  have ok_t : gta Γ r ∈ L ∧ K (gta Γ r) = 1 := ⟨htr.1, htr.2.1⟩
  refine lv_iload_n hx hb dX2_has_5 rfl (lv_at hl 2 rfl) ?_
  refine cV S (c_X1_find (l := l) (D := D) (lo := lo) (Γ := Γ) (sz := sz) (si := si) (P := P) (bi := bi) (tu := tu) (M := M) (V := V) (x := x) htr) (cwV 1 hts gX2_has_X1_find rfl rfl rfl (by decide +kernel) ⟨Nat.le_of_ble_eq_true rfl, Nat.le_of_ble_eq_true rfl⟩) hK hH (Hp_recv hK hH ok_t.1 ok_t.2 rfl) hS rfl hl.1 rfl (Nat.le_of_ble_eq_true rfl) dX2_has_6 ⟨Nat.le_of_ble_eq_true rfl, Nat.le_of_ble_eq_true rfl⟩ (fun v Z1 H locs hpost hH hS => ?_)
  obtain ⟨rfl, rfl⟩ := hpost
  refine lq_ifnull S dX2_has_9 (tgt := 16) (by decide) (fun hq => ?_) (fun b hq => ?_)
  · skip
    refine lv_iconst (v := 0) hx hb dX2_has_16 (by decide) ?_
    refine W.widen (k := 1) (n := 6) (Nat.le_of_ble_eq_true rfl) (Nat.le_of_ble_eq_true rfl) ?_
    exact vx_ret (eZ S hr hlocks (Or.inl rfl) hH hS (by have h9 := PoI_r (Γ := Γ) (o := o) (T := T) (bi := bi) (tu := tu) (M := M) (V := V) (f := fun r => if (fnd sz x.toInt (T r)).isSome then 1 else 0) hrow hc0; simpa [hq] using h9) dX2_has_17)
  · skip
    refine lv_iconst (v := 1) hx hb dX2_has_12 (by decide) ?_
    refine lv_goto (tgt := 17) hx hb dX2_has_13 (by decide) ?_
    refine W.widen (k := 1) (n := 6) (Nat.le_of_ble_eq_true rfl) (Nat.le_of_ble_eq_true rfl) ?_
    exact vx_ret (eZ S hr hlocks (Or.inr rfl) hH hS (by have h9 := PoI_r (Γ := Γ) (o := o) (T := T) (bi := bi) (tu := tu) (M := M) (V := V) (f := fun r => if (fnd sz x.toInt (T r)).isSome then 1 else 0) hrow hc0; simpa [hq] using h9) dX2_has_17)

set_option maxRecDepth 100000 in
set_option maxHeartbeats 4000000 in
theorem c_X2_leastHeight {o : Nat} {T : Nat → Tr} {row : Int32} (hst : l.stackTraces = false) (hc : CI Γ o T L K sz si P) : Mx l yX2_leastHeight wsX2_leastHeight (rmL 7 1 6) D lo Γ [.ref o, .int row] ((L, K, sz, si, P, bi, tu), M, V) (PoI Γ o T sz bi tu M V (qr row (fun r => nI (lh (tids (T r)).length)))) (PxI Γ o T sz bi tu M V (qr row (fun r => nI (lh (tids (T r)).length))) en2) := by
  refine Mx_of (cc := cX2_leastHeight) (maxL := 5) (ret := (some .int)) (by decide) rfl (Nat.le_of_ble_eq_true rfl) ?_
  intro p e s m args below meth c ls S hr hlocks hK hH hS hX ht hl
  have hx := S.1
  have hb := S.2.1
  have hts := S.2.2.2.2
  have hl : lv_has ls 5 [(0, .ref o), (1, .int row)] := hl
  have hc0 := hc
  obtain ⟨hg, c_t, c_nd, c_si, c_inj, c_40⟩ := hc
  obtain ⟨ok_o, o_u, ok_ra, ok_tt, tt_ne, ta_inj⟩ := hg
  refine lv_aload_n hx hb dX2_leastHeight_0 rfl (lv_at hl 0 rfl) ?_
  refine lv_iload_n hx hb dX2_leastHeight_1 rfl (lv_at hl 1 rfl) ?_
  refine cVx S (c_X2_treeOf (l := l) (D := D) (lo := lo) (Γ := Γ) (sz := sz) (si := si) (P := P) (bi := bi) (tu := tu) (M := M) (V := V) (row := row) hst hc0) (cwV 1 hts gX2_leastHeight_X2_treeOf rfl rfl rfl (by decide +kernel) ⟨Nat.le_of_ble_eq_true rfl, Nat.le_of_ble_eq_true rfl⟩) hK hH hX (Hp_recv hK hH ok_o.1 ok_o.2 rfl) hS rfl hl.1 rfl (by simp [cat_rf, Value.category]) dX2_leastHeight_2 ⟨Nat.le_of_ble_eq_true rfl, Nat.le_of_ble_eq_true rfl⟩ (fun E Z1 H locs ce q9 hpx hH hS hce hcv hcl => ?_) (fun v Z1 H locs hpost hH hS => ?_)
  · obtain ⟨rfl, hrow, rfl⟩ := hpx
    exact xO ht hlocks (PxI_r hrow hc0) hH hS hce hcv hcl (Nat.le_of_ble_eq_true rfl) (Nat.le_of_ble_eq_true rfl)
  obtain ⟨r, hrow, rfl, rfl⟩ := hpost
  have hr6 := (rowN_some hrow).1
  have htr := (c_t r hr6).1
  have ok_t : gta Γ r ∈ L ∧ K (gta Γ r) = 1 := ⟨htr.1, htr.2.1⟩
  refine cV S (c_X1_count (l := l) (D := D) (lo := lo) (Γ := Γ) (sz := sz) (si := si) (P := P) (bi := bi) (tu := tu) (M := M) (V := V) htr) (cwV 0 hts gX2_leastHeight_X1_count rfl rfl rfl (by decide +kernel) ⟨Nat.le_of_ble_eq_true rfl, Nat.le_of_ble_eq_true rfl⟩) hK hH (Hp_recv hK hH ok_t.1 ok_t.2 rfl) hS rfl hl.1 rfl (Nat.le_of_ble_eq_true rfl) dX2_leastHeight_5 ⟨Nat.le_of_ble_eq_true rfl, Nat.le_of_ble_eq_true rfl⟩ (fun v Z1 H locs hpost hH hS => ?_)
  obtain ⟨rfl, rfl⟩ := hpost
  refine lv_istore_n (lv' := [(2, .int (nI (tids (T r)).length)), (0, .ref o), (1, .int row)]) hx hb dX2_leastHeight_8 rfl hl (by decide) rfl (fun ls hl => ?_)
  refine lv_iconst (v := 0) hx hb dX2_leastHeight_9 (by decide) ?_
  refine lv_istore_n (lv' := [(3, .int 0), (2, .int (nI (tids (T r)).length)), (0, .ref o), (1, .int row)]) hx hb dX2_leastHeight_10 rfl hl (by decide) rfl (fun ls hl => ?_)
  refine lv_iconst (v := 0) hx hb dX2_leastHeight_11 (by decide) ?_
  refine lv_istore (lv' := [(4, .int 0), (3, .int 0), (2, .int (nI (tids (T r)).length)), (0, .ref o), (1, .int row)]) hx hb dX2_leastHeight_12 hl (by decide) rfl (fun ls hl => ?_)
  obtain ⟨n9, hn9⟩ : ∃ n, n = (tids (T r)).length := ⟨_, rfl⟩
  have hn40 : n9 ≤ 40 := by have := gids_le (T := T) hr6; omega
  rw [← hn9] at hl
  have loop : ∀ (f k : Nat), k + f = 7 → (k = 0 ∨ 2 ^ (k - 1) - 1 < n9) → ∀ H locs, Hp D lo Γ ((L, K, sz, si, P, bi, tu), M, V) H → va_S (lA lo) s.heap H locs → ∀ ls, lv_has ls 5 [(4, .int (nI (2 ^ k - 1))), (3, .int (nI k)), (2, .int (nI n9)), (0, .ref o), (1, .int row)] → W p l e (rmL 7 1 6) s m args below meth c H locs 1 6 (vx_MQ below (Qz D lo Γ (PoI Γ o T sz bi tu M V (qr row (fun r => nI (lh (tids (T r)).length))))) (XCz D lo Γ (PxI Γ o T sz bi tu M V (qr row (fun r => nI (lh (tids (T r)).length))) en2)) args s 1 6 (lA lo)) (F0 m 14 ls []) := by
    intro f
    induction f with
    | zero =>
      intro k hk hlow
      exfalso
      have h7 : k = 7 := by omega
      subst h7
      omega
    | succ f ih =>
      intro k hk hlow H locs hH hS ls hl
      have hk7 : k < 7 := by omega
      have hpk : 2 ^ k - 1 < 200 := pow_small k hk7
      refine lv_iload hx hb dX2_leastHeight_14 (lv_at hl 0 rfl) ?_
      refine lv_iload_n hx hb dX2_leastHeight_16 rfl (lv_at hl 2 rfl) ?_
      refine lv_icmp_ge (tgt := 34) hx hb dX2_leastHeight_17 (by decide) (fun h1 => ?_) (fun h1 => ?_)
      · skip
        refine lv_iload_n hx hb dX2_leastHeight_34 rfl (lv_at hl 1 rfl) ?_
        have h1 := (nI_leI (by omega) (by omega)).mp h1
        have hkl : k = lh n9 := lh_eq n9 (by omega) k hk7 h1 hlow
        exact vx_ret (eI S hr hlocks hH hS (by have h9 := PoI_r (Γ := Γ) (o := o) (T := T) (bi := bi) (tu := tu) (M := M) (V := V) (f := fun r => nI (lh (tids (T r)).length)) hrow hc0; rw [hkl, hn9]; exact h9) dX2_leastHeight_35)
      · skip
        refine lv_iinc (v := nI (k + 1)) (lv' := [(3, .int (nI (k + 1))), (4, .int (nI (2 ^ k - 1))), (2, .int (nI n9)), (0, .ref o), (1, .int row)]) hx hb dX2_leastHeight_20 hl (k := 1) rfl (nI_1 k) (by decide) rfl (fun ls hl => ?_)
        refine lv_iconst (v := 2) hx hb dX2_leastHeight_23 (by decide) ?_
        refine lv_iload hx hb dX2_leastHeight_24 (lv_at hl 1 rfl) ?_
        refine lv_imul hx hb dX2_leastHeight_26 ?_
        refine lv_iconst (v := 1) hx hb dX2_leastHeight_27 (by decide) ?_
        refine lv_iadd hx hb dX2_leastHeight_28 ?_
        have e9 : (2 * nI (2 ^ k - 1)) + 1 = nI (2 ^ (k + 1) - 1) := pow_step k hk7
        rw [e9]
        refine lv_istore (lv' := [(4, .int (nI (2 ^ (k + 1) - 1))), (3, .int (nI (k + 1))), (2, .int (nI n9)), (0, .ref o), (1, .int row)]) hx hb dX2_leastHeight_29 hl (by decide) rfl (fun ls hl => ?_)
        refine lv_goto (tgt := 14) hx hb dX2_leastHeight_31 (by decide) ?_
        exact ih (k + 1) (by omega) (Or.inr (by rw [Nat.add_sub_cancel]; exact Nat.lt_of_not_le (mt (nI_leI (by omega) (by omega)).mpr h1))) H locs hH hS ls (lv_sub hl [0, 1, 2, 3, 4] rfl)
  exact loop 7 0 rfl (Or.inl rfl) _ _ hH hS ls (lv_sub hl [0, 1, 2, 3, 4] rfl)

set_option maxRecDepth 100000 in
set_option maxHeartbeats 4000000 in
theorem c_X2_inOrder {o : Nat} {T : Nat → Tr} {row x : Int32} (hst : l.stackTraces = false) (hc : CI Γ o T L K sz si P) : Mx l yX2_inOrder wsX2_inOrder (rmL 7 2 12) D lo Γ [.ref o, .int row, .int x] ((L, K, sz, si, P, bi, tu), M, V) (PoI Γ o T sz bi tu M V (qo T sz row x)) (PxI Γ o T sz bi tu M V (qo T sz row x) en2) := by
  refine Mx_of (cc := cX2_inOrder) (maxL := 4) (ret := (some .int)) (by decide) rfl (Nat.le_of_ble_eq_true rfl) ?_
  intro p e s m args below meth c ls S hr hlocks hK hH hS hX ht hl
  have hx := S.1
  have hb := S.2.1
  have hts := S.2.2.2.2
  have f130 : (Cond.fieldLink RX2 130 (TX0 0).1 (TX0 0).2.1 (TX0 0).2.2.1).before args s = true := hts _ (List.mem_of_getElem? (i := 3) rfl)
  have hi0 : ∀ w ∈ wsX00, w ∈ wsX2_inOrder := by decide +kernel
  have hl : lv_has ls 4 [(0, .ref o), (1, .int row), (2, .int x)] := hl
  have hc0 := hc
  obtain ⟨hg, c_t, c_nd, c_si, c_inj, c_40⟩ := hc
  obtain ⟨ok_o, o_u, ok_ra, ok_tt, tt_ne, ta_inj⟩ := hg
  refine lv_aload_n hx hb dX2_inOrder_0 rfl (lv_at hl 0 rfl) ?_
  refine lv_iload_n hx hb dX2_inOrder_1 rfl (lv_at hl 1 rfl) ?_
  refine cVx S (c_X2_treeOf (l := l) (D := D) (lo := lo) (Γ := Γ) (sz := sz) (si := si) (P := P) (bi := bi) (tu := tu) (M := M) (V := V) (row := row) hst hc0) (cwV 1 hts gX2_inOrder_X2_treeOf rfl rfl rfl (by decide +kernel) ⟨Nat.le_of_ble_eq_true rfl, Nat.le_of_ble_eq_true rfl⟩) hK hH hX (Hp_recv hK hH ok_o.1 ok_o.2 rfl) hS rfl hl.1 rfl (by simp [cat_rf, Value.category]) dX2_inOrder_2 ⟨Nat.le_of_ble_eq_true rfl, Nat.le_of_ble_eq_true rfl⟩ (fun E Z1 H locs ce q9 hpx hH hS hce hcv hcl => ?_) (fun v Z1 H locs hpost hH hS => ?_)
  · obtain ⟨rfl, hrow, rfl⟩ := hpx
    exact xO ht hlocks ⟨by simp [qo, hrow], by simp [qo, hrow, en2], L, K, si, P, rfl, hc0⟩ hH hS hce hcv hcl (Nat.le_of_ble_eq_true rfl) (Nat.le_of_ble_eq_true rfl)
  obtain ⟨r, hrow, rfl, rfl⟩ := hpost
  have hr6 := (rowN_some hrow).1
  have htr := (c_t r hr6).1
  have ok_t : gta Γ r ∈ L ∧ K (gta Γ r) = 1 := ⟨htr.1, htr.2.1⟩
  refine lv_iload_n hx hb dX2_inOrder_5 rfl (lv_at hl 2 rfl) ?_
  refine cV S (c_X1_at (l := l) (D := D) (lo := lo) (Γ := Γ) (sz := sz) (si := si) (P := P) (bi := bi) (tu := tu) (M := M) (V := V) (x := x) htr) (cwV 1 hts gX2_inOrder_X1_at rfl rfl rfl (by decide +kernel) ⟨Nat.le_of_ble_eq_true rfl, Nat.le_of_ble_eq_true rfl⟩) hK hH (Hp_recv hK hH ok_t.1 ok_t.2 rfl) hS rfl hl.1 rfl (Nat.le_of_ble_eq_true rfl) dX2_inOrder_6 ⟨Nat.le_of_ble_eq_true rfl, Nat.le_of_ble_eq_true rfl⟩ (fun v Z1 H locs hpost hH hS => ?_)
  obtain ⟨rfl, rfl⟩ := hpost
  refine lq_astore_n (lv' := [(0, .ref o), (1, .int row), (2, .int x)]) S dX2_inOrder_9 rfl hl (by decide) rfl (fun ls hl => ?_)
  refine lq_aload_n S dX2_inOrder_10 rfl (lv_at hl 0 rfl) ?_
  refine lq_ifnonnull S dX2_inOrder_11 (tgt := 24) (by decide) (fun b hq => ?_) (fun hq => ?_)
  · skip
    have ok_b := (htr.2.2.2.2.2 b (atL_mem hq)).1
    rw [hq] at hl
    refine lv_aload_n hx hb dX2_inOrder_24 rfl (lv_at hl 0 rfl) ?_
    refine gA S hi0 hK hH ok_b 0 (by decide) f130 (v := .int (nI (sz b))) rfl dX2_inOrder_25 ?_
    refine W.widen (k := 2) (n := 12) (Nat.le_of_ble_eq_true rfl) (Nat.le_of_ble_eq_true rfl) ?_
    exact vx_ret (eI S hr hlocks hH hS ⟨by simp [qo, hrow, hq], by simp [qo, hrow, hq], L, K, si, P, rfl, hc0⟩ dX2_inOrder_28)
  · skip
    exact tS (cls := "java/lang/IndexOutOfBoundsException") (text := "no such place in the row") (ik := 125) (is := 127) (ic := 129) S hst hX hlocks ht hH hS ⟨by simp [qo, hrow, hq], by simp [qo, hrow, hq, en2], L, K, si, P, rfl, hc0⟩ (by simp [xstr]) (by decide +kernel) (hts _ (List.mem_of_getElem? (i := 1) rfl)) (hts _ (List.mem_of_getElem? (i := 2) rfl)) (xg_all xg1 (hX.2.2.2.1 _ (by simp [xcl])) hX.2.2.2.2 (fun w h => hts w (List.mem_cons_of_mem _ (List.mem_append_right _ h)))) (by decide +kernel) hl.1 dX2_inOrder_14 dX2_inOrder_17 dX2_inOrder_18 dX2_inOrder_20 dX2_inOrder_23 (Nat.le_of_ble_eq_true rfl) (Nat.le_of_ble_eq_true rfl) (Nat.le_of_ble_eq_true rfl) (Nat.le_of_ble_eq_true rfl) (Nat.le_of_ble_eq_true rfl) (Nat.le_of_ble_eq_true rfl)

set_option maxRecDepth 100000 in
set_option maxHeartbeats 4000000 in
theorem c_X2_depthOf {o : Nat} {T : Nat → Tr} {row x : Int32} (hst : l.stackTraces = false) (hc : CI Γ o T L K sz si P) : Mx l yX2_depthOf wsX2_depthOf (rmL 7 2 12) D lo Γ [.ref o, .int row, .int x] ((L, K, sz, si, P, bi, tu), M, V) (PoI Γ o T sz bi tu M V (qa T sz row x (fun r a => nI (zof (T r) a).2.2.2.length))) (PxI Γ o T sz bi tu M V (qa T sz row x (fun r a => nI (zof (T r) a).2.2.2.length)) en2) := by
  refine Mx_of (cc := cX2_depthOf) (maxL := 3) (ret := (some .int)) (by decide) rfl (Nat.le_of_ble_eq_true rfl) ?_
  intro p e s m args below meth c ls S hr hlocks hK hH hS hX ht hl
  have hx := S.1
  have hb := S.2.1
  have hts := S.2.2.2.2
  have hl : lv_has ls 3 [(0, .ref o), (1, .int row), (2, .int x)] := hl
  have hc0 := hc
  obtain ⟨hg, c_t, c_nd, c_si, c_inj, c_40⟩ := hc
  obtain ⟨ok_o, o_u, ok_ra, ok_tt, tt_ne, ta_inj⟩ := hg
  refine lv_aload_n hx hb dX2_depthOf_0 rfl (lv_at hl 0 rfl) ?_
  refine lv_iload_n hx hb dX2_depthOf_1 rfl (lv_at hl 1 rfl) ?_
  refine cVx S (c_X2_treeOf (l := l) (D := D) (lo := lo) (Γ := Γ) (sz := sz) (si := si) (P := P) (bi := bi) (tu := tu) (M := M) (V := V) (row := row) hst hc0) (cwV 1 hts gX2_depthOf_X2_treeOf rfl rfl rfl (by decide +kernel) ⟨Nat.le_of_ble_eq_true rfl, Nat.le_of_ble_eq_true rfl⟩) hK hH hX (Hp_recv hK hH ok_o.1 ok_o.2 rfl) hS rfl hl.1 rfl (by simp [cat_rf, Value.category]) dX2_depthOf_2 ⟨Nat.le_of_ble_eq_true rfl, Nat.le_of_ble_eq_true rfl⟩ (fun E Z1 H locs ce q9 hpx hH hS hce hcv hcl => ?_) (fun v Z1 H locs hpost hH hS => ?_)
  · obtain ⟨rfl, hrow, rfl⟩ := hpx
    exact xO ht hlocks (PxI_a1 hrow hc0) hH hS hce hcv hcl (Nat.le_of_ble_eq_true rfl) (Nat.le_of_ble_eq_true rfl)
  obtain ⟨r, hrow, rfl, rfl⟩ := hpost
  have hr6 := (rowN_some hrow).1
  have htr := (c_t r hr6).1
  have ok_t : gta Γ r ∈ L ∧ K (gta Γ r) = 1 := ⟨htr.1, htr.2.1⟩
  refine lv_iload_n hx hb dX2_depthOf_5 rfl (lv_at hl 2 rfl) ?_
  refine cSx S (c_X2_appleOf (l := l) (D := D) (lo := lo) (Γ := Γ) (sz := sz) (si := si) (P := P) (bi := bi) (tu := tu) (M := M) (V := V) (x := x) hst htr) (va_cwS 2 hts gX2_depthOf_X2_appleOf rfl rfl rfl (by decide +kernel) ⟨Nat.le_of_ble_eq_true rfl, Nat.le_of_ble_eq_true rfl⟩) hK hH hX hS rfl hl.1 rfl (by simp [cat_rf, Value.category]) dX2_depthOf_6 ⟨Nat.le_of_ble_eq_true rfl, Nat.le_of_ble_eq_true rfl⟩ (fun E Z1 H locs ce q9 hpx hH hS hce hcv hcl => ?_) (fun v Z1 H locs hpost hH hS => ?_)
  · obtain ⟨rfl, hfa, rfl⟩ := hpx
    exact xO ht hlocks (PxI_a2 hrow hfa hc0) hH hS hce hcv hcl (Nat.le_of_ble_eq_true rfl) (Nat.le_of_ble_eq_true rfl)
  obtain ⟨a, hfa, rfl, rfl⟩ := hpost
  have hin_a := (fnd_mem _ _ hfa).1
  have ok_a := (htr.2.2.2.2.2 a hin_a).1
  refine cV S (c_X0_depthA (l := l) (D := D) (lo := lo) (Γ := Γ) (sz := sz) (si := si) (P := P) (bi := bi) (tu := tu) (M := M) (V := V) htr hin_a) (cwV 0 hts gX2_depthOf_X0_depth rfl rfl rfl (by decide +kernel) ⟨Nat.le_of_ble_eq_true rfl, Nat.le_of_ble_eq_true rfl⟩) hK hH (Hp_recv hK hH ok_a.1 ok_a.2 rfl) hS rfl hl.1 rfl (Nat.le_of_ble_eq_true rfl) dX2_depthOf_9 ⟨Nat.le_of_ble_eq_true rfl, Nat.le_of_ble_eq_true rfl⟩ (fun v Z1 H locs hpost hH hS => ?_)
  obtain ⟨rfl, rfl⟩ := hpost
  refine W.widen (k := 2) (n := 12) (Nat.le_of_ble_eq_true rfl) (Nat.le_of_ble_eq_true rfl) ?_
  exact vx_ret (eI S hr hlocks hH hS (PoI_a hrow hfa hc0) dX2_depthOf_12)

set_option maxRecDepth 100000 in
set_option maxHeartbeats 4000000 in
theorem c_X2_above {o : Nat} {T : Nat → Tr} {row x : Int32} (hst : l.stackTraces = false) (hc : CI Γ o T L K sz si P) : Mx l yX2_above wsX2_above (rmL 7 2 12) D lo Γ [.ref o, .int row, .int x] ((L, K, sz, si, P, bi, tu), M, V) (PoI Γ o T sz bi tu M V (qa T sz row x (fun r a => er ((parC (zof (T r) a).2.2.2).map sz)))) (PxI Γ o T sz bi tu M V (qa T sz row x (fun r a => er ((parC (zof (T r) a).2.2.2).map sz))) en2) := by
  refine Mx_of (cc := cX2_above) (maxL := 3) (ret := (some .int)) (by decide) rfl (Nat.le_of_ble_eq_true rfl) ?_
  intro p e s m args below meth c ls S hr hlocks hK hH hS hX ht hl
  have hx := S.1
  have hb := S.2.1
  have hts := S.2.2.2.2
  have f143 : (Cond.fieldLink RX2 143 (TX0 2).1 (TX0 2).2.1 (TX0 2).2.2.1).before args s = true := hts _ (List.mem_of_getElem? (i := 1) rfl)
  have hi0 : ∀ w ∈ wsX00, w ∈ wsX2_above := by decide +kernel
  have hl : lv_has ls 3 [(0, .ref o), (1, .int row), (2, .int x)] := hl
  have hc0 := hc
  obtain ⟨hg, c_t, c_nd, c_si, c_inj, c_40⟩ := hc
  obtain ⟨ok_o, o_u, ok_ra, ok_tt, tt_ne, ta_inj⟩ := hg
  refine lv_aload_n hx hb dX2_above_0 rfl (lv_at hl 0 rfl) ?_
  refine lv_iload_n hx hb dX2_above_1 rfl (lv_at hl 1 rfl) ?_
  refine cVx S (c_X2_treeOf (l := l) (D := D) (lo := lo) (Γ := Γ) (sz := sz) (si := si) (P := P) (bi := bi) (tu := tu) (M := M) (V := V) (row := row) hst hc0) (cwV 1 hts gX2_above_X2_treeOf rfl rfl rfl (by decide +kernel) ⟨Nat.le_of_ble_eq_true rfl, Nat.le_of_ble_eq_true rfl⟩) hK hH hX (Hp_recv hK hH ok_o.1 ok_o.2 rfl) hS rfl hl.1 rfl (by simp [cat_rf, Value.category]) dX2_above_2 ⟨Nat.le_of_ble_eq_true rfl, Nat.le_of_ble_eq_true rfl⟩ (fun E Z1 H locs ce q9 hpx hH hS hce hcv hcl => ?_) (fun v Z1 H locs hpost hH hS => ?_)
  · obtain ⟨rfl, hrow, rfl⟩ := hpx
    exact xO ht hlocks (PxI_a1 hrow hc0) hH hS hce hcv hcl (Nat.le_of_ble_eq_true rfl) (Nat.le_of_ble_eq_true rfl)
  obtain ⟨r, hrow, rfl, rfl⟩ := hpost
  have hr6 := (rowN_some hrow).1
  have htr := (c_t r hr6).1
  have ok_t : gta Γ r ∈ L ∧ K (gta Γ r) = 1 := ⟨htr.1, htr.2.1⟩
  refine lv_iload_n hx hb dX2_above_5 rfl (lv_at hl 2 rfl) ?_
  refine cSx S (c_X2_appleOf (l := l) (D := D) (lo := lo) (Γ := Γ) (sz := sz) (si := si) (P := P) (bi := bi) (tu := tu) (M := M) (V := V) (x := x) hst htr) (va_cwS 2 hts gX2_above_X2_appleOf rfl rfl rfl (by decide +kernel) ⟨Nat.le_of_ble_eq_true rfl, Nat.le_of_ble_eq_true rfl⟩) hK hH hX hS rfl hl.1 rfl (by simp [cat_rf, Value.category]) dX2_above_6 ⟨Nat.le_of_ble_eq_true rfl, Nat.le_of_ble_eq_true rfl⟩ (fun E Z1 H locs ce q9 hpx hH hS hce hcv hcl => ?_) (fun v Z1 H locs hpost hH hS => ?_)
  · obtain ⟨rfl, hfa, rfl⟩ := hpx
    exact xO ht hlocks (PxI_a2 hrow hfa hc0) hH hS hce hcv hcl (Nat.le_of_ble_eq_true rfl) (Nat.le_of_ble_eq_true rfl)
  obtain ⟨a, hfa, rfl, rfl⟩ := hpost
  have hin_a := (fnd_mem _ _ hfa).1
  have ok_a := (htr.2.2.2.2.2 a hin_a).1
  refine gA S hi0 hK hH ok_a 2 (by decide) f143 (v := va_rf (P 2 a)) rfl dX2_above_9 ?_
  have e9 := (up_of htr hin_a).1
  have okq9 : ∀ b, P 2 a = some b → okA L K b := fun b h => hH.2.2.2.1 a ok_a 2 (by decide) b h
  rw [e9] at okq9 ⊢
  refine cSt S (c_X2_sizeOrNone (l := l) (D := D) (lo := lo) (Γ := Γ) (sz := sz) (si := si) (P := P) (bi := bi) (tu := tu) (M := M) (V := V) (r := parC (zof (T r) a).2.2.2) okq9) (va_cwS 1 hts gX2_above_X2_sizeOrNone rfl rfl rfl (by decide +kernel) ⟨Nat.le_of_ble_eq_true rfl, Nat.le_of_ble_eq_true rfl⟩) hK hH hS rfl hl.1 rfl (Nat.le_of_ble_eq_true rfl) dX2_above_12 ⟨Nat.le_of_ble_eq_true rfl, Nat.le_of_ble_eq_true rfl⟩ (fun v Z1 H locs hpost hH hS => ?_)
  obtain ⟨rfl, rfl⟩ := hpost
  refine W.widen (k := 2) (n := 12) (Nat.le_of_ble_eq_true rfl) (Nat.le_of_ble_eq_true rfl) ?_
  exact vx_ret (eI S hr hlocks hH hS (PoI_a hrow hfa hc0) dX2_above_15)

set_option maxRecDepth 100000 in
set_option maxHeartbeats 4000000 in
theorem c_X2_leftOf {o : Nat} {T : Nat → Tr} {row x : Int32} (hst : l.stackTraces = false) (hc : CI Γ o T L K sz si P) : Mx l yX2_leftOf wsX2_leftOf (rmL 7 2 12) D lo Γ [.ref o, .int row, .int x] ((L, K, sz, si, P, bi, tu), M, V) (PoI Γ o T sz bi tu M V (qa T sz row x (fun r a => er ((rt (zof (T r) a).2.1).map sz)))) (PxI Γ o T sz bi tu M V (qa T sz row x (fun r a => er ((rt (zof (T r) a).2.1).map sz))) en2) := by
  refine Mx_of (cc := cX2_leftOf) (maxL := 3) (ret := (some .int)) (by decide) rfl (Nat.le_of_ble_eq_true rfl) ?_
  intro p e s m args below meth c ls S hr hlocks hK hH hS hX ht hl
  have hx := S.1
  have hb := S.2.1
  have hts := S.2.2.2.2
  have f66 : (Cond.fieldLink RX2 66 (TX0 3).1 (TX0 3).2.1 (TX0 3).2.2.1).before args s = true := hts _ (List.mem_of_getElem? (i := 1) rfl)
  have hi0 : ∀ w ∈ wsX00, w ∈ wsX2_leftOf := by decide +kernel
  have hl : lv_has ls 3 [(0, .ref o), (1, .int row), (2, .int x)] := hl
  have hc0 := hc
  obtain ⟨hg, c_t, c_nd, c_si, c_inj, c_40⟩ := hc
  obtain ⟨ok_o, o_u, ok_ra, ok_tt, tt_ne, ta_inj⟩ := hg
  refine lv_aload_n hx hb dX2_leftOf_0 rfl (lv_at hl 0 rfl) ?_
  refine lv_iload_n hx hb dX2_leftOf_1 rfl (lv_at hl 1 rfl) ?_
  refine cVx S (c_X2_treeOf (l := l) (D := D) (lo := lo) (Γ := Γ) (sz := sz) (si := si) (P := P) (bi := bi) (tu := tu) (M := M) (V := V) (row := row) hst hc0) (cwV 1 hts gX2_leftOf_X2_treeOf rfl rfl rfl (by decide +kernel) ⟨Nat.le_of_ble_eq_true rfl, Nat.le_of_ble_eq_true rfl⟩) hK hH hX (Hp_recv hK hH ok_o.1 ok_o.2 rfl) hS rfl hl.1 rfl (by simp [cat_rf, Value.category]) dX2_leftOf_2 ⟨Nat.le_of_ble_eq_true rfl, Nat.le_of_ble_eq_true rfl⟩ (fun E Z1 H locs ce q9 hpx hH hS hce hcv hcl => ?_) (fun v Z1 H locs hpost hH hS => ?_)
  · obtain ⟨rfl, hrow, rfl⟩ := hpx
    exact xO ht hlocks (PxI_a1 hrow hc0) hH hS hce hcv hcl (Nat.le_of_ble_eq_true rfl) (Nat.le_of_ble_eq_true rfl)
  obtain ⟨r, hrow, rfl, rfl⟩ := hpost
  have hr6 := (rowN_some hrow).1
  have htr := (c_t r hr6).1
  have ok_t : gta Γ r ∈ L ∧ K (gta Γ r) = 1 := ⟨htr.1, htr.2.1⟩
  refine lv_iload_n hx hb dX2_leftOf_5 rfl (lv_at hl 2 rfl) ?_
  refine cSx S (c_X2_appleOf (l := l) (D := D) (lo := lo) (Γ := Γ) (sz := sz) (si := si) (P := P) (bi := bi) (tu := tu) (M := M) (V := V) (x := x) hst htr) (va_cwS 2 hts gX2_leftOf_X2_appleOf rfl rfl rfl (by decide +kernel) ⟨Nat.le_of_ble_eq_true rfl, Nat.le_of_ble_eq_true rfl⟩) hK hH hX hS rfl hl.1 rfl (by simp [cat_rf, Value.category]) dX2_leftOf_6 ⟨Nat.le_of_ble_eq_true rfl, Nat.le_of_ble_eq_true rfl⟩ (fun E Z1 H locs ce q9 hpx hH hS hce hcv hcl => ?_) (fun v Z1 H locs hpost hH hS => ?_)
  · obtain ⟨rfl, hfa, rfl⟩ := hpx
    exact xO ht hlocks (PxI_a2 hrow hfa hc0) hH hS hce hcv hcl (Nat.le_of_ble_eq_true rfl) (Nat.le_of_ble_eq_true rfl)
  obtain ⟨a, hfa, rfl, rfl⟩ := hpost
  have hin_a := (fnd_mem _ _ hfa).1
  have ok_a := (htr.2.2.2.2.2 a hin_a).1
  refine gA S hi0 hK hH ok_a 3 (by decide) f66 (v := va_rf (P 0 a)) rfl dX2_leftOf_9 ?_
  have e9 := (up_of htr hin_a).2.1
  have okq9 : ∀ b, P 0 a = some b → okA L K b := fun b h => hH.2.2.2.1 a ok_a 0 (by decide) b h
  rw [e9] at okq9 ⊢
  refine cSt S (c_X2_sizeOrNone (l := l) (D := D) (lo := lo) (Γ := Γ) (sz := sz) (si := si) (P := P) (bi := bi) (tu := tu) (M := M) (V := V) (r := rt (zof (T r) a).2.1) okq9) (va_cwS 1 hts gX2_leftOf_X2_sizeOrNone rfl rfl rfl (by decide +kernel) ⟨Nat.le_of_ble_eq_true rfl, Nat.le_of_ble_eq_true rfl⟩) hK hH hS rfl hl.1 rfl (Nat.le_of_ble_eq_true rfl) dX2_leftOf_12 ⟨Nat.le_of_ble_eq_true rfl, Nat.le_of_ble_eq_true rfl⟩ (fun v Z1 H locs hpost hH hS => ?_)
  obtain ⟨rfl, rfl⟩ := hpost
  refine W.widen (k := 2) (n := 12) (Nat.le_of_ble_eq_true rfl) (Nat.le_of_ble_eq_true rfl) ?_
  exact vx_ret (eI S hr hlocks hH hS (PoI_a hrow hfa hc0) dX2_leftOf_15)

set_option maxRecDepth 100000 in
set_option maxHeartbeats 4000000 in
theorem c_X2_rightOf {o : Nat} {T : Nat → Tr} {row x : Int32} (hst : l.stackTraces = false) (hc : CI Γ o T L K sz si P) : Mx l yX2_rightOf wsX2_rightOf (rmL 7 2 12) D lo Γ [.ref o, .int row, .int x] ((L, K, sz, si, P, bi, tu), M, V) (PoI Γ o T sz bi tu M V (qa T sz row x (fun r a => er ((rt (zof (T r) a).2.2.1).map sz)))) (PxI Γ o T sz bi tu M V (qa T sz row x (fun r a => er ((rt (zof (T r) a).2.2.1).map sz))) en2) := by
  refine Mx_of (cc := cX2_rightOf) (maxL := 3) (ret := (some .int)) (by decide) rfl (Nat.le_of_ble_eq_true rfl) ?_
  intro p e s m args below meth c ls S hr hlocks hK hH hS hX ht hl
  have hx := S.1
  have hb := S.2.1
  have hts := S.2.2.2.2
  have f73 : (Cond.fieldLink RX2 73 (TX0 4).1 (TX0 4).2.1 (TX0 4).2.2.1).before args s = true := hts _ (List.mem_of_getElem? (i := 1) rfl)
  have hi0 : ∀ w ∈ wsX00, w ∈ wsX2_rightOf := by decide +kernel
  have hl : lv_has ls 3 [(0, .ref o), (1, .int row), (2, .int x)] := hl
  have hc0 := hc
  obtain ⟨hg, c_t, c_nd, c_si, c_inj, c_40⟩ := hc
  obtain ⟨ok_o, o_u, ok_ra, ok_tt, tt_ne, ta_inj⟩ := hg
  refine lv_aload_n hx hb dX2_rightOf_0 rfl (lv_at hl 0 rfl) ?_
  refine lv_iload_n hx hb dX2_rightOf_1 rfl (lv_at hl 1 rfl) ?_
  refine cVx S (c_X2_treeOf (l := l) (D := D) (lo := lo) (Γ := Γ) (sz := sz) (si := si) (P := P) (bi := bi) (tu := tu) (M := M) (V := V) (row := row) hst hc0) (cwV 1 hts gX2_rightOf_X2_treeOf rfl rfl rfl (by decide +kernel) ⟨Nat.le_of_ble_eq_true rfl, Nat.le_of_ble_eq_true rfl⟩) hK hH hX (Hp_recv hK hH ok_o.1 ok_o.2 rfl) hS rfl hl.1 rfl (by simp [cat_rf, Value.category]) dX2_rightOf_2 ⟨Nat.le_of_ble_eq_true rfl, Nat.le_of_ble_eq_true rfl⟩ (fun E Z1 H locs ce q9 hpx hH hS hce hcv hcl => ?_) (fun v Z1 H locs hpost hH hS => ?_)
  · obtain ⟨rfl, hrow, rfl⟩ := hpx
    exact xO ht hlocks (PxI_a1 hrow hc0) hH hS hce hcv hcl (Nat.le_of_ble_eq_true rfl) (Nat.le_of_ble_eq_true rfl)
  obtain ⟨r, hrow, rfl, rfl⟩ := hpost
  have hr6 := (rowN_some hrow).1
  have htr := (c_t r hr6).1
  have ok_t : gta Γ r ∈ L ∧ K (gta Γ r) = 1 := ⟨htr.1, htr.2.1⟩
  refine lv_iload_n hx hb dX2_rightOf_5 rfl (lv_at hl 2 rfl) ?_
  refine cSx S (c_X2_appleOf (l := l) (D := D) (lo := lo) (Γ := Γ) (sz := sz) (si := si) (P := P) (bi := bi) (tu := tu) (M := M) (V := V) (x := x) hst htr) (va_cwS 2 hts gX2_rightOf_X2_appleOf rfl rfl rfl (by decide +kernel) ⟨Nat.le_of_ble_eq_true rfl, Nat.le_of_ble_eq_true rfl⟩) hK hH hX hS rfl hl.1 rfl (by simp [cat_rf, Value.category]) dX2_rightOf_6 ⟨Nat.le_of_ble_eq_true rfl, Nat.le_of_ble_eq_true rfl⟩ (fun E Z1 H locs ce q9 hpx hH hS hce hcv hcl => ?_) (fun v Z1 H locs hpost hH hS => ?_)
  · obtain ⟨rfl, hfa, rfl⟩ := hpx
    exact xO ht hlocks (PxI_a2 hrow hfa hc0) hH hS hce hcv hcl (Nat.le_of_ble_eq_true rfl) (Nat.le_of_ble_eq_true rfl)
  obtain ⟨a, hfa, rfl, rfl⟩ := hpost
  have hin_a := (fnd_mem _ _ hfa).1
  have ok_a := (htr.2.2.2.2.2 a hin_a).1
  refine gA S hi0 hK hH ok_a 4 (by decide) f73 (v := va_rf (P 1 a)) rfl dX2_rightOf_9 ?_
  have e9 := (up_of htr hin_a).2.2
  have okq9 : ∀ b, P 1 a = some b → okA L K b := fun b h => hH.2.2.2.1 a ok_a 1 (by decide) b h
  rw [e9] at okq9 ⊢
  refine cSt S (c_X2_sizeOrNone (l := l) (D := D) (lo := lo) (Γ := Γ) (sz := sz) (si := si) (P := P) (bi := bi) (tu := tu) (M := M) (V := V) (r := rt (zof (T r) a).2.2.1) okq9) (va_cwS 1 hts gX2_rightOf_X2_sizeOrNone rfl rfl rfl (by decide +kernel) ⟨Nat.le_of_ble_eq_true rfl, Nat.le_of_ble_eq_true rfl⟩) hK hH hS rfl hl.1 rfl (Nat.le_of_ble_eq_true rfl) dX2_rightOf_12 ⟨Nat.le_of_ble_eq_true rfl, Nat.le_of_ble_eq_true rfl⟩ (fun v Z1 H locs hpost hH hS => ?_)
  obtain ⟨rfl, rfl⟩ := hpost
  refine W.widen (k := 2) (n := 12) (Nat.le_of_ble_eq_true rfl) (Nat.le_of_ble_eq_true rfl) ?_
  exact vx_ret (eI S hr hlocks hH hS (PoI_a hrow hfa hc0) dX2_rightOf_15)

set_option maxRecDepth 100000 in
set_option maxHeartbeats 4000000 in
theorem c_X2_below {o : Nat} {T : Nat → Tr} {row x : Int32} (hst : l.stackTraces = false) (hc : CI Γ o T L K sz si P) : Mx l yX2_below wsX2_below (rmL 7 2 12) D lo Γ [.ref o, .int row, .int x] ((L, K, sz, si, P, bi, tu), M, V) (PoI Γ o T sz bi tu M V (qa T sz row x (fun r a => nI ((tids (zof (T r) a).2.1).length + (tids (zof (T r) a).2.2.1).length)))) (PxI Γ o T sz bi tu M V (qa T sz row x (fun r a => nI ((tids (zof (T r) a).2.1).length + (tids (zof (T r) a).2.2.1).length))) en2) := by
  refine Mx_of (cc := cX2_below) (maxL := 3) (ret := (some .int)) (by decide) rfl (Nat.le_of_ble_eq_true rfl) ?_
  intro p e s m args below meth c ls S hr hlocks hK hH hS hX ht hl
  have hx := S.1
  have hb := S.2.1
  have hts := S.2.2.2.2
  have hl : lv_has ls 3 [(0, .ref o), (1, .int row), (2, .int x)] := hl
  have hc0 := hc
  obtain ⟨hg, c_t, c_nd, c_si, c_inj, c_40⟩ := hc
  obtain ⟨ok_o, o_u, ok_ra, ok_tt, tt_ne, ta_inj⟩ := hg
  refine lv_aload_n hx hb dX2_below_0 rfl (lv_at hl 0 rfl) ?_
  refine lv_iload_n hx hb dX2_below_1 rfl (lv_at hl 1 rfl) ?_
  refine cVx S (c_X2_treeOf (l := l) (D := D) (lo := lo) (Γ := Γ) (sz := sz) (si := si) (P := P) (bi := bi) (tu := tu) (M := M) (V := V) (row := row) hst hc0) (cwV 1 hts gX2_below_X2_treeOf rfl rfl rfl (by decide +kernel) ⟨Nat.le_of_ble_eq_true rfl, Nat.le_of_ble_eq_true rfl⟩) hK hH hX (Hp_recv hK hH ok_o.1 ok_o.2 rfl) hS rfl hl.1 rfl (by simp [cat_rf, Value.category]) dX2_below_2 ⟨Nat.le_of_ble_eq_true rfl, Nat.le_of_ble_eq_true rfl⟩ (fun E Z1 H locs ce q9 hpx hH hS hce hcv hcl => ?_) (fun v Z1 H locs hpost hH hS => ?_)
  · obtain ⟨rfl, hrow, rfl⟩ := hpx
    exact xO ht hlocks (PxI_a1 hrow hc0) hH hS hce hcv hcl (Nat.le_of_ble_eq_true rfl) (Nat.le_of_ble_eq_true rfl)
  obtain ⟨r, hrow, rfl, rfl⟩ := hpost
  have hr6 := (rowN_some hrow).1
  have htr := (c_t r hr6).1
  have ok_t : gta Γ r ∈ L ∧ K (gta Γ r) = 1 := ⟨htr.1, htr.2.1⟩
  refine lv_iload_n hx hb dX2_below_5 rfl (lv_at hl 2 rfl) ?_
  refine cSx S (c_X2_appleOf (l := l) (D := D) (lo := lo) (Γ := Γ) (sz := sz) (si := si) (P := P) (bi := bi) (tu := tu) (M := M) (V := V) (x := x) hst htr) (va_cwS 2 hts gX2_below_X2_appleOf rfl rfl rfl (by decide +kernel) ⟨Nat.le_of_ble_eq_true rfl, Nat.le_of_ble_eq_true rfl⟩) hK hH hX hS rfl hl.1 rfl (by simp [cat_rf, Value.category]) dX2_below_6 ⟨Nat.le_of_ble_eq_true rfl, Nat.le_of_ble_eq_true rfl⟩ (fun E Z1 H locs ce q9 hpx hH hS hce hcv hcl => ?_) (fun v Z1 H locs hpost hH hS => ?_)
  · obtain ⟨rfl, hfa, rfl⟩ := hpx
    exact xO ht hlocks (PxI_a2 hrow hfa hc0) hH hS hce hcv hcl (Nat.le_of_ble_eq_true rfl) (Nat.le_of_ble_eq_true rfl)
  obtain ⟨a, hfa, rfl, rfl⟩ := hpost
  have hin_a := (fnd_mem _ _ hfa).1
  have ok_a := (htr.2.2.2.2.2 a hin_a).1
  refine cV S (c_X0_countA (l := l) (D := D) (lo := lo) (Γ := Γ) (sz := sz) (si := si) (P := P) (bi := bi) (tu := tu) (M := M) (V := V) htr hin_a) (cwV 0 hts gX2_below_X0_countUnder rfl rfl rfl (by decide +kernel) ⟨Nat.le_of_ble_eq_true rfl, Nat.le_of_ble_eq_true rfl⟩) hK hH (Hp_recv hK hH ok_a.1 ok_a.2 rfl) hS rfl hl.1 rfl (Nat.le_of_ble_eq_true rfl) dX2_below_9 ⟨Nat.le_of_ble_eq_true rfl, Nat.le_of_ble_eq_true rfl⟩ (fun v Z1 H locs hpost hH hS => ?_)
  obtain ⟨rfl, rfl⟩ := hpost
  refine W.widen (k := 2) (n := 12) (Nat.le_of_ble_eq_true rfl) (Nat.le_of_ble_eq_true rfl) ?_
  exact vx_ret (eI S hr hlocks hH hS (PoI_a hrow hfa hc0) dX2_below_12)

set_option maxRecDepth 100000 in
set_option maxHeartbeats 4000000 in
theorem c_X2_eaten {o : Nat} {T : Nat → Tr} {row x : Int32} (hst : l.stackTraces = false) (hc : CI Γ o T L K sz si P) : Mx l yX2_eaten wsX2_eaten (rmL 7 2 12) D lo Γ [.ref o, .int row, .int x] ((L, K, sz, si, P, bi, tu), M, V) (PoI Γ o T sz bi tu M V (qa T sz row x (fun r a => nI (bi a)))) (PxI Γ o T sz bi tu M V (qa T sz row x (fun r a => nI (bi a))) en2) := by
  refine Mx_of (cc := cX2_eaten) (maxL := 3) (ret := (some .int)) (by decide) rfl (Nat.le_of_ble_eq_true rfl) ?_
  intro p e s m args below meth c ls S hr hlocks hK hH hS hX ht hl
  have hx := S.1
  have hb := S.2.1
  have hts := S.2.2.2.2
  have f62 : (Cond.fieldLink RX2 62 (TX0 5).1 (TX0 5).2.1 (TX0 5).2.2.1).before args s = true := hts _ (List.mem_of_getElem? (i := 1) rfl)
  have hi0 : ∀ w ∈ wsX00, w ∈ wsX2_eaten := by decide +kernel
  have hl : lv_has ls 3 [(0, .ref o), (1, .int row), (2, .int x)] := hl
  have hc0 := hc
  obtain ⟨hg, c_t, c_nd, c_si, c_inj, c_40⟩ := hc
  obtain ⟨ok_o, o_u, ok_ra, ok_tt, tt_ne, ta_inj⟩ := hg
  refine lv_aload_n hx hb dX2_eaten_0 rfl (lv_at hl 0 rfl) ?_
  refine lv_iload_n hx hb dX2_eaten_1 rfl (lv_at hl 1 rfl) ?_
  refine cVx S (c_X2_treeOf (l := l) (D := D) (lo := lo) (Γ := Γ) (sz := sz) (si := si) (P := P) (bi := bi) (tu := tu) (M := M) (V := V) (row := row) hst hc0) (cwV 1 hts gX2_eaten_X2_treeOf rfl rfl rfl (by decide +kernel) ⟨Nat.le_of_ble_eq_true rfl, Nat.le_of_ble_eq_true rfl⟩) hK hH hX (Hp_recv hK hH ok_o.1 ok_o.2 rfl) hS rfl hl.1 rfl (by simp [cat_rf, Value.category]) dX2_eaten_2 ⟨Nat.le_of_ble_eq_true rfl, Nat.le_of_ble_eq_true rfl⟩ (fun E Z1 H locs ce q9 hpx hH hS hce hcv hcl => ?_) (fun v Z1 H locs hpost hH hS => ?_)
  · obtain ⟨rfl, hrow, rfl⟩ := hpx
    exact xO ht hlocks (PxI_a1 hrow hc0) hH hS hce hcv hcl (Nat.le_of_ble_eq_true rfl) (Nat.le_of_ble_eq_true rfl)
  obtain ⟨r, hrow, rfl, rfl⟩ := hpost
  have hr6 := (rowN_some hrow).1
  have htr := (c_t r hr6).1
  have ok_t : gta Γ r ∈ L ∧ K (gta Γ r) = 1 := ⟨htr.1, htr.2.1⟩
  refine lv_iload_n hx hb dX2_eaten_5 rfl (lv_at hl 2 rfl) ?_
  refine cSx S (c_X2_appleOf (l := l) (D := D) (lo := lo) (Γ := Γ) (sz := sz) (si := si) (P := P) (bi := bi) (tu := tu) (M := M) (V := V) (x := x) hst htr) (va_cwS 2 hts gX2_eaten_X2_appleOf rfl rfl rfl (by decide +kernel) ⟨Nat.le_of_ble_eq_true rfl, Nat.le_of_ble_eq_true rfl⟩) hK hH hX hS rfl hl.1 rfl (by simp [cat_rf, Value.category]) dX2_eaten_6 ⟨Nat.le_of_ble_eq_true rfl, Nat.le_of_ble_eq_true rfl⟩ (fun E Z1 H locs ce q9 hpx hH hS hce hcv hcl => ?_) (fun v Z1 H locs hpost hH hS => ?_)
  · obtain ⟨rfl, hfa, rfl⟩ := hpx
    exact xO ht hlocks (PxI_a2 hrow hfa hc0) hH hS hce hcv hcl (Nat.le_of_ble_eq_true rfl) (Nat.le_of_ble_eq_true rfl)
  obtain ⟨a, hfa, rfl, rfl⟩ := hpost
  have hin_a := (fnd_mem _ _ hfa).1
  have ok_a := (htr.2.2.2.2.2 a hin_a).1
  refine gA S hi0 hK hH ok_a 5 (by decide) f62 (v := .int (nI (bi a))) rfl dX2_eaten_9 ?_
  refine W.widen (k := 2) (n := 12) (Nat.le_of_ble_eq_true rfl) (Nat.le_of_ble_eq_true rfl) ?_
  exact vx_ret (eI S hr hlocks hH hS (PoI_a hrow hfa hc0) dX2_eaten_12)
end MOrchQ
