/-! THE HAND-MADE ORCHARD as a whole -/
/-- its cells: itself, its row of tops, its trees -/
def SI (Γ : GT) (M : MW) (sa ta : Nat) (Y : Nat → Tr) (zz ee : Nat → Nat) (tn : Nat) : Prop :=
  sa ∈ M.1 ∧ M.2 sa = .inr (4, [.ref ta, .int (nI tn)]) ∧ ta ∈ M.1 ∧ M.2 ta = qE Γ 6 (fun i => rt (Y i)) ∧ ∀ r, r < 6 → sT M zz ee (Y r)
/-- its trees are an orchard's -/
def SO (zz : Nat → Nat) (Y : Nat → Tr) : Prop := (gids Y).Nodup ∧ (∀ r, r < 6 → srt zz (Y r)) ∧ (∀ a ∈ gids Y, zz a < 1000) ∧ (gids Y).length ≤ 40
theorem SO_at {zz : Nat → Nat} {Y : Nat → Tr} (h : SO zz Y) {r : Nat} (hr : r < 6) : (tids (Y r)).Nodup ∧ srt zz (Y r) ∧ (∀ a ∈ tids (Y r), zz a < 1000) ∧ (tids (Y r)).length ≤ 40 ∧ hgt (Y r) ≤ 40 ∧ ∀ n, (wy zz n (Y r)).length ≤ 40 := by
  have h1 := gids_le (T := Y) hr
  have h2 := hgt_len (Y r)
  have h3 := h.2.2.2
  exact ⟨(gids_apart h.1).1 r hr, h.2.1 r hr, fun a ha => h.2.2.1 a (gids_mem.mpr ⟨r, hr, ha⟩), by omega, by omega, fun n => by have := wy_hgt (zz := zz) (n := n) (Y r); omega⟩
theorem SI_ne {Γ : GT} {U : List Nat} {E : Nat → va_E} {sa ta tn : Nat} {Y : Nat → Tr} {zz ee : Nat → Nat} (h : SI Γ (U, E) sa ta Y zz ee tn) {r : Nat} (hr : r < 6) : ta ∉ sa :: tids (Y r) ∧ sa ∉ tids (Y r) := by
  obtain ⟨h1, h2, h3, h4, h5⟩ := h
  refine ⟨fun h9 => ?_, fun h9 => ?_⟩
  · rcases List.mem_cons.mp h9 with e9 | e9
    · exact neMQ h2 h4 e9.symm
    · obtain ⟨-, x, y, q⟩ := sT_at _ (h5 r hr) ta e9
      exact neBQ q h4 rfl
  · obtain ⟨-, x, y, q⟩ := sT_at _ (h5 r hr) sa h9
    exact neBM q h2 rfl
/-- rows that are not touched -/
theorem SI_oth {Γ : GT} {U U' : List Nat} {E E' : Nat → va_E} {sa ta tn : Nat} {Y : Nat → Tr} {zz ee zz' ee' : Nat → Nat} {w : List Nat} (h : SI Γ (U, E) sa ta Y zz ee tn) (hn : (gids Y).Nodup) {r q : Nat} (hr : r < 6) (hq : q < 6) (hg : Gr (U, E) (U', E') w) (hw : ∀ b ∈ w, b = sa ∨ b = ta ∨ b ∈ tids (Y r) ∨ b ∈ tids (Y q) ∨ b ∉ U) {i : Nat} (hi : i < 6) (hir : i ≠ r) (hiq : i ≠ q) (hz : ∀ b ∈ tids (Y i), zz' b = zz b ∧ ee' b = ee b) : sT (U', E') zz' ee' (Y i) := by
  obtain ⟨h1, h2, h3, h4, h5⟩ := h
  have hap := gids_apart hn
  refine sT_cg (Y i) (h5 i hi) (fun b hb hM => ⟨hg.1 b hM, hg.2 b hM (fun h9 => ?_), (hz b hb).1, (hz b hb).2⟩)
  obtain ⟨-, x, y, e⟩ := sT_at _ (h5 i hi) b hb
  rcases hw b h9 with h | h | h | h | h
  · subst h; exact neBM e h2 rfl
  · subst h; exact neBQ e h4 rfl
  · exact hap.2 i r hi hr hir b hb h
  · exact hap.2 i q hi hq hiq b hb h
  · exact h hM
theorem SI_mk1 {Γ : GT} {U U' : List Nat} {E E' : Nat → va_E} {sa ta tn tn' : Nat} {Y : Nat → Tr} {zz ee zz' ee' : Nat → Nat} {t : Tr} (h : SI Γ (U, E) sa ta Y zz ee tn) (hn : (gids Y).Nodup) {r : Nat} (hr : r < 6) (hg : Gr (U, E) (U', E') (sa :: ta :: tids (Y r))) (h1 : E' sa = .inr (4, [.ref ta, .int (nI tn')])) (h2 : E' ta = qE Γ 6 (fun i => rt (va_up Y r t i))) (h3 : sT (U', E') zz' ee' t) (hz : ∀ b, b ∉ tids (Y r) → (b ∈ U → zz' b = zz b) ∧ (b ∈ U → ee' b = ee b)) : SI Γ (U', E') sa ta (va_up Y r t) zz' ee' tn' := by
  refine ⟨hg.1 sa h.1, h1, hg.1 ta h.2.2.1, h2, fun i hi => ?_⟩
  by_cases e : i = r
  · subst e; rw [va_up_self]; exact h3
  · rw [va_up_ne _ _ e]
    refine SI_oth h hn hr hr hg (fun b hb => ?_) hi e e (fun b hb => ?_)
    · rcases List.mem_cons.mp hb with h9 | h9
      · exact Or.inl h9
      · rcases List.mem_cons.mp h9 with h9 | h9
        · exact Or.inr (Or.inl h9)
        · exact Or.inr (Or.inr (Or.inl h9))
    · have hb2 := (sT_at _ (h.2.2.2.2 i hi) b hb).1
      obtain ⟨q1, q2⟩ := hz b ((gids_apart hn).2 i r hi hr e b hb)
      exact ⟨q1 hb2, q2 hb2⟩
theorem rt_up {Y : Nat → Tr} {r : Nat} {t : Tr} {x : Option Nat} (h : rt t = x) : va_up (fun i => rt (Y i)) r x = fun i => rt (va_up Y r t i) := by
  funext i
  by_cases e : i = r
  · subst e; rw [va_up_self, va_up_self, h]
  · rw [va_up_ne _ _ e, va_up_ne _ _ e]
theorem spz_rt {t : Tr} {a : Nat} (ha : a ∈ tids t) : ∃ l r, spz (zof t a) = .branch a l r ∧ rt (spz (zof t a)) = some a ∧ tids l ++ a :: tids r = tids t := by
  have h : ∀ (n : Nat) (C : Cx) (k : Nat) (l r : Tr), C.length ≤ n → ∃ x y, spl k C l r = .branch k x y := by
    intro n
    induction n with
    | zero =>
      intro C k l r hl
      have : C = [] := List.length_eq_zero_iff.mp (by omega)
      subst this
      exact ⟨_, _, rfl⟩
    | succ n ih =>
      intro C k l r hl
      match C, hl with
      | [], _ => exact ⟨_, _, rfl⟩
      | [(s, p, u)], _ => exact ⟨_, _, rfl⟩
      | (s1, p1, u1) :: (s2, p2, u2) :: C, hl =>
        have hl2 : C.length ≤ n := by simp only [List.length_cons] at hl; omega
        unfold spl
        split
        · exact ih C k _ _ hl2
        · exact ih C k _ _ hl2
  obtain ⟨x, y, e⟩ := h _ (zof t a).2.2.2 (zof t a).1 (zof t a).2.1 (zof t a).2.2.1 (Nat.le_refl _)
  rw [(zof_in ha).2] at e
  have e2 : spz (zof t a) = .branch a x y := by unfold spz; rw [(zof_in ha).2]; exact e
  refine ⟨x, y, e2, by rw [e2]; rfl, ?_⟩
  rw [← spz_tids ha, e2, tids_branch]
/-- one apple's bites changed -/
theorem sT_set {U : List Nat} {E E' : Nat → va_E} {zz ee : Nat → Nat} : ∀ (t : Tr) {a n : Nat} {x y : Option Nat}, sT (U, E) zz ee t → (∀ b, b ≠ a → E' b = E b) → E a = aC zz ee a x y → E' a = .inr (3, [.int (nI (zz a)), .int (nI n), va_rf x, va_rf y]) → sT (U, E') zz (va_up ee a n) t := by
  intro t
  induction t with
  | leaf u => intros; trivial
  | branch k l r ihl ihr =>
    intro a n x y h ho he he'
    obtain ⟨⟨h1, h2⟩, hl, hr⟩ := h
    refine ⟨⟨h1, ?_⟩, ihl hl ho he he', ihr hr ho he he'⟩
    by_cases e : k = a
    · subst e
      have h2 : E k = aC zz ee k (rt l) (rt r) := h2
      rw [he] at h2
      injection h2 with h3
      injection h3 with h4 h5
      injection h5 with h6 h7
      injection h7 with h8 h9
      show E' k = _
      rw [he', h9]
      unfold aC
      rw [va_up_self]
    · show E' k = _
      rw [ho k e]
      have h2 : E k = aC zz ee k (rt l) (rt r) := h2
      rw [h2]
      unfold aC
      rw [va_up_ne _ _ e]
section MSim5
variable {l : Launch} {D : va_G} {lo : Nat} {Γ : GT} {C : CW} {V : Int64 × UInt64} {U : List Nat} {E : Nat → va_E} {zz ee : Nat → Nat}
set_option maxRecDepth 100000 in
set_option maxHeartbeats 4000000 in
theorem c_X4_all {sa ta tn : Nat} {Y : Nat → Tr} (hI : SI Γ (U, E) sa ta Y zz ee tn) (h40 : (gids Y).length ≤ 40) (hh : ∀ r, r < 6 → hgt (Y r) ≤ 40) : My l yX4_all wsX4_all (rmL 42 0 0) D lo Γ [.ref sa] (C, (U, E), V) (fun v Z' => v = some (.int (nI (gids Y).length)) ∧ Z' = (C, (U, E), V)) := by
  refine My_of (cc := cX4_all) (maxL := 6) (ret := (some .int)) (by decide) rfl (Nat.le_of_ble_eq_true rfl) ?_
  intro p e s m args below meth c ls hname S hr hlocks hK hH hS hX hl
  have hx := S.1
  have hb := S.2.1
  have hts := S.2.2.2.2
  have f9 : (Cond.fieldLink RX4 9 (TX4 0).1 (TX4 0).2.1 (TX4 0).2.2.1).before args s = true := hts _ (List.mem_of_getElem? (i := 1) rfl)
  have hi4 : ∀ w ∈ wsX40, w ∈ wsX4_all := by decide +kernel
  have hlo : lo ≤ s.heap.size := hH.2.2.1.1
  have hg : Gr (U, E) (U, E) [] := Gr.rf _ _
  have hE : Ext C C := Ext.rf C
  have hl : lv_has ls 6 [(0, .ref sa)] := hl
  have hI0 := hI
  obtain ⟨m_sa, e_sa, m_ta, e_ta, hY⟩ := hI
  refine lv_iconst (v := 0) hx hb dX4_all_0 (by decide) ?_
  refine lv_istore_n (lv' := [(1, .int 0), (0, .ref sa)]) hx hb dX4_all_1 rfl hl (by decide) rfl (fun ls hl => ?_)
  refine lv_aload_n hx hb dX4_all_2 rfl (lv_at hl 1 rfl) ?_
  refine gM S hi4 hK hH m_sa e_sa 0 (by decide) f9 (v := .ref ta) rfl dX4_all_3 ?_
  refine lv_astore_n (lv' := [(2, .ref ta), (1, .int 0), (0, .ref sa)]) hx hb dX4_all_6 rfl hl (by decide) rfl (fun ls hl => ?_)
  refine lv_aload_n hx hb dX4_all_7 rfl (lv_at hl 0 rfl) ?_
  refine lQ S hK hH m_ta e_ta dX4_all_8 ?_
  refine lv_istore_n (lv' := [(3, .int (nI 6)), (2, .ref ta), (1, .int 0), (0, .ref sa)]) hx hb dX4_all_9 rfl hl (by decide) rfl (fun ls hl => ?_)
  refine lv_iconst (v := 0) hx hb dX4_all_10 (by decide) ?_
  refine lv_istore (lv' := [(4, .int 0), (3, .int (nI 6)), (2, .ref ta), (1, .int 0), (0, .ref sa)]) hx hb dX4_all_11 hl (by decide) rfl (fun ls hl => ?_)
  have hl : lv_has ls 6 [(4, .int 0), (3, .int (nI 6)), (2, .ref ta), (1, .int 0), (0, .ref sa)] := hl
  have loop : ∀ (n r acc : Nat), n + r = 6 → acc + cntF Y r = (gids Y).length → ∀ H locs, Hp D lo Γ (C, (U, E), V) H → va_S (lA lo) s.heap H locs → ∀ ls, lv_has ls 6 [(4, .int (nI r)), (1, .int (nI acc)), (3, .int (nI 6)), (2, .ref ta)] → W p l e (rmL 42 0 0) s m args below meth c H locs 0 0 (MQ below (Qz D lo Γ (fun v Z' => v = some (.int (nI (gids Y).length)) ∧ Z' = (C, (U, E), V))) args s ((rmL 42 0 0) : Room).cells ((rmL 42 0 0) : Room).slots (lA lo)) (F0 m 13 ls []) := by
    intro n
    induction n with
    | zero =>
      intro r acc hn ha H locs hH hS ls hl
      have hr6 : r = 6 := by omega
      subst hr6
      have ha : acc = (gids Y).length := ha
      subst ha
      refine lv_iload hx hb dX4_all_13 (lv_at hl 0 rfl) ?_
      refine lv_iload_n hx hb dX4_all_15 rfl (lv_at hl 2 rfl) ?_
      refine lv_icmp_ge (tgt := 39) hx hb dX4_all_16 (by decide) (fun _ => ?_) (fun h1 => absurd (by decide) h1)
      refine lv_iload_n hx hb dX4_all_39 rfl (lv_at hl 1 rfl) ?_
      exact eI S hr hlocks hH hS ⟨rfl, rfl⟩ dX4_all_40
    | succ n ih =>
      intro r acc hn ha H locs hH hS ls hl
      have hr6 : r < 6 := by omega
      rw [cntF_s hr6] at ha
      refine lv_iload hx hb dX4_all_13 (lv_at hl 0 rfl) ?_
      refine lv_iload_n hx hb dX4_all_15 rfl (lv_at hl 2 rfl) ?_
      refine lv_icmp_ge (tgt := 39) hx hb dX4_all_16 (by decide) (fun h1 => absurd h1 (nI_ge hr6 (by decide))) (fun _ => ?_)
      refine lv_aload_n hx hb dX4_all_19 rfl (lv_at hl 3 rfl) ?_
      refine lv_iload hx hb dX4_all_20 (lv_at hl 0 rfl) ?_
      refine gQ S hK hH m_ta e_ta (j := r) rfl hr6 (by decide) (r := (rt (Y r))) rfl dX4_all_22 ?_
      refine lq_astore (i := 5) (lv' := [(4, .int (nI r)), (1, .int (nI acc)), (3, .int (nI 6)), (2, .ref ta)]) S dX4_all_23 hl (by decide) rfl (fun ls hl => ?_)
      refine lv_iload_n hx hb dX4_all_25 rfl (lv_at hl 2 rfl) ?_
      refine lq_aload S dX4_all_26 (lv_at hl 0 rfl) ?_
      refine cyS S (c_X4_count (Y r) 40 (hh r hr6) (hY r hr6)) (va_cwS 1 hts gX4_all_X4_count rfl rfl rfl (by decide +kernel) ⟨Nat.le_of_ble_eq_true rfl, Nat.le_of_ble_eq_true rfl⟩) hK hH hX hS rfl hl.1 rfl (by simp [cat_rf, Value.category]) dX4_all_28 ⟨Nat.le_of_ble_eq_true rfl, Nat.le_of_ble_eq_true rfl⟩ (fun v Z1 H locs hpost hH hS => ?_)
      obtain ⟨rfl, rfl⟩ := hpost
      refine lv_iadd hx hb dX4_all_31 ?_
      rw [nI_add]
      refine lv_istore_n (lv' := [(1, .int (nI (acc + (tids (Y r)).length))), (5, va_rf (rt (Y r))), (4, .int (nI r)), (3, .int (nI 6)), (2, .ref ta)]) hx hb dX4_all_32 rfl hl (by decide) rfl (fun ls hl => ?_)
      refine lv_iinc (v := nI (r + 1)) (lv' := [(4, .int (nI (r + 1))), (1, .int (nI (acc + (tids (Y r)).length))), (5, va_rf (rt (Y r))), (3, .int (nI 6)), (2, .ref ta)]) hx hb dX4_all_33 hl (k := 2) rfl (nI_1 r) (by decide) rfl (fun ls hl => ?_)
      refine lv_goto (tgt := 13) hx hb dX4_all_36 (by decide) ?_
      exact ih (r + 1) _ (by omega) (by omega) H locs hH hS ls (lv_sub hl [0, 1, 3, 4] rfl)
  exact loop 6 0 0 rfl (by rw [cntF_0]; omega) _ _ hH hS ls (lv_sub hl [0, 3, 1, 2] rfl)

set_option maxRecDepth 100000 in
set_option maxHeartbeats 4000000 in
theorem c_X4_eat {sa ta tn : Nat} {Y : Nat → Tr} (hI : SI Γ (U, E) sa ta Y zz ee tn) (hO : SO zz Y) {r n a : Nat} (hr6 : r < 6) (hn9 : n < 1000) (hf : fnd zz (n : Int) (Y r) = some a) : My l yX4_eat wsX4_eat (rmL 4 2 80) D lo Γ [.ref sa, .int (nI r), .int (nI n)] (C, (U, E), V) (fun v Z' => v = some (.int (nI (zof (Y r) a).2.2.2.length)) ∧ ∃ C' U' E', Z' = (C', (U', E'), V) ∧ Ext C C' ∧ Gr (U, E) (U', E') (sa :: ta :: tids (Y r)) ∧ SI Γ (U', E') sa ta (va_up Y r (spz (zof (Y r) a))) zz (va_up ee a (ee a + 1)) (tn + (zof (Y r) a).2.2.2.length)) := by
  refine My_of (cc := cX4_eat) (maxL := 4) (ret := (some .int)) (by decide) rfl (Nat.le_of_ble_eq_true rfl) ?_
  intro p e s m args below meth c ls hname S hr hlocks hK hH hS hX hl
  have hx := S.1
  have hb := S.2.1
  have hts := S.2.2.2.2
  have f9 : (Cond.fieldLink RX4 9 (TX4 0).1 (TX4 0).2.1 (TX4 0).2.2.1).before args s = true := hts _ (List.mem_of_getElem? (i := 1) rfl)
  have f30 : (Cond.fieldLink RX4 30 (TX3 1).1 (TX3 1).2.1 (TX3 1).2.2.1).before args s = true := hts _ (List.mem_of_getElem? (i := 2) rfl)
  have hi3 : ∀ w ∈ wsX30, w ∈ wsX4_eat := by decide +kernel
  have hi4 : ∀ w ∈ wsX40, w ∈ wsX4_eat := by decide +kernel
  have hlo : lo ≤ s.heap.size := hH.2.2.1.1
  have hg : Gr (U, E) (U, E) (sa :: ta :: tids (Y r)) := Gr.rf _ _
  have hE : Ext C C := Ext.rf C
  have hl : lv_has ls 4 [(0, .ref sa), (1, .int (nI r)), (2, .int (nI n))] := hl
  have hI0 := hI
  obtain ⟨m_sa, e_sa, m_ta, e_ta, hY⟩ := hI
  obtain ⟨o1, o2, o3, o4, o5, o6⟩ := SO_at hO hr6
  obtain ⟨ha, hza⟩ := fnd_mem _ _ hf
  have hza : zz a = n := by omega
  obtain ⟨nta, nsa⟩ := SI_ne hI0 hr6
  have hwl : (wy zz n (Y r)).length = (zof (Y r) a).2.2.2.length + 1 := by
    have h1 := wy_zs (Y r) [] o2 _ (zof_in ha).1
    rw [anc_nil, List.nil_append, (zof_in ha).2, hza] at h1
    rw [h1, List.length_append, anc_len]; rfl
  obtain ⟨L9, R9, hsp, hsr, hst⟩ := spz_rt ha
  have htr := hY r hr6
  refine lv_aload_n hx hb dX4_eat_0 rfl (lv_at hl 0 rfl) ?_
  refine gM S hi4 hK hH m_sa e_sa 0 (by decide) f9 (v := .ref ta) rfl dX4_eat_1 ?_
  refine lv_iload_n hx hb dX4_eat_4 rfl (lv_at hl 1 rfl) ?_
  refine gQ S hK hH m_ta e_ta (j := r) rfl hr6 (by decide) (r := (rt (Y r))) rfl dX4_eat_5 ?_
  refine lv_iload_n hx hb dX4_eat_6 rfl (lv_at hl 2 rfl) ?_
  refine cyS S (c_X4_path htr o3 hn9 (o6 n)) (va_cwS 2 hts gX4_eat_X4_path rfl rfl rfl (by decide +kernel) ⟨Nat.le_of_ble_eq_true rfl, Nat.le_of_ble_eq_true rfl⟩) hK hH hX hS rfl hl.1 rfl (by simp [cat_rf, Value.category]) dX4_eat_7 ⟨Nat.le_of_ble_eq_true rfl, Nat.le_of_ble_eq_true rfl⟩ (fun v Z1 H locs hpost hH hS => ?_)
  obtain ⟨C1, U1, E1, q, rfl, rfl, hx9, hg9, fr9, m_q, e_q⟩ := hpost
  have e_sa : E1 sa = .inr (4, [.ref ta, .int (nI tn)]) := (hg9.2 sa m_sa (by simp)).trans e_sa
  have m_sa := hg9.1 sa m_sa
  have e_ta : E1 ta = qE Γ 6 (fun i => rt (Y i)) := (hg9.2 ta m_ta (by simp)).trans e_ta
  have m_ta := hg9.1 ta m_ta
  have hg := hg.tr (hg9.wd (fun b hb9 => by cases hb9))
  have hE := hE.tr hx9
  have htr := sT_gr htr hg9 (by simp)
  rw [hwl] at e_q
  refine lQ S hK hH m_q e_q dX4_eat_10 ?_
  refine lv_iconst (v := 1) hx hb dX4_eat_11 (by decide) ?_
  refine lv_isub hx hb dX4_eat_12 ?_
  rw [nI_pred]
  refine lv_istore_n (lv' := [(3, .int (nI (zof (Y r) a).2.2.2.length)), (0, .ref sa), (1, .int (nI r)), (2, .int (nI n))]) hx hb dX4_eat_13 rfl hl (by decide) rfl (fun ls hl => ?_)
  refine lv_aload_n hx hb dX4_eat_14 rfl (lv_at hl 1 rfl) ?_
  refine gM S hi4 hK hH m_sa e_sa 0 (by decide) f9 (v := .ref ta) rfl dX4_eat_15 ?_
  refine lv_iload_n hx hb dX4_eat_18 rfl (lv_at hl 2 rfl) ?_
  refine lv_aload_n hx hb dX4_eat_19 rfl (lv_at hl 1 rfl) ?_
  refine lv_aload_n hx hb dX4_eat_20 rfl (lv_at hl 1 rfl) ?_
  refine gM S hi4 hK hH m_sa e_sa 0 (by decide) f9 (v := .ref ta) rfl dX4_eat_21 ?_
  refine lv_iload_n hx hb dX4_eat_24 rfl (lv_at hl 2 rfl) ?_
  refine gQ S hK hH m_ta e_ta (j := r) rfl hr6 (by decide) (r := (rt (Y r))) rfl dX4_eat_25 ?_
  refine lv_iload_n hx hb dX4_eat_26 rfl (lv_at hl 3 rfl) ?_
  have rc9 := rec9 hK hH m_sa e_sa (q := (RX4, TX4, 2)) rfl
  refine cyV S (c_X4_raise m_sa e_sa htr o2 o1 o3 o4 ha hza) (cwV 2 hts gX4_eat_X4_raise rfl rfl rfl (by decide +kernel) ⟨Nat.le_of_ble_eq_true rfl, Nat.le_of_ble_eq_true rfl⟩) hK hH hX rc9 hS rfl hl.1 rfl (by simp [cat_rf, Value.category]) dX4_eat_27 ⟨Nat.le_of_ble_eq_true rfl, Nat.le_of_ble_eq_true rfl⟩ (fun v Z1 H locs hpost hH hS => ?_)
  obtain ⟨rfl, C2, U2, E2, rfl, hx9, hg9, hT9, e_sa9⟩ := hpost
  have e_ta : E2 ta = qE Γ 6 (fun i => rt (Y i)) := (hg9.2 ta m_ta nta).trans e_ta
  have m_ta := hg9.1 ta m_ta
  have e_sa := e_sa9
  have m_sa := hg9.1 sa m_sa
  have hg := hg.tr2 hg9 (fun b hb9 => Or.inl (by rcases List.mem_cons.mp hb9 with h | h <;> simp [h]))
  have hE := hE.tr hx9
  obtain ⟨m_a, x9, y9, e_a⟩ := sT_at _ hT9 a (by rw [spz_tids ha]; exact ha)
  have w_ta : ta ∈ sa :: ta :: tids (Y r) := by simp
  have w_a : a ∈ sa :: ta :: tids (Y r) := by simp [ha]
  have n9_a : a ≠ ta := (neBQ e_a e_ta)
  have n9_sa : sa ≠ ta := (neMQ e_sa e_ta)
  refine pQ S hK hH hS m_ta e_ta (j := r) rfl hr6 (by decide) (some a) (fun b h => by cases h; exact ⟨m_a, _, e_a⟩) rfl dX4_eat_30 (fun E3 H locs e_ta ho hH hS => ?_)
  have e_a : E3 a = .inr (3, [.int (nI (zz a)), .int (nI (ee a)), va_rf x9, va_rf y9]) := (ho a n9_a).trans e_a
  have e_sa : E3 sa = .inr (4, [.ref ta, .int (nI (tn + (zof (Y r) a).2.2.2.length))]) := (ho sa n9_sa).trans e_sa
  have hg := hg.put w_ta ho
  have hT9 := sT_cg (M' := (U2, E3)) _ hT9 (fun b hb9 hM => ⟨hM, ho b (fun e9 => nta (by rw [← e9]; rw [spz_tids ha] at hb9; simp [hb9])), rfl, rfl⟩)
  refine lv_aload_n hx hb dX4_eat_31 rfl (lv_at hl 1 rfl) ?_
  refine gM S hi4 hK hH m_sa e_sa 0 (by decide) f9 (v := .ref ta) rfl dX4_eat_32 ?_
  refine lv_iload_n hx hb dX4_eat_35 rfl (lv_at hl 2 rfl) ?_
  refine gQ S hK hH m_ta e_ta (j := r) rfl hr6 (by decide) (r := (some a)) (va_up_self _ _ _) dX4_eat_36 ?_
  refine lv_dup hx hb dX4_eat_37 rfl ?_
  refine gB S hi3 hK hH m_a e_a 1 (by decide) f30 (v := .int (nI (ee a))) rfl dX4_eat_38 ?_
  refine lv_iconst (v := 1) hx hb dX4_eat_41 (by decide) ?_
  refine lv_iadd hx hb dX4_eat_42 ?_
  rw [nI_1]
  have e_a0 := e_a
  have n9_sa : sa ≠ a := (Ne.symm (neBM e_a e_sa))
  have n9_ta : ta ≠ a := (Ne.symm (neBQ e_a e_ta))
  refine pBi S hi3 hK hH hS m_a e_a 1 (by decide) f30 dX4_eat_43 rfl (fun E4 H locs e_a ho hH hS => ?_)
  have e_a : E4 a = .inr (3, [.int (nI (zz a)), .int (nI (ee a + 1)), va_rf x9, va_rf y9]) := e_a
  have e_sa : E4 sa = .inr (4, [.ref ta, .int (nI (tn + (zof (Y r) a).2.2.2.length))]) := (ho sa n9_sa).trans e_sa
  have e_ta : E4 ta = qE Γ 6 (va_up (fun i => rt (Y i)) r (some a)) := (ho ta n9_ta).trans e_ta
  have hg := hg.put w_a ho
  have hT9 : sT (U2, E4) zz (va_up ee a (ee a + 1)) (spz (zof (Y r) a)) := sT_set _ hT9 ho e_a0 e_a
  have hfin : SI Γ (U2, E4) sa ta (va_up Y r (spz (zof (Y r) a))) zz (va_up ee a (ee a + 1)) (tn + (zof (Y r) a).2.2.2.length) := SI_mk1 hI0 hO.1 hr6 hg e_sa (by rw [e_ta]; exact congrArg (qE Γ 6) (rt_up hsr)) hT9 (fun b hb9 => ⟨fun _ => rfl, fun _ => va_up_ne _ _ (fun e9 => hb9 (by rw [e9]; exact ha))⟩)
  refine lv_iload_n hx hb dX4_eat_46 rfl (lv_at hl 0 rfl) ?_
  exact eI S hr hlocks hH hS ⟨rfl, C2, U2, E4, rfl, hE, hg, hfin⟩ dX4_eat_47
end MSim5
