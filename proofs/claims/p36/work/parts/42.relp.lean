/-! CLASS AND HAND-MADE ORCHARD TOGETHER: the hand-made trees are the class's with other names -/
theorem mp_spz (φ : Nat → Nat) (z : Zi) : spz (mpZ φ z) = mp φ (spz z) := (mp_spl φ z.1 z.2.2.2.length z.2.2.2 z.2.1 z.2.2.1 (Nat.le_refl _)).symm
theorem tw_map {φ : Nat → Nat} {p p' : Nat → Bool} : ∀ {l : List Nat}, (∀ a ∈ l, p' (φ a) = p a) → (l.map φ).takeWhile p' = (l.takeWhile p).map φ := by
  intro l
  induction l with
  | nil => intro _; rfl
  | cons a l ih =>
    intro h
    rw [List.map_cons, List.takeWhile_cons, List.takeWhile_cons, h a (by simp)]
    cases p a with
    | true => simp only [if_true, List.map_cons]; rw [ih (fun b hb => h b (by simp [hb]))]
    | false => rfl
theorem blw_mp {sz sz' : Nat → Nat} {z : Int} {φ : Nat → Nat} {t : Tr} (h : ∀ a ∈ tids t, sz' (φ a) = sz a) : blw sz' z (mp φ t) = (blw sz z t).map φ := by
  unfold blw
  rw [mp_tids]
  exact tw_map (fun a ha => by rw [h a ha])
theorem mayJ_mp {sz sz' : Nat → Nat} {φ : Nat → Nat} {t u : Tr} (h : ∀ a, a ∈ tids t ∨ a ∈ tids u → sz' (φ a) = sz a) : mayJ sz' (mp φ t) (mp φ u) = mayJ sz t u := by
  unfold mayJ
  rw [mp_tids, mp_tids, List.getLast?_map, List.head?_map]
  cases hg : (tids t).getLast? with
  | none => rfl
  | some g =>
    cases hy : (tids u).head? with
    | none => rfl
    | some y =>
      show decide (sz' (φ g) < sz' (φ y)) = decide (sz g < sz y)
      rw [h g (Or.inl (List.mem_of_getLast? hg)), h y (Or.inr (List.mem_of_head? hy))]
theorem map_inj {φ : Nat → Nat} : ∀ {l : List Nat}, (l.map φ).Nodup → ∀ a ∈ l, ∀ b ∈ l, φ a = φ b → a = b := by
  intro l
  induction l with
  | nil => intro _ a ha; cases ha
  | cons c l ih =>
    intro hn a ha b hb e
    rw [List.map_cons] at hn
    obtain ⟨h1, h2⟩ := List.nodup_cons.mp hn
    rcases List.mem_cons.mp ha with h | h <;> rcases List.mem_cons.mp hb with h' | h'
    · rw [h, h']
    · subst h; exact absurd (by rw [e]; exact List.mem_map.mpr ⟨b, h', rfl⟩) h1
    · subst h'; exact absurd (by rw [← e]; exact List.mem_map.mpr ⟨a, h, rfl⟩) h1
    · exact ih h2 a h b h' e
theorem lca_mp {φ : Nat → Nat} : ∀ {t : Tr} {a b : Nat}, ((tids t).map φ).Nodup → a ∈ tids t → b ∈ tids t → lca (mp φ t) (φ a) (φ b) = φ (lca t a b) := by
  intro t
  induction t with
  | leaf u => intro a b _ h; cases h
  | branch k l r ihl ihr =>
    intro a b hn ha hb
    have hi := map_inj hn
    have hin : ∀ u : Tr, (∀ x ∈ tids u, x ∈ tids (.branch k l r)) → ∀ x, x ∈ tids (.branch k l r) → (φ x ∈ tids (mp φ u) ↔ x ∈ tids u) := fun u hu x hx => by
      rw [mp_tids, List.mem_map]
      exact ⟨fun ⟨y, h1, h2⟩ => by rw [← hi y (hu y h1) x hx h2]; exact h1, fun h => ⟨x, h, rfl⟩⟩
    have hul : ∀ x ∈ tids l, x ∈ tids (.branch k l r) := fun x hx => by simp [tids, hx]
    have hur : ∀ x ∈ tids r, x ∈ tids (.branch k l r) := fun x hx => by simp [tids, hx]
    rw [tids_branch, List.map_append, List.map_cons] at hn
    obtain ⟨nl, nkr, -⟩ := List.nodup_append.mp hn
    have nr := (List.nodup_cons.mp nkr).2
    show (if φ a ∈ tids (mp φ l) ∧ φ b ∈ tids (mp φ l) then lca (mp φ l) (φ a) (φ b) else if φ a ∈ tids (mp φ r) ∧ φ b ∈ tids (mp φ r) then lca (mp φ r) (φ a) (φ b) else φ k) = _
    rw [lca]
    by_cases h1 : a ∈ tids l ∧ b ∈ tids l
    · rw [if_pos ⟨(hin l hul a ha).mpr h1.1, (hin l hul b hb).mpr h1.2⟩, if_pos h1, ihl nl h1.1 h1.2]
    · rw [if_neg (fun q => h1 ⟨(hin l hul a ha).mp q.1, (hin l hul b hb).mp q.2⟩), if_neg h1]
      by_cases h2 : a ∈ tids r ∧ b ∈ tids r
      · rw [if_pos ⟨(hin r hur a ha).mpr h2.1, (hin r hur b hb).mpr h2.2⟩, if_pos h2, ihr nr h2.1 h2.2]
      · rw [if_neg (fun q => h2 ⟨(hin r hur a ha).mp q.1, (hin r hur b hb).mp q.2⟩), if_neg h2]
theorem bstF_map {φ : Nat → Nat} : ∀ {l : List Zi} {o : Option Nat} {n : Nat}, bstF (l.map (mpZ φ)) (o.map φ, n) = ((bstF l (o, n)).1.map φ, (bstF l (o, n)).2) := by
  intro l
  induction l with
  | nil => intro o n; rfl
  | cons z l ih =>
    intro o n
    rw [List.map_cons, bstF, bstF, mp_spz, mp_dsm]
    have e : (o.map φ = none ∨ dsm (spz z) 0 < n) ↔ (o = none ∨ dsm (spz z) 0 < n) := by cases o <;> simp
    by_cases h : o = none ∨ dsm (spz z) 0 < n
    · rw [if_pos h, if_pos (e.mpr h)]
      exact ih (o := some z.1)
    · rw [if_neg h, if_neg (fun q => h (e.mp q))]
      exact ih
theorem bst_mp (φ : Nat → Nat) (t : Tr) : bst (mp φ t) = (bst t).map φ := by
  unfold bst
  have h := mp_zs φ t []
  have h9 : mpC φ [] = [] := rfl
  rw [h9] at h
  rw [h]
  exact congrArg Prod.fst (bstF_map (φ := φ) (o := none))
theorem er_mp {sz sz' φ : Nat → Nat} {r : Option Nat} (h : ∀ a, r = some a → sz' (φ a) = sz a) : er ((r.map φ).map sz') = er (r.map sz) := by
  cases r with
  | none => rfl
  | some a => show nI (sz' (φ a)) = nI (sz a); rw [h a rfl]
theorem bstF_mem : ∀ {l : List Zi} {o : Option Nat} {n a : Nat}, (bstF l (o, n)).1 = some a → o = some a ∨ ∃ z ∈ l, z.1 = a := by
  intro l
  induction l with
  | nil => intro o n a h; exact Or.inl h
  | cons z l ih =>
    intro o n a h
    rw [bstF] at h
    split at h
    · rcases ih h with h | ⟨y, h1, h2⟩
      · cases h; exact Or.inr ⟨z, by simp, rfl⟩
      · exact Or.inr ⟨y, by simp [h1], h2⟩
    · rcases ih h with h | ⟨y, h1, h2⟩
      · exact Or.inl h
      · exact Or.inr ⟨y, by simp [h1], h2⟩
theorem bst_mem {t : Tr} {a : Nat} (h : bst t = some a) : a ∈ tids t := by
  rcases bstF_mem h with h | ⟨z, h1, h2⟩
  · cases h
  · rw [← zs_ids t [], ← h2]
    exact List.mem_map.mpr ⟨z, h1, rfl⟩
theorem zof_sub {t : Tr} {a b : Nat} (ha : a ∈ tids t) (hb : parC (zof t a).2.2.2 = some b ∨ rt (zof t a).2.1 = some b ∨ rt (zof t a).2.2.1 = some b) : b ∈ tids t := by
  rw [← zof_plug ha, tids_plug]
  rcases hb with h | h | h
  · rcases parC_mem h with h | h <;> simp [h]
  · simp [tids, rt_mem h]
  · simp [tids, rt_mem h]
theorem gids_mp (φ : Nat → Nat) (T : Nat → Tr) : gids (fun r => mp φ (T r)) = (gids T).map φ := by
  unfold gids
  simp only [mp_tids, List.map_append]
theorem va_mp {φ : Nat → Nat} {T : Nat → Tr} {r : Nat} {t : Tr} : (fun q => mp φ (va_up T r t q)) = va_up (fun q => mp φ (T q)) r (mp φ t) := by
  funext q
  by_cases h : q = r
  · subst h; rw [va_up_self, va_up_self]
  · rw [va_up_ne _ _ h, va_up_ne _ _ h]
theorem jn_mp {φ : Nat → Nat} {t u : Tr} (hn : ((tids t).map φ).Nodup) : jn (mp φ t) (mp φ u) = mp φ (jn t u) := by
  unfold jn
  rw [mp_tids, List.getLast?_map]
  cases hg : (tids t).getLast? with
  | none => rfl
  | some g =>
    have hin := List.mem_of_getLast? hg
    dsimp only [Option.map]
    rw [zof_mp (by rw [mp_tids]; exact hn) hin, mp_spz]
    cases spz (zof t g) with
    | leaf u => rfl
    | branch k l r => rfl
theorem nd_map {φ : Nat → Nat} : ∀ {l : List Nat}, (l.map φ).Nodup → l.Nodup := by
  intro l
  induction l with
  | nil => intro _; exact List.nodup_nil
  | cons a l ih =>
    intro h
    rw [List.map_cons] at h
    obtain ⟨h1, h2⟩ := List.nodup_cons.mp h
    exact List.nodup_cons.mpr ⟨fun e => h1 (List.mem_map.mpr ⟨a, e, rfl⟩), ih h2⟩
theorem appN_mp {φ : Nat → Nat} {t : Tr} (hn : ((tids t).map φ).Nodup) : appN (mp φ t) = appN t := by
  unfold appN
  rw [mp_tids, List.getLast?_map]
  cases hg : (tids t).getLast? with
  | none => rfl
  | some g =>
    have hin := List.mem_of_getLast? hg
    dsimp only [Option.map]
    rw [zof_mp (by rw [mp_tids]; exact hn) hin]
    exact mpC_length φ _
theorem CI_ex9 {Γ : GT} {o : Nat} {T : Nat → Tr} {L L' : List Nat} {K K' sz : Nat → Nat} {si : Nat → Option Nat} {P : PF} (hc : CI Γ o T L K sz si P) (h1 : ∀ a, a ∈ L → a ∈ L' ∧ K' a = K a) (h2 : ∀ a, a ∈ L' → a ∈ L ∨ K' a = 9) : CI Γ o T L' K' sz si P := by
  have up : ∀ a k, a ∈ L ∧ K a = k → a ∈ L' ∧ K' a = k := fun a k h => ⟨(h1 a h.1).1, (h1 a h.1).2.trans h.2⟩
  obtain ⟨⟨g1, g2, g3, g4, g5, g6⟩, c1, c2, c3, c4, c5⟩ := hc
  refine ⟨⟨up _ _ g1, fun b hb hk => ?_, up _ _ g3, up _ _ g4, g5, g6⟩, fun r hr => ?_, c2, fun a ha => ?_, c4, c5⟩
  · rcases h2 b hb with h | h
    · exact g2 b h (by rw [← (h1 b h).2]; exact hk)
    · omega
  · obtain ⟨⟨q1, q2, q3, q4, q5, q6⟩, q7⟩ := c1 r hr
    exact ⟨⟨(up _ _ ⟨q1, q2⟩).1, (up _ _ ⟨q1, q2⟩).2, q3, q4, q5, fun a ha => ⟨up _ _ (q6 a ha).1, (q6 a ha).2⟩⟩, q7⟩
  · obtain ⟨b, e1, e2, e3⟩ := c3 a ha
    exact ⟨b, e1, up _ _ e2, e3⟩
theorem Ext_open {L : List Nat} {K sz : Nat → Nat} {si : Nat → Option Nat} {P : PF} {bi : Nat → Nat} {tu : Nat} {C' : CW} (h : Ext (L, K, sz, si, P, bi, tu) C') : ∃ L' K', C' = (L', K', sz, si, P, bi, tu) ∧ ∀ (Γ : GT) (o : Nat) (T : Nat → Tr), CI Γ o T L K sz si P → CI Γ o T L' K' sz si P := by
  obtain ⟨L', K', rest⟩ := C'
  obtain ⟨h1, h2, h3⟩ := h
  cases h1
  exact ⟨L', K', rfl, fun Γ o T hc => CI_ex9 hc h2 h3⟩
/-- names, bites; how often one ate at most -/
def JR (T : Nat → Tr) (sz bi zz ee φ : Nat → Nat) (k : Nat) : Prop := (∀ a ∈ gids T, zz (φ a) = sz a ∧ ee (φ a) = bi a) ∧ (∀ a ∈ gids T, ∀ b ∈ gids T, φ a = φ b → a = b) ∧ (∀ a ∈ gids T, bi a ≤ k) ∧ ∀ i, 6 ≤ i → T i = .leaf ()
abbrev mpT (φ : Nat → Nat) (T : Nat → Tr) : Nat → Tr := fun i => mp φ (T i)
theorem CI_SO {Γ : GT} {o : Nat} {T : Nat → Tr} {L : List Nat} {K sz : Nat → Nat} {si : Nat → Option Nat} {P : PF} (hc : CI Γ o T L K sz si P) : SO sz T :=
  ⟨hc.2.2.1, fun r hr => (hc.2.1 r hr).2, fun a ha => by
    obtain ⟨r, hr, hm⟩ := gids_mem.mp ha
    exact ((hc.2.1 r hr).1.2.2.2.2.2 a hm).2, hc.2.2.2.2.2⟩
section JRs
variable {T : Nat → Tr} {sz bi zz ee φ : Nat → Nat} {k : Nat}
theorem JR_at (h : JR T sz bi zz ee φ k) {r : Nat} (hr : r < 6) : (∀ a ∈ tids (T r), zz (φ a) = sz a) ∧ (∀ a ∈ tids (T r), ee (φ a) = bi a) ∧ (∀ a ∈ tids (T r), ∀ b ∈ tids (T r), φ a = φ b → a = b) ∧ ∀ a ∈ tids (T r), a ∈ gids T :=
  have hg : ∀ a ∈ tids (T r), a ∈ gids T := fun a ha => gids_mem.mpr ⟨r, hr, ha⟩
  ⟨fun a ha => (h.1 a (hg a ha)).1, fun a ha => (h.1 a (hg a ha)).2, fun a ha b hb => h.2.1 a (hg a ha) b (hg b hb), hg⟩
theorem map_nd {l : List Nat} (hn : l.Nodup) (hi : ∀ a ∈ l, ∀ b ∈ l, φ a = φ b → a = b) : (l.map φ).Nodup := by
  induction l with
  | nil => exact List.Pairwise.nil
  | cons a l ih =>
    obtain ⟨h1, h2⟩ := List.nodup_cons.mp hn
    rw [List.map_cons]
    refine List.nodup_cons.mpr ⟨fun hm => ?_, ih h2 (fun x hx y hy => hi x (by simp [hx]) y (by simp [hy]))⟩
    obtain ⟨b, hb, e⟩ := List.mem_map.mp hm
    have := hi b (by simp [hb]) a (by simp) e
    subst this
    exact h1 hb
theorem JR_nd (h : JR T sz bi zz ee φ k) (hO : SO sz T) {r : Nat} (hr : r < 6) : ((tids (T r)).map φ).Nodup := map_nd (SO_at hO hr).1 (JR_at h hr).2.2.1
theorem srt_mp {t : Tr} (hs : srt sz t) (h : ∀ a ∈ tids t, zz (φ a) = sz a) : srt zz (mp φ t) := by
  unfold srt at hs ⊢
  rw [mp_tids, List.pairwise_map]
  exact hs.imp_of_mem (fun ha hb hlt => by rw [h _ ha, h _ hb]; exact hlt)
theorem JR_SO (h : JR T sz bi zz ee φ k) (hO : SO sz T) : SO zz (mpT φ T) := by
  refine ⟨?_, fun r hr => srt_mp (hO.2.1 r hr) (JR_at h hr).1, fun a ha => ?_, ?_⟩
  · rw [gids_mp]; exact map_nd hO.1 h.2.1
  · rw [gids_mp] at ha
    obtain ⟨b, hb, rfl⟩ := List.mem_map.mp ha
    rw [(h.1 b hb).1]
    exact hO.2.2.1 b hb
  · rw [gids_mp, List.length_map]; exact hO.2.2.2
theorem JR_sub {T' : Nat → Tr} {k' : Nat} (h : JR T sz bi zz ee φ k) (hs : ∀ a ∈ gids T', a ∈ gids T) (h6 : ∀ i, 6 ≤ i → T' i = .leaf ()) (hk : k ≤ k') : JR T' sz bi zz ee φ k' :=
  ⟨fun a ha => h.1 a (hs a ha), fun a ha b hb => h.2.1 a (hs a ha) b (hs b hb), fun a ha => Nat.le_trans (h.2.2.1 a (hs a ha)) hk, h6⟩
theorem up6 {r : Nat} {t : Tr} (h6 : ∀ i, 6 ≤ i → T i = .leaf ()) (hr : r < 6) : ∀ i, 6 ≤ i → va_up T r t i = .leaf () := fun i hi => (va_up_ne _ _ (by omega)).trans (h6 i hi)
theorem gids_up1 {r : Nat} {t : Tr} (hr : r < 6) (hs : ∀ a ∈ tids t, a ∈ tids (T r)) : ∀ a ∈ gids (va_up T r t), a ∈ gids T := fun a ha => by
  obtain ⟨i, hi, hm⟩ := gids_mem.mp ha
  by_cases e : i = r
  · subst e; rw [va_up_self] at hm; exact gids_mem.mpr ⟨i, hr, hs a hm⟩
  · rw [va_up_ne _ _ e] at hm; exact gids_mem.mpr ⟨i, hi, hm⟩
theorem gids_up2 {r q : Nat} {t u : Tr} (hr : r < 6) (hq : q < 6) (hs : ∀ a, a ∈ tids t ∨ a ∈ tids u → a ∈ tids (T r) ∨ a ∈ tids (T q)) : ∀ a ∈ gids (va_up (va_up T r t) q u), a ∈ gids T := fun a ha => by
  have fin : a ∈ tids (T r) ∨ a ∈ tids (T q) → a ∈ gids T := fun h => h.elim (fun h => gids_mem.mpr ⟨r, hr, h⟩) (fun h => gids_mem.mpr ⟨q, hq, h⟩)
  obtain ⟨i, hi, hm⟩ := gids_mem.mp ha
  by_cases e : i = q
  · subst e; rw [va_up_self] at hm; exact fin (hs a (Or.inr hm))
  · rw [va_up_ne _ _ e] at hm
    by_cases e2 : i = r
    · subst e2; rw [va_up_self] at hm; exact fin (hs a (Or.inl hm))
    · rw [va_up_ne _ _ e2] at hm; exact gids_mem.mpr ⟨i, hi, hm⟩
theorem JR_eat (h : JR T sz bi zz ee φ k) {r a : Nat} (hr : r < 6) (ha : a ∈ tids (T r)) : JR (va_up T r (spz (zof (T r) a))) sz (va_up bi a (bi a + 1)) zz (va_up ee (φ a) (ee (φ a) + 1)) φ (k + 1) := by
  have hs : ∀ b ∈ gids (va_up T r (spz (zof (T r) a))), b ∈ gids T := gids_up1 hr (fun b hb => by rw [spz_tids ha] at hb; exact hb)
  have hag : a ∈ gids T := gids_mem.mpr ⟨r, hr, ha⟩
  refine ⟨fun b hb => ?_, fun b hb c hc => h.2.1 b (hs b hb) c (hs c hc), fun b hb => ?_, up6 h.2.2.2 hr⟩
  · obtain ⟨q1, q2⟩ := h.1 b (hs b hb)
    refine ⟨q1, ?_⟩
    by_cases e : b = a
    · subst e; rw [va_up_self, va_up_self, q2]
    · rw [va_up_ne _ _ e, va_up_ne _ _ (fun e2 => e (h.2.1 b (hs b hb) a hag e2)), q2]
  · have := h.2.2.1 b (hs b hb)
    by_cases e : b = a
    · subst e; rw [va_up_self]; omega
    · rw [va_up_ne _ _ e]; omega
/-- the names of a raised tree -/
theorem J_spz (h : JR T sz bi zz ee φ k) (hO : SO sz T) {r a : Nat} (hr : r < 6) (ha : a ∈ tids (T r)) : zof (mp φ (T r)) (φ a) = mpZ φ (zof (T r) a) ∧ spz (zof (mp φ (T r)) (φ a)) = mp φ (spz (zof (T r) a)) ∧ (zof (mp φ (T r)) (φ a)).2.2.2.length = (zof (T r) a).2.2.2.length := by
  have e := zof_mp (φ := φ) (t := T r) (by rw [mp_tids]; exact JR_nd h hO hr) ha
  exact ⟨e, by rw [e, mp_spz], by rw [e]; exact mpC_length φ _⟩
theorem J_fnd (h : JR T sz bi zz ee φ k) {r : Nat} (hr : r < 6) (x : Int) : fnd zz x (mp φ (T r)) = (fnd sz x (T r)).map φ := fnd_mp _ (JR_at h hr).1
theorem J_inc (h : JR T sz bi zz ee φ k) {r : Nat} (hr : r < 6) (x : Int) : inc zz x (mp φ (T r)) [] = mpC φ (inc sz x (T r) []) := inc_mp (T r) [] (JR_at h hr).1
theorem spl_ids (k : Nat) : ∀ (C : Cx) (l r : Tr), tids (spl k C l r) = tids (plug (.branch k l r) C) := by
  have key : ∀ (n : Nat) (C : Cx) (l r : Tr), C.length ≤ n → tids (spl k C l r) = tids (plug (.branch k l r) C) := by
    intro n
    induction n with
    | zero =>
      intro C l r hl
      have : C = [] := List.length_eq_zero_iff.mp (by omega)
      subst this
      rfl
    | succ n ih =>
      intro C l r hl
      match C, hl with
      | [], _ => rfl
      | [(s, p, u)], _ => exact tids_rtn_plug s k l r p u []
      | (s1, p1, u1) :: (s2, p2, u2) :: C, hl =>
        have hl2 : C.length ≤ n := by simp only [List.length_cons] at hl; omega
        unfold spl
        split
        · rename_i hs
          subst hs
          rw [ih C _ _ hl2]
          show _ = tids (plug (nd s1 p2 (nd s1 p1 (.branch k l r) u1) u2) C)
          apply tids_plug_eq
          cases s1 <;> simp [rtn, nd, tids]
        · rw [ih C _ _ hl2]
          show _ = tids (plug (nd s2 p2 (nd s1 p1 (.branch k l r) u1) u2) C)
          apply tids_plug_eq
          cases s1 <;> cases s2 <;> simp [rtn, nd, tids]
  intro C l r
  exact key _ C l r (Nat.le_refl _)
theorem JR_plant {sz' bi' : Nat → Nat} {r n a a' : Nat} (h : JR T sz bi zz ee φ k) (hr : r < 6) (ha : a ∉ gids T) (hsa : sz' a = n) (hba : bi' a = 0) (hold : ∀ b ∈ gids T, sz' b = sz b ∧ bi' b = bi b) (ha' : ∀ b ∈ gids T, φ b ≠ a') :
    JR (va_up T r (spl a (inc sz (n : Int) (T r) []) (.leaf ()) (.leaf ()))) sz' bi' (va_up zz a' n) (va_up ee a' 0) (va_up φ a a') k ∧ mpT (va_up φ a a') (va_up T r (spl a (inc sz (n : Int) (T r) []) (.leaf ()) (.leaf ()))) = va_up (mpT φ T) r (spl a' (inc zz (n : Int) (mp φ (T r)) []) (.leaf ()) (.leaf ())) := by
  have hin : ∀ b ∈ gids (va_up T r (spl a (inc sz (n : Int) (T r) []) (.leaf ()) (.leaf ()))), b = a ∨ b ∈ gids T := fun b hb => by
    obtain ⟨i, hi, hm⟩ := gids_mem.mp hb
    by_cases e : i = r
    · subst e
      rw [va_up_self, spl_ids, tids_plug] at hm
      have e2 : tids (T i) = cL (inc sz (n : Int) (T i) []) ++ cR (inc sz (n : Int) (T i) []) := by
        have h9 := plug_inc (sz := sz) (z := (n : Int)) (T i) []
        have h8 := congrArg tids h9
        rw [tids_plug] at h8
        simpa [tids, plug] using h8.symm
      simp only [tids, List.nil_append, List.mem_append, List.mem_cons, List.not_mem_nil, or_false] at hm
      rcases hm with (hm | hm) | hm
      · exact Or.inr (gids_mem.mpr ⟨i, hi, by rw [e2]; simp [hm]⟩)
      · exact Or.inl hm
      · exact Or.inr (gids_mem.mpr ⟨i, hi, by rw [e2]; simp [hm]⟩)
    · rw [va_up_ne _ _ e] at hm; exact Or.inr (gids_mem.mpr ⟨i, hi, hm⟩)
  have hne : ∀ b ∈ gids T, b ≠ a := fun b hb e => ha (by rw [← e]; exact hb)
  refine ⟨⟨fun b hb => ?_, fun b hb c hc e => ?_, fun b hb => ?_, up6 h.2.2.2 hr⟩, ?_⟩
  · rcases hin b hb with rfl | hm
    · rw [va_up_self, va_up_self, va_up_self]; exact ⟨hsa.symm, hba.symm⟩
    · rw [va_up_ne _ _ (hne b hm), va_up_ne _ _ (ha' b hm), va_up_ne _ _ (ha' b hm), (hold b hm).1, (hold b hm).2]; exact h.1 b hm
  · rcases hin b hb with rfl | hm <;> rcases hin c hc with h9 | hm2
    · exact h9.symm
    · rw [va_up_self, va_up_ne _ _ (hne c hm2)] at e; exact absurd e.symm (ha' c hm2)
    · subst h9; rw [va_up_self, va_up_ne _ _ (hne b hm)] at e; exact absurd e (ha' b hm)
    · rw [va_up_ne _ _ (hne b hm), va_up_ne _ _ (hne c hm2)] at e; exact h.2.1 b hm c hm2 e
  · rcases hin b hb with rfl | hm
    · rw [hba]; exact Nat.zero_le _
    · rw [(hold b hm).2]; exact h.2.2.1 b hm
  · funext i
    have hcg : ∀ j, j < 6 → mp (va_up φ a a') (T j) = mp φ (T j) := fun j hj => mp_congr _ (fun b hb => va_up_ne _ _ (hne b (gids_mem.mpr ⟨j, hj, hb⟩)))
    show mp (va_up φ a a') (va_up T r _ i) = _
    by_cases e : i = r
    · subst e
      rw [va_up_self, va_up_self, mp_spl _ _ _ _ _ _ (Nat.le_refl _), va_up_self, J_inc h hr]
      have e9 : mpC (va_up φ a a') (inc sz (n : Int) (T i) []) = mpC φ (inc sz (n : Int) (T i) []) := by
        have q1 := inc_mp (sz := sz) (sz' := va_up zz a' n) (z := (n : Int)) (φ := va_up φ a a') (T i) [] (fun b hb => by
          have hm := gids_mem.mpr ⟨i, hr, hb⟩
          rw [va_up_ne _ _ (hne b hm), va_up_ne _ _ (ha' b hm)]; exact (h.1 b hm).1)
        have q2 := inc_mp (sz := sz) (sz' := va_up zz a' n) (z := (n : Int)) (φ := φ) (T i) [] (fun b hb => by
          have hm := gids_mem.mpr ⟨i, hr, hb⟩
          rw [va_up_ne _ _ (ha' b hm)]; exact (h.1 b hm).1)
        rw [hcg i hr] at q1
        exact q1.symm.trans q2
      rw [e9]
      rfl
    · rw [va_up_ne _ _ e, va_up_ne _ _ e]
      by_cases h6 : i < 6
      · exact hcg i h6
      · show mp _ (T i) = mp φ (T i)
        rw [h.2.2.2 i (by omega)]
        rfl
end JRs
