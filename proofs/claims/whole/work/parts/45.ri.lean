/-! BOTH TOGETHER: the reference's trees are the class's trees with other names; what that makes of every answer -/
theorem mp_spz (φ : Nat → Nat) (z : Zi) : spz (mpZ φ z) = mp φ (spz z) := (mp_spl φ z.1 z.2.2.2.length z.2.2.2 z.2.1 z.2.2.1 (Nat.le_refl _)).symm
theorem tw_map {φ : Nat → Nat} {p p' : Nat → Bool} : ∀ {l : List Nat}, (∀ a ∈ l, p' (φ a) = p a) → (l.map φ).takeWhile p' = (l.takeWhile p).map φ := by
  intro l
  induction l with
  | nil => intro _; rfl
  | cons a l ih =>
    intro h
    rw [List.map_cons, List.takeWhile_cons, List.takeWhile_cons, h a (by simp)]
    cases p a with
    | true => simp only [if_true, List.map_cons]; rw [ih (fun b hb => h b (by simp [hb]))]
    | false => rfl
theorem blw_mp {sz sz' : Nat → Nat} {z : Int} {φ : Nat → Nat} {t : Tr} (h : ∀ a ∈ tids t, sz' (φ a) = sz a) : blw sz' z (mp φ t) = (blw sz z t).map φ := by
  unfold blw
  rw [mp_tids]
  exact tw_map (fun a ha => by rw [h a ha])
theorem atL_map {φ : Nat → Nat} {x : Int32} : ∀ {l : List Nat} {i : Nat}, atL (l.map φ) x i = (atL l x i).map φ := by
  intro l
  induction l with
  | nil => intro i; rfl
  | cons a l ih =>
    intro i
    rw [List.map_cons, atL, atL, ih]
    split <;> rfl
theorem fvs_map {φ : Nat → Nat} {bi be : Nat → Nat} : ∀ {l : List Nat} {acc : Option Nat}, (∀ a ∈ l, be (φ a) = bi a) → (∀ a, acc = some a → be (φ a) = bi a) → fvs be (acc.map φ) (l.map φ) = (fvs bi acc l).map φ := by
  intro l
  induction l with
  | nil => intro acc _ _; cases acc <;> rfl
  | cons b l ih =>
    intro acc h ha
    have hb := h b (by simp)
    have hl : ∀ a ∈ l, be (φ a) = bi a := fun a q => h a (by simp [q])
    cases acc with
    | none => exact ih (acc := some b) hl (fun a q => by cases q; exact hb)
    | some g =>
      have hg := ha g rfl
      show fvs be (if nI (be (φ b)) ≤ nI (be (φ g)) then some (φ g) else some (φ b)) (l.map φ) = (fvs bi (if nI (bi b) ≤ nI (bi g) then some g else some b) l).map φ
      rw [hb, hg]
      split
      · exact ih (acc := some g) hl (fun a q => by cases q; exact hg)
      · exact ih (acc := some b) hl (fun a q => by cases q; exact hb)
theorem mayJ_mp {sz sz' : Nat → Nat} {φ : Nat → Nat} {t u : Tr} (h : ∀ a, a ∈ tids t ∨ a ∈ tids u → sz' (φ a) = sz a) : mayJ sz' (mp φ t) (mp φ u) = mayJ sz t u := by
  unfold mayJ
  rw [mp_tids, mp_tids, List.getLast?_map, List.head?_map]
  cases hg : (tids t).getLast? with
  | none => rfl
  | some g =>
    cases hy : (tids u).head? with
    | none => rfl
    | some y =>
      show decide (sz' (φ g) < sz' (φ y)) = decide (sz g < sz y)
      rw [h g (Or.inl (List.mem_of_getLast? hg)), h y (Or.inr (List.mem_of_head? hy))]
theorem map_inj {φ : Nat → Nat} : ∀ {l : List Nat}, (l.map φ).Nodup → ∀ a ∈ l, ∀ b ∈ l, φ a = φ b → a = b := by
  intro l
  induction l with
  | nil => intro _ a ha; cases ha
  | cons c l ih =>
    intro hn a ha b hb e
    rw [List.map_cons] at hn
    obtain ⟨h1, h2⟩ := List.nodup_cons.mp hn
    rcases List.mem_cons.mp ha with h | h <;> rcases List.mem_cons.mp hb with h' | h'
    · rw [h, h']
    · subst h; exact absurd (by rw [e]; exact List.mem_map.mpr ⟨b, h', rfl⟩) h1
    · subst h'; exact absurd (by rw [← e]; exact List.mem_map.mpr ⟨a, h, rfl⟩) h1
    · exact ih h2 a h b h' e
theorem lca_mp {φ : Nat → Nat} : ∀ {t : Tr} {a b : Nat}, ((tids t).map φ).Nodup → a ∈ tids t → b ∈ tids t → lca (mp φ t) (φ a) (φ b) = φ (lca t a b) := by
  intro t
  induction t with
  | leaf u => intro a b _ h; cases h
  | branch k l r ihl ihr =>
    intro a b hn ha hb
    have hi := map_inj hn
    have hin : ∀ u : Tr, (∀ x ∈ tids u, x ∈ tids (.branch k l r)) → ∀ x, x ∈ tids (.branch k l r) → (φ x ∈ tids (mp φ u) ↔ x ∈ tids u) := fun u hu x hx => by
      rw [mp_tids, List.mem_map]
      exact ⟨fun ⟨y, h1, h2⟩ => by rw [← hi y (hu y h1) x hx h2]; exact h1, fun h => ⟨x, h, rfl⟩⟩
    have hul : ∀ x ∈ tids l, x ∈ tids (.branch k l r) := fun x hx => by simp [tids, hx]
    have hur : ∀ x ∈ tids r, x ∈ tids (.branch k l r) := fun x hx => by simp [tids, hx]
    rw [tids_branch, List.map_append, List.map_cons] at hn
    obtain ⟨nl, nkr, -⟩ := List.nodup_append.mp hn
    have nr := (List.nodup_cons.mp nkr).2
    show (if φ a ∈ tids (mp φ l) ∧ φ b ∈ tids (mp φ l) then lca (mp φ l) (φ a) (φ b) else if φ a ∈ tids (mp φ r) ∧ φ b ∈ tids (mp φ r) then lca (mp φ r) (φ a) (φ b) else φ k) = _
    rw [lca]
    by_cases h1 : a ∈ tids l ∧ b ∈ tids l
    · rw [if_pos ⟨(hin l hul a ha).mpr h1.1, (hin l hul b hb).mpr h1.2⟩, if_pos h1, ihl nl h1.1 h1.2]
    · rw [if_neg (fun q => h1 ⟨(hin l hul a ha).mp q.1, (hin l hul b hb).mp q.2⟩), if_neg h1]
      by_cases h2 : a ∈ tids r ∧ b ∈ tids r
      · rw [if_pos ⟨(hin r hur a ha).mpr h2.1, (hin r hur b hb).mpr h2.2⟩, if_pos h2, ihr nr h2.1 h2.2]
      · rw [if_neg (fun q => h2 ⟨(hin r hur a ha).mp q.1, (hin r hur b hb).mp q.2⟩), if_neg h2]
theorem bstF_map {φ : Nat → Nat} : ∀ {l : List Zi} {o : Option Nat} {n : Nat}, bstF (l.map (mpZ φ)) (o.map φ, n) = ((bstF l (o, n)).1.map φ, (bstF l (o, n)).2) := by
  intro l
  induction l with
  | nil => intro o n; rfl
  | cons z l ih =>
    intro o n
    rw [List.map_cons, bstF, bstF, mp_spz, mp_dsm]
    have e : (o.map φ = none ∨ dsm (spz z) 0 < n) ↔ (o = none ∨ dsm (spz z) 0 < n) := by cases o <;> simp
    by_cases h : o = none ∨ dsm (spz z) 0 < n
    · rw [if_pos h, if_pos (e.mpr h)]
      exact ih (o := some z.1)
    · rw [if_neg h, if_neg (fun q => h (e.mp q))]
      exact ih
theorem bst_mp (φ : Nat → Nat) (t : Tr) : bst (mp φ t) = (bst t).map φ := by
  unfold bst
  have h := mp_zs φ t []
  have h9 : mpC φ [] = [] := rfl
  rw [h9] at h
  rw [h]
  exact congrArg Prod.fst (bstF_map (φ := φ) (o := none))
theorem er_mp {sz sz' φ : Nat → Nat} {r : Option Nat} (h : ∀ a, r = some a → sz' (φ a) = sz a) : er ((r.map φ).map sz') = er (r.map sz) := by
  cases r with
  | none => rfl
  | some a => show nI (sz' (φ a)) = nI (sz a); rw [h a rfl]
theorem bstF_mem : ∀ {l : List Zi} {o : Option Nat} {n a : Nat}, (bstF l (o, n)).1 = some a → o = some a ∨ ∃ z ∈ l, z.1 = a := by
  intro l
  induction l with
  | nil => intro o n a h; exact Or.inl h
  | cons z l ih =>
    intro o n a h
    rw [bstF] at h
    split at h
    · rcases ih h with h | ⟨y, h1, h2⟩
      · cases h; exact Or.inr ⟨z, by simp, rfl⟩
      · exact Or.inr ⟨y, by simp [h1], h2⟩
    · rcases ih h with h | ⟨y, h1, h2⟩
      · exact Or.inl h
      · exact Or.inr ⟨y, by simp [h1], h2⟩
theorem bst_mem {t : Tr} {a : Nat} (h : bst t = some a) : a ∈ tids t := by
  rcases bstF_mem h with h | ⟨z, h1, h2⟩
  · cases h
  · rw [← zs_ids t [], ← h2]
    exact List.mem_map.mpr ⟨z, h1, rfl⟩
/-- class and reference together -/
def RI (T : Nat → Tr) (sz bi : Nat → Nat) (Q : PF) (zs : Nat → Option Nat) (be : Nat → Nat) (mn : Nat) (φ : Nat → Nat) : Prop :=
  MI Q zs (fun r => mp φ (T r)) mn ∧ ∀ a ∈ gids T, zn zs (φ a) = sz a ∧ be (φ a) = bi a
section BothQ
variable {T : Nat → Tr} {sz bi : Nat → Nat} {Q : PF} {zs : Nat → Option Nat} {be : Nat → Nat} {mn : Nat} {φ : Nat → Nat} {row x y : Int32}
theorem RI_at (h : RI T sz bi Q zs be mn φ) {r : Nat} (hr : r < 6) : (∀ a ∈ tids (T r), zn zs (φ a) = sz a) ∧ (∀ a ∈ tids (T r), be (φ a) = bi a) ∧ ((tids (T r)).map φ).Nodup := by
  refine ⟨fun a ha => (h.2 a (gids_mem.mpr ⟨r, hr, ha⟩)).1, fun a ha => (h.2 a (gids_mem.mpr ⟨r, hr, ha⟩)).2, ?_⟩
  have := (h.1.1 r hr).1.2.2.1
  rw [mp_tids] at this
  exact this
theorem qr_cg {f g : Nat → Int32} (h : ∀ r, r < 6 → f r = g r) : qr row f = qr row g := by
  unfold qr
  cases hr : rowN row with
  | none => rfl
  | some r => dsimp only; rw [h r (rowN_some hr).1]
theorem RI_sizeOf : qr row (fun r => nI (tids (mp φ (T r))).length) = qr row (fun r => nI (tids (T r)).length) := qr_cg (fun r _ => by rw [mp_tids, List.length_map])
theorem RI_height : qr row (fun r => nI (hgt (mp φ (T r)))) = qr row (fun r => nI (hgt (T r))) := qr_cg (fun r _ => by rw [mp_hgt])
theorem RI_leaves : qr row (fun r => nI (lvs (mp φ (T r)))) = qr row (fun r => nI (lvs (T r))) := qr_cg (fun r _ => by rw [mp_lvs])
theorem RI_depths : qr row (fun r => nI (dsm (mp φ (T r)) 0)) = qr row (fun r => nI (dsm (T r) 0)) := qr_cg (fun r _ => by rw [mp_dsm])
theorem RI_leastHeight : qr row (fun r => nI (lh (tids (mp φ (T r))).length)) = qr row (fun r => nI (lh (tids (T r)).length)) := qr_cg (fun r _ => by rw [mp_tids, List.length_map])
theorem RI_smaller (h : RI T sz bi Q zs be mn φ) : qr row (fun r => nI (blw (zn zs) x.toInt (mp φ (T r))).length) = qr row (fun r => nI (blw sz x.toInt (T r)).length) := qr_cg (fun r hr => by rw [blw_mp (RI_at h hr).1, List.length_map])
theorem RI_top (h : RI T sz bi Q zs be mn φ) : qr row (fun r => er ((rt (mp φ (T r))).map (zn zs))) = qr row (fun r => er ((rt (T r)).map sz)) := qr_cg (fun r hr => by rw [mp_rt]; exact er_mp (fun a ha => (RI_at h hr).1 a (rt_mem ha)))
theorem RI_smallest (h : RI T sz bi Q zs be mn φ) : qr row (fun r => er (((tids (mp φ (T r))).head?).map (zn zs))) = qr row (fun r => er (((tids (T r)).head?).map sz)) := qr_cg (fun r hr => by rw [mp_tids, List.head?_map]; exact er_mp (fun a ha => (RI_at h hr).1 a (List.mem_of_head? ha)))
theorem RI_greatest (h : RI T sz bi Q zs be mn φ) : qr row (fun r => er (((tids (mp φ (T r))).getLast?).map (zn zs))) = qr row (fun r => er (((tids (T r)).getLast?).map sz)) := qr_cg (fun r hr => by rw [mp_tids, List.getLast?_map]; exact er_mp (fun a ha => (RI_at h hr).1 a (List.mem_of_getLast? ha)))
theorem RI_favourite (h : RI T sz bi Q zs be mn φ) : qr row (fun r => er ((fvs be none (tids (mp φ (T r)))).map (zn zs))) = qr row (fun r => er ((fvs bi none (tids (T r))).map sz)) := qr_cg (fun r hr => by
  rw [mp_tids]
  have e := fvs_map (φ := φ) (acc := none) (RI_at h hr).2.1 (fun a q => by cases q)
  have e : fvs be none ((tids (T r)).map φ) = (fvs bi none (tids (T r))).map φ := e
  rw [e]
  exact er_mp (fun a ha => (RI_at h hr).1 a (fvs_mem ha)))
theorem RI_bestToEat (h : RI T sz bi Q zs be mn φ) : qr row (fun r => er ((bst (mp φ (T r))).map (zn zs))) = qr row (fun r => er ((bst (T r)).map sz)) := qr_cg (fun r hr => by
  rw [bst_mp]
  exact er_mp (fun a ha => (RI_at h hr).1 a (bst_mem ha)))
theorem RI_has (h : RI T sz bi Q zs be mn φ) : qr row (fun r => if (fnd (zn zs) x.toInt (mp φ (T r))).isSome then 1 else 0) = qr row (fun r => if (fnd sz x.toInt (T r)).isSome then 1 else 0) := qr_cg (fun r hr => by rw [fnd_mp (T r) (RI_at h hr).1, Option.isSome_map])
theorem RI_inOrder (h : RI T sz bi Q zs be mn φ) : qo (fun r => mp φ (T r)) (zn zs) row x = qo T sz row x := by
  unfold qo
  cases hr : rowN row with
  | none => rfl
  | some r =>
    dsimp only
    rw [mp_tids, atL_map]
    cases ha : atL (tids (T r)) x 0 with
    | none => rfl
    | some a => show (0, nI (zn zs (φ a))) = (0, nI (sz a)); rw [(RI_at h (rowN_some hr).1).1 a (atL_mem ha)]
theorem qa_cg (h : RI T sz bi Q zs be mn φ) {f g : Nat → Nat → Int32} (hfg : ∀ r, r < 6 → ∀ a ∈ tids (T r), zof (mp φ (T r)) (φ a) = mpZ φ (zof (T r) a) → g r (φ a) = f r a) : qa (fun r => mp φ (T r)) (zn zs) row x g = qa T sz row x f := by
  unfold qa
  cases hr : rowN row with
  | none => rfl
  | some r =>
    have hr6 := (rowN_some hr).1
    dsimp only
    rw [fnd_mp (T r) (RI_at h hr6).1]
    cases ha : fnd sz x.toInt (T r) with
    | none => rfl
    | some a =>
      have hin := (fnd_mem _ _ ha).1
      show (0, g r (φ a)) = (0, f r a)
      rw [hfg r hr6 a hin (zof_mp (by rw [mp_tids]; exact (RI_at h hr6).2.2) hin)]
theorem zof_sub {t : Tr} {a b : Nat} (ha : a ∈ tids t) (hb : parC (zof t a).2.2.2 = some b ∨ rt (zof t a).2.1 = some b ∨ rt (zof t a).2.2.1 = some b) : b ∈ tids t := by
  rw [← zof_plug ha, tids_plug]
  rcases hb with h | h | h
  · rcases parC_mem h with h | h <;> simp [h]
  · simp [tids, rt_mem h]
  · simp [tids, rt_mem h]
theorem RI_depthOf (h : RI T sz bi Q zs be mn φ) : qa (fun r => mp φ (T r)) (zn zs) row x (fun r a => nI (zof (mp φ (T r)) a).2.2.2.length) = qa T sz row x (fun r a => nI (zof (T r) a).2.2.2.length) := qa_cg h (fun r hr a ha e => by rw [e]; dsimp only [mpZ]; rw [mpC_length])
theorem RI_above (h : RI T sz bi Q zs be mn φ) : qa (fun r => mp φ (T r)) (zn zs) row x (fun r a => er ((parC (zof (mp φ (T r)) a).2.2.2).map (zn zs))) = qa T sz row x (fun r a => er ((parC (zof (T r) a).2.2.2).map sz)) := qa_cg h (fun r hr a ha e => by rw [e]; dsimp only [mpZ]; rw [mpC_parC]; exact er_mp (fun b hb => (RI_at h hr).1 b (zof_sub ha (Or.inl hb))))
theorem RI_leftOf (h : RI T sz bi Q zs be mn φ) : qa (fun r => mp φ (T r)) (zn zs) row x (fun r a => er ((rt (zof (mp φ (T r)) a).2.1).map (zn zs))) = qa T sz row x (fun r a => er ((rt (zof (T r) a).2.1).map sz)) := qa_cg h (fun r hr a ha e => by rw [e]; dsimp only [mpZ]; rw [mp_rt]; exact er_mp (fun b hb => (RI_at h hr).1 b (zof_sub ha (Or.inr (Or.inl hb)))))
theorem RI_rightOf (h : RI T sz bi Q zs be mn φ) : qa (fun r => mp φ (T r)) (zn zs) row x (fun r a => er ((rt (zof (mp φ (T r)) a).2.2.1).map (zn zs))) = qa T sz row x (fun r a => er ((rt (zof (T r) a).2.2.1).map sz)) := qa_cg h (fun r hr a ha e => by rw [e]; dsimp only [mpZ]; rw [mp_rt]; exact er_mp (fun b hb => (RI_at h hr).1 b (zof_sub ha (Or.inr (Or.inr hb)))))
theorem RI_below (h : RI T sz bi Q zs be mn φ) : qa (fun r => mp φ (T r)) (zn zs) row x (fun r a => nI ((tids (zof (mp φ (T r)) a).2.1).length + (tids (zof (mp φ (T r)) a).2.2.1).length)) = qa T sz row x (fun r a => nI ((tids (zof (T r) a).2.1).length + (tids (zof (T r) a).2.2.1).length)) := qa_cg h (fun r hr a ha e => by rw [e]; dsimp only [mpZ]; rw [mp_tids, mp_tids, List.length_map, List.length_map])
theorem RI_eaten (h : RI T sz bi Q zs be mn φ) : qa (fun r => mp φ (T r)) (zn zs) row x (fun r a => nI (be a)) = qa T sz row x (fun r a => nI (bi a)) := qa_cg h (fun r hr a ha e => by rw [(RI_at h hr).2.1 a ha])
theorem RI_heightBehind (h : RI T sz bi Q zs be mn φ) : qa (fun r => mp φ (T r)) (zn zs) row x (fun r a => nI (hgt (spz (zof (mp φ (T r)) a)))) = qa T sz row x (fun r a => nI (hgt (spz (zof (T r) a)))) := qa_cg h (fun r hr a ha e => by rw [e, mp_spz, mp_hgt])
theorem RI_canJoin (h : RI T sz bi Q zs be mn φ) : qj (fun r => mp φ (T r)) (zn zs) row x = qj T sz row x := by
  unfold qj
  cases hr : rowN row with
  | none => rfl
  | some r =>
    dsimp only
    cases hq : rowN x with
    | none => rfl
    | some q =>
      dsimp only
      rw [mayJ_mp (fun a ha => by rcases ha with ha | ha; exact (RI_at h (rowN_some hr).1).1 a ha; exact (RI_at h (rowN_some hq).1).1 a ha)]
theorem RI_meet (h : RI T sz bi Q zs be mn φ) : qm (fun r => mp φ (T r)) (zn zs) row x y = qm T sz row x y := by
  unfold qm
  cases hr : rowN row with
  | none => rfl
  | some r =>
    have hr6 := (rowN_some hr).1
    dsimp only
    rw [fnd_mp (T r) (RI_at h hr6).1, fnd_mp (T r) (RI_at h hr6).1]
    cases ha : fnd sz x.toInt (T r) with
    | none => rfl
    | some a =>
      cases hb : fnd sz y.toInt (T r) with
      | none => rfl
      | some b =>
        show (0, nI (zn zs (lca (mp φ (T r)) (φ a) (φ b)))) = (0, nI (sz (lca (T r) a b)))
        rw [lca_mp (RI_at h hr6).2.2 (fnd_mem _ _ ha).1 (fnd_mem _ _ hb).1, (RI_at h hr6).1 _ (lca_mem (fnd_mem _ _ ha).1 (fnd_mem _ _ hb).1)]
theorem RI_plantDepth (h : RI T sz bi Q zs be mn φ) : qp (fun r => mp φ (T r)) (zn zs) row x = qp T sz row x := by
  unfold qp
  cases hr : rowN row with
  | none => rfl
  | some r =>
    have hr6 := (rowN_some hr).1
    dsimp only
    cases hs : szN x with
    | none => rfl
    | some n =>
      dsimp only
      have e := inc_mp (z := (n : Int)) (T r) [] (RI_at h hr6).1
      have h9 : mpC φ [] = [] := rfl
      rw [h9] at e
      rw [fnd_mp (T r) (RI_at h hr6).1, e, mpC_length, Option.isSome_map]
theorem RI_depthBehind (h : RI T sz bi Q zs be mn φ) : qd (fun r => mp φ (T r)) (zn zs) row x y = qd T sz row x y := by
  unfold qd
  cases hr : rowN row with
  | none => rfl
  | some r =>
    have hr6 := (rowN_some hr).1
    dsimp only
    rw [fnd_mp (T r) (RI_at h hr6).1, fnd_mp (T r) (RI_at h hr6).1]
    cases ha : fnd sz x.toInt (T r) with
    | none => rfl
    | some a =>
      cases hb : fnd sz y.toInt (T r) with
      | none => rfl
      | some b =>
        have hin := (fnd_mem _ _ ha).1
        have hn9 := (RI_at h hr6).2.2
        show (0, nI (zof (spz (zof (mp φ (T r)) (φ a))) (φ b)).2.2.2.length) = (0, nI (zof (spz (zof (T r) a)) b).2.2.2.length)
        rw [zof_mp (by rw [mp_tids]; exact hn9) hin, mp_spz, zof_mp (by rw [mp_tids, spz_tids hin]; exact hn9) (by rw [spz_tids hin]; exact (fnd_mem _ _ hb).1)]
        dsimp only [mpZ]
        rw [mpC_length]
end BothQ
