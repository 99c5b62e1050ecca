/-! PURE: trees of hand-made apples, as cells; the way to a size; laying out in order -/
/-- the cell of a hand-made apple -/
abbrev aC (zz ee : Nat → Nat) (k : Nat) (x y : Option Nat) : va_E := .inr (3, [.int (nI (zz k)), .int (nI (ee k)), va_rf x, va_rf y])
def sT (M : MW) (zz ee : Nat → Nat) : Tr → Prop
  | .leaf _ => True
  | .branch k l r => (k ∈ M.1 ∧ M.2 k = aC zz ee k (rt l) (rt r)) ∧ sT M zz ee l ∧ sT M zz ee r
def sC (M : MW) (zz ee : Nat → Nat) : Option Nat → Cx → Prop
  | _, [] => True
  | x, (s, p, u) :: C => (p ∈ M.1 ∧ M.2 p = aC zz ee p (bif s then rt u else x) (bif s then x else rt u)) ∧ sT M zz ee u ∧ sC M zz ee (some p) C
def sZ (M : MW) (zz ee : Nat → Nat) (t : Tr) (C : Cx) : Prop := sT M zz ee t ∧ sC M zz ee (rt t) C
section SimT
variable {M M' : MW} {zz ee zz' ee' : Nat → Nat}
theorem sZ_step {t u : Tr} {C : Cx} {s : Bool} {p : Nat} : sZ M zz ee t ((s, p, u) :: C) ↔ sZ M zz ee (nd s p t u) C := by
  cases s
  · constructor
    · rintro ⟨h1, h2, h3, h4⟩
      exact ⟨⟨h2, h1, h3⟩, h4⟩
    · rintro ⟨⟨h2, h1, h3⟩, h4⟩
      exact ⟨h1, h2, h3, h4⟩
  · constructor
    · rintro ⟨h1, h2, h3, h4⟩
      exact ⟨⟨h2, h3, h1⟩, h4⟩
    · rintro ⟨⟨h2, h3, h1⟩, h4⟩
      exact ⟨h1, h2, h3, h4⟩
theorem sZ_plug : ∀ (C : Cx) (t : Tr), sZ M zz ee t C ↔ sT M zz ee (plug t C) := by
  intro C
  induction C with
  | nil => intro t; exact ⟨fun h => h.1, fun h => ⟨h, trivial⟩⟩
  | cons f C ih =>
    intro t
    obtain ⟨s, p, u⟩ := f
    exact sZ_step.trans (ih _)
theorem sT_cg : ∀ (t : Tr), sT M zz ee t → (∀ a ∈ tids t, a ∈ M.1 → a ∈ M'.1 ∧ M'.2 a = M.2 a ∧ zz' a = zz a ∧ ee' a = ee a) → sT M' zz' ee' t := by
  intro t
  induction t with
  | leaf u => intros; trivial
  | branch k l r ihl ihr =>
    intro h hx
    obtain ⟨⟨h1, h2⟩, hl, hr⟩ := h
    obtain ⟨k1, k2, k3, k4⟩ := hx k (by simp [tids]) h1
    exact ⟨⟨k1, by rw [k2, h2]; unfold aC; rw [k3, k4]⟩, ihl hl (fun a ha => hx a (by simp [tids, ha])), ihr hr (fun a ha => hx a (by simp [tids, ha]))⟩
theorem sC_cg : ∀ (C : Cx) (x : Option Nat), sC M zz ee x C → (∀ a, a ∈ cL C ∨ a ∈ cR C → a ∈ M.1 → a ∈ M'.1 ∧ M'.2 a = M.2 a ∧ zz' a = zz a ∧ ee' a = ee a) → sC M' zz' ee' x C := by
  intro C
  induction C with
  | nil => intros; trivial
  | cons f C ih =>
    intro x h hx
    obtain ⟨s, p, u⟩ := f
    obtain ⟨⟨h1, h2⟩, h3, h4⟩ := h
    obtain ⟨k1, k2, k3, k4⟩ := hx p (by cases s <;> simp [cL, cR]) h1
    refine ⟨⟨k1, by rw [k2, h2]; unfold aC; rw [k3, k4]⟩, sT_cg u h3 (fun a ha => hx a (by cases s <;> simp [cL, cR, ha])), ih _ h4 (fun a ha => hx a ?_)⟩
    rcases ha with ha | ha
    · exact Or.inl (by simp [cL, ha])
    · exact Or.inr (by simp [cR, ha])
theorem sT_at : ∀ (t : Tr), sT M zz ee t → ∀ a ∈ tids t, a ∈ M.1 ∧ ∃ x y, M.2 a = aC zz ee a x y := by
  intro t
  induction t with
  | leaf u => intro _ a h; cases h
  | branch k l r ihl ihr =>
    intro h a ha
    obtain ⟨⟨h1, h2⟩, hl, hr⟩ := h
    rw [tids_branch] at ha
    rcases List.mem_append.mp ha with h | h
    · exact ihl hl a h
    · rcases List.mem_cons.mp h with h | h
      · subst h; exact ⟨h1, _, _, h2⟩
      · exact ihr hr a h
theorem sT_rt {t : Tr} (h : sT M zz ee t) : ∀ b, rt t = some b → b ∈ M.1 ∧ ∃ vs, M.2 b = .inr (3, vs) := fun b hb => by
  obtain ⟨h1, x, y, h2⟩ := sT_at t h b (rt_mem hb)
  exact ⟨h1, _, h2⟩
theorem sC_in : ∀ {C : Cx} {x : Option Nat}, sC M zz ee x C → ∀ b, b ∈ cL C ∨ b ∈ cR C → b ∈ M.1 ∧ ∃ x y, M.2 b = aC zz ee b x y := by
  intro C
  induction C with
  | nil => intro x _ b hb; rcases hb with h | h <;> cases h
  | cons f C ih =>
    intro x h b hb
    obtain ⟨s, p, u⟩ := f
    obtain ⟨⟨h1, h2⟩, h3, h4⟩ := h
    have h5 : b = p ∨ b ∈ tids u ∨ b ∈ cL C ∨ b ∈ cR C := by
      cases s <;> simp only [cL, cR, cond_true, cond_false, List.append_nil, List.nil_append, List.mem_append, List.mem_cons, List.not_mem_nil, or_false] at hb <;> grind
    rcases h5 with rfl | h5 | h5
    · exact ⟨h1, _, _, h2⟩
    · exact sT_at u h3 b h5
    · exact ih h4 b h5
/-- grown, and the tree's own cells as they were -/
theorem sT_gr {w : List Nat} {t : Tr} (h : sT M zz ee t) (hg : Gr M M' w) (hw : ∀ a ∈ tids t, a ∉ w) : sT M' zz ee t := sT_cg t h (fun a ha hM => ⟨hg.1 a hM, hg.2 a hM (hw a ha), rfl, rfl⟩)
/-- the head of a place's way up points to something else -/
theorem sC_re {C : Cx} {x x' : Option Nat} (h : sC M zz ee x C) (hn : (cL C ++ cR C).Nodup) (hsub : ∀ a, a ∈ M.1 → a ∈ M'.1) (hh : ∀ s p u C', C = (s, p, u) :: C' → M'.2 p = aC zz ee p (bif s then rt u else x') (bif s then x' else rt u)) (ho : ∀ a, a ∈ cL C ∨ a ∈ cR C → parC C ≠ some a → M'.2 a = M.2 a) : sC M' zz ee x' C := by
  cases C with
  | nil => trivial
  | cons f C =>
    obtain ⟨s, p, u⟩ := f
    obtain ⟨⟨h1, h2⟩, h3, h4⟩ := h
    have key : ∀ a, (a ∈ tids u ∨ a ∈ cL C ∨ a ∈ cR C) → a ≠ p := by
      intro a ha e
      subst e
      cases s <;> simp only [cL, cR, cond_true, cond_false, List.append_nil, List.nil_append, List.nodup_append, List.nodup_cons, List.mem_append, List.mem_cons] at hn <;> grind
    have hin : ∀ a, (a ∈ tids u ∨ a ∈ cL C ∨ a ∈ cR C) → a ∈ cL ((s, p, u) :: C) ∨ a ∈ cR ((s, p, u) :: C) := by
      intro a ha
      cases s <;> simp only [cL, cR, cond_true, cond_false, List.append_nil, List.nil_append, List.mem_append, List.mem_cons] <;> grind
    have hoth : ∀ a, (a ∈ tids u ∨ a ∈ cL C ∨ a ∈ cR C) → M'.2 a = M.2 a := fun a ha => ho a (hin a ha) (fun e => key a ha (Option.some.inj e).symm)
    exact ⟨⟨hsub p h1, hh s p u C rfl⟩, sT_cg u h3 (fun a ha hM => ⟨hsub a hM, hoth a (Or.inl ha), rfl, rfl⟩), sC_cg C _ h4 (fun a ha hM => ⟨hsub a hM, hoth a (Or.inr ha), rfl, rfl⟩)⟩
theorem zap1 {a p : Nat} {l r u : Tr} {s : Bool} {C : Cx} (hn : (tids (plug (.branch a l r) ((s, p, u) :: C))).Nodup) : a ≠ p ∧ (∀ x, x ∈ tids l ∨ x ∈ tids r ∨ x ∈ tids u → x ≠ a ∧ x ≠ p ∧ x ∉ cL C ∧ x ∉ cR C) ∧ (a ∉ cL C ∧ a ∉ cR C ∧ p ∉ cL C ∧ p ∉ cR C) ∧ (cL C ++ cR C).Nodup := by
  rw [tids_plug] at hn
  cases s <;> simp only [cL, cR, tids, cond_true, cond_false, List.append_nil, List.nil_append, List.nodup_append, List.nodup_cons, List.mem_append, List.mem_cons] at hn ⊢ <;> grind (splits := 30)
theorem zap2 {a p1 p2 : Nat} {l r u1 u2 : Tr} {s1 s2 : Bool} {C : Cx} (hn : (tids (plug (.branch a l r) ((s1, p1, u1) :: (s2, p2, u2) :: C))).Nodup) : (a ≠ p1 ∧ a ≠ p2 ∧ p1 ≠ p2) ∧ (∀ x, x ∈ tids l ∨ x ∈ tids r ∨ x ∈ tids u1 ∨ x ∈ tids u2 → x ≠ a ∧ x ≠ p1 ∧ x ≠ p2 ∧ x ∉ cL C ∧ x ∉ cR C) ∧ (a ∉ cL C ∧ a ∉ cR C ∧ p1 ∉ cL C ∧ p1 ∉ cR C ∧ p2 ∉ cL C ∧ p2 ∉ cR C) ∧ (cL C ++ cR C).Nodup := by
  rw [tids_plug] at hn
  cases s1 <;> cases s2 <;> simp only [cL, cR, tids, cond_true, cond_false, List.append_nil, List.nil_append, List.nodup_append, List.nodup_cons, List.mem_append, List.mem_cons] at hn ⊢ <;> grind (splits := 40)
/-- one turning to the top -/
theorem sim1 {a p : Nat} {l r u : Tr} {s : Bool} (h : sZ M zz ee (.branch a l r) [(s, p, u)]) (hn : (tids (plug (.branch a l r) [(s, p, u)])).Nodup) (hsub : ∀ b, b ∈ M.1 → b ∈ M'.1)
    (ha : M'.2 a = aC zz ee a (bif s then some p else rt l) (bif s then rt r else some p)) (hp : M'.2 p = aC zz ee p (bif s then rt u else rt r) (bif s then rt l else rt u)) (ho : ∀ b, b ∈ tids l ∨ b ∈ tids r ∨ b ∈ tids u → M'.2 b = M.2 b) : sT M' zz ee (spl a [(s, p, u)] l r) := by
  obtain ⟨⟨⟨h1, h2⟩, hl, hr⟩, ⟨h3, h4⟩, hu, -⟩ := h
  have kl := sT_cg (M' := M') l hl (fun b hb hM => ⟨hsub b hM, ho b (Or.inl hb), rfl, rfl⟩)
  have kr := sT_cg (M' := M') r hr (fun b hb hM => ⟨hsub b hM, ho b (Or.inr (Or.inl hb)), rfl, rfl⟩)
  have ku := sT_cg (M' := M') u hu (fun b hb hM => ⟨hsub b hM, ho b (Or.inr (Or.inr hb)), rfl, rfl⟩)
  cases s
  · exact ⟨⟨hsub a h1, ha⟩, kl, ⟨hsub p h3, hp⟩, kr, ku⟩
  · exact ⟨⟨hsub a h1, ha⟩, ⟨⟨hsub p h3, hp⟩, ku, kl⟩, kr⟩
/-- two turnings on one side -/
theorem sim2 {a p1 p2 : Nat} {l r u1 u2 : Tr} {s : Bool} {C : Cx} (h : sZ M zz ee (.branch a l r) ((s, p1, u1) :: (s, p2, u2) :: C)) (hn : (tids (plug (.branch a l r) ((s, p1, u1) :: (s, p2, u2) :: C))).Nodup) (hsub : ∀ b, b ∈ M.1 → b ∈ M'.1)
    (ha : M'.2 a = aC zz ee a (bif s then some p1 else rt l) (bif s then rt r else some p1)) (hp1 : M'.2 p1 = aC zz ee p1 (bif s then some p2 else rt r) (bif s then rt l else some p2)) (hp2 : M'.2 p2 = aC zz ee p2 (bif s then rt u2 else rt u1) (bif s then rt u1 else rt u2))
    (hh : ∀ s3 p3 u3 C', C = (s3, p3, u3) :: C' → M'.2 p3 = aC zz ee p3 (bif s3 then rt u3 else some a) (bif s3 then some a else rt u3)) (ho : ∀ b, b ≠ a → b ≠ p1 → b ≠ p2 → parC C ≠ some b → b ∈ M.1 → (∃ x, M.2 b = .inr (3, x)) → M'.2 b = M.2 b) :
    ∃ l' r', spl a ((s, p1, u1) :: (s, p2, u2) :: C) l r = spl a C l' r' ∧ sZ M' zz ee (.branch a l' r') C ∧ tids (plug (.branch a l' r') C) = tids (plug (.branch a l r) ((s, p1, u1) :: (s, p2, u2) :: C)) := by
  obtain ⟨-, n2, n3, n4⟩ := zap2 hn
  obtain ⟨⟨⟨h1, h2⟩, hl, hr⟩, ⟨h3, h4⟩, hu1, ⟨h5, h6⟩, hu2, hC⟩ := h
  have out : ∀ b, b ∉ cL C → b ∉ cR C → parC C ≠ some b := fun b e1 e2 e => (parC_mem e).elim e1 e2
  have ok : ∀ t : Tr, (∀ x ∈ tids t, x ∈ tids l ∨ x ∈ tids r ∨ x ∈ tids u1 ∨ x ∈ tids u2) → sT M zz ee t → sT M' zz ee t := fun t ht h => sT_cg t h (fun b hb hM => by
    obtain ⟨e1, e2, e3, e4, e5⟩ := n2 b (ht b hb)
    obtain ⟨-, x9, y9, h9⟩ := sT_at t h b hb
    exact ⟨hsub b hM, ho b e1 e2 e3 (out b e4 e5) hM ⟨_, h9⟩, rfl, rfl⟩)
  have kl := ok l (fun x h => Or.inl h) hl
  have kr := ok r (fun x h => Or.inr (Or.inl h)) hr
  have k1 := ok u1 (fun x h => Or.inr (Or.inr (Or.inl h))) hu1
  have k2 := ok u2 (fun x h => Or.inr (Or.inr (Or.inr h))) hu2
  have hC' : sC M' zz ee (some a) C := by
    refine sC_re hC n4 hsub hh (fun b hb hp => ?_)
    obtain ⟨hM, x9, y9, h9⟩ := sC_in hC b hb
    · refine ho b ?_ ?_ ?_ hp hM ⟨_, h9⟩
      · rintro rfl; rcases hb with hb | hb
        · exact n3.1 hb
        · exact n3.2.1 hb
      · rintro rfl; rcases hb with hb | hb
        · exact n3.2.2.1 hb
        · exact n3.2.2.2.1 hb
      · rintro rfl; rcases hb with hb | hb
        · exact n3.2.2.2.2.1 hb
        · exact n3.2.2.2.2.2 hb
  refine ⟨(rtn s l r p1 (nd s p2 u1 u2)).1, (rtn s l r p1 (nd s p2 u1 u2)).2, by rw [spl, if_pos rfl], ⟨?_, hC'⟩, ?_⟩
  · cases s
    · exact ⟨⟨hsub a h1, ha⟩, kl, ⟨hsub p1 h3, hp1⟩, kr, ⟨hsub p2 h5, hp2⟩, k1, k2⟩
    · exact ⟨⟨hsub a h1, ha⟩, ⟨⟨hsub p1 h3, hp1⟩, ⟨⟨hsub p2 h5, hp2⟩, k2, k1⟩, kl⟩, kr⟩
  · show _ = tids (plug (nd s p2 (nd s p1 (.branch a l r) u1) u2) C)
    apply tids_plug_eq
    cases s <;> simp [rtn, nd, tids]
/-- two turnings on different sides -/
theorem sim3 {a p1 p2 : Nat} {l r u1 u2 : Tr} {s : Bool} {C : Cx} (h : sZ M zz ee (.branch a l r) ((s, p1, u1) :: (!s, p2, u2) :: C)) (hn : (tids (plug (.branch a l r) ((s, p1, u1) :: (!s, p2, u2) :: C))).Nodup) (hsub : ∀ b, b ∈ M.1 → b ∈ M'.1)
    (ha : M'.2 a = aC zz ee a (bif s then some p1 else some p2) (bif s then some p2 else some p1)) (hp1 : M'.2 p1 = aC zz ee p1 (bif s then rt u1 else rt r) (bif s then rt l else rt u1)) (hp2 : M'.2 p2 = aC zz ee p2 (bif s then rt r else rt u2) (bif s then rt u2 else rt l))
    (hh : ∀ s3 p3 u3 C', C = (s3, p3, u3) :: C' → M'.2 p3 = aC zz ee p3 (bif s3 then rt u3 else some a) (bif s3 then some a else rt u3)) (ho : ∀ b, b ≠ a → b ≠ p1 → b ≠ p2 → parC C ≠ some b → b ∈ M.1 → (∃ x, M.2 b = .inr (3, x)) → M'.2 b = M.2 b) :
    ∃ l' r', spl a ((s, p1, u1) :: (!s, p2, u2) :: C) l r = spl a C l' r' ∧ sZ M' zz ee (.branch a l' r') C ∧ tids (plug (.branch a l' r') C) = tids (plug (.branch a l r) ((s, p1, u1) :: (!s, p2, u2) :: C)) := by
  obtain ⟨-, n2, n3, n4⟩ := zap2 hn
  obtain ⟨⟨⟨h1, h2⟩, hl, hr⟩, ⟨h3, h4⟩, hu1, ⟨h5, h6⟩, hu2, hC⟩ := h
  have out : ∀ b, b ∉ cL C → b ∉ cR C → parC C ≠ some b := fun b e1 e2 e => (parC_mem e).elim e1 e2
  have ok : ∀ t : Tr, (∀ x ∈ tids t, x ∈ tids l ∨ x ∈ tids r ∨ x ∈ tids u1 ∨ x ∈ tids u2) → sT M zz ee t → sT M' zz ee t := fun t ht h => sT_cg t h (fun b hb hM => by
    obtain ⟨e1, e2, e3, e4, e5⟩ := n2 b (ht b hb)
    obtain ⟨-, x9, y9, h9⟩ := sT_at t h b hb
    exact ⟨hsub b hM, ho b e1 e2 e3 (out b e4 e5) hM ⟨_, h9⟩, rfl, rfl⟩)
  have kl := ok l (fun x h => Or.inl h) hl
  have kr := ok r (fun x h => Or.inr (Or.inl h)) hr
  have k1 := ok u1 (fun x h => Or.inr (Or.inr (Or.inl h))) hu1
  have k2 := ok u2 (fun x h => Or.inr (Or.inr (Or.inr h))) hu2
  have hC' : sC M' zz ee (some a) C := by
    refine sC_re hC n4 hsub hh (fun b hb hp => ?_)
    obtain ⟨hM, x9, y9, h9⟩ := sC_in hC b hb
    · refine ho b ?_ ?_ ?_ hp hM ⟨_, h9⟩
      · rintro rfl; rcases hb with hb | hb
        · exact n3.1 hb
        · exact n3.2.1 hb
      · rintro rfl; rcases hb with hb | hb
        · exact n3.2.2.1 hb
        · exact n3.2.2.2.1 hb
      · rintro rfl; rcases hb with hb | hb
        · exact n3.2.2.2.2.1 hb
        · exact n3.2.2.2.2.2 hb
  refine ⟨(rtn (!s) (rtn s l r p1 u1).1 (rtn s l r p1 u1).2 p2 u2).1, (rtn (!s) (rtn s l r p1 u1).1 (rtn s l r p1 u1).2 p2 u2).2, by rw [spl, if_neg (by cases s <;> decide)], ⟨?_, hC'⟩, ?_⟩
  · cases s
    · exact ⟨⟨hsub a h1, ha⟩, ⟨⟨hsub p2 h5, hp2⟩, k2, kl⟩, ⟨hsub p1 h3, hp1⟩, kr, k1⟩
    · exact ⟨⟨hsub a h1, ha⟩, ⟨⟨hsub p1 h3, hp1⟩, k1, kl⟩, ⟨hsub p2 h5, hp2⟩, kr, k2⟩
  · show _ = tids (plug (nd (!s) p2 (nd s p1 (.branch a l r) u1) u2) C)
    apply tids_plug_eq
    cases s <;> simp [rtn, nd, tids]
end SimT
