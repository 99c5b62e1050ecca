/-! PURE: trees under a change of numbers, searching, planting, the order of sizes -/
def mp (φ : Nat → Nat) : Tr → Tr
  | .leaf u => .leaf u
  | .branch k l r => .branch (φ k) (mp φ l) (mp φ r)
def mpC (φ : Nat → Nat) (C : Cx) : Cx := C.map (fun f => (f.1, φ f.2.1, mp φ f.2.2))
def mpZ (φ : Nat → Nat) (z : Zi) : Zi := (φ z.1, mp φ z.2.1, mp φ z.2.2.1, mpC φ z.2.2.2)
theorem mp_tids (φ : Nat → Nat) : ∀ t : Tr, tids (mp φ t) = (tids t).map φ := by
  intro t
  induction t with
  | leaf u => rfl
  | branch k l r ihl ihr => simp [mp, tids, ihl, ihr]
theorem mp_rt (φ : Nat → Nat) (t : Tr) : rt (mp φ t) = (rt t).map φ := by cases t <;> rfl
theorem mp_isE (φ : Nat → Nat) (t : Tr) : isE (mp φ t) = isE t := by cases t <;> rfl
theorem mp_nd (φ : Nat → Nat) (s : Bool) (p : Nat) (t u : Tr) : mp φ (nd s p t u) = nd s (φ p) (mp φ t) (mp φ u) := by cases s <;> rfl
theorem mp_plug (φ : Nat → Nat) : ∀ (C : Cx) (t : Tr), mp φ (plug t C) = plug (mp φ t) (mpC φ C) := by
  intro C
  induction C with
  | nil => intro t; rfl
  | cons f C ih =>
    intro t
    obtain ⟨s, p, u⟩ := f
    show mp φ (plug (nd s p t u) C) = plug (nd s (φ p) (mp φ t) (mp φ u)) (mpC φ C)
    rw [ih, mp_nd]
theorem mp_zs (φ : Nat → Nat) : ∀ (t : Tr) (C : Cx), zs (mp φ t) (mpC φ C) = (zs t C).map (mpZ φ) := by
  intro t
  induction t with
  | leaf u => intro C; rfl
  | branch k l r ihl ihr =>
    intro C
    have h1 := ihl ((false, k, r) :: C)
    have h2 := ihr ((true, k, l) :: C)
    simp only [mp, zs, List.map_append, List.map_cons]
    rw [← h1, ← h2]
    rfl
theorem mp_dsm (φ : Nat → Nat) : ∀ (t : Tr) (h : Nat), dsm (mp φ t) h = dsm t h := by
  intro t
  induction t with
  | leaf u => intro h; rfl
  | branch k l r ihl ihr => intro h; simp [mp, dsm, ihl, ihr]
theorem mp_hgt (φ : Nat → Nat) : ∀ t : Tr, hgt (mp φ t) = hgt t := by
  intro t
  induction t with
  | leaf u => rfl
  | branch k l r ihl ihr => simp [mp, hgt, ihl, ihr]
theorem mp_lvs (φ : Nat → Nat) : ∀ t : Tr, lvs (mp φ t) = lvs t := by
  intro t
  induction t with
  | leaf u => rfl
  | branch k l r ihl ihr => simp [mp, lvs, ihl, ihr, mp_isE]
theorem mpC_length (φ : Nat → Nat) (C : Cx) : (mpC φ C).length = C.length := by simp [mpC]
theorem mpC_parC (φ : Nat → Nat) (C : Cx) : parC (mpC φ C) = (parC C).map φ := by cases C <;> rfl
theorem mp_rtn (φ : Nat → Nat) (s : Bool) (l r : Tr) (p : Nat) (u : Tr) : rtn s (mp φ l) (mp φ r) (φ p) (mp φ u) = (mp φ (rtn s l r p u).1, mp φ (rtn s l r p u).2) := by cases s <;> rfl
theorem mp_spl (φ : Nat → Nat) (k : Nat) : ∀ (n : Nat) (C : Cx) (l r : Tr), C.length ≤ n → mp φ (spl k C l r) = spl (φ k) (mpC φ C) (mp φ l) (mp φ r) := by
  intro n
  induction n with
  | zero =>
    intro C l r hl
    have : C = [] := List.length_eq_zero_iff.mp (by omega)
    subst this
    rfl
  | succ n ih =>
    intro C l r hl
    match C, hl with
    | [], _ => rfl
    | [(s, p, u)], _ =>
      show Lean.RArray.branch (φ k) (mp φ (rtn s l r p u).1) (mp φ (rtn s l r p u).2) = .branch (φ k) (rtn s (mp φ l) (mp φ r) (φ p) (mp φ u)).1 (rtn s (mp φ l) (mp φ r) (φ p) (mp φ u)).2
      rw [mp_rtn]
    | (s1, p1, u1) :: (s2, p2, u2) :: C, hl =>
      have hl2 : C.length ≤ n := by simp only [List.length_cons] at hl; omega
      show mp φ (spl k ((s1, p1, u1) :: (s2, p2, u2) :: C) l r) = spl (φ k) ((s1, φ p1, mp φ u1) :: (s2, φ p2, mp φ u2) :: mpC φ C) (mp φ l) (mp φ r)
      unfold spl
      by_cases hs : s1 = s2
      · rw [if_pos hs, if_pos hs, ih C _ _ hl2, ← mp_nd, mp_rtn]
      · rw [if_neg hs, if_neg hs, ih C _ _ hl2, mp_rtn, mp_rtn]
theorem mp_congr {φ ψ : Nat → Nat} : ∀ t : Tr, (∀ a ∈ tids t, φ a = ψ a) → mp φ t = mp ψ t := by
  intro t
  induction t with
  | leaf u => intro _; rfl
  | branch k l r ihl ihr =>
    intro h
    simp only [mp]
    rw [h k (by simp [tids]), ihl (fun a ha => h a (by simp [tids, ha])), ihr (fun a ha => h a (by simp [tids, ha]))]
/-- searching -/
def fnd (sz : Nat → Nat) (z : Int) : Tr → Option Nat
  | .leaf _ => none
  | .branch k l r => if z = (sz k : Int) then some k else if z < (sz k : Int) then fnd sz z l else fnd sz z r
def srt (sz : Nat → Nat) (t : Tr) : Prop := (tids t).Pairwise (fun a b => sz a < sz b)
theorem fnd_mem {sz : Nat → Nat} {z : Int} : ∀ (t : Tr) (a : Nat), fnd sz z t = some a → a ∈ tids t ∧ z = (sz a : Int) := by
  intro t
  induction t with
  | leaf u => intro a h; cases h
  | branch k l r ihl ihr =>
    intro a h
    unfold fnd at h
    split at h
    · cases h
      exact ⟨by simp [tids], by assumption⟩
    · split at h
      · have := ihl a h
        exact ⟨by simp [tids, this.1], this.2⟩
      · have := ihr a h
        exact ⟨by simp [tids, this.1], this.2⟩
theorem srt_l {sz : Nat → Nat} {k : Nat} {l r : Tr} (h : srt sz (.branch k l r)) : srt sz l ∧ srt sz r ∧ (∀ a ∈ tids l, sz a < sz k) ∧ (∀ a ∈ tids r, sz k < sz a) := by
  unfold srt at h ⊢
  rw [tids_branch, List.pairwise_append] at h
  obtain ⟨h1, h2, h3⟩ := h
  obtain ⟨h4, h5⟩ := List.pairwise_cons.mp h2
  exact ⟨h1, h5, fun a ha => h3 a ha k (by simp), h4⟩
theorem fnd_of {sz : Nat → Nat} {z : Int} : ∀ (t : Tr) (a : Nat), srt sz t → a ∈ tids t → z = (sz a : Int) → fnd sz z t = some a := by
  intro t
  induction t with
  | leaf u => intro a _ h; cases h
  | branch k l r ihl ihr =>
    intro a hs ha hz
    obtain ⟨h1, h2, h3, h4⟩ := srt_l hs
    unfold fnd
    rw [tids_branch] at ha
    rcases List.mem_append.mp ha with h | h
    · have := h3 a h
      rw [if_neg (by omega), if_pos (by omega)]
      exact ihl a h1 h hz
    · rcases List.mem_cons.mp h with h | h
      · subst h
        rw [if_pos hz]
      · have := h4 a h
        rw [if_neg (by omega), if_neg (by omega)]
        exact ihr a h2 h hz
theorem fnd_mp {sz sz' : Nat → Nat} {z : Int} {φ : Nat → Nat} : ∀ t : Tr, (∀ a ∈ tids t, sz' (φ a) = sz a) → fnd sz' z (mp φ t) = (fnd sz z t).map φ := by
  intro t
  induction t with
  | leaf u => intro _; rfl
  | branch k l r ihl ihr =>
    intro h
    have hk := h k (by simp [tids])
    have e1 := ihl (fun a ha => h a (by simp [tids, ha]))
    have e2 := ihr (fun a ha => h a (by simp [tids, ha]))
    simp only [mp, fnd, hk]
    split
    · rfl
    · split
      · exact e1
      · exact e2
/-- the way to where a size belongs -/
def inc (sz : Nat → Nat) (z : Int) : Tr → Cx → Cx
  | .leaf _, C => C
  | .branch k l r, C => if z < (sz k : Int) then inc sz z l ((false, k, r) :: C) else inc sz z r ((true, k, l) :: C)
theorem plug_inc {sz : Nat → Nat} {z : Int} : ∀ (t : Tr) (C : Cx), plug (.leaf ()) (inc sz z t C) = plug t C := by
  intro t
  induction t with
  | leaf u => intro C; rfl
  | branch k l r ihl ihr =>
    intro C
    unfold inc
    split
    · rw [ihl]; rfl
    · rw [ihr]; rfl
theorem inc_mp {sz sz' : Nat → Nat} {z : Int} {φ : Nat → Nat} : ∀ (t : Tr) (C : Cx), (∀ a ∈ tids t, sz' (φ a) = sz a) → inc sz' z (mp φ t) (mpC φ C) = mpC φ (inc sz z t C) := by
  intro t
  induction t with
  | leaf u => intro C _; rfl
  | branch k l r ihl ihr =>
    intro C h
    have hk := h k (by simp [tids])
    simp only [mp, inc, hk]
    split
    · exact ihl ((false, k, r) :: C) (fun a ha => h a (by simp [tids, ha]))
    · exact ihr ((true, k, l) :: C) (fun a ha => h a (by simp [tids, ha]))
/-- planting keeps the order -/
theorem inc_lr {sz : Nat → Nat} {z : Int} : ∀ (t : Tr) (C : Cx), srt sz t → fnd sz z t = none → (∀ a ∈ cL C, (sz a : Int) < z) → (∀ a ∈ cR C, z < (sz a : Int)) → (∀ a ∈ cL (inc sz z t C), (sz a : Int) < z) ∧ (∀ a ∈ cR (inc sz z t C), z < (sz a : Int)) := by
  intro t
  induction t with
  | leaf u => intro C _ _ h1 h2; exact ⟨h1, h2⟩
  | branch k l r ihl ihr =>
    intro C hs hf h1 h2
    obtain ⟨s1, s2, s3, s4⟩ := srt_l hs
    unfold fnd at hf
    split at hf
    · cases hf
    · rename_i hne
      unfold inc
      split at hf
      · rename_i hlt
        rw [if_pos hlt]
        refine ihl _ s1 hf (fun a ha => h1 a (by simpa [cL] using ha)) (fun a ha => ?_)
        simp only [cR, cond_false, List.cons_append, List.mem_cons, List.mem_append] at ha
        rcases ha with ha | ha | ha
        · subst ha; exact hlt
        · have := s4 a ha; omega
        · exact h2 a ha
      · rename_i hlt
        rw [if_neg hlt]
        refine ihr _ s2 hf (fun a ha => ?_) (fun a ha => h2 a (by simpa [cR] using ha))
        simp only [cL, cond_true, List.mem_append, List.mem_cons, List.not_mem_nil, or_false] at ha
        rcases ha with ha | ha | ha
        · exact h1 a ha
        · have := s3 a ha; omega
        · subst ha; omega
/-- those smaller than a size -/
def blw (sz : Nat → Nat) (z : Int) (t : Tr) : List Nat := (tids t).takeWhile (fun a => decide ((sz a : Int) < z))
theorem tw_all {p : Nat → Bool} : ∀ {l : List Nat} (r : List Nat), (∀ a ∈ l, p a = true) → (l ++ r).takeWhile p = l ++ r.takeWhile p := by
  intro l
  induction l with
  | nil => intros; rfl
  | cons a l ih =>
    intro r h
    rw [List.cons_append, List.takeWhile_cons, if_pos (h a (by simp)), ih r (fun b hb => h b (by simp [hb]))]
    rfl
theorem tw_stop {p : Nat → Bool} {k : Nat} (hk : p k = false) : ∀ {l : List Nat} (r : List Nat), (l ++ k :: r).takeWhile p = l.takeWhile p := by
  intro l
  induction l with
  | nil => intro r; simp [hk]
  | cons a l ih =>
    intro r
    rw [List.cons_append, List.takeWhile_cons, List.takeWhile_cons]
    split
    · rw [ih]
    · rfl
theorem blw_branch {sz : Nat → Nat} {z : Int} {k : Nat} {l r : Tr} (h : srt sz (.branch k l r)) : blw sz z (.branch k l r) = if (sz k : Int) < z then tids l ++ k :: blw sz z r else blw sz z l := by
  obtain ⟨s1, s2, s3, s4⟩ := srt_l h
  unfold blw
  rw [tids_branch]
  split
  · rename_i hk
    rw [tw_all _ (fun a ha => by have := s3 a ha; simp; omega), List.takeWhile_cons, if_pos (by simpa using hk)]
  · rename_i hk
    exact tw_stop (by simpa using hk) _
/-- where two meet -/
def lca : Tr → Nat → Nat → Nat
  | .leaf _, a, _ => a
  | .branch k l r, a, b => if a ∈ tids l ∧ b ∈ tids l then lca l a b else if a ∈ tids r ∧ b ∈ tids r then lca r a b else k
def dp : Tr → Nat → Nat
  | .leaf _, _ => 0
  | .branch k l r, a => if a = k then 0 else if a ∈ tids l then dp l a + 1 else dp r a + 1
def pa : Tr → Option Nat → Nat → Option Nat
  | .leaf _, par, _ => par
  | .branch k l r, par, a => if a = k then par else if a ∈ tids l then pa l (some k) a else pa r (some k) a
theorem zs_dp : ∀ (t : Tr) (C : Cx), (tids t).Nodup → ∀ z ∈ zs t C, z.2.2.2.length = C.length + dp t z.1 ∧ parC z.2.2.2 = pa t (parC C) z.1 := by
  intro t
  induction t with
  | leaf u => intro C _ z h; cases h
  | branch k l r ihl ihr =>
    intro C hn z h
    rw [tids_branch] at hn
    obtain ⟨nl, nkr, hd⟩ := List.nodup_append.mp hn
    obtain ⟨nk, nr⟩ := List.nodup_cons.mp nkr
    have hl : ∀ (C : Cx) (z : Zi), z ∈ zs l C → z.1 ∈ tids l := fun C z hz => by rw [← zs_ids l C]; exact List.mem_map.mpr ⟨z, hz, rfl⟩
    have hr : ∀ (C : Cx) (z : Zi), z ∈ zs r C → z.1 ∈ tids r := fun C z hz => by rw [← zs_ids r C]; exact List.mem_map.mpr ⟨z, hz, rfl⟩
    rcases List.mem_append.mp h with h | h
    · have h1 := ihl _ nl z h
      have h2 := hl _ z h
      have h3 : z.1 ≠ k := fun e => hd z.1 h2 k (by simp) e
      unfold dp pa
      rw [if_neg h3, if_pos h2, if_neg h3, if_pos h2]
      exact ⟨by rw [h1.1, List.length_cons]; omega, h1.2⟩
    · rcases List.mem_cons.mp h with h | h
      · subst h
        unfold dp pa
        rw [if_pos rfl, if_pos rfl]
        exact ⟨rfl, rfl⟩
      · have h1 := ihr _ nr z h
        have h2 := hr _ z h
        have h3 : z.1 ≠ k := fun e => nk (by rw [← e]; exact h2)
        have h4 : z.1 ∉ tids l := fun e => hd z.1 e z.1 (by simp [h2]) rfl
        unfold dp pa
        rw [if_neg h3, if_neg h4, if_neg h3, if_neg h4]
        exact ⟨by rw [h1.1, List.length_cons]; omega, h1.2⟩
theorem pa_in : ∀ (t : Tr) (par : Option Nat) (a : Nat), (tids t).Nodup → a ∈ tids t → (dp t a = 0 ∧ pa t par a = par) ∨ ∃ p, pa t par a = some p ∧ p ∈ tids t ∧ dp t a = dp t p + 1 := by
  intro t
  induction t with
  | leaf u => intro _ a _ h; cases h
  | branch k l r ihl ihr =>
    intro par a hn ha
    rw [tids_branch] at hn ha
    obtain ⟨nl, nkr, hd⟩ := List.nodup_append.mp hn
    obtain ⟨nk, nr⟩ := List.nodup_cons.mp nkr
    by_cases hak : a = k
    · left
      unfold dp pa
      rw [if_pos hak, if_pos hak]
      exact ⟨rfl, rfl⟩
    · right
      by_cases hal : a ∈ tids l
      · have hdp : dp (.branch k l r) a = dp l a + 1 := by rw [dp, if_neg hak, if_pos hal]
        have hpa : pa (.branch k l r) par a = pa l (some k) a := by rw [pa, if_neg hak, if_pos hal]
        rcases ihl (some k) a nl hal with ⟨h1, h2⟩ | ⟨p, h1, h2, h3⟩
        · refine ⟨k, by rw [hpa, h2], by simp [tids], ?_⟩
          rw [hdp, h1, dp, if_pos rfl]
        · refine ⟨p, by rw [hpa, h1], by simp [tids, h2], ?_⟩
          have hpk : p ≠ k := fun e => hd p h2 k (by simp) e
          rw [hdp, h3, dp, if_neg hpk, if_pos h2]
      · have har : a ∈ tids r := by
          rcases List.mem_append.mp ha with h | h
          · exact absurd h hal
          · rcases List.mem_cons.mp h with h | h
            · exact absurd h hak
            · exact h
        have hdp : dp (.branch k l r) a = dp r a + 1 := by rw [dp, if_neg hak, if_neg hal]
        have hpa : pa (.branch k l r) par a = pa r (some k) a := by rw [pa, if_neg hak, if_neg hal]
        rcases ihr (some k) a nr har with ⟨h1, h2⟩ | ⟨p, h1, h2, h3⟩
        · refine ⟨k, by rw [hpa, h2], by simp [tids], ?_⟩
          rw [hdp, h1, dp, if_pos rfl]
        · refine ⟨p, by rw [hpa, h1], by simp [tids, h2], ?_⟩
          have hpk : p ≠ k := fun e => nk (by rw [← e]; exact h2)
          have hpl : p ∉ tids l := fun e => hd p e p (by simp [h2]) rfl
          rw [hdp, h3, dp, if_neg hpk, if_neg hpl]
theorem lca_step : ∀ (t : Tr) (par : Option Nat) (a b : Nat), (tids t).Nodup → a ∈ tids t → b ∈ tids t → a ≠ b → dp t b ≤ dp t a → ∃ p, pa t par a = some p ∧ p ∈ tids t ∧ lca t p b = lca t a b ∧ lca t b p = lca t b a ∧ dp t a = dp t p + 1 := by
  intro t
  induction t with
  | leaf u => intro _ a b _ h; cases h
  | branch k l r ihl ihr =>
    intro par a b hn ha hb hab hd'
    have hn0 := hn
    have ha0 := ha
    rw [tids_branch] at hn ha hb
    obtain ⟨nl, nkr, hd⟩ := List.nodup_append.mp hn
    obtain ⟨nk, nr⟩ := List.nodup_cons.mp nkr
    have hkl : k ∉ tids l := fun h => hd k h k (by simp) rfl
    have hrl : ∀ x, x ∈ tids r → x ∉ tids l := fun x h h' => hd x h' x (by simp [h]) rfl
    have key := pa_in (.branch k l r) par a hn0 ha0
    have hak : a ≠ k := by
      intro e
      have h0 : dp (.branch k l r) a = 0 := by rw [dp, if_pos e]
      rw [h0] at hd'
      have hb' : b ≠ k := fun e2 => hab (e.trans e2.symm)
      have : dp (.branch k l r) b ≠ 0 := by
        rw [dp, if_neg hb']
        split <;> omega
      omega
    rcases key with ⟨h1, h2⟩ | ⟨p, h1, h2, h3⟩
    · exfalso
      have : dp (.branch k l r) a ≠ 0 := by
        rw [dp, if_neg hak]
        split <;> omega
      omega
    · refine ⟨p, h1, h2, ?_, ?_, h3⟩
      all_goals
        by_cases hal : a ∈ tids l
        · have hpa : pa (.branch k l r) par a = pa l (some k) a := by rw [pa, if_neg hak, if_pos hal]
          have har : a ∉ tids r := fun h => hrl a h hal
          rcases pa_in l (some k) a nl hal with ⟨g1, g2⟩ | ⟨p', g1, g2, g3⟩
          · have hpk : p = k := by rw [hpa, g2] at h1; exact (Option.some.inj h1).symm
            subst hpk
            have hbl : b ∉ tids l := by
              intro hbl
              have hbk : b ≠ p := fun e => hkl (by rw [← e]; exact hbl)
              rw [dp, dp, if_neg hbk, if_pos hbl, if_neg hak, if_pos hal, g1] at hd'
              rcases pa_in l (some p) b nl hbl with ⟨q1, q2⟩ | ⟨p2, q1, q2, q3⟩
              · obtain ⟨l1, l2, C1, m1⟩ := zs_mem (C := []) hal
                obtain ⟨l3, l4, C2, m2⟩ := zs_mem (C := []) hbl
                have e1 := (zs_dp l [] nl _ m1).1
                have e2 := (zs_dp l [] nl _ m2).1
                rw [g1] at e1
                rw [q1] at e2
                have e3 : C1 = [] := List.length_eq_zero_iff.mp e1
                have e4 : C2 = [] := List.length_eq_zero_iff.mp e2
                subst e3; subst e4
                have p1 := zs_plug l [] _ m1
                have p2 := zs_plug l [] _ m2
                dsimp only [plug] at p1 p2
                rw [← p2] at p1
                injection p1 with p1
                exact hab p1
              · omega
            simp [lca, hal, har, hbl, hkl, nk]
          · have hpp : p' = p := by rw [hpa, g1] at h1; exact Option.some.inj h1
            subst hpp
            have hpr : p' ∉ tids r := fun h => hrl p' h g2
            by_cases hbl : b ∈ tids l
            · have hbk : b ≠ k := fun e => hkl (by rw [← e]; exact hbl)
              have hdl : dp l b ≤ dp l a := by rw [dp, dp, if_neg hbk, if_pos hbl, if_neg hak, if_pos hal] at hd'; omega
              obtain ⟨p2, q1, q2, q3, q4, q5⟩ := ihl (some k) a b nl hal hbl hab hdl
              have : p2 = p' := by rw [g1] at q1; exact (Option.some.inj q1).symm
              subst this
              simp [lca, hal, hbl, g2, q3, q4]
            · simp [lca, hal, hbl, g2, har, hpr]
        · have har : a ∈ tids r := by
            rcases List.mem_append.mp ha with h | h
            · exact absurd h hal
            · rcases List.mem_cons.mp h with h | h
              · exact absurd h hak
              · exact h
          have hpa : pa (.branch k l r) par a = pa r (some k) a := by rw [pa, if_neg hak, if_neg hal]
          rcases pa_in r (some k) a nr har with ⟨g1, g2⟩ | ⟨p', g1, g2, g3⟩
          · have hpk : p = k := by rw [hpa, g2] at h1; exact (Option.some.inj h1).symm
            subst hpk
            have hbr : b ∉ tids r := by
              intro hbr
              have hbk : b ≠ p := fun e => nk (by rw [← e]; exact hbr)
              have hbl : b ∉ tids l := hrl b hbr
              rw [dp, dp, if_neg hbk, if_neg hbl, if_neg hak, if_neg hal, g1] at hd'
              rcases pa_in r (some p) b nr hbr with ⟨q1, q2⟩ | ⟨p2, q1, q2, q3⟩
              · obtain ⟨l1, l2, C1, m1⟩ := zs_mem (C := []) har
                obtain ⟨l3, l4, C2, m2⟩ := zs_mem (C := []) hbr
                have e1 := (zs_dp r [] nr _ m1).1
                have e2 := (zs_dp r [] nr _ m2).1
                rw [g1] at e1
                rw [q1] at e2
                have e3 : C1 = [] := List.length_eq_zero_iff.mp e1
                have e4 : C2 = [] := List.length_eq_zero_iff.mp e2
                subst e3; subst e4
                have p1 := zs_plug r [] _ m1
                have p2 := zs_plug r [] _ m2
                dsimp only [plug] at p1 p2
                rw [← p2] at p1
                injection p1 with p1
                exact hab p1
              · omega
            simp [lca, hal, hbr, hkl, nk]
          · have hpp : p' = p := by rw [hpa, g1] at h1; exact Option.some.inj h1
            subst hpp
            have hpl : p' ∉ tids l := hrl p' g2
            by_cases hbr : b ∈ tids r
            · have hbk : b ≠ k := fun e => nk (by rw [← e]; exact hbr)
              have hbl : b ∉ tids l := hrl b hbr
              have hdl : dp r b ≤ dp r a := by rw [dp, dp, if_neg hbk, if_neg hbl, if_neg hak, if_neg hal] at hd'; omega
              obtain ⟨p2, q1, q2, q3, q4, q5⟩ := ihr (some k) a b nr har hbr hab hdl
              have : p2 = p' := by rw [g1] at q1; exact (Option.some.inj q1).symm
              subst this
              simp [lca, hal, hbl, hbr, har, hpl, g2, q3, q4]
            · simp [lca, hal, hbr, hpl]
