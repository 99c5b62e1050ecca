/-! PURE: trees of numbers (the library's RArray with no leaves' words: a branch is a node), their places, the turning of a node, and pointers that stand for a tree -/
abbrev Tr : Type := _root_.Lean.RArray Unit
abbrev PF : Type := Nat → Nat → Option Nat
abbrev Cx : Type := List (Bool × Nat × Tr)
abbrev tE : Tr := .leaf ()
abbrev tN (k : Nat) (l r : Tr) : Tr := .branch k l r
def bt (s : Bool) : Nat := bif s then 1 else 0
theorem bt_f : bt false = 0 := rfl
theorem bt_t : bt true = 1 := rfl
def tids : Tr → List Nat
  | .leaf _ => []
  | .branch k l r => tids l ++ k :: tids r
def rt : Tr → Option Nat
  | .leaf _ => none
  | .branch k _ _ => some k
theorem tids_leaf (u : Unit) : tids (.leaf u) = [] := rfl
theorem tids_branch (k : Nat) (l r : Tr) : tids (.branch k l r) = tids l ++ k :: tids r := rfl
theorem rt_leaf (u : Unit) : rt (.leaf u) = none := rfl
theorem rt_branch (k : Nat) (l r : Tr) : rt (.branch k l r) = some k := rfl
theorem rt_mem {t : Tr} {k : Nat} (h : rt t = some k) : k ∈ tids t := by
  cases t with
  | leaf u => cases h
  | branch a l r =>
    cases h
    simp [tids]
theorem rt_none {t : Tr} (h : rt t = none) : t = .leaf () := by
  cases t with
  | leaf u => rfl
  | branch a l r => cases h
theorem rt_some {t : Tr} {k : Nat} (h : rt t = some k) : ∃ l r, t = .branch k l r := by
  cases t with
  | leaf u => cases h
  | branch a l r =>
    cases h
    exact ⟨l, r, rfl⟩
/-- one pointer set -/
def sP (P : PF) (k a : Nat) (v : Option Nat) : PF := fun j b => if j = k ∧ b = a then v else P j b
theorem sP_eq (P : PF) (k a : Nat) (v : Option Nat) : sP P k a v k a = v := by simp [sP]
theorem sP_ne {P : PF} {k a j b : Nat} {v : Option Nat} (h : ¬ (j = k ∧ b = a)) : sP P k a v j b = P j b := by simp only [sP, if_neg h]
theorem sP_nk {P : PF} {k a j b : Nat} {v : Option Nat} (h : j ≠ k) : sP P k a v j b = P j b := sP_ne (fun q => h q.1)
theorem sP_na {P : PF} {k a j b : Nat} {v : Option Nat} (h : b ≠ a) : sP P k a v j b = P j b := sP_ne (fun q => h q.2)
/-- pointers that stand for a tree: 0 left, 1 right, 2 above -/
def rep (P : PF) : Option Nat → Tr → Prop
  | _, .leaf _ => True
  | par, .branch k l r => P 2 k = par ∧ P 0 k = rt l ∧ P 1 k = rt r ∧ rep P (some k) l ∧ rep P (some k) r
theorem rep_re {P P' : PF} {par' : Option Nat} : ∀ (t : Tr) (par : Option Nat), rep P par t → (∀ x ∈ tids t, P' 0 x = P 0 x ∧ P' 1 x = P 1 x ∧ (rt t ≠ some x → P' 2 x = P 2 x) ∧ (rt t = some x → P' 2 x = par')) → (tids t).Nodup → rep P' par' t := by
  intro t
  induction t generalizing par' with
  | leaf u => intros; trivial
  | branch k l r ihl ihr =>
    intro par h hx hn
    obtain ⟨h2, h0, h1, hl, hr⟩ := h
    rw [tids_branch] at hn hx
    obtain ⟨nl, nkr, hd⟩ := List.nodup_append.mp hn
    obtain ⟨nk, nr⟩ := List.nodup_cons.mp nkr
    have hk := hx k (by simp)
    refine ⟨hk.2.2.2 rfl, by rw [hk.1, h0], by rw [hk.2.1, h1], ihl (some k) hl (fun x hxl => ?_) nl, ihr (some k) hr (fun x hxr => ?_) nr⟩
    · have q := hx x (by simp [hxl])
      have hne : k ≠ x := fun e => hd x hxl k (by simp) e.symm
      refine ⟨q.1, q.2.1, fun _ => q.2.2.1 (by simpa [rt] using hne), fun e => ?_⟩
      rw [q.2.2.1 (by simpa [rt] using hne)]
      obtain ⟨a, b, rfl⟩ := rt_some e
      exact hl.1
    · have q := hx x (by simp [hxr])
      have hne : k ≠ x := fun e => nk (by rw [e]; exact hxr)
      refine ⟨q.1, q.2.1, fun _ => q.2.2.1 (by simpa [rt] using hne), fun e => ?_⟩
      rw [q.2.2.1 (by simpa [rt] using hne)]
      obtain ⟨a, b, rfl⟩ := rt_some e
      exact hr.1
theorem rep_congr {P P' : PF} : ∀ (t : Tr) (par : Option Nat), rep P par t → (∀ x ∈ tids t, P' 0 x = P 0 x ∧ P' 1 x = P 1 x ∧ P' 2 x = P 2 x) → rep P' par t := by
  intro t
  induction t with
  | leaf u => intros; trivial
  | branch k l r ihl ihr =>
    intro par h hx
    obtain ⟨h2, h0, h1, hl, hr⟩ := h
    have hk := hx k (by simp [tids])
    exact ⟨by rw [hk.2.2, h2], by rw [hk.1, h0], by rw [hk.2.1, h1], ihl _ hl (fun x q => hx x (by simp [tids, q])), ihr _ hr (fun x q => hx x (by simp [tids, q]))⟩
/-- a node with one side in hand -/
def nd (s : Bool) (p : Nat) (t u : Tr) : Tr := bif s then .branch p u t else .branch p t u
def plug : Tr → Cx → Tr
  | t, [] => t
  | t, (s, p, u) :: C => plug (nd s p t u) C
def parC : Cx → Option Nat
  | [] => none
  | (_, p, _) :: _ => some p
def repC (P : PF) : Option Nat → Cx → Prop
  | _, [] => True
  | x, (s, p, u) :: C => P (bt s) p = x ∧ P (bt (!s)) p = rt u ∧ rep P (some p) u ∧ P 2 p = parC C ∧ repC P (some p) C
/-- a tree at a place -/
def Zp (P : PF) (t : Tr) (C : Cx) : Prop := rep P (parC C) t ∧ repC P (rt t) C
theorem rt_nd (s : Bool) (p : Nat) (t u : Tr) : rt (nd s p t u) = some p := by cases s <;> rfl
theorem tids_nd (s : Bool) (p : Nat) (t u : Tr) : tids (nd s p t u) = bif s then tids u ++ p :: tids t else tids t ++ p :: tids u := by cases s <;> rfl
theorem Zp_step {P : PF} {t u : Tr} {C : Cx} {s : Bool} {p : Nat} : Zp P t ((s, p, u) :: C) ↔ Zp P (nd s p t u) C := by
  cases s
  · constructor
    · rintro ⟨h1, h2, h3, h4, h5, h6⟩
      exact ⟨⟨h5, h2, h3, h1, h4⟩, h6⟩
    · rintro ⟨⟨h5, h2, h3, h1, h4⟩, h6⟩
      exact ⟨h1, h2, h3, h4, h5, h6⟩
  · constructor
    · rintro ⟨h1, h2, h3, h4, h5, h6⟩
      exact ⟨⟨h5, h3, h2, h4, h1⟩, h6⟩
    · rintro ⟨⟨h5, h3, h2, h4, h1⟩, h6⟩
      exact ⟨h1, h2, h3, h4, h5, h6⟩
theorem Zp_plug {P : PF} : ∀ (C : Cx) (t : Tr), Zp P t C ↔ rep P none (plug t C) := by
  intro C
  induction C with
  | nil => intro t; exact ⟨fun h => h.1, fun h => ⟨h, trivial⟩⟩
  | cons f C ih =>
    intro t
    obtain ⟨s, p, u⟩ := f
    exact Zp_step.trans (ih _)
def cL : Cx → List Nat
  | [] => []
  | (s, p, u) :: C => cL C ++ (bif s then tids u ++ [p] else [])
def cR : Cx → List Nat
  | [] => []
  | (s, p, u) :: C => (bif s then [] else p :: tids u) ++ cR C
theorem tids_plug : ∀ (C : Cx) (t : Tr), tids (plug t C) = cL C ++ tids t ++ cR C := by
  intro C
  induction C with
  | nil => intro t; simp [plug, cL, cR]
  | cons f C ih =>
    intro t
    obtain ⟨s, p, u⟩ := f
    rw [plug, ih, tids_nd]
    cases s <;> simp [cL, cR]
theorem repC_congr {P P' : PF} : ∀ (C : Cx) (x : Option Nat), repC P x C → (∀ y, y ∈ cL C ∨ y ∈ cR C → P' 0 y = P 0 y ∧ P' 1 y = P 1 y ∧ P' 2 y = P 2 y) → repC P' x C := by
  intro C
  induction C with
  | nil => intros; trivial
  | cons f C ih =>
    intro x h hx
    obtain ⟨s, p, u⟩ := f
    obtain ⟨h1, h2, h3, h4, h5⟩ := h
    have hp := hx p (by cases s <;> simp [cL, cR])
    refine ⟨?_, ?_, rep_congr u _ h3 (fun y q => hx y (by cases s <;> simp [cL, cR, q])), by rw [hp.2.2, h4], ih _ h5 (fun y q => hx y ?_)⟩
    · cases s
      · rw [bt_f] at h1 ⊢; rw [hp.1, h1]
      · rw [bt_t] at h1 ⊢; rw [hp.2.1, h1]
    · cases s
      · show P' 1 p = _; rw [hp.2.1]; exact h2
      · show P' 0 p = _; rw [hp.1]; exact h2
    · rcases q with q | q
      · exact Or.inl (by simp [cL, q])
      · exact Or.inr (by simp [cR, q])
/-- k, with what is below it, takes the place of p above it: its new sides -/
def rtn (s : Bool) (l r : Tr) (p : Nat) (u : Tr) : Tr × Tr := bif s then (.branch p u l, r) else (l, .branch p r u)
theorem tids_rtn (s : Bool) (k : Nat) (l r : Tr) (p : Nat) (u : Tr) : tids (.branch k (rtn s l r p u).1 (rtn s l r p u).2) = tids (nd s p (.branch k l r) u) := by
  cases s <;> simp [rtn, nd, tids]
def hng (P : PF) (k up : Option Nat) (s : Nat) : PF :=
  match k with
  | some c => sP (match up with | some u => sP P s u k | none => P) 2 c up
  | none => match up with | some u => sP P s u k | none => P
def sdd (P : PF) (k p : Nat) : Nat := if P 0 p = some k then 0 else 1
def trn (P : PF) (k : Nat) : PF := match P 2 k with
  | none => P
  | some p => match P 2 p with
    | none => sP (hng (hng P (P (1 - sdd P k p) k) (some p) (sdd P k p)) (some p) (some k) (1 - sdd P k p)) 2 k none
    | some q => sP (sP (hng (hng P (P (1 - sdd P k p) k) (some p) (sdd P k p)) (some p) (some k) (1 - sdd P k p)) 2 k (some q)) (sdd P p q) q (some k)
/-- bringing up -/
def spl (k : Nat) : Cx → Tr → Tr → Tr
  | [], l, r => .branch k l r
  | [(s, p, u)], l, r => .branch k (rtn s l r p u).1 (rtn s l r p u).2
  | (s1, p1, u1) :: (s2, p2, u2) :: C, l, r =>
    if s1 = s2 then spl k C (rtn s1 l r p1 (nd s1 p2 u1 u2)).1 (rtn s1 l r p1 (nd s1 p2 u1 u2)).2
    else spl k C (rtn s2 (rtn s1 l r p1 u1).1 (rtn s1 l r p1 u1).2 p2 u2).1 (rtn s2 (rtn s1 l r p1 u1).1 (rtn s1 l r p1 u1).2 p2 u2).2
theorem sdd_of {P : PF} {s : Bool} {p k : Nat} {u : Tr} {C : Cx} (h : repC P (some k) ((s, p, u) :: C)) (hk : k ∉ tids u) : sdd P k p = bt s := by
  obtain ⟨h1, h2, -⟩ := h
  cases s
  · show (if P 0 p = some k then 0 else 1) = 0
    rw [if_pos (by exact h1)]
  · show (if P 0 p = some k then 0 else 1) = 1
    have h2 : P 0 p = rt u := h2
    rw [if_neg (fun e => hk (rt_mem (by rw [← h2, e])))]
/-- what the turning writes, by places -/
def trv (P : PF) (k p : Nat) (s : Bool) (b : Option Nat) (g : Option Nat) (fs : Nat) (j x : Nat) : Option Nat :=
  if j = 2 ∧ x = k then g
  else if g = some x ∧ j = fs then some k
  else if j = 2 ∧ x = p then some k
  else if j = bt (!s) ∧ x = k then some p
  else if j = 2 ∧ b = some x then some p
  else if j = bt s ∧ x = p then b
  else P j x
theorem trn_at {P : PF} {k p : Nat} {s : Bool} (hp : P 2 k = some p) (hs : sdd P k p = bt s) (hkp : k ≠ p) (hg : ∀ q, P 2 p = some q → q ≠ k ∧ q ≠ p ∧ P (bt (!s)) k ≠ some q) (hb : P (bt (!s)) k ≠ some k ∧ P (bt (!s)) k ≠ some p) (j x : Nat) :
    trn P k j x = trv P k p s (P (bt (!s)) k) (P 2 p) (match P 2 p with | none => 0 | some q => sdd P p q) j x := by
  have e1 : 1 - sdd P k p = bt (!s) := by rw [hs]; cases s <;> rfl
  unfold trn
  rw [hp]
  dsimp only
  rw [e1, hs]
  cases hP : P 2 p with
  | none =>
    cases hB : P (bt (!s)) k with
    | none =>
      cases s <;> simp only [trv, hng, sP, bt, Bool.not_true, Bool.not_false, cond_true, cond_false] <;> grind (splits := 30)
    | some b =>
      rw [hB] at hb
      cases s <;> simp only [trv, hng, sP, bt, Bool.not_true, Bool.not_false, cond_true, cond_false] <;> grind (splits := 30)
  | some q =>
    have hq := hg q hP
    dsimp only
    have hsq : sdd P p q = 0 ∨ sdd P p q = 1 := by unfold sdd; split <;> simp
    generalize sdd P p q = f at hsq
    cases hB : P (bt (!s)) k with
    | none =>
      cases s <;> simp only [trv, hng, sP, bt, Bool.not_true, Bool.not_false, cond_true, cond_false] <;> grind (splits := 30)
    | some b =>
      rw [hB] at hb hq
      cases s <;> simp only [trv, hng, sP, bt, Bool.not_true, Bool.not_false, cond_true, cond_false] <;> grind (splits := 30)
theorem trn_apart {k p : Nat} {s : Bool} {l r u : Tr} {C : Cx} (hn : (tids (plug (.branch k l r) ((s, p, u) :: C))).Nodup) :
    (∀ x ∈ tids l, x ≠ k ∧ x ≠ p ∧ x ∉ tids r ∧ x ∉ tids u ∧ x ∉ cL C ∧ x ∉ cR C) ∧ (∀ x ∈ tids r, x ≠ k ∧ x ≠ p ∧ x ∉ tids u ∧ x ∉ cL C ∧ x ∉ cR C) ∧ (∀ x ∈ tids u, x ≠ k ∧ x ≠ p ∧ x ∉ cL C ∧ x ∉ cR C) ∧ k ≠ p ∧ k ∉ cL C ∧ k ∉ cR C ∧ p ∉ cL C ∧ p ∉ cR C ∧ (tids l).Nodup ∧ (tids r).Nodup ∧ (tids u).Nodup := by
  rw [tids_plug] at hn
  cases s <;> simp only [cL, cR, tids, cond_true, cond_false, List.append_nil, List.nil_append, List.nodup_append, List.nodup_cons, List.mem_append, List.mem_cons] at hn <;> (refine ⟨fun x hx => ⟨?_, ?_, ?_, ?_, ?_, ?_⟩, fun x hx => ⟨?_, ?_, ?_, ?_, ?_⟩, fun x hx => ⟨?_, ?_, ?_, ?_⟩, ?_, ?_, ?_, ?_, ?_, ?_, ?_, ?_⟩ <;> grind (splits := 30))
theorem trn_apart2 {q : Nat} {f : Bool × Nat × Tr} {s2 : Bool} {t u2 : Tr} {C2 : Cx} (hn : (tids (plug t (f :: (s2, q, u2) :: C2))).Nodup) : q ∉ tids u2 ∧ q ∉ cL C2 ∧ q ∉ cR C2 := by
  obtain ⟨s, p, u⟩ := f
  rw [plug, tids_plug] at hn
  generalize tids (nd s p t u) = N at hn
  cases s2 <;> simp only [cL, cR, cond_true, cond_false, List.append_nil, List.nil_append, List.nodup_append, List.nodup_cons, List.mem_append, List.mem_cons] at hn <;> (refine ⟨?_, ?_, ?_⟩ <;> grind (splits := 30))
theorem rt_in {t : Tr} {x : Nat} (h : rt t = some x) : x ∈ tids t := rt_mem h
theorem parC_mem {C : Cx} {q : Nat} (h : parC C = some q) : q ∈ cL C ∨ q ∈ cR C := by
  cases C with
  | nil => cases h
  | cons f C =>
    obtain ⟨s, p, u⟩ := f
    cases h
    cases s <;> simp [cL, cR]
theorem trn_zip {P : PF} {k p : Nat} {s : Bool} {l r u : Tr} {C : Cx} (h : Zp P (.branch k l r) ((s, p, u) :: C)) (hn : (tids (plug (.branch k l r) ((s, p, u) :: C))).Nodup) :
    Zp (trn P k) (.branch k (rtn s l r p u).1 (rtn s l r p u).2) C ∧ (∀ j x, x ∉ tids (plug (.branch k l r) ((s, p, u) :: C)) → trn P k j x = P j x) ∧ (∀ j x, 3 ≤ j → trn P k j x = P j x) := by
  obtain ⟨⟨hk2, hk0, hk1, hl, hr⟩, hC⟩ := h
  have hC0 := hC
  obtain ⟨c1, c2, c3, c4, c5⟩ := hC
  have hmem : ∀ x, x ∈ tids (plug (.branch k l r) ((s, p, u) :: C)) ↔ x ∈ cL C ∨ x ∈ cR C ∨ x ∈ tids u ∨ x = p ∨ x = k ∨ x ∈ tids l ∨ x ∈ tids r := by
    intro x
    rw [tids_plug]
    cases s <;> simp [cL, cR, tids] <;> grind
  obtain ⟨al, ar, au, akp, akL, akR, apL, apR, nl, nr, nu⟩ := trn_apart hn
  have hs : sdd P k p = bt s := sdd_of hC0 (fun q => (au k q).1 rfl)
  have hbv : P (bt (!s)) k = rt (bif s then l else r) := by cases s <;> assumption
  have hbm : ∀ x, P (bt (!s)) k = some x → x ∈ tids (bif s then l else r) := fun x e => rt_mem (by rw [← hbv, e])
  have hbl : ∀ x, P (bt (!s)) k = some x → x ≠ k ∧ x ≠ p ∧ x ∉ tids u ∧ x ∉ cL C ∧ x ∉ cR C := by
    intro x e
    have h1 := hbm x e
    cases s
    · exact ar x h1
    · have := al x h1
      exact ⟨this.1, this.2.1, this.2.2.2⟩
  have hgm : ∀ q, P 2 p = some q → q ∈ cL C ∨ q ∈ cR C := fun q e => parC_mem (by rw [← c4, e])
  have key := trn_at (P := P) (k := k) (p := p) (s := s) hk2 hs akp (fun q e => by
    have h1 := hgm q e
    refine ⟨?_, ?_, fun e2 => ?_⟩
    · rintro rfl; rcases h1 with h1 | h1 <;> contradiction
    · rintro rfl; rcases h1 with h1 | h1 <;> contradiction
    · have h2 := hbl q e2
      rcases h1 with h1 | h1
      · exact h2.2.2.2.1 h1
      · exact h2.2.2.2.2 h1) ⟨fun e => (hbl k e).1 rfl, fun e => (hbl p e).2.1 rfl⟩
  have hf : (match P 2 p with | none => 0 | some q => sdd P p q) = 0 ∨ (match P 2 p with | none => 0 | some q => sdd P p q) = 1 := by
    split
    · exact Or.inl rfl
    · unfold sdd; split <;> simp
  have hf2 : ∀ q, P 2 p = some q → ∀ s2 u2 C2, C = (s2, q, u2) :: C2 → (match P 2 p with | none => 0 | some q => sdd P p q) = bt s2 := by
    intro q e s2 u2 C2 hCe
    rw [e]
    subst hCe
    exact sdd_of c5 (fun q => by cases s2 <;> simp [cL, cR] at apL apR <;> grind)
  generalize (match P 2 p with | none => 0 | some q => sdd P p q) = fs at key hf hf2
  have hb01 : (bt s = 0 ∧ bt (!s) = 1) ∨ (bt s = 1 ∧ bt (!s) = 0) := by cases s <;> simp [bt]
  have gk : P 2 p ≠ some k := fun e => by rcases hgm k e with q | q <;> contradiction
  have gp : P 2 p ≠ some p := fun e => by rcases hgm p e with q | q <;> contradiction
  have bk : P (bt (!s)) k ≠ some k := fun e => (hbl k e).1 rfl
  have bp : P (bt (!s)) k ≠ some p := fun e => (hbl p e).2.1 rfl
  have E1 : trn P k 2 k = parC C := by rw [key, ← c4]; simp [trv]
  have E2 : trn P k (bt (!s)) k = some p := by rw [key]; unfold trv; grind
  have E3 : trn P k (bt s) k = P (bt s) k := by rw [key]; unfold trv; grind
  have E4 : trn P k 2 p = some k := by rw [key]; unfold trv; grind
  have E5 : trn P k (bt s) p = P (bt (!s)) k := by rw [key]; unfold trv; grind
  have E6 : trn P k (bt (!s)) p = P (bt (!s)) p := by rw [key]; unfold trv; grind
  have E7 : ∀ x, x ≠ k → x ≠ p → P 2 p ≠ some x → ∀ j, trn P k j x = if j = 2 ∧ P (bt (!s)) k = some x then some p else P j x := by
    intro x h1 h2 h3 j
    rw [key]; unfold trv; grind
  have E8 : ∀ q, P 2 p = some q → q ≠ k → q ≠ p → P (bt (!s)) k ≠ some q → ∀ j, trn P k j q = if j = fs then some k else P j q := by
    intro q h1 h2 h3 h4 j
    rw [key]; unfold trv; grind
  have E9 : ∀ x, x ∈ tids l ∨ x ∈ tids r ∨ x ∈ tids u → x ≠ k ∧ x ≠ p ∧ P 2 p ≠ some x := by
    intro x hx
    rcases hx with hx | hx | hx
    · have := al x hx
      exact ⟨this.1, this.2.1, fun e => by rcases hgm x e with q | q; exact this.2.2.2.2.1 q; exact this.2.2.2.2.2 q⟩
    · have := ar x hx
      exact ⟨this.1, this.2.1, fun e => by rcases hgm x e with q | q; exact this.2.2.2.1 q; exact this.2.2.2.2 q⟩
    · have := au x hx
      exact ⟨this.1, this.2.1, fun e => by rcases hgm x e with q | q; exact this.2.2.1 q; exact this.2.2.2 q⟩
  have ru : rep (trn P k) (some p) u := by
    refine rep_congr u _ c3 (fun x hx => ?_)
    obtain ⟨h1, h2, h3⟩ := E9 x (Or.inr (Or.inr hx))
    have h4 : P (bt (!s)) k ≠ some x := fun e => (hbl x e).2.2.1 hx
    simp [E7 x h1 h2 h3, h4]
  refine ⟨⟨?_, ?_⟩, fun j x hx => ?_, fun j x hj => ?_⟩
  · cases s
    · have hbl' : P 1 k = rt r := hk1
      refine ⟨E1, E3.trans hk0, E2, rep_congr l _ hl (fun x hx => ?_), E4, E5.trans hk1, E6.trans c2, ?_, ru⟩
      · obtain ⟨h1, h2, h3⟩ := E9 x (Or.inl hx)
        have h4 : P (bt (!false)) k ≠ some x := fun e => (al x hx).2.2.1 (hbm x e)
        refine ⟨?_, ?_, ?_⟩ <;> rw [E7 x h1 h2 h3, if_neg (fun z => h4 z.2)]
      · refine rep_re r _ hr (fun x hx => ?_) nr
        obtain ⟨h1, h2, h3⟩ := E9 x (Or.inr (Or.inl hx))
        simp only [E7 x h1 h2 h3]
        have e : P (bt (!false)) k = rt r := hk1
        rw [e]
        grind
    · refine ⟨E1, E2, E3.trans hk1, ⟨E4, E6.trans c2, E5.trans hk0, ru, ?_⟩, rep_congr r _ hr (fun x hx => ?_)⟩
      · refine rep_re l _ hl (fun x hx => ?_) nl
        obtain ⟨h1, h2, h3⟩ := E9 x (Or.inl hx)
        simp only [E7 x h1 h2 h3]
        have e : P (bt (!true)) k = rt l := hk0
        rw [e]
        grind
      · obtain ⟨h1, h2, h3⟩ := E9 x (Or.inr (Or.inl hx))
        have h4 : P (bt (!true)) k ≠ some x := fun e => (al x (hbm x e)).2.2.1 hx
        refine ⟨?_, ?_, ?_⟩ <;> rw [E7 x h1 h2 h3, if_neg (fun z => h4 z.2)]
  · cases C with
    | nil => trivial
    | cons f C2 =>
      obtain ⟨s2, q, u2⟩ := f
      obtain ⟨d1, d2, d3, d4, d5⟩ := c5
      have hq : P 2 p = some q := c4
      have hfs := hf2 q hq s2 u2 C2 rfl
      have hin : ∀ x, x ∈ cL ((s2, q, u2) :: C2) ∨ x ∈ cR ((s2, q, u2) :: C2) → x ≠ k ∧ x ≠ p ∧ P (bt (!s)) k ≠ some x := by
        intro x hx
        refine ⟨?_, ?_, fun e => ?_⟩
        · rintro rfl; rcases hx with h | h <;> contradiction
        · rintro rfl; rcases hx with h | h <;> contradiction
        · have := hbl x e
          rcases hx with h | h
          · exact this.2.2.2.1 h
          · exact this.2.2.2.2 h
      have hqC : q ∈ cL ((s2, q, u2) :: C2) ∨ q ∈ cR ((s2, q, u2) :: C2) := parC_mem rfl
      have E8' := E8 q hq (hin q hqC).1 (hin q hqC).2.1 (hin q hqC).2.2
      have hnC : q ∉ tids u2 ∧ q ∉ cL C2 ∧ q ∉ cR C2 := trn_apart2 hn
      have hoth : ∀ x, x ∈ tids u2 ∨ x ∈ cL C2 ∨ x ∈ cR C2 → ∀ j, trn P k j x = P j x := by
        intro x hx j
        have h1 := hin x (by cases s2 <;> simp only [cL, cR, cond_true, cond_false, List.append_nil, List.nil_append, List.mem_append, List.mem_cons] <;> grind)
        have h2 : P 2 p ≠ some x := by
          rw [hq]
          intro e
          cases e
          rcases hx with h | h | h
          · exact hnC.1 h
          · exact hnC.2.1 h
          · exact hnC.2.2 h
        rw [E7 x h1.1 h1.2.1 h2, if_neg (fun z => h1.2.2 z.2)]
      have hb2 : (bt s2 = 0 ∧ bt (!s2) = 1) ∨ (bt s2 = 1 ∧ bt (!s2) = 0) := by cases s2 <;> simp [bt]
      refine ⟨by rw [E8', if_pos hfs.symm]; rfl, by rw [E8', if_neg (by omega)]; exact d2, rep_congr u2 _ d3 (fun x hx => ⟨hoth x (Or.inl hx) 0, hoth x (Or.inl hx) 1, hoth x (Or.inl hx) 2⟩), by rw [E8', if_neg (by omega)]; exact d4, repC_congr C2 _ d5 (fun x hx => ⟨hoth x (Or.inr hx) 0, hoth x (Or.inr hx) 1, hoth x (Or.inr hx) 2⟩)⟩
  · rw [key]
    have hx' : ¬ (x ∈ cL C ∨ x ∈ cR C ∨ x ∈ tids u ∨ x = p ∨ x = k ∨ x ∈ tids l ∨ x ∈ tids r) := fun q => hx ((hmem x).mpr q)
    have h1 : P 2 p ≠ some x := fun e => hx' (by rcases hgm x e with q | q <;> simp [q])
    have h2 : P (bt (!s)) k ≠ some x := fun e => hx' (by have := hbm x e; cases s <;> simp_all)
    unfold trv
    grind
  · rw [key]
    unfold trv
    cases s <;> simp only [bt, Bool.not_true, Bool.not_false, cond_true, cond_false] <;> grind
theorem tids_zip (a : Nat) (l r : Tr) (C : Cx) : tids (plug (.branch a l r) C) = (cL C ++ tids l) ++ a :: (tids r ++ cR C) := by
  rw [tids_plug, tids_branch]
  simp
/-- bringing up, as pointers -/
def rai (k : Nat) : Cx → PF → PF
  | [], P => P
  | [_], P => trn P k
  | (s1, p1, _) :: (s2, _, _) :: C, P => rai k C (trn (if s1 = s2 then trn P p1 else trn P k) k)
theorem tids_plug_eq {t t' : Tr} (h : tids t = tids t') (C : Cx) : tids (plug t C) = tids (plug t' C) := by rw [tids_plug, tids_plug, h]
theorem tids_rtn_plug (s : Bool) (k : Nat) (l r : Tr) (p : Nat) (u : Tr) (C : Cx) : tids (plug (.branch k (rtn s l r p u).1 (rtn s l r p u).2) C) = tids (plug (.branch k l r) ((s, p, u) :: C)) := tids_plug_eq (tids_rtn s k l r p u) C
theorem nd_zz (s : Bool) (p1 p2 : Nat) (K u1 u2 : Tr) : ∃ x y, nd s p1 K u1 = .branch p1 x y ∧ Lean.RArray.branch p1 (rtn s x y p2 u2).1 (rtn s x y p2 u2).2 = nd s p1 K (nd s p2 u1 u2) := by
  cases s
  · exact ⟨_, _, rfl, rfl⟩
  · exact ⟨_, _, rfl, rfl⟩
theorem rai_step {P : PF} {k s1 p1 u1 s2 p2 u2 l r C} (h : Zp P (.branch k l r) ((s1, p1, u1) :: (s2, p2, u2) :: C)) (hn : (tids (plug (.branch k l r) ((s1, p1, u1) :: (s2, p2, u2) :: C))).Nodup) :
    ∃ l' r', spl k ((s1, p1, u1) :: (s2, p2, u2) :: C) l r = spl k C l' r' ∧ Zp (trn (if s1 = s2 then trn P p1 else trn P k) k) (.branch k l' r') C ∧ tids (plug (.branch k l' r') C) = tids (plug (.branch k l r) ((s1, p1, u1) :: (s2, p2, u2) :: C)) ∧ (∀ j x, x ∉ tids (plug (.branch k l r) ((s1, p1, u1) :: (s2, p2, u2) :: C)) → trn (if s1 = s2 then trn P p1 else trn P k) k j x = P j x) ∧ (∀ j x, 3 ≤ j → trn (if s1 = s2 then trn P p1 else trn P k) k j x = P j x) := by
  by_cases hs : s1 = s2
  · subst hs
    obtain ⟨x, y, e1, e2⟩ := nd_zz s1 p1 p2 (.branch k l r) u1 u2
    have h1 := Zp_step.mp h
    rw [e1] at h1
    have hn1 : (tids (plug (.branch p1 x y) ((s1, p2, u2) :: C))).Nodup := by rw [← e1]; exact hn
    obtain ⟨g1, g2, g3⟩ := trn_zip h1 hn1
    rw [e2] at g1
    have g1 := Zp_step.mpr g1
    have hids : tids (plug (.branch k l r) ((s1, p1, nd s1 p2 u1 u2) :: C)) = tids (plug (.branch k l r) ((s1, p1, u1) :: (s1, p2, u2) :: C)) := by
      show tids (plug (nd s1 p1 _ _) C) = tids (plug (nd s1 p2 (nd s1 p1 _ _) _) C)
      apply tids_plug_eq
      cases s1 <;> simp [tids_nd]
    obtain ⟨f1, f2, f3⟩ := trn_zip g1 (by rw [hids]; exact hn)
    refine ⟨_, _, by rw [spl, if_pos rfl], by rw [if_pos rfl]; exact f1, by rw [tids_rtn_plug, hids], fun j z hz => ?_, fun j z hj => ?_⟩
    · rw [if_pos rfl, f2 j z (by rw [hids]; exact hz), g2 j z (by rw [← e1]; exact hz)]
    · rw [if_pos rfl, f3 j z hj, g3 j z hj]
  · obtain ⟨g1, g2, g3⟩ := trn_zip h hn
    have hids := tids_rtn_plug s1 k l r p1 u1 ((s2, p2, u2) :: C)
    obtain ⟨f1, f2, f3⟩ := trn_zip g1 (by rw [hids]; exact hn)
    refine ⟨_, _, by rw [spl, if_neg hs], by rw [if_neg hs]; exact f1, by rw [tids_rtn_plug, hids], fun j z hz => ?_, fun j z hj => ?_⟩
    · rw [if_neg hs, f2 j z (by rw [hids]; exact hz), g2 j z hz]
    · rw [if_neg hs, f3 j z hj, g3 j z hj]
theorem rai_zip {k : Nat} : ∀ (n : Nat) (C : Cx) (P : PF) (l r : Tr), C.length ≤ n → Zp P (.branch k l r) C → (tids (plug (.branch k l r) C)).Nodup →
    rep (rai k C P) none (spl k C l r) ∧ rt (spl k C l r) = some k ∧ tids (spl k C l r) = tids (plug (.branch k l r) C) ∧ (∀ j x, x ∉ tids (plug (.branch k l r) C) → rai k C P j x = P j x) ∧ (∀ j x, 3 ≤ j → rai k C P j x = P j x) := by
  intro n
  induction n with
  | zero =>
    intro C P l r hl h hn
    have : C = [] := List.length_eq_zero_iff.mp (by omega)
    subst this
    exact ⟨h.1, rfl, rfl, fun _ _ _ => rfl, fun _ _ _ => rfl⟩
  | succ n ih =>
    intro C P l r hl h hn
    match C, hl, h, hn with
    | [], _, h, _ => exact ⟨h.1, rfl, rfl, fun _ _ _ => rfl, fun _ _ _ => rfl⟩
    | [(s, p, u)], _, h, hn =>
      obtain ⟨g1, g2, g3⟩ := trn_zip h hn
      exact ⟨g1.1, rfl, tids_rtn_plug s k l r p u [], g2, g3⟩
    | (s1, p1, u1) :: (s2, p2, u2) :: C, hl, h, hn =>
      obtain ⟨l', r', e1, e2, e3, e4, e5⟩ := rai_step h hn
      obtain ⟨i1, i2, i3, i4, i5⟩ := ih C _ l' r' (by simp only [List.length_cons] at hl; omega) e2 (by rw [e3]; exact hn)
      rw [e1]
      refine ⟨i1, i2, by rw [i3, e3], fun j x hx => ?_, fun j x hj => ?_⟩
      · show rai k C _ j x = P j x
        rw [i4 j x (by rw [e3]; exact hx), e4 j x hx]
      · show rai k C _ j x = P j x
        rw [i5 j x hj, e5 j x hj]
/-- the places of a tree, in the order of its nodes -/
abbrev Zi : Type := Nat × Tr × Tr × Cx
def zs : Tr → Cx → List Zi
  | .leaf _, _ => []
  | .branch k l r, C => zs l ((false, k, r) :: C) ++ (k, l, r, C) :: zs r ((true, k, l) :: C)
theorem zs_ids : ∀ (t : Tr) (C : Cx), (zs t C).map (fun z => z.1) = tids t := by
  intro t
  induction t with
  | leaf u => intro C; rfl
  | branch k l r ihl ihr =>
    intro C
    simp [zs, tids, ihl, ihr]
theorem zs_plug : ∀ (t : Tr) (C : Cx) (z : Zi), z ∈ zs t C → plug (.branch z.1 z.2.1 z.2.2.1) z.2.2.2 = plug t C := by
  intro t
  induction t with
  | leaf u => intro C z h; cases h
  | branch k l r ihl ihr =>
    intro C z h
    rcases List.mem_append.mp h with h | h
    · exact ihl _ z h
    · rcases List.mem_cons.mp h with h | h
      · subst h; rfl
      · exact ihr _ z h
theorem zs_mem {t : Tr} {C : Cx} {a : Nat} (h : a ∈ tids t) : ∃ l r C', (a, l, r, C') ∈ zs t C := by
  rw [← zs_ids t C] at h
  obtain ⟨⟨b, l, r, C'⟩, h1, h2⟩ := List.mem_map.mp h
  cases h2
  exact ⟨l, r, C', h1⟩
theorem split_uniq {a : Nat} : ∀ {p q p' q' : List Nat}, (p ++ a :: q).Nodup → p ++ a :: q = p' ++ a :: q' → p = p' ∧ q = q' := by
  intro p
  induction p with
  | nil =>
    intro q p' q' hn h
    cases p' with
    | nil => exact ⟨rfl, (List.cons.inj h).2⟩
    | cons b p' =>
      obtain ⟨h1, h2⟩ := List.cons.inj h
      exact absurd (by rw [h2]; simp) (List.nodup_cons.mp hn).1
  | cons b p ih =>
    intro q p' q' hn h
    cases p' with
    | nil =>
      obtain ⟨h1, h2⟩ := List.cons.inj h
      subst h1
      exact absurd (by simp) (List.nodup_cons.mp hn).1
    | cons b' p' =>
      obtain ⟨h1, h2⟩ := List.cons.inj h
      subst h1
      obtain ⟨h3, h4⟩ := ih (List.nodup_cons.mp hn).2 h2
      exact ⟨by rw [h3], h4⟩
/-- behind a place come those to its right -/
theorem zs_next {t : Tr} {pre post : List Zi} {a : Nat} {l r : Tr} {C : Cx} (hn : (tids t).Nodup) (h : zs t [] = pre ++ (a, l, r, C) :: post) : post.map (fun z => z.1) = tids r ++ cR C ∧ pre.map (fun z => z.1) = cL C ++ tids l ∧ t = plug (.branch a l r) C := by
  have h1 := zs_ids t []
  have h2 : t = plug (.branch a l r) C := (zs_plug t [] (a, l, r, C) (by rw [h]; simp)).symm
  rw [h, List.map_append, List.map_cons] at h1
  have h3 : tids t = (cL C ++ tids l) ++ a :: (tids r ++ cR C) := by rw [h2]; exact tids_zip a l r C
  have h4 := split_uniq (a := a) (by rw [h1]; exact hn) (h1.trans h3)
  exact ⟨h4.2, h4.1, h2⟩
theorem zs_uniq {t : Tr} {a : Nat} {l r l' r' : Tr} {C C' : Cx} (hn : (tids t).Nodup) (h : (a, l, r, C) ∈ zs t []) (h' : (a, l', r', C') ∈ zs t []) : l = l' ∧ r = r' ∧ C = C' := by
  obtain ⟨p, q, h1⟩ := List.append_of_mem h
  have h2 := h'
  rw [h1] at h2
  have h3 := zs_ids t []
  rw [h1, List.map_append, List.map_cons] at h3
  rw [← h3] at hn
  rcases List.mem_append.mp h2 with h4 | h4
  · exact absurd rfl ((List.nodup_append.mp hn).2.2 a (List.mem_map.mpr ⟨_, h4, rfl⟩) a (by simp))
  · rcases List.mem_cons.mp h4 with h4 | h4
    · cases h4
      exact ⟨rfl, rfl, rfl⟩
    · exact absurd (List.mem_map.mpr ⟨_, h4, rfl⟩) (List.nodup_cons.mp (List.nodup_append.mp hn).2.1).1
/-- every place is one of them -/
theorem zs_all : ∀ (C : Cx) (t : Tr) (a : Nat) (l r : Tr), t = .branch a l r → (a, l, r, C) ∈ zs (plug t C) [] ∧ ∀ z, z ∈ zs t C → z ∈ zs (plug t C) [] := by
  intro C
  induction C with
  | nil => intro t a l r e; subst e; exact ⟨by simp [plug, zs], fun z h => h⟩
  | cons f C ih =>
    intro t a l r e
    obtain ⟨s, p, u⟩ := f
    have h1 : ∀ z, z ∈ zs t ((s, p, u) :: C) → z ∈ zs (plug t ((s, p, u) :: C)) [] := by
      intro z hz
      cases s
      · exact (ih (nd false p t u) p t u rfl).2 z (List.mem_append_left _ hz)
      · exact (ih (nd true p t u) p u t rfl).2 z (List.mem_append_right _ (List.mem_cons_of_mem _ hz))
    refine ⟨h1 _ ?_, h1⟩
    subst e
    simp [zs]
theorem zs_at (a : Nat) (l r : Tr) (C : Cx) : (a, l, r, C) ∈ zs (plug (.branch a l r) C) [] := (zs_all C _ a l r rfl).1
/-- how deep, by the chain upwards -/
def UC (P : PF) : Nat → Option Nat → Prop
  | 0, r => r = none
  | d + 1, r => ∃ a, r = some a ∧ UC P d (P 2 a)
theorem UC_of {P : PF} : ∀ (C : Cx) (x : Option Nat), repC P x C → UC P C.length (parC C) := by
  intro C
  induction C with
  | nil => intro x _; rfl
  | cons f C ih =>
    intro x h
    obtain ⟨s, p, u⟩ := f
    exact ⟨p, rfl, by rw [h.2.2.2.1]; exact ih _ h.2.2.2.2⟩
/-- depths added, height, ends -/
def dsm : Tr → Nat → Nat
  | .leaf _, _ => 0
  | .branch _ l r, h => h + dsm l (h + 1) + dsm r (h + 1)
def hgt : Tr → Nat
  | .leaf _ => 0
  | .branch _ l r => 1 + max (hgt l) (hgt r)
def isE : Tr → Bool
  | .leaf _ => true
  | .branch _ _ _ => false
def lvs : Tr → Nat
  | .leaf _ => 0
  | .branch _ l r => if isE l && isE r then 1 else lvs l + lvs r
theorem dsm_zs : ∀ (t : Tr) (C : Cx), ((zs t C).map (fun z => z.2.2.2.length)).sum = dsm t C.length := by
  intro t
  induction t with
  | leaf u => intro C; rfl
  | branch k l r ihl ihr =>
    intro C
    simp only [zs, dsm, List.map_append, List.map_cons, List.sum_append, List.sum_cons, ihl, ihr, List.length_cons]
    omega
theorem lvs_zs : ∀ (t : Tr) (C : Cx), ((zs t C).filter (fun z => isE z.2.1 && isE z.2.2.1)).length = lvs t := by
  intro t
  induction t with
  | leaf u => intro C; rfl
  | branch k l r ihl ihr =>
    intro C
    simp only [zs, lvs, List.filter_append, List.filter_cons, List.length_append, ihl]
    by_cases h : (isE l && isE r) = true
    · rw [if_pos h, if_pos h, List.length_cons, ihr]
      cases l <;> cases r <;> simp_all [isE, lvs]
    · rw [if_neg h, if_neg h, ihr]
theorem hgt_E {t : Tr} (h : isE t = true) : hgt t = 0 := by cases t <;> first | rfl | cases h
theorem hgt_zs : ∀ (t : Tr) (C : Cx) (m : Nat), ((zs t C).map (fun z => z.2.2.2.length + 1)).foldl max m = if isE t then m else max m (C.length + hgt t) := by
  intro t
  induction t with
  | leaf u => intro C m; simp [zs, isE]
  | branch k l r ihl ihr =>
    intro C m
    have e : isE (.branch k l r) = false := rfl
    have h3 : hgt (.branch k l r) = 1 + max (hgt l) (hgt r) := rfl
    simp only [zs, List.map_append, List.map_cons, List.foldl_append, List.foldl_cons, ihl, ihr, List.length_cons, e, h3]
    have h1 := @hgt_E l
    have h2 := @hgt_E r
    rcases Bool.eq_false_or_eq_true (isE l) with hl | hl <;> rcases Bool.eq_false_or_eq_true (isE r) with hr | hr <;> simp only [hl, hr, if_true, if_false, Bool.false_eq_true] <;> (try have a1 := h1 hl) <;> (try have a2 := h2 hr) <;> omega
