/-! PURE: the way to a size; laying out in order; sums -/
def wy (zz : Nat → Nat) (n : Nat) : Tr → List Nat
  | .leaf _ => []
  | .branch k l r => k :: (if n = zz k then [] else if n < zz k then wy zz n l else wy zz n r)
/-- those above a place, from the top on -/
def anc (C : Cx) : List Nat := (C.map (fun f => f.2.1)).reverse
theorem anc_nil : anc [] = [] := rfl
theorem anc_cons (s : Bool) (p : Nat) (u : Tr) (C : Cx) : anc ((s, p, u) :: C) = anc C ++ [p] := by simp [anc]
theorem anc_len (C : Cx) : (anc C).length = C.length := by simp [anc]
theorem anc_mp (φ : Nat → Nat) (C : Cx) : anc (mpC φ C) = (anc C).map φ := by simp [anc, mpC, Function.comp_def]
section SimP
variable {zz : Nat → Nat} {n : Nat}
theorem zs_id {t : Tr} {C : Cx} {z : Zi} (h : z ∈ zs t C) : z.1 ∈ tids t := by rw [← zs_ids t C]; exact List.mem_map.mpr ⟨z, h, rfl⟩
theorem wy_zs : ∀ (t : Tr) (C : Cx), srt zz t → ∀ z ∈ zs t C, anc C ++ wy zz (zz z.1) t = anc z.2.2.2 ++ [z.1] := by
  intro t
  induction t with
  | leaf u => intro C _ z h; cases h
  | branch k l r ihl ihr =>
    intro C hs z h
    obtain ⟨h1, h2, h3, h4⟩ := srt_l hs
    rcases List.mem_append.mp h with h | h
    · have := h3 z.1 (zs_id h)
      have e := ihl _ h1 z h
      rw [anc_cons] at e
      rw [wy, if_neg (by omega), if_pos this, ← e]
      simp
    · rcases List.mem_cons.mp h with h | h
      · subst h
        rw [wy, if_pos rfl]
      · have := h4 z.1 (zs_id h)
        have e := ihr _ h2 z h
        rw [anc_cons] at e
        rw [wy, if_neg (by omega), if_neg (by omega), ← e]
        simp
theorem wy_inc : ∀ (t : Tr) (C : Cx), fnd zz (n : Int) t = none → anc C ++ wy zz n t = anc (inc zz (n : Int) t C) := by
  intro t
  induction t with
  | leaf u => intro C _; simp [wy, inc]
  | branch k l r ihl ihr =>
    intro C h
    unfold fnd at h
    split at h
    · cases h
    · rename_i h0
      split at h
      · rename_i h1
        have e := ihl ((false, k, r) :: C) h
        rw [anc_cons] at e
        rw [wy, if_neg (by omega), if_pos (by omega), inc, if_pos h1, ← e]
        simp
      · rename_i h1
        have e := ihr ((true, k, l) :: C) h
        rw [anc_cons] at e
        rw [wy, if_neg (by omega), if_neg (by omega), inc, if_neg h1, ← e]
        simp
theorem wy_hgt : ∀ (t : Tr), (wy zz n t).length ≤ hgt t := by
  intro t
  induction t with
  | leaf u => exact Nat.le_refl _
  | branch k l r ihl ihr =>
    rw [wy, hgt, List.length_cons]
    split
    · simp
    · split <;> omega
theorem hgt_len : ∀ (t : Tr), hgt t ≤ (tids t).length := by
  intro t
  induction t with
  | leaf u => exact Nat.le_refl _
  | branch k l r ihl ihr =>
    rw [hgt, tids_branch, List.length_append, List.length_cons]
    omega
theorem wy_mem : ∀ (t : Tr), ∀ a ∈ wy zz n t, a ∈ tids t := by
  intro t
  induction t with
  | leaf u => intro a h; cases h
  | branch k l r ihl ihr =>
    intro a h
    rw [wy] at h
    rcases List.mem_cons.mp h with h | h
    · simp [tids, h]
    · split at h
      · cases h
      · split at h
        · simp [tids, ihl a h]
        · simp [tids, ihr a h]
/-- the last one of the way is of that size, or there is none -/
theorem wy_last : ∀ (t : Tr), t ≠ .leaf () → ∃ w a, wy zz n t = w ++ [a] ∧ a ∈ tids t ∧ (zz a = n ↔ (fnd zz (n : Int) t).isSome = true) := by
  intro t
  induction t with
  | leaf u => intro h; exact absurd rfl h
  | branch k l r ihl ihr =>
    intro _
    rw [wy, fnd]
    by_cases h0 : n = zz k
    · rw [if_pos h0, if_pos (show (n : Int) = (zz k : Int) by omega)]
      exact ⟨[], k, rfl, by simp [tids], by simp [h0]⟩
    · rw [if_neg h0, if_neg (show ¬ (n : Int) = (zz k : Int) by omega)]
      have side : ∀ u : Tr, (∀ x ∈ tids u, x ∈ tids (.branch k l r)) → (u ≠ .leaf () → ∃ w a, wy zz n u = w ++ [a] ∧ a ∈ tids u ∧ (zz a = n ↔ (fnd zz (n : Int) u).isSome = true)) → ∃ w a, k :: wy zz n u = w ++ [a] ∧ a ∈ tids (.branch k l r) ∧ (zz a = n ↔ (fnd zz (n : Int) u).isSome = true) := by
        intro u hu ih
        cases u with
        | leaf v => exact ⟨[], k, rfl, by simp [tids], by simp [fnd]; omega⟩
        | branch a x y =>
          obtain ⟨w, b, e1, e2, e3⟩ := ih (by simp)
          exact ⟨k :: w, b, by rw [e1]; rfl, hu b e2, e3⟩
      by_cases h1 : n < zz k
      · rw [if_pos h1, if_pos (show (n : Int) < (zz k : Int) by omega)]
        exact side l (fun x hx => by simp [tids, hx]) ihl
      · rw [if_neg h1, if_neg (show ¬ (n : Int) < (zz k : Int) by omega)]
        exact side r (fun x hx => by simp [tids, hx]) ihr
theorem dsm_s : ∀ (t : Tr) (h : Nat), dsm t (h + 1) = dsm t h + (tids t).length := by
  intro t
  induction t with
  | leaf u => intro h; rfl
  | branch k l r ihl ihr =>
    intro h
    simp only [dsm, ihl, ihr, tids, List.length_append, List.length_cons]
    omega
/-- a row of references with a list laid into it -/
def oF : (Nat → Option Nat) → Nat → List Nat → Nat → Option Nat
  | f, _, [] => f
  | f, i, a :: x => oF (va_up f i (some a)) (i + 1) x
theorem oF_app : ∀ (x y : List Nat) (f : Nat → Option Nat) (i : Nat), oF f i (x ++ y) = oF (oF f i x) (i + x.length) y := by
  intro x
  induction x with
  | nil => intro y f i; rfl
  | cons a x ih =>
    intro y f i
    rw [List.cons_append, oF, oF, ih, List.length_cons]
    congr 1
    omega
theorem oF_lo : ∀ (x : List Nat) (f : Nat → Option Nat) (i j : Nat), j < i → oF f i x j = f j := by
  intro x
  induction x with
  | nil => intros; rfl
  | cons a x ih =>
    intro f i j h
    rw [oF, ih _ _ _ (by omega), va_up_ne _ _ (by omega)]
theorem oF_at : ∀ (x : List Nat) (f : Nat → Option Nat) (i j : Nat), j < x.length → oF f i x (i + j) = x[j]? := by
  intro x
  induction x with
  | nil => intro f i j h; cases h
  | cons a x ih =>
    intro f i j h
    rw [oF]
    cases j with
    | zero =>
      rw [oF_lo _ _ _ _ (by omega)]
      show va_up f i (some a) i = some a
      exact va_up_self _ _ _
    | succ j =>
      rw [show i + (j + 1) = i + 1 + j by omega, ih _ _ _ (by simpa using h)]
      rfl
end SimP
