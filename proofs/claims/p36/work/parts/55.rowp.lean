/-! PURE: what the law says of a row of apples -/
theorem hng_zs : ∀ (t : Tr) (C : Cx), ((zs t C).map (fun z => (tids z.2.1).length + (tids z.2.2.1).length)).sum = dsm t 0 := by
  intro t
  induction t with
  | leaf u => intro C; rfl
  | branch k l r ihl ihr =>
    intro C
    simp only [zs, List.map_append, List.map_cons, List.sum_append, List.sum_cons, ihl, ihr, dsm]
    have h1 := dsm_s l 0
    have h2 := dsm_s r 0
    omega
theorem top_zs : ∀ (t : Tr) (C : Cx), ((zs t C).map (fun z => if parC z.2.2.2 = none then 1 else 0)).sum = if isE t then 0 else if parC C = none then 1 else 0 := by
  intro t
  induction t with
  | leaf u => intro C; rfl
  | branch k l r ihl ihr =>
    intro C
    simp only [zs, List.map_append, List.map_cons, List.sum_append, List.sum_cons, ihl, ihr]
    simp [parC, isE]
theorem filt_sum (p : Zi → Bool) : ∀ l : List Zi, (l.map (fun z => if p z = true then 1 else 0)).sum = (l.filter p).length := by
  intro l
  induction l with
  | nil => rfl
  | cons z l ih =>
    rw [List.map_cons, List.sum_cons, ih, List.filter_cons]
    cases p z with
    | true => simp only [if_true, List.length_cons]; omega
    | false => simp
def acc (t : Tr) (f : Zi → Nat) (j : Nat) : Nat := (((zs t []).take j).map f).sum
theorem acc_s {t : Tr} {f : Zi → Nat} {j : Nat} {z : Zi} (h : (zs t [])[j]? = some z) : acc t f (j + 1) = acc t f j + f z := by
  unfold acc
  rw [List.take_succ, h, List.map_append, List.sum_append]
  simp
theorem zs_len (t : Tr) : (zs t []).length = (tids t).length := by rw [← zs_ids t [], List.length_map]
theorem acc_n (t : Tr) (f : Zi → Nat) : acc t f (tids t).length = ((zs t []).map f).sum := by
  unfold acc
  rw [← zs_len t, List.take_length]
def mxa (t : Tr) (j : Nat) : Nat := (((zs t []).take j).map (fun z => z.2.2.2.length + 1)).foldl max 0
theorem mxa_s {t : Tr} {j : Nat} {z : Zi} (h : (zs t [])[j]? = some z) : mxa t (j + 1) = max (mxa t j) (z.2.2.2.length + 1) := by
  unfold mxa
  rw [List.take_succ, h, List.map_append, List.foldl_append]
  rfl
theorem mxa_n (t : Tr) : mxa t (tids t).length = hgt t := by
  unfold mxa
  rw [← zs_len t, List.take_length, hgt_zs]
  cases t with
  | leaf u => rfl
  | branch k l r => simp [isE]
theorem zs_jn {t : Tr} {j a : Nat} (hn : (tids t).Nodup) (h : (tids t)[j]? = some a) : (zs t [])[j]? = some (zof t a) := by
  have h0 := h
  rw [← zs_ids t [], List.getElem?_map] at h0
  obtain ⟨z, h1, h2⟩ := Option.map_eq_some_iff.mp h0
  obtain ⟨a', l, r, C⟩ := z
  dsimp only at h2
  subst h2
  rw [h1, zof_eq hn (List.mem_of_getElem? h1)]
theorem zof_e {t : Tr} {a : Nat} (ha : a ∈ tids t) : ∃ l r C, zof t a = (a, l, r, C) := by
  have h := (zof_in ha).2
  exact ⟨(zof t a).2.1, (zof t a).2.2.1, (zof t a).2.2.2, congrArg (fun x => (x, (zof t a).2)) h⟩
section ZNear
variable {t l r : Tr} {a : Nat} {C : Cx}
theorem zof_pl (ha : a ∈ tids t) (h : zof t a = (a, l, r, C)) : plug (.branch a l r) C = t := by
  have h1 := zof_plug ha
  rw [h] at h1
  exact h1
theorem zof_par {u : Tr} {s : Bool} {p : Nat} (hn : (tids t).Nodup) (ha : a ∈ tids t) (h : zof t a = (a, l, r, (s, p, u) :: C)) : zof t p = (p, (bif s then u else .branch a l r), (bif s then .branch a l r else u), C) := by
  have e := zof_pl ha h
  refine zof_eq hn ?_
  rw [← e]
  cases s
  · exact zs_at p (.branch a l r) u C
  · exact zs_at p u (.branch a l r) C
theorem zof_tp (hn : (tids t).Nodup) (ha : a ∈ tids t) (h : zof t a = (a, l, r, C)) : rt t = some a ↔ C = [] := by
  constructor
  · intro h1
    obtain ⟨l', r', rfl⟩ := rt_some h1
    have h2 := zof_eq hn (zs_at a l' r' [])
    rw [h] at h2
    cases h2
    rfl
  · intro h1
    subst h1
    have e := zof_pl ha h
    rw [← e]
    rfl
theorem zof_lc {b : Nat} {l1 l2 : Tr} (hn : (tids t).Nodup) (ha : a ∈ tids t) (h : zof t a = (a, .branch b l1 l2, r, C)) : zof t b = (b, l1, l2, (false, a, r) :: C) := by
  have e := zof_pl ha h
  refine zof_eq hn ?_
  rw [← e]
  exact zs_at b l1 l2 ((false, a, r) :: C)
theorem zof_rc {b : Nat} {l1 l2 : Tr} (hn : (tids t).Nodup) (ha : a ∈ tids t) (h : zof t a = (a, l, .branch b l1 l2, C)) : zof t b = (b, l1, l2, (true, a, l) :: C) := by
  have e := zof_pl ha h
  refine zof_eq hn ?_
  rw [← e]
  exact zs_at b l1 l2 ((true, a, l) :: C)
theorem plug_srt {sz : Nat → Nat} {x : Tr} (hs : srt sz (plug x C)) : srt sz x := srt_sub hs (by rw [tids_plug]; exact (List.sublist_append_right _ _).trans (List.sublist_append_left _ _))
theorem zof_lr {sz : Nat → Nat} (hs : srt sz t) (ha : a ∈ tids t) (h : zof t a = (a, l, r, C)) : (∀ b ∈ tids l, sz b < sz a) ∧ ∀ b ∈ tids r, sz a < sz b := by
  have h1 := plug_srt (C := C) (x := .branch a l r) (sz := sz) (by rw [zof_pl ha h]; exact hs)
  exact (srt_l h1).2.2
theorem zof_up {sz : Nat → Nat} {u : Tr} {s : Bool} {p : Nat} (hs : srt sz t) (ha : a ∈ tids t) (h : zof t a = (a, l, r, (s, p, u) :: C)) : bif s then sz p < sz a else sz a < sz p := by
  have h1 := plug_srt (C := C) (x := nd s p (.branch a l r) u) (sz := sz) (by have := zof_pl ha h; rw [plug] at this; rw [this]; exact hs)
  have hm : a ∈ tids (.branch a l r) := by simp [tids]
  cases s
  · exact (srt_l h1).2.2.1 a hm
  · exact (srt_l h1).2.2.2 a hm
end ZNear
theorem tw_len {sz : Nat → Nat} {a : Nat} : ∀ (l : List Nat) (j : Nat), l.Pairwise (fun a b => sz a < sz b) → l[j]? = some a → (l.takeWhile (fun b => decide ((sz b : Int) < (sz a : Int)))).length = j := by
  intro l
  induction l with
  | nil => intro j _ h; cases h
  | cons b l ih =>
    intro j hp h
    obtain ⟨h1, h2⟩ := List.pairwise_cons.mp hp
    cases j with
    | zero =>
      cases h
      rw [List.takeWhile_cons, if_neg (by simp)]
      rfl
    | succ j =>
      have h3 : l[j]? = some a := h
      have h4 := h1 a (List.mem_of_getElem? h3)
      rw [List.takeWhile_cons, if_pos (by simp only [decide_eq_true_eq]; omega), List.length_cons, ih j h2 h3]
theorem srt_lt {sz : Nat → Nat} {t : Tr} {i j a b : Nat} (hs : srt sz t) (h : i < j) (ha : (tids t)[i]? = some a) (hb : (tids t)[j]? = some b) : sz a < sz b := by
  obtain ⟨hi, e1⟩ := List.getElem?_eq_some_iff.mp ha
  obtain ⟨hj, e2⟩ := List.getElem?_eq_some_iff.mp hb
  have h1 := List.pairwise_iff_getElem.mp hs i j hi hj h
  rw [e1, e2] at h1
  exact h1
theorem srt_inj {sz : Nat → Nat} {t : Tr} {a b : Nat} (hs : srt sz t) (ha : a ∈ tids t) (hb : b ∈ tids t) (e : sz a = sz b) : a = b := by
  have h1 := fnd_of (z := (sz a : Int)) t a hs ha rfl
  have h2 := fnd_of (z := (sz a : Int)) t b hs hb (by rw [e])
  rw [h1] at h2
  cases h2
  rfl
theorem hgt_pow : ∀ t : Tr, (tids t).length < 2 ^ hgt t := by
  intro t
  induction t with
  | leaf u => exact Nat.zero_lt_one
  | branch k l r ihl ihr =>
    rw [tids_branch, List.length_append, List.length_cons, hgt, Nat.pow_add]
    have h1 : 2 ^ hgt l ≤ 2 ^ max (hgt l) (hgt r) := Nat.pow_le_pow_right (by decide) (Nat.le_max_left _ _)
    have h2 : 2 ^ hgt r ≤ 2 ^ max (hgt l) (hgt r) := Nat.pow_le_pow_right (by decide) (Nat.le_max_right _ _)
    omega
theorem lh_h : ∀ n, n < 41 → ∀ h, h < 7 → n < 2 ^ h → lh n ≤ h := by decide +kernel
theorem lh_6 : ∀ n, n < 41 → lh n ≤ 6 := by decide +kernel
theorem lh_le {t : Tr} (h : (tids t).length < 41) : lh (tids t).length ≤ hgt t := by
  by_cases h7 : hgt t < 7
  · exact lh_h _ h _ h7 (hgt_pow t)
  · have := lh_6 _ h
    omega
theorem lh_a : ∀ n, n < 41 → ¬ ((1 : Int32) <<< (nI (lh n) &&& 31) ≤ nI n) := by decide +kernel
theorem lh_b : ∀ n, n < 41 → 0 < n → (1 : Int32) <<< ((nI (lh n) - 1) &&& 31) ≤ nI n := by decide +kernel
theorem lca_comm : ∀ (t : Tr) (a b : Nat), a ∈ tids t → b ∈ tids t → lca t a b = lca t b a := by
  intro t
  induction t with
  | leaf u => intro a b h; cases h
  | branch k l r ihl ihr =>
    intro a b _ _
    rw [lca, lca]
    by_cases h1 : a ∈ tids l ∧ b ∈ tids l
    · rw [if_pos h1, if_pos h1.symm, ihl a b h1.1 h1.2]
    · rw [if_neg h1, if_neg (show ¬ (b ∈ tids l ∧ a ∈ tids l) from fun q => h1 q.symm)]
      by_cases h2 : a ∈ tids r ∧ b ∈ tids r
      · rw [if_pos h2, if_pos h2.symm, ihr a b h2.1 h2.2]
      · rw [if_neg h2, if_neg (show ¬ (b ∈ tids r ∧ a ∈ tids r) from fun q => h2 q.symm)]
theorem lca_btw {sz : Nat → Nat} : ∀ (t : Tr) (a b : Nat), srt sz t → a ∈ tids t → b ∈ tids t → min (sz a) (sz b) ≤ sz (lca t a b) ∧ sz (lca t a b) ≤ max (sz a) (sz b) := by
  intro t
  induction t with
  | leaf u => intro a b _ h; cases h
  | branch k l r ihl ihr =>
    intro a b hs ha hb
    obtain ⟨s1, s2, s3, s4⟩ := srt_l hs
    rw [lca]
    by_cases h1 : a ∈ tids l ∧ b ∈ tids l
    · rw [if_pos h1]; exact ihl a b s1 h1.1 h1.2
    · rw [if_neg h1]
      by_cases h2 : a ∈ tids r ∧ b ∈ tids r
      · rw [if_pos h2]; exact ihr a b s2 h2.1 h2.2
      · rw [if_neg h2]
        rw [tids_branch, List.mem_append, List.mem_cons] at ha hb
        rcases ha with ha | rfl | ha <;> rcases hb with hb | hb | hb
        · exact absurd ⟨ha, hb⟩ h1
        · subst hb; have := s3 a ha; omega
        · have := s3 a ha; have := s4 b hb; omega
        · have := s3 b hb; omega
        · subst hb; omega
        · have := s4 b hb; omega
        · have := s4 a ha; have := s3 b hb; omega
        · subst hb; have := s4 a ha; omega
        · exact absurd ⟨ha, hb⟩ h2
theorem lca_dp {sz : Nat → Nat} : ∀ (t : Tr) (a b c : Nat), srt sz t → a ∈ tids t → b ∈ tids t → c ∈ tids t → min (sz a) (sz b) ≤ sz c → sz c ≤ max (sz a) (sz b) → dp t (lca t a b) ≤ dp t c ∧ (c ≠ lca t a b → dp t (lca t a b) < dp t c) := by
  intro t
  induction t with
  | leaf u => intro a b c _ h; cases h
  | branch k l r ihl ihr =>
    intro a b c hs ha hb hc h3 h4
    obtain ⟨s1, s2, s3, s4⟩ := srt_l hs
    have hlk : ∀ x ∈ tids l, x ≠ k := fun x hx e => by have := s3 x hx; rw [e] at this; omega
    have hrk : ∀ x ∈ tids r, x ≠ k := fun x hx e => by have := s4 x hx; rw [e] at this; omega
    have hrl : ∀ x ∈ tids r, x ∉ tids l := fun x hx hy => by have := s4 x hx; have := s3 x hy; omega
    have hdl : ∀ x ∈ tids l, dp (.branch k l r) x = dp l x + 1 := fun x hx => by rw [dp, if_neg (hlk x hx), if_pos hx]
    have hdr : ∀ x ∈ tids r, dp (.branch k l r) x = dp r x + 1 := fun x hx => by rw [dp, if_neg (hrk x hx), if_neg (hrl x hx)]
    have hcc : c ∈ tids l ∨ c = k ∨ c ∈ tids r := by rw [tids_branch, List.mem_append, List.mem_cons] at hc; exact hc
    rw [lca]
    by_cases h1 : a ∈ tids l ∧ b ∈ tids l
    · rw [if_pos h1]
      have hcl : c ∈ tids l := by
        have q1 := s3 a h1.1
        have q2 := s3 b h1.2
        rcases hcc with h | h | h
        · exact h
        · subst h; omega
        · have := s4 c h; omega
      have h9 := ihl a b c s1 h1.1 h1.2 hcl h3 h4
      rw [hdl c hcl, hdl _ (lca_mem h1.1 h1.2)]
      exact ⟨by omega, fun q => by have := h9.2 q; omega⟩
    · rw [if_neg h1]
      by_cases h2 : a ∈ tids r ∧ b ∈ tids r
      · rw [if_pos h2]
        have hcl : c ∈ tids r := by
          have q1 := s4 a h2.1
          have q2 := s4 b h2.2
          rcases hcc with h | h | h
          · have := s3 c h; omega
          · subst h; omega
          · exact h
        have h9 := ihr a b c s2 h2.1 h2.2 hcl h3 h4
        rw [hdr c hcl, hdr _ (lca_mem h2.1 h2.2)]
        exact ⟨by omega, fun q => by have := h9.2 q; omega⟩
      · rw [if_neg h2]
        have e0 : dp (.branch k l r) k = 0 := by rw [dp, if_pos rfl]
        rw [e0]
        refine ⟨Nat.zero_le _, fun q => ?_⟩
        rcases hcc with h | h | h
        · rw [hdl c h]; omega
        · exact absurd h q
        · rw [hdr c h]; omega
theorem zof_dp {t : Tr} {a : Nat} (hn : (tids t).Nodup) (ha : a ∈ tids t) : (zof t a).2.2.2.length = dp t a := by
  have h := (zs_dp t [] hn _ (zof_in ha).1).1
  rw [(zof_in ha).2, List.length_nil, Nat.zero_add] at h
  exact h
theorem bstF_ok : ∀ (l : List Zi) (a0 n : Nat), ∃ g m, bstF l (some a0, n) = (some g, m) ∧ m ≤ n ∧ (∀ z ∈ l, m ≤ dsm (spz z) 0) ∧ ((g = a0 ∧ m = n) ∨ ∃ pre z post, l = pre ++ z :: post ∧ z.1 = g ∧ dsm (spz z) 0 = m ∧ m < n ∧ ∀ y ∈ pre, m < dsm (spz y) 0) := by
  intro l
  induction l with
  | nil => intro a0 n; exact ⟨a0, n, rfl, Nat.le_refl _, fun z h => (by cases h), Or.inl ⟨rfl, rfl⟩⟩
  | cons z l ih =>
    intro a0 n
    rw [bstF]
    by_cases h : dsm (spz z) 0 < n
    · rw [if_pos (Or.inr h)]
      obtain ⟨g, m, h1, h2, h3, h4⟩ := ih z.1 (dsm (spz z) 0)
      refine ⟨g, m, h1, by omega, fun y hy => ?_, Or.inr ?_⟩
      · rcases List.mem_cons.mp hy with rfl | hy
        · exact h2
        · exact h3 y hy
      · rcases h4 with ⟨e1, e2⟩ | ⟨pre, y, post, e1, e2, e3, e4, e5⟩
        · exact ⟨[], z, l, rfl, e1.symm, e2.symm, by omega, fun y hy => (by cases hy)⟩
        · refine ⟨z :: pre, y, post, by rw [e1]; rfl, e2, e3, by omega, fun x hx => ?_⟩
          rcases List.mem_cons.mp hx with rfl | hx
          · exact e4
          · exact e5 x hx
    · rw [if_neg (by simpa using h)]
      obtain ⟨g, m, h1, h2, h3, h4⟩ := ih a0 n
      refine ⟨g, m, h1, h2, fun y hy => ?_, ?_⟩
      · rcases List.mem_cons.mp hy with rfl | hy
        · omega
        · exact h3 y hy
      · rcases h4 with h4 | ⟨pre, y, post, e1, e2, e3, e4, e5⟩
        · exact Or.inl h4
        · refine Or.inr ⟨z :: pre, y, post, by rw [e1]; rfl, e2, e3, e4, fun x hx => ?_⟩
          rcases List.mem_cons.mp hx with rfl | hx
          · omega
          · exact e5 x hx
theorem bst_ok {sz : Nat → Nat} {t : Tr} (hn : (tids t).Nodup) (hs : srt sz t) (h0 : 0 < (tids t).length) : ∃ g, bst t = some g ∧ g ∈ tids t ∧ ∀ a ∈ tids t, dsm (spz (zof t g)) 0 ≤ dsm (spz (zof t a)) 0 ∧ (sz a < sz g → dsm (spz (zof t g)) 0 < dsm (spz (zof t a)) 0) := by
  have key : ∃ pre z post, zs t [] = pre ++ z :: post ∧ bst t = some z.1 ∧ (∀ y ∈ zs t [], dsm (spz z) 0 ≤ dsm (spz y) 0) ∧ ∀ y ∈ pre, dsm (spz z) 0 < dsm (spz y) 0 := by
    have hl := zs_len t
    unfold bst
    cases hz : zs t [] with
    | nil => rw [hz] at hl; simp only [List.length_nil] at hl; omega
    | cons z l =>
      rw [bstF, if_pos (Or.inl rfl)]
      obtain ⟨g, m, h1, h2, h3, h4⟩ := bstF_ok l z.1 (dsm (spz z) 0)
      rw [h1]
      rcases h4 with ⟨e1, e2⟩ | ⟨pre, y, post, e1, e2, e3, e4, e5⟩
      · refine ⟨[], z, l, rfl, by rw [e1], fun y hy => ?_, fun y hy => (by cases hy)⟩
        rcases List.mem_cons.mp hy with rfl | hy
        · exact Nat.le_refl _
        · rw [← e2]; exact h3 y hy
      · refine ⟨z :: pre, y, post, by rw [e1]; rfl, by rw [e2], fun x hx => ?_, fun x hx => ?_⟩
        · rw [e3]
          rcases List.mem_cons.mp hx with rfl | hx
          · omega
          · exact h3 x hx
        · rw [e3]
          rcases List.mem_cons.mp hx with rfl | hx
          · exact e4
          · exact e5 x hx
  obtain ⟨pre, z, post, h1, h2, h3, h4⟩ := key
  have hzm : z ∈ zs t [] := by rw [h1]; simp
  have hof : ∀ y ∈ zs t [], zof t y.1 = y := fun y hy => zof_eq (a := y.1) (l := y.2.1) (r := y.2.2.1) (C := y.2.2.2) hn hy
  have hgm : z.1 ∈ tids t := zs_id hzm
  refine ⟨z.1, h2, hgm, fun a ha => ?_⟩
  rw [hof z hzm]
  obtain ⟨q1, q2⟩ := zof_in ha
  refine ⟨h3 _ q1, fun hlt => ?_⟩
  have hin := q1
  rw [h1, List.mem_append, List.mem_cons] at hin
  have hids : tids t = pre.map (fun z => z.1) ++ z.1 :: post.map (fun z => z.1) := by rw [← zs_ids t [], h1, List.map_append, List.map_cons]
  rcases hin with hin | hin | hin
  · exact h4 _ hin
  · rw [hin] at q2; rw [q2] at hlt; omega
  · have hp : (z.1 :: post.map (fun z => z.1)).Pairwise (fun a b => sz a < sz b) := by
      have h5 : srt sz t := hs
      unfold srt at h5
      rw [hids] at h5
      exact (List.pairwise_append.mp h5).2.1
    have h6 := (List.pairwise_cons.mp hp).1 a (List.mem_map.mpr ⟨_, hin, q2⟩)
    omega
theorem mp_comp (f g : Nat → Nat) : ∀ t : Tr, mp f (mp g t) = mp (fun a => f (g a)) t := by
  intro t
  induction t with
  | leaf u => rfl
  | branch k l r ihl ihr => rw [mp, mp, mp, ihl, ihr]
theorem srt_map {sz : Nat → Nat} {t : Tr} : srt sz t ↔ (tids (mp sz t)).Pairwise (· < ·) := by
  rw [mp_tids, List.pairwise_map]
  exact Iff.rfl
theorem lt_nd {l : List Nat} (h : l.Pairwise (· < ·)) : l.Nodup := h.imp (fun q e => by omega)
theorem cp_dsm {Y t : Tr} {zz sz : Nat → Nat} {a g : Nat} (hs : srt sz t) (he : mp zz Y = mp sz t) (ha : a ∈ tids Y) (hg : g ∈ tids t) (hz : zz a = sz g) : dsm (spz (zof Y a)) 0 = dsm (spz (zof t g)) 0 := by
  have hn : (tids (mp sz t)).Nodup := lt_nd (srt_map.mp hs)
  have h1 := zof_mp (φ := sz) hn hg
  have h2 := zof_mp (φ := zz) (by rw [he]; exact hn) ha
  rw [he, hz, h1] at h2
  have h3 := congrArg (fun z => dsm (spz z) 0) h2
  simp only [mp_spz, mp_dsm] at h3
  exact h3.symm
theorem cp_at {Y t : Tr} {zz sz : Nat → Nat} {g : Nat} (hs : srt sz t) (he : mp zz Y = mp sz t) (hg : g ∈ tids t) : ∃ a, a ∈ tids Y ∧ zz a = sz g ∧ fnd zz (sz g : Int) Y = some a := by
  have h1 : sz g ∈ (tids Y).map zz := by rw [← mp_tids, he, mp_tids]; exact List.mem_map.mpr ⟨g, hg, rfl⟩
  obtain ⟨a, ha, hz⟩ := List.mem_map.mp h1
  exact ⟨a, ha, hz, fnd_of Y a (srt_map.mpr (by rw [he]; exact srt_map.mp hs)) ha (by rw [hz])⟩
theorem cp_SO {Y Y' : Nat → Tr} {zz zz' : Nat → Nat} (hO : SO zz Y) (hn : (gids Y').Nodup) (he : ∀ r, r < 6 → mp zz' (Y' r) = mp zz (Y r)) : SO zz' Y' := by
  have hl : ∀ r, r < 6 → (tids (Y' r)).map zz' = (tids (Y r)).map zz := fun r hr => by rw [← mp_tids, ← mp_tids, he r hr]
  have hg : (gids Y').map zz' = (gids Y).map zz := by
    unfold gids
    simp only [List.map_append]
    rw [hl 0 (by decide), hl 1 (by decide), hl 2 (by decide), hl 3 (by decide), hl 4 (by decide), hl 5 (by decide)]
  refine ⟨hn, fun r hr => srt_map.mpr (by rw [he r hr]; exact srt_map.mp (hO.2.1 r hr)), fun a ha => ?_, ?_⟩
  · have h1 : zz' a ∈ (gids Y).map zz := by rw [← hg]; exact List.mem_map.mpr ⟨a, ha, rfl⟩
    obtain ⟨b, hb, e⟩ := List.mem_map.mp h1
    rw [← e]
    exact hO.2.2.1 b hb
  · have := congrArg List.length hg
    rw [List.length_map, List.length_map] at this
    rw [this]
    exact hO.2.2.2
theorem fnd_no {sz : Nat → Nat} {t : Tr} {n : Nat} (h : ∀ b ∈ tids t, sz b ≠ n) : fnd sz (n : Int) t = none := by
  cases hf : fnd sz (n : Int) t with
  | none => rfl
  | some b =>
    obtain ⟨h1, h2⟩ := fnd_mem t b hf
    exact absurd (by omega) (h b h1)
