/-! METHODS of SplayOrchard: queries of two rows, and those of what would be -/
theorem cat_a (x : Nat) : (Value.ref x).category = 1 := rfl
theorem cat_i (x : Int32) : (Value.int x).category = 1 := rfl
theorem cat_n : Value.null.category = 1 := rfl
def mayJ (sz : Nat → Nat) (T1 T2 : Tr) : Bool := match (tids T1).getLast? with
  | none => true
  | some g => match (tids T2).head? with
    | none => true
    | some y => decide (sz g < sz y)
def qj (T : Nat → Tr) (sz : Nat → Nat) (row x : Int32) : Nat × Int32 := match rowN row with
  | none => (1, 0)
  | some r => match rowN x with
    | none => (1, 0)
    | some q => (0, if r ≠ q ∧ mayJ sz (T r) (T q) = true then 1 else 0)
def qm (T : Nat → Tr) (sz : Nat → Nat) (row x y : Int32) : Nat × Int32 := match rowN row with
  | none => (1, 0)
  | some r => match fnd sz x.toInt (T r) with
    | none => (2, 0)
    | some a => match fnd sz y.toInt (T r) with
      | none => (2, 0)
      | some b => (0, nI (sz (lca (T r) a b)))
def qp (T : Nat → Tr) (sz : Nat → Nat) (row x : Int32) : Nat × Int32 := match rowN row with
  | none => (1, 0)
  | some r => match szN x with
    | none => (2, 0)
    | some n => (0, if (fnd sz (n : Int) (T r)).isSome then -1 else nI (inc sz (n : Int) (T r) []).length)
/-- bitten at a place -/
def spz (z : Zi) : Tr := spl z.1 z.2.2.2 z.2.1 z.2.2.1
def qd (T : Nat → Tr) (sz : Nat → Nat) (row x y : Int32) : Nat × Int32 := match rowN row with
  | none => (1, 0)
  | some r => match fnd sz x.toInt (T r) with
    | none => (2, 0)
    | some a => match fnd sz y.toInt (T r) with
      | none => (2, 0)
      | some b => (0, nI (zof (spz (zof (T r) a)) b).2.2.2.length)
def bstF : List Zi → Option Nat × Nat → Option Nat × Nat
  | [], s => s
  | z :: l, s => bstF l (if s.1 = none ∨ dsm (spz z) 0 < s.2 then (some z.1, dsm (spz z) 0) else s)
def bst (t : Tr) : Option Nat := (bstF (zs t []) (none, 0)).1
theorem lca_mem : ∀ {t : Tr} {a b : Nat}, a ∈ tids t → b ∈ tids t → lca t a b ∈ tids t := by
  intro t
  induction t with
  | leaf u => intro a b h; cases h
  | branch k l r ihl ihr =>
    intro a b h1 h2
    rw [lca]
    split
    · rename_i h; simp [tids, ihl h.1 h.2]
    · split
      · rename_i h; simp [tids, ihr h.1 h.2]
      · simp [tids]
theorem parC_none {C : Cx} (h : parC C = none) : C = [] := by
  cases C with
  | nil => rfl
  | cons f C => obtain ⟨s, p, u⟩ := f; cases h
theorem inc_UC {P : PF} {sz : Nat → Nat} {z : Int} {T : Tr} {b : Nat} (hrep : rep P none T) (h : parC (inc sz z T []) = some b) : ∃ d, UC P d (P 2 b) ∧ (inc sz z T []).length = d + 1 := by
  have h1 := (Zp_plug (inc sz z T []) (.leaf ())).mpr (by rw [plug_inc]; exact hrep)
  cases hC : inc sz z T [] with
  | nil => rw [hC] at h; cases h
  | cons f C =>
    obtain ⟨s, p, u⟩ := f
    rw [hC] at h h1
    cases h
    obtain ⟨-, -, -, -, d4, d5⟩ := h1
    exact ⟨C.length, by rw [d4]; exact UC_of C _ d5, rfl⟩
theorem dsm_le (t : Tr) : dsm t 0 ≤ (tids t).length * (tids t).length := by
  have h1 := dsm_zs t []
  have h2 : ∀ l : List Zi, (∀ z ∈ l, z.2.2.2.length ≤ (tids t).length) → (l.map (fun z => z.2.2.2.length)).sum ≤ l.length * (tids t).length := by
    intro l
    induction l with
    | nil => intro _; simp
    | cons z l ih =>
      intro h
      have h3 := ih (fun y hy => h y (by simp [hy]))
      have h4 := h z (by simp)
      simp only [List.map_cons, List.sum_cons, List.length_cons, Nat.add_mul, Nat.one_mul]
      omega
  have h3 := h2 (zs t []) (fun z hz => Nat.le_of_lt (cx_len hz))
  rw [h1] at h3
  have h4 : (zs t []).length = (tids t).length := by rw [← zs_ids t [], List.length_map]
  rw [h4] at h3
  exact h3
theorem spz_tids {t : Tr} {a : Nat} (h : a ∈ tids t) : tids (spz (zof t a)) = tids t := by
  have h1 : ∀ (n : Nat) (C : Cx) (k : Nat) (l r : Tr), C.length ≤ n → tids (spl k C l r) = tids (plug (.branch k l r) C) := by
    intro n
    induction n with
    | zero =>
      intro C k l r hl
      have : C = [] := List.length_eq_zero_iff.mp (by omega)
      subst this
      rfl
    | succ n ih =>
      intro C k l r hl
      match C, hl with
      | [], _ => rfl
      | [(s, p, u)], _ => exact tids_rtn_plug s k l r p u []
      | (s1, p1, u1) :: (s2, p2, u2) :: C, hl =>
        have hl2 : C.length ≤ n := by simp only [List.length_cons] at hl; omega
        unfold spl
        by_cases hs : s1 = s2
        · subst hs
          rw [if_pos rfl, ih C k _ _ hl2, tids_rtn_plug]
          show tids (plug (nd s1 p1 _ _) C) = tids (plug (nd s1 p2 (nd s1 p1 _ _) _) C)
          apply tids_plug_eq
          cases s1 <;> simp [tids_nd]
        · rw [if_neg hs, ih C k _ _ hl2, tids_rtn_plug, tids_rtn_plug]
  obtain ⟨h2, h3⟩ := zof_in h
  unfold spz
  rw [h1 _ _ _ _ _ (Nat.le_refl _), zs_plug t [] _ h2]
  rfl
def sig (si : Nat → Option Nat) (x : Nat) : Nat := (si x).getD 0
def try1 (P : PF) (si : Nat → Option Nat) (tt : Nat) (T : Tr) : PF := sP (lnks P si (tids T)) 3 tt ((rt T).bind si)
def tryP (P : PF) (si : Nat → Option Nat) (tt : Nat) (T : Tr) (a : Nat) : PF := sP (rai (sig si a) (mpC (sig si) (zof T a).2.2.2) (try1 P si tt T)) 3 tt (some (sig si a))
/-- the linking writes the stand-ins alone -/
theorem lnks_ne {si : Nat → Option Nat} : ∀ (l : List Nat) (P : PF) (j x : Nat), (∀ a ∈ l, si a ≠ some x) → lnks P si l j x = P j x := by
  intro l
  induction l with
  | nil => intros; rfl
  | cons a l ih =>
    intro P j x h
    rw [lnks, ih _ _ _ (fun b hb => h b (by simp [hb]))]
    cases hb : si a with
    | some b => exact lnk_ne (fun e => h a (by simp) (by rw [e]; exact hb))
    | none => rfl
theorem lnks_3 {si : Nat → Option Nat} : ∀ (l : List Nat) (P : PF) (x : Nat), lnks P si l 3 x = P 3 x := by
  intro l
  induction l with
  | nil => intros; rfl
  | cons a l ih =>
    intro P x
    rw [lnks, ih]
    cases hb : si a with
    | some b => exact lnk_3
    | none => rfl
theorem lnk_at {P : PF} {si : Nat → Option Nat} {a b j : Nat} (hab : a ≠ b) (hj : j < 3) : lnk P si a b j b = (P j a).bind si := by
  have h : j = 0 ∨ j = 1 ∨ j = 2 := by omega
  rcases h with rfl | rfl | rfl <;> simp [lnk, sP, hab]
theorem lnks_at {si : Nat → Option Nat} : ∀ (l : List Nat) (P : PF) (a b j : Nat), a ∈ l → l.Nodup → si a = some b → (∀ x ∈ l, ∀ y ∈ l, si x = si y → x = y) → (∀ x ∈ l, ∀ y ∈ l, si x ≠ some y) → j < 3 → lnks P si l j b = (P j a).bind si := by
  intro l
  induction l with
  | nil => intro P a b j h; cases h
  | cons x l ih =>
    intro P a b j ha hn hb hinj hap hj
    obtain ⟨hx, hn2⟩ := List.nodup_cons.mp hn
    rw [lnks]
    by_cases hax : a = x
    · subst hax
      rw [lnks_ne l _ _ _ (fun y hy e => hx (by rw [hinj a (by simp) y (by simp [hy]) (hb.trans e.symm)]; exact hy)), hb]
      exact lnk_at (fun e => hap a (by simp) a (by simp) (by rw [← e] at hb; exact hb)) hj
    · have hal : a ∈ l := by
        rcases List.mem_cons.mp ha with h | h
        · exact absurd h hax
        · exact h
      rw [ih _ a b j hal hn2 hb (fun y hy z hz => hinj y (by simp [hy]) z (by simp [hz])) (fun y hy z hz => hap y (by simp [hy]) z (by simp [hz])) hj]
      congr 1
      cases hc : si x with
      | some c => exact lnk_ne (fun e => hap x (by simp) a ha (by rw [hc, ← e]))
      | none => rfl
theorem rep_sig {P P1 : PF} {si : Nat → Option Nat} : ∀ (t : Tr) (par : Option Nat), (∀ x ∈ tids t, si x = some (sig si x)) → (∀ x ∈ tids t, ∀ j, j < 3 → P1 j (sig si x) = (P j x).bind si) → (∀ p, par = some p → si p = some (sig si p)) → rep P par t → rep P1 (par.map (sig si)) (mp (sig si) t) := by
  intro t
  induction t with
  | leaf u => intros; trivial
  | branch k l r ihl ihr =>
    intro par hs h1 hp h
    obtain ⟨h2, h0, h1', hl, hr⟩ := h
    have hk : k ∈ tids (.branch k l r) := by simp [tids]
    have bm : ∀ o : Option Nat, (∀ p, o = some p → si p = some (sig si p)) → o.bind si = o.map (sig si) := by
      intro o ho
      cases o with
      | none => rfl
      | some p => exact ho p rfl
    refine ⟨?_, ?_, ?_, ?_, ?_⟩
    · rw [h1 k hk 2 (by omega), h2]; exact bm par hp
    · rw [h1 k hk 0 (by omega), h0, mp_rt]; exact bm _ (fun p hp => hs p (by simp [tids, rt_mem hp]))
    · rw [h1 k hk 1 (by omega), h1', mp_rt]; exact bm _ (fun p hp => hs p (by simp [tids, rt_mem hp]))
    · exact ihl (some k) (fun x hx => hs x (by simp [tids, hx])) (fun x hx => h1 x (by simp [tids, hx])) (fun p hp => by cases hp; exact hs k hk) hl
    · exact ihr (some k) (fun x hx => hs x (by simp [tids, hx])) (fun x hx => h1 x (by simp [tids, hx])) (fun p hp => by cases hp; exact hs k hk) hr
section MOrchR
variable {l : Launch} {D : va_G} {lo : Nat} {Γ : GT} {L : List Nat} {K : Nat → Nat} {sz : Nat → Nat} {si : Nat → Option Nat} {P : PF} {bi : Nat → Nat} {tu : Nat} {M : MW} {V : Int64 × UInt64}
theorem CI_P {P' : PF} {o : Nat} {T : Nat → Tr} (hc : CI Γ o T L K sz si P) (h : ∀ a ∈ gids T, ∀ j, j < 3 → P' j a = P j a) (h3 : ∀ r, r < 6 → P' 3 (gta Γ r) = P 3 (gta Γ r)) : CI Γ o T L K sz si P' := by
  obtain ⟨hg, c_t, c_r⟩ := hc
  refine ⟨hg, fun r hr => ?_, c_r⟩
  obtain ⟨⟨a1, a2, a3, a4, a5, a6⟩, a7⟩ := c_t r hr
  exact ⟨⟨a1, a2, by rw [h3 r hr, a3], rep_congr _ _ a4 (fun x hx => ⟨h x (gids_mem.mpr ⟨r, hr, hx⟩) 0 (by omega), h x (gids_mem.mpr ⟨r, hr, hx⟩) 1 (by omega), h x (gids_mem.mpr ⟨r, hr, hx⟩) 2 (by omega)⟩), a5, a6⟩, a7⟩
theorem CI_si {o r x : Nat} {T : Nat → Tr} (hc : CI Γ o T L K sz si P) (hr6 : r < 6) (hx : x ∈ tids (T r)) : si x = some (sig si x) ∧ okA L K (sig si x) ∧ sig si x ∉ gids T ∧ sz (sig si x) = sz x := by
  obtain ⟨b, h1, h2, h3, h4⟩ := hc.2.2.2.1 x (gids_mem.mpr ⟨r, hr6, hx⟩)
  have e : sig si x = b := by rw [sig, h1]; rfl
  rw [e]
  exact ⟨h1, h2, h3, h4⟩
theorem try_si {o r : Nat} {T : Nat → Tr} (hc : CI Γ o T L K sz si P) (hr6 : r < 6) : ∀ a ∈ tids (T r), ∃ b, si a = some b ∧ b ∉ tids (T r) := fun a ha => by
  obtain ⟨h1, h2, h3, h4⟩ := CI_si hc hr6 ha
  exact ⟨_, h1, fun q => h3 (gids_mem.mpr ⟨r, hr6, q⟩)⟩
theorem sig_nodup {o r : Nat} {T : Nat → Tr} (hc : CI Γ o T L K sz si P) (hr6 : r < 6) {l : List Nat} (hl : l = tids (T r)) : (l.map (sig si)).Nodup := by
  subst hl
  have hn := (hc.2.1 r hr6).1.2.2.2.2.1
  refine List.Pairwise.map _ (fun a b hab => ?_) (List.Pairwise.and_mem.mp hn)
  intro e
  exact hab.2.2 (hc.2.2.2.2.1 a (gids_mem.mpr ⟨r, hr6, hab.1⟩) b (gids_mem.mpr ⟨r, hr6, hab.2.1⟩) (by rw [(CI_si hc hr6 hab.1).1, (CI_si hc hr6 hab.2.1).1, e]))
theorem try_1 {o r a : Nat} {T : Nat → Tr} (hc : CI Γ o T L K sz si P) (hr6 : r < 6) (ha : a ∈ tids (T r)) : TR L K sz (try1 P si (gtt Γ) (T r)) (gtt Γ) (mp (sig si) (T r)) ∧ (∀ j x, x ∉ (tids (T r)).map (sig si) → (j = 3 → x ≠ gtt Γ) → try1 P si (gtt Γ) (T r) j x = P j x) ∧ si a = some (sig si a) := by
  have hT := (hc.2.1 r hr6).1
  have hs : ∀ x ∈ tids (T r), si x = some (sig si x) := fun x hx => (CI_si hc hr6 hx).1
  have hbind : (rt (T r)).bind si = rt (mp (sig si) (T r)) := by
    rw [mp_rt]
    cases hq : rt (T r) with
    | none => rfl
    | some k => exact hs k (rt_mem hq)
  have hmem : ∀ x, x ∈ tids (mp (sig si) (T r)) → ∃ y, y ∈ tids (T r) ∧ sig si y = x := fun x hx => by
    rw [mp_tids] at hx
    obtain ⟨y, h1, h2⟩ := List.mem_map.mp hx
    exact ⟨y, h1, h2⟩
  refine ⟨⟨hc.1.2.2.2.1.1, hc.1.2.2.2.1.2, by rw [try1, sP_eq, hbind], ?_, by rw [mp_tids]; exact sig_nodup hc hr6 rfl, fun x hx => ?_⟩, fun j x hx hj => ?_, hs a ha⟩
  · refine rep_sig (P := P) (T r) none hs (fun x hx j hj => ?_) (fun p h => by cases h) hT.2.2.2.1
    rw [try1, sP_nk (by omega)]
    exact lnks_at _ P x _ j hx hT.2.2.2.2.1 (hs x hx) (fun y hy z hz e => hc.2.2.2.2.1 y (gids_mem.mpr ⟨r, hr6, hy⟩) z (gids_mem.mpr ⟨r, hr6, hz⟩) e) (fun y hy z hz e => by
      have h9 := (CI_si hc hr6 hy).2.2.1
      rw [(CI_si hc hr6 hy).1] at e
      exact h9 (by rw [Option.some.inj e]; exact gids_mem.mpr ⟨r, hr6, hz⟩)) hj
  · obtain ⟨y, hy, rfl⟩ := hmem x hx
    have h9 := CI_si hc hr6 hy
    exact ⟨h9.2.1, by rw [h9.2.2.2]; exact (hT.2.2.2.2.2 y hy).2⟩
  · have h1 : lnks P si (tids (T r)) j x = P j x := lnks_ne _ P j x (fun y hy e => hx (List.mem_map.mpr ⟨y, hy, by rw [sig, e]; rfl⟩))
    rw [try1]
    by_cases h3 : j = 3
    · rw [sP_na (hj h3)]; exact h1
    · rw [sP_nk h3]; exact h1
theorem try_plug {r a : Nat} {T : Nat → Tr} (ha : a ∈ tids (T r)) : plug (.branch (sig si a) (mp (sig si) (zof (T r) a).2.1) (mp (sig si) (zof (T r) a).2.2.1)) (mpC (sig si) (zof (T r) a).2.2.2) = mp (sig si) (T r) := by
  have h := mp_plug (sig si) (zof (T r) a).2.2.2 (.branch a (zof (T r) a).2.1 (zof (T r) a).2.2.1)
  rw [zof_plug ha] at h
  exact h.symm
theorem try_z {P1 : PF} {t0 r a : Nat} {T : Nat → Tr} (hT : TR L K sz P1 t0 (mp (sig si) (T r))) (ha : a ∈ tids (T r)) : Zp P1 (.branch (sig si a) (mp (sig si) (zof (T r) a).2.1) (mp (sig si) (zof (T r) a).2.2.1)) (mpC (sig si) (zof (T r) a).2.2.2) :=
  (Zp_plug _ _).mpr (by rw [try_plug ha]; exact hT.2.2.2.1)
theorem try_ok {o r a : Nat} {T : Nat → Tr} (hc : CI Γ o T L K sz si P) (hr6 : r < 6) (ha : a ∈ tids (T r)) : CI Γ o T L K sz si (tryP P si (gtt Γ) (T r) a) ∧ TR L K sz (tryP P si (gtt Γ) (T r) a) (gtt Γ) (mp (sig si) (spz (zof (T r) a))) := by
  obtain ⟨hT1, hP1, hsa⟩ := try_1 hc hr6 ha
  have hz := try_z hT1 ha
  obtain ⟨g1, g2, g3, g4, g5⟩ := rai_zip (mpC (sig si) (zof (T r) a).2.2.2).length _ _ _ _ (Nat.le_refl _) hz (by rw [try_plug ha]; exact hT1.2.2.2.2.1)
  rw [try_plug ha] at g3 g4
  have hspl : spl (sig si a) (mpC (sig si) (zof (T r) a).2.2.2) (mp (sig si) (zof (T r) a).2.1) (mp (sig si) (zof (T r) a).2.2.1) = mp (sig si) (spz (zof (T r) a)) := by
    have h1 := mp_spl (sig si) a (zof (T r) a).2.2.2.length (zof (T r) a).2.2.2 (zof (T r) a).2.1 (zof (T r) a).2.2.1 (Nat.le_refl _)
    rw [← h1]
    unfold spz
    rw [(zof_in ha).2]
  rw [hspl] at g1 g2 g3
  refine ⟨CI_P hc (fun x hx j hj => ?_) (fun q hq => ?_), ⟨hT1.1, hT1.2.1, by rw [tryP, sP_eq, g2], ?_, by rw [g3]; exact hT1.2.2.2.2.1, fun x hx => hT1.2.2.2.2.2 x (by rw [← g3]; exact hx)⟩⟩
  · have hx1 : x ∉ (tids (T r)).map (sig si) := fun q => by
      obtain ⟨y, h1, h2⟩ := List.mem_map.mp q
      exact (CI_si hc hr6 h1).2.2.1 (by rw [h2]; exact hx)
    rw [tryP, sP_nk (by omega), g4 j x (by rw [mp_tids]; exact hx1), hP1 j x hx1 (fun e => by omega)]
  · have hne : gta Γ q ≠ gtt Γ := hc.1.2.2.2.2.1 q hq
    rw [tryP, sP_na hne, g5 3 _ (by omega), try1, sP_na hne, lnks_3]
  · exact rep_congr _ _ g1 (fun x _ => ⟨by rw [tryP, sP_nk (by omega)], by rw [tryP, sP_nk (by omega)], by rw [tryP, sP_nk (by omega)]⟩)
theorem fnd_ids {z : Int} {t t' : Tr} (h : srt sz t) (h' : srt sz t') (he : tids t' = tids t) : fnd sz z t' = fnd sz z t := by
  cases hq : fnd sz z t with
  | some a =>
    obtain ⟨h1, h2⟩ := fnd_mem t a hq
    exact fnd_of t' a h' (by rw [he]; exact h1) h2
  | none =>
    cases hq2 : fnd sz z t' with
    | none => rfl
    | some a =>
      obtain ⟨h1, h2⟩ := fnd_mem t' a hq2
      rw [fnd_of t a h (by rw [← he]; exact h1) h2] at hq
      cases hq
theorem srt_ids {t t' : Tr} (h : srt sz t) (he : tids t' = tids t) : srt sz t' := by unfold srt; rw [he]; exact h
theorem try_fnd {o r a : Nat} {y : Int} {T : Nat → Tr} (hc : CI Γ o T L K sz si P) (hr6 : r < 6) (ha : a ∈ tids (T r)) : fnd sz y (mp (sig si) (spz (zof (T r) a))) = (fnd sz y (T r)).map (sig si) := by
  have hs := (hc.2.1 r hr6).2
  have he := spz_tids ha
  rw [fnd_mp (sz := sz) _ (fun x hx => (CI_si hc hr6 (by rw [← he]; exact hx)).2.2.2), fnd_ids hs (srt_ids hs he) he]
theorem zof_mp {φ : Nat → Nat} {t : Tr} {b : Nat} (hn : (tids (mp φ t)).Nodup) (hb : b ∈ tids t) : zof (mp φ t) (φ b) = mpZ φ (zof t b) := by
  obtain ⟨h1, h2⟩ := zof_in hb
  have h3 : mpZ φ (zof t b) ∈ zs (mp φ t) [] := by
    have := mp_zs φ t []
    rw [show mpC φ [] = [] from rfl] at this
    rw [this]
    exact List.mem_map.mpr ⟨_, h1, rfl⟩
  have h4 : (mpZ φ (zof t b)).1 = φ b := by rw [mpZ, h2]
  rw [← h4]
  exact zof_eq hn h3
set_option maxRecDepth 100000 in
set_option maxHeartbeats 4000000 in
theorem c_X2_mayJoin {t1 t2 : Nat} {T1 T2 : Tr} (h1 : TR L K sz P t1 T1) (h2 : TR L K sz P t2 T2) : Md l yX2_mayJoin wsX2_mayJoin (rmL 3 0 0) D lo Γ [.ref t1, .ref t2] ((L, K, sz, si, P, bi, tu), M, V) (some (.int (if t1 ≠ t2 ∧ mayJ sz T1 T2 = true then 1 else 0))) ((L, K, sz, si, P, bi, tu), M, V) := by
  refine Mz_of (cc := cX2_mayJoin) (maxL := 4) (ret := (some .boolean)) (by decide) rfl (Nat.le_of_ble_eq_true rfl) ?_
  intro p e s m args below meth c ls S hr hlocks hK hH hS hl
  have hx := S.1
  have hb := S.2.1
  have hts := S.2.2.2.2
  have f130 : (Cond.fieldLink RX2 130 (TX0 0).1 (TX0 0).2.1 (TX0 0).2.2.1).before args s = true := hts _ (List.mem_of_getElem? (i := 1) rfl)
  have hi0 : ∀ w ∈ wsX00, w ∈ wsX2_mayJoin := by decide +kernel
  have hl : lv_has ls 4 [(0, .ref t1), (1, .ref t2)] := hl
  have ok_t1 : t1 ∈ L ∧ K t1 = 1 := ⟨h1.1, h1.2.1⟩
  have ok_t2 : t2 ∈ L ∧ K t2 = 1 := ⟨h2.1, h2.2.1⟩
  refine lv_aload_n hx hb dX2_mayJoin_0 rfl (lv_at hl 0 rfl) ?_
  refine lv_aload_n hx hb dX2_mayJoin_1 rfl (lv_at hl 1 rfl) ?_
  refine lv_acmp_ne (rx := some t1) (ry := some t2) (tgt := 7) hx hb dX2_mayJoin_2 (by decide) (fun hne => ?_) (fun hne => ?_)
  · skip
    have hne2 : t1 ≠ t2 := fun q => hne (by rw [q])
    refine lv_aload_n hx hb dX2_mayJoin_7 rfl (lv_at hl 0 rfl) ?_
    refine cV S (c_X1_last (l := l) (D := D) (lo := lo) (Γ := Γ) (sz := sz) (si := si) (P := P) (bi := bi) (tu := tu) (M := M) (V := V) h1) (cwV 0 hts gX2_mayJoin_X1_last rfl rfl rfl (by decide +kernel) ⟨Nat.le_of_ble_eq_true rfl, Nat.le_of_ble_eq_true rfl⟩) hK hH (Hp_recv hK hH ok_t1.1 ok_t1.2 rfl) hS rfl hl.1 rfl (Nat.le_of_ble_eq_true rfl) dX2_mayJoin_8 ⟨Nat.le_of_ble_eq_true rfl, Nat.le_of_ble_eq_true rfl⟩ (fun v Z1 H locs hpost hH hS => ?_)
    obtain ⟨rfl, rfl⟩ := hpost
    refine lq_astore_n (i := 2) (lv' := [(0, .ref t1), (1, .ref t2)]) S dX2_mayJoin_11 rfl hl (by decide) rfl (fun ls hl => ?_)
    refine lv_aload_n hx hb dX2_mayJoin_12 rfl (lv_at hl 2 rfl) ?_
    refine cV S (c_X1_first (l := l) (D := D) (lo := lo) (Γ := Γ) (sz := sz) (si := si) (P := P) (bi := bi) (tu := tu) (M := M) (V := V) h2) (cwV 0 hts gX2_mayJoin_X1_first rfl rfl rfl (by decide +kernel) ⟨Nat.le_of_ble_eq_true rfl, Nat.le_of_ble_eq_true rfl⟩) hK hH (Hp_recv hK hH ok_t2.1 ok_t2.2 rfl) hS rfl hl.1 rfl (Nat.le_of_ble_eq_true rfl) dX2_mayJoin_13 ⟨Nat.le_of_ble_eq_true rfl, Nat.le_of_ble_eq_true rfl⟩ (fun v Z1 H locs hpost hH hS => ?_)
    obtain ⟨rfl, rfl⟩ := hpost
    refine lq_astore_n (i := 3) (lv' := [(2, va_rf ((tids T1).getLast?)), (0, .ref t1), (1, .ref t2)]) S dX2_mayJoin_16 rfl hl (by decide) (by simp [cat_rf, cat_a, cat_i, cat_n]) (fun ls hl => ?_)
    refine lq_aload_n S dX2_mayJoin_17 rfl (lv_at hl 1 rfl) ?_
    refine lq_ifnull S dX2_mayJoin_18 (tgt := 36) (by decide) (fun hq => ?_) (fun g hq => ?_)
    · skip
      refine lv_iconst (v := 1) hx hb dX2_mayJoin_36 (by decide) ?_
      refine lv_goto (tgt := 41) hx hb dX2_mayJoin_37 (by decide) ?_
      exact eZ S hr hlocks (Or.inr rfl) hH hS ⟨by rw [if_pos ⟨hne2, by rw [mayJ, hq]⟩], rfl⟩ dX2_mayJoin_41
    · skip
      have hg1 := List.mem_of_getLast? hq
      have ok_g := (h1.2.2.2.2.2 g hg1).1
      have hg9 := (h1.2.2.2.2.2 g hg1).2
      rw [hq] at hl
      refine lq_aload_n S dX2_mayJoin_21 rfl (lv_at hl 0 rfl) ?_
      refine lq_ifnull S dX2_mayJoin_22 (tgt := 36) (by decide) (fun hq2 => ?_) (fun y hq2 => ?_)
      · skip
        refine lv_iconst (v := 1) hx hb dX2_mayJoin_36 (by decide) ?_
        refine lv_goto (tgt := 41) hx hb dX2_mayJoin_37 (by decide) ?_
        exact eZ S hr hlocks (Or.inr rfl) hH hS ⟨by rw [if_pos ⟨hne2, by rw [mayJ, hq, hq2]⟩], rfl⟩ dX2_mayJoin_41
      · skip
        have hy1 := List.mem_of_head? hq2
        have ok_y := (h2.2.2.2.2.2 y hy1).1
        have hy9 := (h2.2.2.2.2.2 y hy1).2
        rw [hq2] at hl
        refine lv_aload_n hx hb dX2_mayJoin_25 rfl (lv_at hl 1 rfl) ?_
        refine gA S hi0 hK hH ok_g 0 (by decide) f130 (v := .int (nI (sz g))) rfl dX2_mayJoin_26 ?_
        refine lv_aload_n hx hb dX2_mayJoin_29 rfl (lv_at hl 0 rfl) ?_
        refine gA S hi0 hK hH ok_y 0 (by decide) f130 (v := .int (nI (sz y))) rfl dX2_mayJoin_30 ?_
        refine lv_icmp_ge (tgt := 40) hx hb dX2_mayJoin_33 (by decide) (fun h5 => ?_) (fun h5 => ?_)
        · skip
          refine lv_iconst (v := 0) hx hb dX2_mayJoin_40 (by decide) ?_
          have h5 := (nI_leI (by omega) (by omega)).mp h5
          exact eZ S hr hlocks (Or.inl rfl) hH hS ⟨by rw [if_neg (fun q => by have h6 := q.2; rw [mayJ, hq, hq2] at h6; have h7 := of_decide_eq_true h6; omega)], rfl⟩ dX2_mayJoin_41
        · skip
          refine lv_iconst (v := 1) hx hb dX2_mayJoin_36 (by decide) ?_
          refine lv_goto (tgt := 41) hx hb dX2_mayJoin_37 (by decide) ?_
          have h5 := mt (nI_leI (a := sz y) (b := sz g) (by omega) (by omega)).mpr h5
          exact eZ S hr hlocks (Or.inr rfl) hH hS ⟨by rw [if_pos ⟨hne2, by rw [mayJ, hq, hq2]; exact decide_eq_true (by omega)⟩], rfl⟩ dX2_mayJoin_41
  · skip
    refine lv_iconst (v := 0) hx hb dX2_mayJoin_5 (by decide) ?_
    exact eZ S hr hlocks (Or.inl rfl) hH hS ⟨by rw [if_neg (fun q => q.1 (Option.some.inj hne))], rfl⟩ dX2_mayJoin_6

set_option maxRecDepth 100000 in
set_option maxHeartbeats 4000000 in
theorem c_X2_canJoin {o : Nat} {T : Nat → Tr} {row x : Int32} (hst : l.stackTraces = false) (hc : CI Γ o T L K sz si P) : Mx l yX2_canJoin wsX2_canJoin (rmL 7 2 12) D lo Γ [.ref o, .int row, .int x] ((L, K, sz, si, P, bi, tu), M, V) (PoI Γ o T sz bi tu M V (qj T sz row x)) (PxI Γ o T sz bi tu M V (qj T sz row x) en2) := by
  refine Mx_of (cc := cX2_canJoin) (maxL := 3) (ret := (some .boolean)) (by decide) rfl (Nat.le_of_ble_eq_true rfl) ?_
  intro p e s m args below meth c ls S hr hlocks hK hH hS hX ht hl
  have hx := S.1
  have hb := S.2.1
  have hts := S.2.2.2.2
  have hl : lv_has ls 3 [(0, .ref o), (1, .int row), (2, .int x)] := hl
  have hc0 := hc
  obtain ⟨hg, c_t, c_nd, c_si, c_inj, c_40⟩ := hc
  obtain ⟨ok_o, o_u, ok_ra, ok_tt, tt_ne, ta_inj⟩ := hg
  refine lv_aload_n hx hb dX2_canJoin_0 rfl (lv_at hl 0 rfl) ?_
  refine lv_iload_n hx hb dX2_canJoin_1 rfl (lv_at hl 1 rfl) ?_
  refine cVx S (c_X2_treeOf (l := l) (D := D) (lo := lo) (Γ := Γ) (sz := sz) (si := si) (P := P) (bi := bi) (tu := tu) (M := M) (V := V) (row := row) hst hc0) (cwV 1 hts gX2_canJoin_X2_treeOf rfl rfl rfl (by decide +kernel) ⟨Nat.le_of_ble_eq_true rfl, Nat.le_of_ble_eq_true rfl⟩) hK hH hX (Hp_recv hK hH ok_o.1 ok_o.2 rfl) hS rfl hl.1 rfl (by simp [cat_rf, Value.category]) dX2_canJoin_2 ⟨Nat.le_of_ble_eq_true rfl, Nat.le_of_ble_eq_true rfl⟩ (fun E Z1 H locs ce q9 hpx hH hS hce hcv hcl => ?_) (fun v Z1 H locs hpost hH hS => ?_)
  · obtain ⟨rfl, hrow, rfl⟩ := hpx
    exact xO ht hlocks ⟨by simp [qj, hrow], by simp [qj, hrow, en2], L, K, si, P, rfl, hc0⟩ hH hS hce hcv hcl (Nat.le_of_ble_eq_true rfl) (Nat.le_of_ble_eq_true rfl)
  obtain ⟨r, hrow, rfl, rfl⟩ := hpost
  have hr6 := (rowN_some hrow).1
  have htr := (c_t r hr6).1
  have ok_t : gta Γ r ∈ L ∧ K (gta Γ r) = 1 := ⟨htr.1, htr.2.1⟩
  refine lv_aload_n hx hb dX2_canJoin_5 rfl (lv_at hl 0 rfl) ?_
  refine lv_iload_n hx hb dX2_canJoin_6 rfl (lv_at hl 2 rfl) ?_
  refine cVx S (c_X2_treeOf (l := l) (D := D) (lo := lo) (Γ := Γ) (sz := sz) (si := si) (P := P) (bi := bi) (tu := tu) (M := M) (V := V) (row := x) hst hc0) (cwV 1 hts gX2_canJoin_X2_treeOf rfl rfl rfl (by decide +kernel) ⟨Nat.le_of_ble_eq_true rfl, Nat.le_of_ble_eq_true rfl⟩) hK hH hX (Hp_recv hK hH ok_o.1 ok_o.2 rfl) hS rfl hl.1 rfl (by simp [cat_rf, Value.category]) dX2_canJoin_7 ⟨Nat.le_of_ble_eq_true rfl, Nat.le_of_ble_eq_true rfl⟩ (fun E Z1 H locs ce q9 hpx hH hS hce hcv hcl => ?_) (fun v Z1 H locs hpost hH hS => ?_)
  · obtain ⟨rfl, hrow2, rfl⟩ := hpx
    exact xO ht hlocks ⟨by simp [qj, hrow, hrow2], by simp [qj, hrow, hrow2, en2], L, K, si, P, rfl, hc0⟩ hH hS hce hcv hcl (Nat.le_of_ble_eq_true rfl) (Nat.le_of_ble_eq_true rfl)
  obtain ⟨r2, hrow2, rfl, rfl⟩ := hpost
  have hr62 := (rowN_some hrow2).1
  have htr2 := (c_t r2 hr62).1
  have ok_t2 : gta Γ r2 ∈ L ∧ K (gta Γ r2) = 1 := ⟨htr2.1, htr2.2.1⟩
  refine cSt S (c_X2_mayJoin (l := l) (D := D) (lo := lo) (Γ := Γ) (sz := sz) (si := si) (P := P) (bi := bi) (tu := tu) (M := M) (V := V) htr htr2) (va_cwS 2 hts gX2_canJoin_X2_mayJoin rfl rfl rfl (by decide +kernel) ⟨Nat.le_of_ble_eq_true rfl, Nat.le_of_ble_eq_true rfl⟩) hK hH hS rfl hl.1 rfl (Nat.le_of_ble_eq_true rfl) dX2_canJoin_10 ⟨Nat.le_of_ble_eq_true rfl, Nat.le_of_ble_eq_true rfl⟩ (fun v Z1 H locs hpost hH hS => ?_)
  obtain ⟨rfl, rfl⟩ := hpost
  have hv9 : (gta Γ r ≠ gta Γ r2 ∧ mayJ sz (T r) (T r2) = true) = (r ≠ r2 ∧ mayJ sz (T r) (T r2) = true) := by rw [show (gta Γ r ≠ gta Γ r2) = (r ≠ r2) from propext ⟨fun q e => q (by rw [e]), fun q e => q (ta_inj r r2 hr6 hr62 e)⟩]
  refine W.widen (k := 2) (n := 12) (Nat.le_of_ble_eq_true rfl) (Nat.le_of_ble_eq_true rfl) ?_
  exact vx_ret (eZ S hr hlocks (by split; exact Or.inr rfl; exact Or.inl rfl) hH hS ⟨by simp [qj, hrow, hrow2], by simp [qj, hrow, hrow2, hv9], L, K, si, P, rfl, hc0⟩ dX2_canJoin_13)

set_option maxRecDepth 100000 in
set_option maxHeartbeats 4000000 in
theorem c_X2_meet {o : Nat} {T : Nat → Tr} {row x y : Int32} (hst : l.stackTraces = false) (hc : CI Γ o T L K sz si P) : Mx l yX2_meet wsX2_meet (rmL 7 3 18) D lo Γ [.ref o, .int row, .int x, .int y] ((L, K, sz, si, P, bi, tu), M, V) (PoI Γ o T sz bi tu M V (qm T sz row x y)) (PxI Γ o T sz bi tu M V (qm T sz row x y) en2) := by
  refine Mx_of (cc := cX2_meet) (maxL := 7) (ret := (some .int)) (by decide) rfl (Nat.le_of_ble_eq_true rfl) ?_
  intro p e s m args below meth c ls S hr hlocks hK hH hS hX ht hl
  have hx := S.1
  have hb := S.2.1
  have hts := S.2.2.2.2
  have hl : lv_has ls 7 [(0, .ref o), (1, .int row), (2, .int x), (3, .int y)] := hl
  have hc0 := hc
  obtain ⟨hg, c_t, c_nd, c_si, c_inj, c_40⟩ := hc
  obtain ⟨ok_o, o_u, ok_ra, ok_tt, tt_ne, ta_inj⟩ := hg
  refine lv_aload_n hx hb dX2_meet_0 rfl (lv_at hl 0 rfl) ?_
  refine lv_iload_n hx hb dX2_meet_1 rfl (lv_at hl 1 rfl) ?_
  refine cVx S (c_X2_treeOf (l := l) (D := D) (lo := lo) (Γ := Γ) (sz := sz) (si := si) (P := P) (bi := bi) (tu := tu) (M := M) (V := V) (row := row) hst hc0) (cwV 1 hts gX2_meet_X2_treeOf rfl rfl rfl (by decide +kernel) ⟨Nat.le_of_ble_eq_true rfl, Nat.le_of_ble_eq_true rfl⟩) hK hH hX (Hp_recv hK hH ok_o.1 ok_o.2 rfl) hS rfl hl.1 rfl (by simp [cat_rf, Value.category]) dX2_meet_2 ⟨Nat.le_of_ble_eq_true rfl, Nat.le_of_ble_eq_true rfl⟩ (fun E Z1 H locs ce q9 hpx hH hS hce hcv hcl => ?_) (fun v Z1 H locs hpost hH hS => ?_)
  · obtain ⟨rfl, hrow, rfl⟩ := hpx
    exact xO ht hlocks ⟨by simp [qm, hrow], by simp [qm, hrow, en2], L, K, si, P, rfl, hc0⟩ hH hS hce hcv hcl (Nat.le_of_ble_eq_true rfl) (Nat.le_of_ble_eq_true rfl)
  obtain ⟨r, hrow, rfl, rfl⟩ := hpost
  have hr6 := (rowN_some hrow).1
  have htr := (c_t r hr6).1
  have ok_t : gta Γ r ∈ L ∧ K (gta Γ r) = 1 := ⟨htr.1, htr.2.1⟩
  refine lv_astore (lv' := [(4, .ref (gta Γ r)), (0, .ref o), (1, .int row), (2, .int x), (3, .int y)]) hx hb dX2_meet_5 hl (by decide) rfl (fun ls hl => ?_)
  refine lv_aload hx hb dX2_meet_7 (lv_at hl 0 rfl) ?_
  refine lv_iload_n hx hb dX2_meet_9 rfl (lv_at hl 3 rfl) ?_
  refine cSx S (c_X2_appleOf (l := l) (D := D) (lo := lo) (Γ := Γ) (sz := sz) (si := si) (P := P) (bi := bi) (tu := tu) (M := M) (V := V) (x := x) hst htr) (va_cwS 2 hts gX2_meet_X2_appleOf rfl rfl rfl (by decide +kernel) ⟨Nat.le_of_ble_eq_true rfl, Nat.le_of_ble_eq_true rfl⟩) hK hH hX hS rfl hl.1 rfl (by simp [cat_rf, Value.category]) dX2_meet_10 ⟨Nat.le_of_ble_eq_true rfl, Nat.le_of_ble_eq_true rfl⟩ (fun E Z1 H locs ce q9 hpx hH hS hce hcv hcl => ?_) (fun v Z1 H locs hpost hH hS => ?_)
  · obtain ⟨rfl, hfa, rfl⟩ := hpx
    exact xO ht hlocks ⟨by simp [qm, hrow, hfa], by simp [qm, hrow, hfa, en2], L, K, si, P, rfl, hc0⟩ hH hS hce hcv hcl (Nat.le_of_ble_eq_true rfl) (Nat.le_of_ble_eq_true rfl)
  obtain ⟨a, hfa, rfl, rfl⟩ := hpost
  have hin_a := (fnd_mem _ _ hfa).1
  have ok_a := (htr.2.2.2.2.2 a hin_a).1
  refine lv_astore (lv' := [(5, .ref a), (4, .ref (gta Γ r)), (0, .ref o), (1, .int row), (2, .int x), (3, .int y)]) hx hb dX2_meet_13 hl (by decide) rfl (fun ls hl => ?_)
  refine lv_aload hx hb dX2_meet_15 (lv_at hl 1 rfl) ?_
  refine lv_iload_n hx hb dX2_meet_17 rfl (lv_at hl 5 rfl) ?_
  refine cSx S (c_X2_appleOf (l := l) (D := D) (lo := lo) (Γ := Γ) (sz := sz) (si := si) (P := P) (bi := bi) (tu := tu) (M := M) (V := V) (x := y) hst htr) (va_cwS 2 hts gX2_meet_X2_appleOf rfl rfl rfl (by decide +kernel) ⟨Nat.le_of_ble_eq_true rfl, Nat.le_of_ble_eq_true rfl⟩) hK hH hX hS rfl hl.1 rfl (by simp [cat_rf, Value.category]) dX2_meet_18 ⟨Nat.le_of_ble_eq_true rfl, Nat.le_of_ble_eq_true rfl⟩ (fun E Z1 H locs ce q9 hpx hH hS hce hcv hcl => ?_) (fun v Z1 H locs hpost hH hS => ?_)
  · obtain ⟨rfl, hfa2, rfl⟩ := hpx
    exact xO ht hlocks ⟨by simp [qm, hrow, hfa, hfa2], by simp [qm, hrow, hfa, hfa2, en2], L, K, si, P, rfl, hc0⟩ hH hS hce hcv hcl (Nat.le_of_ble_eq_true rfl) (Nat.le_of_ble_eq_true rfl)
  obtain ⟨b, hfa2, rfl, rfl⟩ := hpost
  have hin_b := (fnd_mem _ _ hfa2).1
  have ok_b := (htr.2.2.2.2.2 b hin_b).1
  refine lv_astore (lv' := [(6, .ref b), (5, .ref a), (4, .ref (gta Γ r)), (0, .ref o), (1, .int row), (2, .int x), (3, .int y)]) hx hb dX2_meet_21 hl (by decide) rfl (fun ls hl => ?_)
  refine lv_aload hx hb dX2_meet_23 (lv_at hl 2 rfl) ?_
  refine lv_aload hx hb dX2_meet_25 (lv_at hl 1 rfl) ?_
  refine lv_aload hx hb dX2_meet_27 (lv_at hl 0 rfl) ?_
  refine cV S (c_X1_meeting (l := l) (D := D) (lo := lo) (Γ := Γ) (sz := sz) (si := si) (P := P) (bi := bi) (tu := tu) (M := M) (V := V) htr (c_t r hr6).2 hin_a hin_b) (cwV 2 hts gX2_meet_X1_meeting rfl rfl rfl (by decide +kernel) ⟨Nat.le_of_ble_eq_true rfl, Nat.le_of_ble_eq_true rfl⟩) hK hH (Hp_recv hK hH ok_t.1 ok_t.2 rfl) hS rfl hl.1 rfl (Nat.le_of_ble_eq_true rfl) dX2_meet_29 ⟨Nat.le_of_ble_eq_true rfl, Nat.le_of_ble_eq_true rfl⟩ (fun v Z1 H locs hpost hH hS => ?_)
  obtain ⟨rfl, rfl⟩ := hpost
  refine cSt S (c_X2_sizeOrNone (l := l) (D := D) (lo := lo) (Γ := Γ) (sz := sz) (si := si) (P := P) (bi := bi) (tu := tu) (M := M) (V := V) (r := some (lca (T r) a b)) (fun w hw => by cases hw; exact (htr.2.2.2.2.2 _ (lca_mem hin_a hin_b)).1)) (va_cwS 1 hts gX2_meet_X2_sizeOrNone rfl rfl rfl (by decide +kernel) ⟨Nat.le_of_ble_eq_true rfl, Nat.le_of_ble_eq_true rfl⟩) hK hH hS rfl hl.1 rfl (Nat.le_of_ble_eq_true rfl) dX2_meet_32 ⟨Nat.le_of_ble_eq_true rfl, Nat.le_of_ble_eq_true rfl⟩ (fun v Z1 H locs hpost hH hS => ?_)
  obtain ⟨rfl, rfl⟩ := hpost
  refine W.widen (k := 3) (n := 18) (Nat.le_of_ble_eq_true rfl) (Nat.le_of_ble_eq_true rfl) ?_
  exact vx_ret (eI S hr hlocks hH hS ⟨by simp [qm, hrow, hfa, hfa2], by simp [qm, hrow, hfa, hfa2, er], L, K, si, P, rfl, hc0⟩ dX2_meet_35)

set_option maxRecDepth 100000 in
set_option maxHeartbeats 4000000 in
theorem c_X2_plantDepth {o : Nat} {T : Nat → Tr} {row x : Int32} (hst : l.stackTraces = false) (hc : CI Γ o T L K sz si P) : Mx l yX2_plantDepth wsX2_plantDepth (rmL 7 2 12) D lo Γ [.ref o, .int row, .int x] ((L, K, sz, si, P, bi, tu), M, V) (PoI Γ o T sz bi tu M V (qp T sz row x)) (PxI Γ o T sz bi tu M V (qp T sz row x) en3) := by
  refine Mx_of (cc := cX2_plantDepth) (maxL := 5) (ret := (some .int)) (by decide) rfl (Nat.le_of_ble_eq_true rfl) ?_
  intro p e s m args below meth c ls S hr hlocks hK hH hS hX ht hl
  have hx := S.1
  have hb := S.2.1
  have hts := S.2.2.2.2
  have f130 : (Cond.fieldLink RX2 130 (TX0 0).1 (TX0 0).2.1 (TX0 0).2.2.1).before args s = true := hts _ (List.mem_of_getElem? (i := 1) rfl)
  have hi0 : ∀ w ∈ wsX00, w ∈ wsX2_plantDepth := by decide +kernel
  have hl : lv_has ls 5 [(0, .ref o), (1, .int row), (2, .int x)] := hl
  have hc0 := hc
  obtain ⟨hg, c_t, c_nd, c_si, c_inj, c_40⟩ := hc
  obtain ⟨ok_o, o_u, ok_ra, ok_tt, tt_ne, ta_inj⟩ := hg
  refine lv_aload_n hx hb dX2_plantDepth_0 rfl (lv_at hl 0 rfl) ?_
  refine lv_iload_n hx hb dX2_plantDepth_1 rfl (lv_at hl 1 rfl) ?_
  refine cVx S (c_X2_treeOf (l := l) (D := D) (lo := lo) (Γ := Γ) (sz := sz) (si := si) (P := P) (bi := bi) (tu := tu) (M := M) (V := V) (row := row) hst hc0) (cwV 1 hts gX2_plantDepth_X2_treeOf rfl rfl rfl (by decide +kernel) ⟨Nat.le_of_ble_eq_true rfl, Nat.le_of_ble_eq_true rfl⟩) hK hH hX (Hp_recv hK hH ok_o.1 ok_o.2 rfl) hS rfl hl.1 rfl (by simp [cat_rf, Value.category]) dX2_plantDepth_2 ⟨Nat.le_of_ble_eq_true rfl, Nat.le_of_ble_eq_true rfl⟩ (fun E Z1 H locs ce q9 hpx hH hS hce hcv hcl => ?_) (fun v Z1 H locs hpost hH hS => ?_)
  · obtain ⟨rfl, hrow, rfl⟩ := hpx
    exact xO ht hlocks ⟨by simp [qp, hrow], by simp [qp, hrow, en3], L, K, si, P, rfl, hc0⟩ hH hS hce hcv hcl (Nat.le_of_ble_eq_true rfl) (Nat.le_of_ble_eq_true rfl)
  obtain ⟨r, hrow, rfl, rfl⟩ := hpost
  have hr6 := (rowN_some hrow).1
  have htr := (c_t r hr6).1
  have ok_t : gta Γ r ∈ L ∧ K (gta Γ r) = 1 := ⟨htr.1, htr.2.1⟩
  refine lv_astore_n (lv' := [(3, .ref (gta Γ r)), (0, .ref o), (1, .int row), (2, .int x)]) hx hb dX2_plantDepth_5 rfl hl (by decide) rfl (fun ls hl => ?_)
  refine lv_iload_n hx hb dX2_plantDepth_6 rfl (lv_at hl 3 rfl) ?_
  refine cSx S (c_X2_checkSize (l := l) (D := D) (lo := lo) (Γ := Γ) (sz := sz) (si := si) (P := P) (bi := bi) (tu := tu) (M := M) (V := V) (x := x) hst) (va_cwS 1 hts gX2_plantDepth_X2_checkSize rfl rfl rfl (by decide +kernel) ⟨Nat.le_of_ble_eq_true rfl, Nat.le_of_ble_eq_true rfl⟩) hK hH hX hS rfl hl.1 rfl (by simp [cat_rf, Value.category]) dX2_plantDepth_7 ⟨Nat.le_of_ble_eq_true rfl, Nat.le_of_ble_eq_true rfl⟩ (fun E Z1 H locs ce q9 hpx hH hS hce hcv hcl => ?_) (fun v Z1 H locs hpost hH hS => ?_)
  · obtain ⟨rfl, hsz, rfl⟩ := hpx
    exact xO ht hlocks ⟨by simp [qp, hrow, hsz], by simp [qp, hrow, hsz, en3], L, K, si, P, rfl, hc0⟩ hH hS hce hcv hcl (Nat.le_of_ble_eq_true rfl) (Nat.le_of_ble_eq_true rfl)
  obtain ⟨n, hsz, rfl, rfl⟩ := hpost
  obtain ⟨hn1000, hxn⟩ := szN_some hsz
  subst hxn
  have hzn : (nI n).toInt = (n : Int) := nI_toInt (by omega)
  refine lv_aload_n hx hb dX2_plantDepth_10 rfl (lv_at hl 0 rfl) ?_
  refine lv_iload_n hx hb dX2_plantDepth_11 rfl (lv_at hl 3 rfl) ?_
  refine cV S (c_X1_nearest (l := l) (D := D) (lo := lo) (Γ := Γ) (sz := sz) (si := si) (P := P) (bi := bi) (tu := tu) (M := M) (V := V) (x := nI n) htr) (cwV 1 hts gX2_plantDepth_X1_nearest rfl rfl rfl (by decide +kernel) ⟨Nat.le_of_ble_eq_true rfl, Nat.le_of_ble_eq_true rfl⟩) hK hH (Hp_recv hK hH ok_t.1 ok_t.2 rfl) hS rfl hl.1 rfl (Nat.le_of_ble_eq_true rfl) dX2_plantDepth_12 ⟨Nat.le_of_ble_eq_true rfl, Nat.le_of_ble_eq_true rfl⟩ (fun v Z1 H locs hpost hH hS => ?_)
  obtain ⟨rfl, rfl⟩ := hpost
  rw [hzn]
  refine lq_astore (i := 4) (lv' := [(3, .ref (gta Γ r)), (0, .ref o), (1, .int row), (2, .int (nI n))]) S dX2_plantDepth_15 hl (by decide) rfl (fun ls hl => ?_)
  refine lq_aload S dX2_plantDepth_17 (lv_at hl 0 rfl) ?_
  refine lq_ifnonnull S dX2_plantDepth_19 (tgt := 24) (by decide) (fun b hq => ?_) (fun hq => ?_)
  · skip
    have hbT := nrs_mem hq
    have ok_b := (htr.2.2.2.2.2 b hbT).1
    have hb9 := (htr.2.2.2.2.2 b hbT).2
    rw [hq] at hl
    refine lv_aload hx hb dX2_plantDepth_24 (lv_at hl 0 rfl) ?_
    refine gA S hi0 hK hH ok_b 0 (by decide) f130 (v := .int (nI (sz b))) rfl dX2_plantDepth_26 ?_
    refine lv_iload_n hx hb dX2_plantDepth_29 rfl (lv_at hl 4 rfl) ?_
    refine lv_icmp_ne (tgt := 37) hx hb dX2_plantDepth_30 (by decide) (fun h1 => ?_) (fun h1 => ?_)
    · skip
      have hbn : ¬ (n : Int) = (sz b : Int) := fun q => h1 (by rw [show n = sz b by omega])
      have hf := nrs_ne hq hbn
      have hq9 := hq
      rw [nrs, hf] at hq9
      obtain ⟨dpt, hd1, hd2⟩ := inc_UC htr.2.2.2.1 hq9
      refine lv_aload hx hb dX2_plantDepth_37 (lv_at hl 0 rfl) ?_
      refine cV S (c_X0_depth (l := l) (D := D) (lo := lo) (Γ := Γ) (sz := sz) (si := si) (P := P) (bi := bi) (tu := tu) (M := M) (V := V) (d := dpt) ok_b hd1) (cwV 0 hts gX2_plantDepth_X0_depth rfl rfl rfl (by decide +kernel) ⟨Nat.le_of_ble_eq_true rfl, Nat.le_of_ble_eq_true rfl⟩) hK hH (Hp_recv hK hH ok_b.1 ok_b.2 rfl) hS rfl hl.1 rfl (Nat.le_of_ble_eq_true rfl) dX2_plantDepth_39 ⟨Nat.le_of_ble_eq_true rfl, Nat.le_of_ble_eq_true rfl⟩ (fun v Z1 H locs hpost hH hS => ?_)
      obtain ⟨rfl, rfl⟩ := hpost
      refine lv_iconst (v := 1) hx hb dX2_plantDepth_42 (by decide) ?_
      refine lv_iadd hx hb dX2_plantDepth_43 ?_
      refine W.widen (k := 2) (n := 12) (Nat.le_of_ble_eq_true rfl) (Nat.le_of_ble_eq_true rfl) ?_
      exact vx_ret (eI S hr hlocks hH hS ⟨by simp [qp, hrow, hsz], by simp [qp, hrow, hsz, hf, nI_1, hd2], L, K, si, P, rfl, hc0⟩ dX2_plantDepth_44)
    · skip
      have hf := nrs_eq hq (by rw [(nI_eq (by omega) (by omega)).mp h1])
      refine lv_iconst (v := -1) hx hb dX2_plantDepth_33 (by decide) ?_
      refine lv_goto (tgt := 44) hx hb dX2_plantDepth_34 (by decide) ?_
      refine W.widen (k := 2) (n := 12) (Nat.le_of_ble_eq_true rfl) (Nat.le_of_ble_eq_true rfl) ?_
      exact vx_ret (eI S hr hlocks hH hS ⟨by simp [qp, hrow, hsz], by simp [qp, hrow, hsz, hf], L, K, si, P, rfl, hc0⟩ dX2_plantDepth_44)
  · skip
    have hf := nrs_fnd0 hq
    have hi9 := hq
    rw [nrs, hf] at hi9
    have hi8 : inc sz (n : Int) (T r) [] = [] := parC_none hi9
    refine lv_iconst (v := 0) hx hb dX2_plantDepth_22 (by decide) ?_
    refine W.widen (k := 2) (n := 12) (Nat.le_of_ble_eq_true rfl) (Nat.le_of_ble_eq_true rfl) ?_
    exact vx_ret (eI S hr hlocks hH hS ⟨by simp [qp, hrow, hsz], by simp [qp, hrow, hsz, hf, hi8]; rfl, L, K, si, P, rfl, hc0⟩ dX2_plantDepth_23)

set_option maxRecDepth 100000 in
set_option maxHeartbeats 4000000 in
theorem c_X2_bringUp {o t0 a : Nat} {lt r9 : Tr} {C : Cx} (ok_o : o ∈ L ∧ K o = 2) (o_u : ∀ b, b ∈ L → K b = 2 → b = o) (ok_t0 : t0 ∈ L ∧ K t0 = 1) (hz : Zp P (.branch a lt r9) C) (hn : (tids (plug (.branch a lt r9) C)).Nodup) (hok : ∀ b ∈ tids (plug (.branch a lt r9) C), okA L K b) (h40 : C.length < 1000) : Md l yX2_bringUp wsX2_bringUp (rmL 4 0 0) D lo Γ [.ref o, .ref t0, .ref a] ((L, K, sz, si, P, bi, tu), M, V) (some (.int (nI C.length))) ((L, K, sz, si, sP (rai a C P) 3 t0 (some a), bi, tu + C.length), M, V) := by
  refine Mz_of (cc := cX2_bringUp) (maxL := 4) (ret := (some .int)) (by decide) rfl (Nat.le_of_ble_eq_true rfl) ?_
  intro p e s m args below meth c ls S hr hlocks hK hH hS hl
  have hx := S.1
  have hb := S.2.1
  have hts := S.2.2.2.2
  have f102 : (Cond.fieldLink RX2 102 (TX2 2).1 (TX2 2).2.1 (TX2 2).2.2.1).before args s = true := hts _ (List.mem_of_getElem? (i := 1) rfl)
  have hi2 : ∀ w ∈ wsX20, w ∈ wsX2_bringUp := by decide +kernel
  have hl : lv_has ls 4 [(0, .ref o), (1, .ref t0), (2, .ref a)] := hl
  refine lv_aload_n hx hb dX2_bringUp_0 rfl (lv_at hl 1 rfl) ?_
  refine lv_aload_n hx hb dX2_bringUp_1 rfl (lv_at hl 2 rfl) ?_
  refine cV S (c_X1_bringUp (l := l) (D := D) (lo := lo) (Γ := Γ) (sz := sz) (si := si) (P := P) (bi := bi) (tu := tu) (M := M) (V := V) ok_t0 hz hn hok h40) (cwV 1 hts gX2_bringUp_X1_bringUp rfl rfl rfl (by decide +kernel) ⟨Nat.le_of_ble_eq_true rfl, Nat.le_of_ble_eq_true rfl⟩) hK hH (Hp_recv hK hH ok_t0.1 ok_t0.2 rfl) hS rfl hl.1 rfl (Nat.le_of_ble_eq_true rfl) dX2_bringUp_2 ⟨Nat.le_of_ble_eq_true rfl, Nat.le_of_ble_eq_true rfl⟩ (fun v Z1 H locs hpost hH hS => ?_)
  obtain ⟨rfl, rfl⟩ := hpost
  refine lv_istore_n (lv' := [(3, .int (nI C.length)), (0, .ref o), (1, .ref t0), (2, .ref a)]) hx hb dX2_bringUp_5 rfl hl (by decide) rfl (fun ls hl => ?_)
  refine lv_aload_n hx hb dX2_bringUp_6 rfl (lv_at hl 1 rfl) ?_
  refine lv_dup hx hb dX2_bringUp_7 rfl ?_
  refine gO S hi2 hK hH ok_o.1 ok_o.2 2 (by decide) f102 (v := .int (nI tu)) rfl dX2_bringUp_8 ?_
  refine lv_iload_n hx hb dX2_bringUp_11 rfl (lv_at hl 0 rfl) ?_
  refine lv_iadd hx hb dX2_bringUp_12 ?_
  rw [nI_add]
  refine pO S hi2 hK hH hS ok_o.1 ok_o.2 o_u (tu + C.length) f102 rfl dX2_bringUp_13 (fun H locs hH hS => ?_)
  refine lv_iload_n hx hb dX2_bringUp_16 rfl (lv_at hl 0 rfl) ?_
  exact eI S hr hlocks hH hS ⟨rfl, rfl⟩ dX2_bringUp_17

set_option maxRecDepth 100000 in
set_option maxHeartbeats 4000000 in
theorem c_X2_tryEating {o r a : Nat} {T : Nat → Tr} (hc : CI Γ o T L K sz si P) (hr6 : r < 6) (ha : a ∈ tids (T r)) : Md l yX2_tryEating wsX2_tryEating (rmL 4 0 0) D lo Γ [.ref o, .ref (gta Γ r), .ref a] ((L, K, sz, si, P, bi, tu), M, V) none ((L, K, sz, si, tryP P si (gtt Γ) (T r) a, bi, tu), M, V) := by
  refine Mz_of (cc := cX2_tryEating) (maxL := 4) (ret := none) (by decide) rfl (Nat.le_of_ble_eq_true rfl) ?_
  intro p e s m args below meth c ls S hr hlocks hK hH hS hl
  have hx := S.1
  have hb := S.2.1
  have hts := S.2.2.2.2
  have f16 : (Cond.fieldLink RX2 16 (TX2 1).1 (TX2 1).2.1 (TX2 1).2.2.1).before args s = true := hts _ (List.mem_of_getElem? (i := 1) rfl)
  have f221 : (Cond.fieldLink RX2 221 (TX0 1).1 (TX0 1).2.1 (TX0 1).2.2.1).before args s = true := hts _ (List.mem_of_getElem? (i := 2) rfl)
  have hi0 : ∀ w ∈ wsX00, w ∈ wsX2_tryEating := by decide +kernel
  have hi2 : ∀ w ∈ wsX20, w ∈ wsX2_tryEating := by decide +kernel
  have hl : lv_has ls 4 [(0, .ref o), (1, .ref (gta Γ r)), (2, .ref a)] := hl
  have hc0 := hc
  obtain ⟨hg, c_t, c_nd, c_si, c_inj, c_40⟩ := hc
  obtain ⟨ok_o, o_u, ok_ra, ok_tt, tt_ne, ta_inj⟩ := hg
  have htr := (c_t r hr6).1
  have ok_t : gta Γ r ∈ L ∧ K (gta Γ r) = 1 := ⟨htr.1, htr.2.1⟩
  have ok_a := (htr.2.2.2.2.2 a ha).1
  obtain ⟨hT1, hP1, hsa⟩ := try_1 hc0 hr6 ha
  refine lv_aload_n hx hb dX2_tryEating_0 rfl (lv_at hl 0 rfl) ?_
  refine gO S hi2 hK hH ok_o.1 ok_o.2 1 (by decide) f16 (v := .ref (gtt Γ)) rfl dX2_tryEating_1 ?_
  refine lv_aload_n hx hb dX2_tryEating_4 rfl (lv_at hl 1 rfl) ?_
  refine cV S (c_X1_standInFor (l := l) (D := D) (lo := lo) (Γ := Γ) (sz := sz) (si := si) (P := P) (bi := bi) (tu := tu) (M := M) (V := V) ok_tt htr (try_si hc0 hr6)) (cwV 1 hts gX2_tryEating_X1_standInFor rfl rfl rfl (by decide +kernel) ⟨Nat.le_of_ble_eq_true rfl, Nat.le_of_ble_eq_true rfl⟩) hK hH (Hp_recv hK hH ok_tt.1 ok_tt.2 rfl) hS rfl hl.1 rfl (Nat.le_of_ble_eq_true rfl) dX2_tryEating_5 ⟨Nat.le_of_ble_eq_true rfl, Nat.le_of_ble_eq_true rfl⟩ (fun v Z1 H locs hpost hH hS => ?_)
  obtain ⟨rfl, rfl⟩ := hpost
  refine lv_aload_n hx hb dX2_tryEating_8 rfl (lv_at hl 2 rfl) ?_
  refine gA S hi0 hK hH ok_a 1 (by decide) f221 (v := .ref (sig si a)) (by show some (va_rf (si a)) = _; rw [hsa]; rfl) dX2_tryEating_9 ?_
  refine lv_astore_n (lv' := [(3, .ref (sig si a)), (0, .ref o), (1, .ref (gta Γ r)), (2, .ref a)]) hx hb dX2_tryEating_12 rfl hl (by decide) rfl (fun ls hl => ?_)
  refine lv_aload_n hx hb dX2_tryEating_13 rfl (lv_at hl 0 rfl) ?_
  refine lv_ifnull hx hb dX2_tryEating_14 ?_
  refine lv_aload_n hx hb dX2_tryEating_17 rfl (lv_at hl 1 rfl) ?_
  refine gO S hi2 hK hH ok_o.1 ok_o.2 1 (by decide) f16 (v := .ref (gtt Γ)) rfl dX2_tryEating_18 ?_
  refine lv_aload_n hx hb dX2_tryEating_21 rfl (lv_at hl 0 rfl) ?_
  refine cV S (c_X1_bringUp (l := l) (D := D) (lo := lo) (Γ := Γ) (sz := sz) (si := si) (P := (try1 P si (gtt Γ) (T r))) (bi := bi) (tu := tu) (M := M) (V := V) (C := mpC (sig si) (zof (T r) a).2.2.2) ok_tt (try_z hT1 ha) (by rw [try_plug ha]; exact hT1.2.2.2.2.1) (fun b hb9 => (hT1.2.2.2.2.2 b (by rw [← try_plug ha]; exact hb9)).1) (by rw [mpC_length]; have h8 := cx_len (zof_in ha).1; have h9 := gids_le (T := T) hr6; omega)) (cwV 1 hts gX2_tryEating_X1_bringUp rfl rfl rfl (by decide +kernel) ⟨Nat.le_of_ble_eq_true rfl, Nat.le_of_ble_eq_true rfl⟩) hK hH (Hp_recv hK hH ok_tt.1 ok_tt.2 rfl) hS rfl hl.1 rfl (Nat.le_of_ble_eq_true rfl) dX2_tryEating_22 ⟨Nat.le_of_ble_eq_true rfl, Nat.le_of_ble_eq_true rfl⟩ (fun v Z1 H locs hpost hH hS => ?_)
  obtain ⟨rfl, rfl⟩ := hpost
  refine lv_pop hx hb dX2_tryEating_25 rfl ?_
  exact eV S hr hlocks hH hS ⟨rfl, rfl⟩ dX2_tryEating_26

set_option maxRecDepth 100000 in
set_option maxHeartbeats 4000000 in
theorem c_X2_heightBehind {o : Nat} {T : Nat → Tr} {row x : Int32} (hst : l.stackTraces = false) (hc : CI Γ o T L K sz si P) : Mx l yX2_heightBehind wsX2_heightBehind (rmL 7 2 12) D lo Γ [.ref o, .int row, .int x] ((L, K, sz, si, P, bi, tu), M, V) (PoI Γ o T sz bi tu M V (qa T sz row x (fun r a => nI (hgt (spz (zof (T r) a)))))) (PxI Γ o T sz bi tu M V (qa T sz row x (fun r a => nI (hgt (spz (zof (T r) a))))) en2) := by
  refine Mx_of (cc := cX2_heightBehind) (maxL := 4) (ret := (some .int)) (by decide) rfl (Nat.le_of_ble_eq_true rfl) ?_
  intro p e s m args below meth c ls S hr hlocks hK hH hS hX ht hl
  have hx := S.1
  have hb := S.2.1
  have hts := S.2.2.2.2
  have f16 : (Cond.fieldLink RX2 16 (TX2 1).1 (TX2 1).2.1 (TX2 1).2.2.1).before args s = true := hts _ (List.mem_of_getElem? (i := 1) rfl)
  have hi2 : ∀ w ∈ wsX20, w ∈ wsX2_heightBehind := by decide +kernel
  have hl : lv_has ls 4 [(0, .ref o), (1, .int row), (2, .int x)] := hl
  have hc0 := hc
  obtain ⟨hg, c_t, c_nd, c_si, c_inj, c_40⟩ := hc
  obtain ⟨ok_o, o_u, ok_ra, ok_tt, tt_ne, ta_inj⟩ := hg
  refine lv_aload_n hx hb dX2_heightBehind_0 rfl (lv_at hl 0 rfl) ?_
  refine lv_iload_n hx hb dX2_heightBehind_1 rfl (lv_at hl 1 rfl) ?_
  refine cVx S (c_X2_treeOf (l := l) (D := D) (lo := lo) (Γ := Γ) (sz := sz) (si := si) (P := P) (bi := bi) (tu := tu) (M := M) (V := V) (row := row) hst hc0) (cwV 1 hts gX2_heightBehind_X2_treeOf rfl rfl rfl (by decide +kernel) ⟨Nat.le_of_ble_eq_true rfl, Nat.le_of_ble_eq_true rfl⟩) hK hH hX (Hp_recv hK hH ok_o.1 ok_o.2 rfl) hS rfl hl.1 rfl (by simp [cat_rf, Value.category]) dX2_heightBehind_2 ⟨Nat.le_of_ble_eq_true rfl, Nat.le_of_ble_eq_true rfl⟩ (fun E Z1 H locs ce q9 hpx hH hS hce hcv hcl => ?_) (fun v Z1 H locs hpost hH hS => ?_)
  · obtain ⟨rfl, hrow, rfl⟩ := hpx
    exact xO ht hlocks (PxI_a1 hrow hc0) hH hS hce hcv hcl (Nat.le_of_ble_eq_true rfl) (Nat.le_of_ble_eq_true rfl)
  obtain ⟨r, hrow, rfl, rfl⟩ := hpost
  have hr6 := (rowN_some hrow).1
  have htr := (c_t r hr6).1
  have ok_t : gta Γ r ∈ L ∧ K (gta Γ r) = 1 := ⟨htr.1, htr.2.1⟩
  refine lv_astore_n (lv' := [(3, .ref (gta Γ r)), (0, .ref o), (1, .int row), (2, .int x)]) hx hb dX2_heightBehind_5 rfl hl (by decide) rfl (fun ls hl => ?_)
  refine lv_aload_n hx hb dX2_heightBehind_6 rfl (lv_at hl 1 rfl) ?_
  refine lv_aload_n hx hb dX2_heightBehind_7 rfl (lv_at hl 0 rfl) ?_
  refine lv_aload_n hx hb dX2_heightBehind_8 rfl (lv_at hl 0 rfl) ?_
  refine lv_iload_n hx hb dX2_heightBehind_9 rfl (lv_at hl 3 rfl) ?_
  refine cSx S (c_X2_appleOf (l := l) (D := D) (lo := lo) (Γ := Γ) (sz := sz) (si := si) (P := P) (bi := bi) (tu := tu) (M := M) (V := V) (x := x) hst htr) (va_cwS 2 hts gX2_heightBehind_X2_appleOf rfl rfl rfl (by decide +kernel) ⟨Nat.le_of_ble_eq_true rfl, Nat.le_of_ble_eq_true rfl⟩) hK hH hX hS rfl hl.1 rfl (by simp [cat_rf, Value.category]) dX2_heightBehind_10 ⟨Nat.le_of_ble_eq_true rfl, Nat.le_of_ble_eq_true rfl⟩ (fun E Z1 H locs ce q9 hpx hH hS hce hcv hcl => ?_) (fun v Z1 H locs hpost hH hS => ?_)
  · obtain ⟨rfl, hfa, rfl⟩ := hpx
    exact xO ht hlocks (PxI_a2 hrow hfa hc0) hH hS hce hcv hcl (Nat.le_of_ble_eq_true rfl) (Nat.le_of_ble_eq_true rfl)
  obtain ⟨a, hfa, rfl, rfl⟩ := hpost
  have hin_a := (fnd_mem _ _ hfa).1
  have ok_a := (htr.2.2.2.2.2 a hin_a).1
  refine cV S (c_X2_tryEating (l := l) (D := D) (lo := lo) (Γ := Γ) (sz := sz) (si := si) (P := P) (bi := bi) (tu := tu) (M := M) (V := V) hc0 hr6 hin_a) (cwV 2 hts gX2_heightBehind_X2_tryEating rfl rfl rfl (by decide +kernel) ⟨Nat.le_of_ble_eq_true rfl, Nat.le_of_ble_eq_true rfl⟩) hK hH (Hp_recv hK hH ok_o.1 ok_o.2 rfl) hS rfl hl.1 rfl (Nat.le_of_ble_eq_true rfl) dX2_heightBehind_13 ⟨Nat.le_of_ble_eq_true rfl, Nat.le_of_ble_eq_true rfl⟩ (fun v Z1 H locs hpost hH hS => ?_)
  obtain ⟨rfl, rfl⟩ := hpost
  obtain ⟨hc2, hT2⟩ := try_ok hc0 hr6 hin_a
  refine lv_aload_n hx hb dX2_heightBehind_16 rfl (lv_at hl 1 rfl) ?_
  refine gO S hi2 hK hH ok_o.1 ok_o.2 1 (by decide) f16 (v := .ref (gtt Γ)) rfl dX2_heightBehind_17 ?_
  refine cV S (c_X1_levels (l := l) (D := D) (lo := lo) (Γ := Γ) (sz := sz) (si := si) (P := (tryP P si (gtt Γ) (T r) a)) (bi := bi) (tu := tu) (M := M) (V := V) hT2 (by rw [mp_tids, List.length_map, spz_tids hin_a]; have := gids_le (T := T) hr6; omega)) (cwV 0 hts gX2_heightBehind_X1_levels rfl rfl rfl (by decide +kernel) ⟨Nat.le_of_ble_eq_true rfl, Nat.le_of_ble_eq_true rfl⟩) hK hH (Hp_recv hK hH ok_tt.1 ok_tt.2 rfl) hS rfl hl.1 rfl (Nat.le_of_ble_eq_true rfl) dX2_heightBehind_20 ⟨Nat.le_of_ble_eq_true rfl, Nat.le_of_ble_eq_true rfl⟩ (fun v Z1 H locs hpost hH hS => ?_)
  obtain ⟨rfl, rfl⟩ := hpost
  rw [mp_hgt]
  refine W.widen (k := 2) (n := 12) (Nat.le_of_ble_eq_true rfl) (Nat.le_of_ble_eq_true rfl) ?_
  exact vx_ret (eI S hr hlocks hH hS (PoI_a hrow hfa hc2) dX2_heightBehind_23)

set_option maxRecDepth 100000 in
set_option maxHeartbeats 4000000 in
theorem c_X2_depthBehind {o : Nat} {T : Nat → Tr} {row x y : Int32} (hst : l.stackTraces = false) (hc : CI Γ o T L K sz si P) : Mx l yX2_depthBehind wsX2_depthBehind (rmL 7 3 18) D lo Γ [.ref o, .int row, .int x, .int y] ((L, K, sz, si, P, bi, tu), M, V) (PoI Γ o T sz bi tu M V (qd T sz row x y)) (PxI Γ o T sz bi tu M V (qd T sz row x y) en2) := by
  refine Mx_of (cc := cX2_depthBehind) (maxL := 5) (ret := (some .int)) (by decide) rfl (Nat.le_of_ble_eq_true rfl) ?_
  intro p e s m args below meth c ls S hr hlocks hK hH hS hX ht hl
  have hx := S.1
  have hb := S.2.1
  have hts := S.2.2.2.2
  have f16 : (Cond.fieldLink RX2 16 (TX2 1).1 (TX2 1).2.1 (TX2 1).2.2.1).before args s = true := hts _ (List.mem_of_getElem? (i := 1) rfl)
  have hi2 : ∀ w ∈ wsX20, w ∈ wsX2_depthBehind := by decide +kernel
  have hl : lv_has ls 5 [(0, .ref o), (1, .int row), (2, .int x), (3, .int y)] := hl
  have hc0 := hc
  obtain ⟨hg, c_t, c_nd, c_si, c_inj, c_40⟩ := hc
  obtain ⟨ok_o, o_u, ok_ra, ok_tt, tt_ne, ta_inj⟩ := hg
  refine lv_aload_n hx hb dX2_depthBehind_0 rfl (lv_at hl 0 rfl) ?_
  refine lv_iload_n hx hb dX2_depthBehind_1 rfl (lv_at hl 1 rfl) ?_
  refine cVx S (c_X2_treeOf (l := l) (D := D) (lo := lo) (Γ := Γ) (sz := sz) (si := si) (P := P) (bi := bi) (tu := tu) (M := M) (V := V) (row := row) hst hc0) (cwV 1 hts gX2_depthBehind_X2_treeOf rfl rfl rfl (by decide +kernel) ⟨Nat.le_of_ble_eq_true rfl, Nat.le_of_ble_eq_true rfl⟩) hK hH hX (Hp_recv hK hH ok_o.1 ok_o.2 rfl) hS rfl hl.1 rfl (by simp [cat_rf, Value.category]) dX2_depthBehind_2 ⟨Nat.le_of_ble_eq_true rfl, Nat.le_of_ble_eq_true rfl⟩ (fun E Z1 H locs ce q9 hpx hH hS hce hcv hcl => ?_) (fun v Z1 H locs hpost hH hS => ?_)
  · obtain ⟨rfl, hrow, rfl⟩ := hpx
    exact xO ht hlocks ⟨by simp [qd, hrow], by simp [qd, hrow, en2], L, K, si, P, rfl, hc0⟩ hH hS hce hcv hcl (Nat.le_of_ble_eq_true rfl) (Nat.le_of_ble_eq_true rfl)
  obtain ⟨r, hrow, rfl, rfl⟩ := hpost
  have hr6 := (rowN_some hrow).1
  have htr := (c_t r hr6).1
  have ok_t : gta Γ r ∈ L ∧ K (gta Γ r) = 1 := ⟨htr.1, htr.2.1⟩
  refine lv_astore (lv' := [(4, .ref (gta Γ r)), (0, .ref o), (1, .int row), (2, .int x), (3, .int y)]) hx hb dX2_depthBehind_5 hl (by decide) rfl (fun ls hl => ?_)
  refine lv_aload_n hx hb dX2_depthBehind_7 rfl (lv_at hl 1 rfl) ?_
  refine lv_aload hx hb dX2_depthBehind_8 (lv_at hl 0 rfl) ?_
  refine lv_aload hx hb dX2_depthBehind_10 (lv_at hl 0 rfl) ?_
  refine lv_iload_n hx hb dX2_depthBehind_12 rfl (lv_at hl 3 rfl) ?_
  refine cSx S (c_X2_appleOf (l := l) (D := D) (lo := lo) (Γ := Γ) (sz := sz) (si := si) (P := P) (bi := bi) (tu := tu) (M := M) (V := V) (x := x) hst htr) (va_cwS 2 hts gX2_depthBehind_X2_appleOf rfl rfl rfl (by decide +kernel) ⟨Nat.le_of_ble_eq_true rfl, Nat.le_of_ble_eq_true rfl⟩) hK hH hX hS rfl hl.1 rfl (by simp [cat_rf, Value.category]) dX2_depthBehind_13 ⟨Nat.le_of_ble_eq_true rfl, Nat.le_of_ble_eq_true rfl⟩ (fun E Z1 H locs ce q9 hpx hH hS hce hcv hcl => ?_) (fun v Z1 H locs hpost hH hS => ?_)
  · obtain ⟨rfl, hfa, rfl⟩ := hpx
    exact xO ht hlocks ⟨by simp [qd, hrow, hfa], by simp [qd, hrow, hfa, en2], L, K, si, P, rfl, hc0⟩ hH hS hce hcv hcl (Nat.le_of_ble_eq_true rfl) (Nat.le_of_ble_eq_true rfl)
  obtain ⟨a, hfa, rfl, rfl⟩ := hpost
  have hin_a := (fnd_mem _ _ hfa).1
  have ok_a := (htr.2.2.2.2.2 a hin_a).1
  refine cV S (c_X2_tryEating (l := l) (D := D) (lo := lo) (Γ := Γ) (sz := sz) (si := si) (P := P) (bi := bi) (tu := tu) (M := M) (V := V) hc0 hr6 hin_a) (cwV 2 hts gX2_depthBehind_X2_tryEating rfl rfl rfl (by decide +kernel) ⟨Nat.le_of_ble_eq_true rfl, Nat.le_of_ble_eq_true rfl⟩) hK hH (Hp_recv hK hH ok_o.1 ok_o.2 rfl) hS rfl hl.1 rfl (Nat.le_of_ble_eq_true rfl) dX2_depthBehind_16 ⟨Nat.le_of_ble_eq_true rfl, Nat.le_of_ble_eq_true rfl⟩ (fun v Z1 H locs hpost hH hS => ?_)
  obtain ⟨rfl, rfl⟩ := hpost
  obtain ⟨hc2, hT2⟩ := try_ok hc0 hr6 hin_a
  refine lv_aload_n hx hb dX2_depthBehind_19 rfl (lv_at hl 1 rfl) ?_
  refine gO S hi2 hK hH ok_o.1 ok_o.2 1 (by decide) f16 (v := .ref (gtt Γ)) rfl dX2_depthBehind_20 ?_
  refine lv_iload_n hx hb dX2_depthBehind_23 rfl (lv_at hl 4 rfl) ?_
  have hfm := try_fnd (y := y.toInt) hc0 hr6 hin_a
  rcases hfb : fnd sz y.toInt (T r) with _ | b
  · skip
    refine cSx S (c_X2_appleOf (l := l) (D := D) (lo := lo) (Γ := Γ) (sz := sz) (si := si) (P := (tryP P si (gtt Γ) (T r) a)) (bi := bi) (tu := tu) (M := M) (V := V) (x := y) hst hT2) (va_cwS 2 hts gX2_depthBehind_X2_appleOf rfl rfl rfl (by decide +kernel) ⟨Nat.le_of_ble_eq_true rfl, Nat.le_of_ble_eq_true rfl⟩) hK hH hX hS rfl hl.1 rfl (by simp [cat_rf, Value.category]) dX2_depthBehind_24 ⟨Nat.le_of_ble_eq_true rfl, Nat.le_of_ble_eq_true rfl⟩ (fun E Z1 H locs ce q9 hpx hH hS hce hcv hcl => ?_) (fun v Z1 H locs hpost hH hS => ?_)
    · obtain ⟨rfl, hfa2, rfl⟩ := hpx
      exact xO ht hlocks ⟨by simp [qd, hrow, hfa, hfb], by simp [qd, hrow, hfa, hfb, en2], L, K, si, _, rfl, hc2⟩ hH hS hce hcv hcl (Nat.le_of_ble_eq_true rfl) (Nat.le_of_ble_eq_true rfl)
    obtain ⟨b2, hfa2, rfl, rfl⟩ := hpost
    rw [hfm, hfb] at hfa2
    cases hfa2
  · skip
    have hin_b := (fnd_mem _ _ hfb).1
    refine cSx S (c_X2_appleOf (l := l) (D := D) (lo := lo) (Γ := Γ) (sz := sz) (si := si) (P := (tryP P si (gtt Γ) (T r) a)) (bi := bi) (tu := tu) (M := M) (V := V) (x := y) hst hT2) (va_cwS 2 hts gX2_depthBehind_X2_appleOf rfl rfl rfl (by decide +kernel) ⟨Nat.le_of_ble_eq_true rfl, Nat.le_of_ble_eq_true rfl⟩) hK hH hX hS rfl hl.1 rfl (by simp [cat_rf, Value.category]) dX2_depthBehind_24 ⟨Nat.le_of_ble_eq_true rfl, Nat.le_of_ble_eq_true rfl⟩ (fun E Z1 H locs ce q9 hpx hH hS hce hcv hcl => ?_) (fun v Z1 H locs hpost hH hS => ?_)
    · obtain ⟨rfl, hfa2, rfl⟩ := hpx
      exact xO ht hlocks (by rw [hfm, hfb] at hfa2; cases hfa2) hH hS hce hcv hcl (Nat.le_of_ble_eq_true rfl) (Nat.le_of_ble_eq_true rfl)
    obtain ⟨b2, hfa2, rfl, rfl⟩ := hpost
    rw [hfm, hfb] at hfa2
    cases hfa2
    have hinb2 : b ∈ tids (spz (zof (T r) a)) := by rw [spz_tids hin_a]; exact hin_b
    have hinb3 : sig si b ∈ tids (mp (sig si) (spz (zof (T r) a))) := by rw [mp_tids]; exact List.mem_map.mpr ⟨b, hinb2, rfl⟩
    have ok_sb := (hT2.2.2.2.2.2 _ hinb3).1
    refine cV S (c_X0_depthA (l := l) (D := D) (lo := lo) (Γ := Γ) (sz := sz) (si := si) (P := (tryP P si (gtt Γ) (T r) a)) (bi := bi) (tu := tu) (M := M) (V := V) hT2 hinb3) (cwV 0 hts gX2_depthBehind_X0_depth rfl rfl rfl (by decide +kernel) ⟨Nat.le_of_ble_eq_true rfl, Nat.le_of_ble_eq_true rfl⟩) hK hH (Hp_recv hK hH ok_sb.1 ok_sb.2 rfl) hS rfl hl.1 rfl (Nat.le_of_ble_eq_true rfl) dX2_depthBehind_27 ⟨Nat.le_of_ble_eq_true rfl, Nat.le_of_ble_eq_true rfl⟩ (fun v Z1 H locs hpost hH hS => ?_)
    obtain ⟨rfl, rfl⟩ := hpost
    rw [zof_mp hT2.2.2.2.2.1 hinb2]
    dsimp only [mpZ]
    rw [mpC_length]
    refine W.widen (k := 3) (n := 18) (Nat.le_of_ble_eq_true rfl) (Nat.le_of_ble_eq_true rfl) ?_
    exact vx_ret (eI S hr hlocks hH hS ⟨by simp [qd, hrow, hfa, hfb], by simp [qd, hrow, hfa, hfb], L, K, si, _, rfl, hc2⟩ dX2_depthBehind_30)

set_option maxRecDepth 100000 in
set_option maxHeartbeats 4000000 in
theorem c_X2_bestToEat {o : Nat} {T : Nat → Tr} {row : Int32} (hst : l.stackTraces = false) (hc : CI Γ o T L K sz si P) : Mx l yX2_bestToEat wsX2_bestToEat (rmL 7 1 6) D lo Γ [.ref o, .int row] ((L, K, sz, si, P, bi, tu), M, V) (PoI Γ o T sz bi tu M V (qr row (fun r => er ((bst (T r)).map sz)))) (PxI Γ o T sz bi tu M V (qr row (fun r => er ((bst (T r)).map sz))) en2) := by
  refine Mx_of (cc := cX2_bestToEat) (maxL := 7) (ret := (some .int)) (by decide) rfl (Nat.le_of_ble_eq_true rfl) ?_
  intro p e s m args below meth c ls S hr hlocks hK hH hS hX ht hl
  have hx := S.1
  have hb := S.2.1
  have hts := S.2.2.2.2
  have f16 : (Cond.fieldLink RX2 16 (TX2 1).1 (TX2 1).2.1 (TX2 1).2.2.1).before args s = true := hts _ (List.mem_of_getElem? (i := 1) rfl)
  have hi2 : ∀ w ∈ wsX20, w ∈ wsX2_bestToEat := by decide +kernel
  have hl : lv_has ls 7 [(0, .ref o), (1, .int row)] := hl
  have hc0 := hc
  obtain ⟨hg, c_t, c_nd, c_si, c_inj, c_40⟩ := hc
  obtain ⟨ok_o, o_u, ok_ra, ok_tt, tt_ne, ta_inj⟩ := hg
  refine lv_aload_n hx hb dX2_bestToEat_0 rfl (lv_at hl 0 rfl) ?_
  refine lv_iload_n hx hb dX2_bestToEat_1 rfl (lv_at hl 1 rfl) ?_
  refine cVx S (c_X2_treeOf (l := l) (D := D) (lo := lo) (Γ := Γ) (sz := sz) (si := si) (P := P) (bi := bi) (tu := tu) (M := M) (V := V) (row := row) hst hc0) (cwV 1 hts gX2_bestToEat_X2_treeOf rfl rfl rfl (by decide +kernel) ⟨Nat.le_of_ble_eq_true rfl, Nat.le_of_ble_eq_true rfl⟩) hK hH hX (Hp_recv hK hH ok_o.1 ok_o.2 rfl) hS rfl hl.1 rfl (by simp [cat_rf, Value.category]) dX2_bestToEat_2 ⟨Nat.le_of_ble_eq_true rfl, Nat.le_of_ble_eq_true rfl⟩ (fun E Z1 H locs ce q9 hpx hH hS hce hcv hcl => ?_) (fun v Z1 H locs hpost hH hS => ?_)
  · obtain ⟨rfl, hrow, rfl⟩ := hpx
    exact xO ht hlocks (PxI_r hrow hc0) hH hS hce hcv hcl (Nat.le_of_ble_eq_true rfl) (Nat.le_of_ble_eq_true rfl)
  obtain ⟨r, hrow, rfl, rfl⟩ := hpost
  have hr6 := (rowN_some hrow).1
  have htr := (c_t r hr6).1
  have ok_t : gta Γ r ∈ L ∧ K (gta Γ r) = 1 := ⟨htr.1, htr.2.1⟩
  refine lv_astore_n (lv' := [(2, .ref (gta Γ r)), (0, .ref o), (1, .int row)]) hx hb dX2_bestToEat_5 rfl hl (by decide) rfl (fun ls hl => ?_)
  refine lv_null hx hb dX2_bestToEat_6 ?_
  refine lv_astore_nN (lv' := [(3, .null), (2, .ref (gta Γ r)), (0, .ref o), (1, .int row)]) hx hb dX2_bestToEat_7 rfl hl (by decide) rfl (fun ls hl => ?_)
  refine lv_iconst (v := 0) hx hb dX2_bestToEat_8 (by decide) ?_
  refine lv_istore (lv' := [(4, .int 0), (3, .null), (2, .ref (gta Γ r)), (0, .ref o), (1, .int row)]) hx hb dX2_bestToEat_9 hl (by decide) rfl (fun ls hl => ?_)
  refine lv_aload_n hx hb dX2_bestToEat_11 rfl (lv_at hl 2 rfl) ?_
  refine cV S (c_X1_first (l := l) (D := D) (lo := lo) (Γ := Γ) (sz := sz) (si := si) (P := P) (bi := bi) (tu := tu) (M := M) (V := V) htr) (cwV 0 hts gX2_bestToEat_X1_first rfl rfl rfl (by decide +kernel) ⟨Nat.le_of_ble_eq_true rfl, Nat.le_of_ble_eq_true rfl⟩) hK hH (Hp_recv hK hH ok_t.1 ok_t.2 rfl) hS rfl hl.1 rfl (Nat.le_of_ble_eq_true rfl) dX2_bestToEat_12 ⟨Nat.le_of_ble_eq_true rfl, Nat.le_of_ble_eq_true rfl⟩ (fun v Z1 H locs hpost hH hS => ?_)
  obtain ⟨rfl, rfl⟩ := hpost
  refine lq_astore (i := 5) (lv' := [(4, .int 0), (3, .null), (2, .ref (gta Γ r)), (0, .ref o), (1, .int row)]) S dX2_bestToEat_15 hl (by decide) rfl (fun ls hl => ?_)
  rw [← zs_ids (T r) []] at hl
  have loop : ∀ (post pre : List Zi) (best : Option Nat) (least : Nat) (P' : PF), zs (T r) [] = pre ++ post → (∀ b, best = some b → b ∈ tids (T r)) → least ≤ 1600 → (bstF post (best, least)).1 = bst (T r) → CI Γ o T L K sz si P' → ∀ H locs, Hp D lo Γ ((L, K, sz, si, P', bi, tu), M, V) H → va_S (lA lo) s.heap H locs → ∀ ls, lv_has ls 7 [(5, va_rf ((post.map (fun z => z.1)).head?)), (4, .int (nI least)), (3, va_rf best), (2, .ref (gta Γ r)), (0, .ref o)] → W p l e (rmL 7 1 6) s m args below meth c H locs 1 6 (vx_MQ below (Qz D lo Γ (PoI Γ o T sz bi tu M V (qr row (fun r => er ((bst (T r)).map sz))))) (XCz D lo Γ (PxI Γ o T sz bi tu M V (qr row (fun r => er ((bst (T r)).map sz))) en2)) args s 1 6 (lA lo)) (F0 m 17 ls []) := by
    intro post
    induction post with
    | nil =>
      intro pre best least P' hx2 hbm h1600 h3 hc H locs hH hS ls hl
      have h3 : best = bst (T r) := h3
      refine lv_aloadN hx hb dX2_bestToEat_17 (lv_at hl 0 rfl) ?_
      refine lv_ifnullN hx hb dX2_bestToEat_19 (tgt := 66) (by decide) ?_
      refine lq_aload_n S dX2_bestToEat_66 rfl (lv_at hl 2 rfl) ?_
      refine cSt S (c_X2_sizeOrNone (l := l) (D := D) (lo := lo) (Γ := Γ) (sz := sz) (si := si) (P := P') (bi := bi) (tu := tu) (M := M) (V := V) (r := best) (fun b h => ((hc.2.1 r hr6).1.2.2.2.2.2 b (hbm b h)).1)) (va_cwS 1 hts gX2_bestToEat_X2_sizeOrNone rfl rfl rfl (by decide +kernel) ⟨Nat.le_of_ble_eq_true rfl, Nat.le_of_ble_eq_true rfl⟩) hK hH hS rfl hl.1 rfl (Nat.le_of_ble_eq_true rfl) dX2_bestToEat_67 ⟨Nat.le_of_ble_eq_true rfl, Nat.le_of_ble_eq_true rfl⟩ (fun v Z1 H locs hpost hH hS => ?_)
      obtain ⟨rfl, rfl⟩ := hpost
      exact vx_ret (eI S hr hlocks hH hS (by rw [h3]; exact PoI_r (f := fun r => er ((bst (T r)).map sz)) hrow hc) dX2_bestToEat_70)
    | cons z post ih =>
      intro pre best least P' hx2 hbm h1600 h3 hc H locs hH hS ls hl
      have hzT : z ∈ zs (T r) [] := by rw [hx2]; simp
      have hin_z : z.1 ∈ tids (T r) := by rw [← zs_ids (T r) []]; exact List.mem_map.mpr ⟨z, hzT, rfl⟩
      have hzo : zof (T r) z.1 = z := zof_eq htr.2.2.2.2.1 hzT
      have ok_z := ((hc.2.1 r hr6).1.2.2.2.2.2 z.1 hin_z).1
      refine lv_aload hx hb dX2_bestToEat_17 (lv_at hl 0 rfl) ?_
      refine lv_ifnull hx hb dX2_bestToEat_19 ?_
      refine lv_aload_n hx hb dX2_bestToEat_22 rfl (lv_at hl 4 rfl) ?_
      refine lv_aload_n hx hb dX2_bestToEat_23 rfl (lv_at hl 3 rfl) ?_
      refine lv_aload hx hb dX2_bestToEat_24 (lv_at hl 0 rfl) ?_
      refine cV S (c_X2_tryEating (l := l) (D := D) (lo := lo) (Γ := Γ) (sz := sz) (si := si) (P := P') (bi := bi) (tu := tu) (M := M) (V := V) hc hr6 hin_z) (cwV 2 hts gX2_bestToEat_X2_tryEating rfl rfl rfl (by decide +kernel) ⟨Nat.le_of_ble_eq_true rfl, Nat.le_of_ble_eq_true rfl⟩) hK hH (Hp_recv hK hH ok_o.1 ok_o.2 rfl) hS rfl hl.1 rfl (Nat.le_of_ble_eq_true rfl) dX2_bestToEat_26 ⟨Nat.le_of_ble_eq_true rfl, Nat.le_of_ble_eq_true rfl⟩ (fun v Z1 H locs hpost hH hS => ?_)
      obtain ⟨rfl, rfl⟩ := hpost
      obtain ⟨hc2, hT2⟩ := try_ok hc hr6 hin_z
      rw [hzo] at hT2
      refine lv_aload_n hx hb dX2_bestToEat_29 rfl (lv_at hl 4 rfl) ?_
      refine gO S hi2 hK hH ok_o.1 ok_o.2 1 (by decide) f16 (v := .ref (gtt Γ)) rfl dX2_bestToEat_30 ?_
      refine cV S (c_X1_depthSum (l := l) (D := D) (lo := lo) (Γ := Γ) (sz := sz) (si := si) (P := (tryP P' si (gtt Γ) (T r) z.1)) (bi := bi) (tu := tu) (M := M) (V := V) hT2) (cwV 0 hts gX2_bestToEat_X1_depthSum rfl rfl rfl (by decide +kernel) ⟨Nat.le_of_ble_eq_true rfl, Nat.le_of_ble_eq_true rfl⟩) hK hH (Hp_recv hK hH ok_tt.1 ok_tt.2 rfl) hS rfl hl.1 rfl (Nat.le_of_ble_eq_true rfl) dX2_bestToEat_33 ⟨Nat.le_of_ble_eq_true rfl, Nat.le_of_ble_eq_true rfl⟩ (fun v Z1 H locs hpost hH hS => ?_)
      obtain ⟨rfl, rfl⟩ := hpost
      rw [mp_dsm]
      obtain ⟨sum9, hsum⟩ : ∃ n, n = dsm (spz z) 0 := ⟨_, rfl⟩
      rw [← hsum]
      have hsl : sum9 ≤ 1600 := by rw [hsum]; refine Nat.le_trans (dsm_le _) ?_; rw [← hzo, spz_tids hin_z]; have h8 := gids_le (T := T) hr6; exact Nat.le_trans (Nat.mul_le_mul (show _ ≤ 40 by omega) (show _ ≤ 40 by omega)) (by decide)
      rw [bstF, ← hsum] at h3
      refine lv_istore (lv' := [(6, .int (nI sum9)), (5, .ref z.1), (4, .int (nI least)), (3, va_rf best), (2, .ref (gta Γ r)), (0, .ref o)]) hx hb dX2_bestToEat_36 hl (by decide) rfl (fun ls hl => ?_)
      refine lq_aload_n S dX2_bestToEat_38 rfl (lv_at hl 3 rfl) ?_
      refine lq_ifnull S dX2_bestToEat_39 (tgt := 49) (by decide) (fun hq => ?_) (fun g hq => ?_)
      · skip
        subst hq
        rw [if_pos (Or.inl rfl)] at h3
        refine lv_aload hx hb dX2_bestToEat_49 (lv_at hl 1 rfl) ?_
        refine lv_astore_n (lv' := [(3, .ref z.1), (6, .int (nI sum9)), (5, .ref z.1), (4, .int (nI least)), (2, .ref (gta Γ r)), (0, .ref o)]) hx hb dX2_bestToEat_51 rfl hl (by decide) rfl (fun ls hl => ?_)
        refine lv_iload hx hb dX2_bestToEat_52 (lv_at hl 1 rfl) ?_
        refine lv_istore (lv' := [(4, .int (nI sum9)), (3, .ref z.1), (6, .int (nI sum9)), (5, .ref z.1), (2, .ref (gta Γ r)), (0, .ref o)]) hx hb dX2_bestToEat_54 hl (by decide) rfl (fun ls hl => ?_)
        refine lv_aload hx hb dX2_bestToEat_56 (lv_at hl 3 rfl) ?_
        refine cV S (c_X0_nextZ (l := l) (D := D) (lo := lo) (Γ := Γ) (sz := sz) (si := si) (P := (tryP P' si (gtt Γ) (T r) z.1)) (bi := bi) (tu := tu) (M := M) (V := V) ok_z (hc2.2.1 r hr6).1.2.2.2.1 htr.2.2.2.2.1 hx2) (cwV 0 hts gX2_bestToEat_X0_next rfl rfl rfl (by decide +kernel) ⟨Nat.le_of_ble_eq_true rfl, Nat.le_of_ble_eq_true rfl⟩) hK hH (Hp_recv hK hH ok_z.1 ok_z.2 rfl) hS rfl hl.1 rfl (Nat.le_of_ble_eq_true rfl) dX2_bestToEat_58 ⟨Nat.le_of_ble_eq_true rfl, Nat.le_of_ble_eq_true rfl⟩ (fun v Z1 H locs hpost hH hS => ?_)
        obtain ⟨rfl, rfl⟩ := hpost
        refine lq_astore (i := 5) (lv' := [(4, .int (nI sum9)), (3, .ref z.1), (6, .int (nI sum9)), (2, .ref (gta Γ r)), (0, .ref o)]) S dX2_bestToEat_61 hl (by decide) rfl (fun ls hl => ?_)
        refine lv_goto (tgt := 17) hx hb dX2_bestToEat_63 (by decide) ?_
        exact ih (pre ++ [z]) (some z.1) sum9 _ (by rw [hx2]; simp) (fun b h => by cases h; exact hin_z) (by omega) h3 hc2 H locs hH hS ls (lv_sub hl [0, 1, 2, 4, 5] rfl)
      · skip
        subst hq
        refine lv_iload hx hb dX2_bestToEat_42 (lv_at hl 0 rfl) ?_
        refine lv_iload hx hb dX2_bestToEat_44 (lv_at hl 2 rfl) ?_
        refine lv_icmp_ge (tgt := 56) hx hb dX2_bestToEat_46 (by decide) (fun h1 => ?_) (fun h1 => ?_)
        · skip
          have h1 := (nI_leI (by omega) (by omega)).mp h1
          rw [if_neg (fun q => by rcases q with q | q; cases q; omega)] at h3
          refine lv_aload hx hb dX2_bestToEat_56 (lv_at hl 1 rfl) ?_
          refine cV S (c_X0_nextZ (l := l) (D := D) (lo := lo) (Γ := Γ) (sz := sz) (si := si) (P := (tryP P' si (gtt Γ) (T r) z.1)) (bi := bi) (tu := tu) (M := M) (V := V) ok_z (hc2.2.1 r hr6).1.2.2.2.1 htr.2.2.2.2.1 hx2) (cwV 0 hts gX2_bestToEat_X0_next rfl rfl rfl (by decide +kernel) ⟨Nat.le_of_ble_eq_true rfl, Nat.le_of_ble_eq_true rfl⟩) hK hH (Hp_recv hK hH ok_z.1 ok_z.2 rfl) hS rfl hl.1 rfl (Nat.le_of_ble_eq_true rfl) dX2_bestToEat_58 ⟨Nat.le_of_ble_eq_true rfl, Nat.le_of_ble_eq_true rfl⟩ (fun v Z1 H locs hpost hH hS => ?_)
          obtain ⟨rfl, rfl⟩ := hpost
          refine lq_astore (i := 5) (lv' := [(6, .int (nI sum9)), (4, .int (nI least)), (3, .ref g), (2, .ref (gta Γ r)), (0, .ref o)]) S dX2_bestToEat_61 hl (by decide) rfl (fun ls hl => ?_)
          refine lv_goto (tgt := 17) hx hb dX2_bestToEat_63 (by decide) ?_
          exact ih (pre ++ [z]) (some g) least _ (by rw [hx2]; simp) hbm (by omega) h3 hc2 H locs hH hS ls (lv_sub hl [0, 2, 3, 4, 5] rfl)
        · skip
          have h1 := mt (nI_leI (a := least) (b := sum9) (by omega) (by omega)).mpr h1
          rw [if_pos (Or.inr (by omega))] at h3
          refine lv_aload hx hb dX2_bestToEat_49 (lv_at hl 1 rfl) ?_
          refine lv_astore_n (lv' := [(3, .ref z.1), (6, .int (nI sum9)), (5, .ref z.1), (4, .int (nI least)), (2, .ref (gta Γ r)), (0, .ref o)]) hx hb dX2_bestToEat_51 rfl hl (by decide) rfl (fun ls hl => ?_)
          refine lv_iload hx hb dX2_bestToEat_52 (lv_at hl 1 rfl) ?_
          refine lv_istore (lv' := [(4, .int (nI sum9)), (3, .ref z.1), (6, .int (nI sum9)), (5, .ref z.1), (2, .ref (gta Γ r)), (0, .ref o)]) hx hb dX2_bestToEat_54 hl (by decide) rfl (fun ls hl => ?_)
          refine lv_aload hx hb dX2_bestToEat_56 (lv_at hl 3 rfl) ?_
          refine cV S (c_X0_nextZ (l := l) (D := D) (lo := lo) (Γ := Γ) (sz := sz) (si := si) (P := (tryP P' si (gtt Γ) (T r) z.1)) (bi := bi) (tu := tu) (M := M) (V := V) ok_z (hc2.2.1 r hr6).1.2.2.2.1 htr.2.2.2.2.1 hx2) (cwV 0 hts gX2_bestToEat_X0_next rfl rfl rfl (by decide +kernel) ⟨Nat.le_of_ble_eq_true rfl, Nat.le_of_ble_eq_true rfl⟩) hK hH (Hp_recv hK hH ok_z.1 ok_z.2 rfl) hS rfl hl.1 rfl (Nat.le_of_ble_eq_true rfl) dX2_bestToEat_58 ⟨Nat.le_of_ble_eq_true rfl, Nat.le_of_ble_eq_true rfl⟩ (fun v Z1 H locs hpost hH hS => ?_)
          obtain ⟨rfl, rfl⟩ := hpost
          refine lq_astore (i := 5) (lv' := [(4, .int (nI sum9)), (3, .ref z.1), (6, .int (nI sum9)), (2, .ref (gta Γ r)), (0, .ref o)]) S dX2_bestToEat_61 hl (by decide) rfl (fun ls hl => ?_)
          refine lv_goto (tgt := 17) hx hb dX2_bestToEat_63 (by decide) ?_
          exact ih (pre ++ [z]) (some z.1) sum9 _ (by rw [hx2]; simp) (fun b h => by cases h; exact hin_z) (by omega) h3 hc2 H locs hH hS ls (lv_sub hl [0, 1, 2, 4, 5] rfl)
  exact loop (zs (T r) []) [] none 0 P rfl (fun b h => by cases h) (by omega) rfl hc0 _ _ hH hS ls (lv_sub hl [0, 1, 2, 3, 4] rfl)
end MOrchR
