/-! BOTH TOGETHER: planting keeps both together -/
section BothS
variable {T : Nat → Tr} {sz bi : Nat → Nat} {Q : PF} {zs : Nat → Option Nat} {be : Nat → Nat} {mn : Nat} {φ : Nat → Nat} {U : Nat → Tr}
theorem MI_cg {U U' : Nat → Tr} (hM : MI Q zs U mn) (h : ∀ y, y < 6 → U' y = U y) : MI Q zs U' mn := by
  have hg : gids U' = gids U := by unfold gids; rw [h 0 (by omega), h 1 (by omega), h 2 (by omega), h 3 (by omega), h 4 (by omega), h 5 (by omega)]
  obtain ⟨h_t, h_nd, h_mn, h_zs, h_40⟩ := hM
  exact ⟨fun r hr => by rw [h r hr]; exact h_t r hr, by rw [hg]; exact h_nd, by rw [hg]; exact h_mn, by rw [hg]; exact h_zs, by rw [hg]; exact h_40⟩
theorem spl_ids (k : Nat) : ∀ (C : Cx) (l r : Tr), tids (spl k C l r) = tids (plug (.branch k l r) C) := by
  have key : ∀ (n : Nat) (C : Cx) (l r : Tr), C.length ≤ n → tids (spl k C l r) = tids (plug (.branch k l r) C) := by
    intro n
    induction n with
    | zero =>
      intro C l r hl
      have : C = [] := List.length_eq_zero_iff.mp (by omega)
      subst this
      rfl
    | succ n ih =>
      intro C l r hl
      match C, hl with
      | [], _ => rfl
      | [(s, p, u)], _ => exact tids_rtn s k l r p u
      | (s1, p1, u1) :: (s2, p2, u2) :: C, hl =>
        have hl2 : C.length ≤ n := by simp only [List.length_cons] at hl; omega
        unfold spl
        split
        · rename_i hs
          subst hs
          rw [ih C _ _ hl2, tids_plug_eq (tids_rtn s1 k l r p1 (nd s1 p2 u1 u2)) C]
          show tids (plug (nd s1 p1 _ _) C) = tids (plug (nd s1 p2 (nd s1 p1 _ _) _) C)
          apply tids_plug_eq
          cases s1 <;> simp [tids_nd]
        · rw [ih C _ _ hl2, tids_plug_eq (tids_rtn s2 k _ _ p2 u2) C]
          show tids (plug (nd s2 p2 _ _) C) = tids (plug (nd s2 p2 (nd s1 p1 _ _) _) C)
          apply tids_plug_eq
          have e := tids_rtn s1 k l r p1 u1
          rw [tids_nd, tids_nd, e]
  exact fun C l r => key C.length C l r (Nat.le_refl _)
theorem MI_plant {r n k0 : Nat} {X : Cx} (hM : MI Q zs U mn) (hr6 : r < 6) (hn9 : n < 1000) (hlt : mn < 40) (hf : fnd (zn zs) (n : Int) (U r) = none) (lt_k0 : k0 < 40) (hk0 : zs k0 = none) (hX : X = inc (zn zs) (n : Int) (U r) []) : MI (plQ Q r k0 X) (va_up zs k0 (some n)) (va_up U r (spl k0 X (.leaf ()) (.leaf ()))) (mn + 1) := by
  obtain ⟨c1, c2, c3, c4, c5⟩ := planted_1 hM hr6 hn9 hk0 lt_k0 hX
  obtain ⟨h_t, h_nd, h_mn, h_zs, h_40⟩ := hM
  have hap := gids_apart h_nd
  obtain ⟨⟨a1, a2, a3, a4⟩, a5⟩ := h_t r hr6
  obtain ⟨Q2, hQ2⟩ : ∃ Q2, Q2 = hng (sP (sP (sP Q 0 k0 none) 1 k0 none) 2 k0 none) (some k0) (parC X) (sdX X) := ⟨_, rfl⟩
  have hpl : plQ Q r k0 X = sP (rai k0 X Q2) 3 r (some k0) := by rw [plQ, ← hQ2]
  rw [hpl]
  rw [← hQ2] at c3
  obtain ⟨g1, g2, g3, g4, g5⟩ := rai_zip (k := k0) X.length X Q2 (.leaf ()) (.leaf ()) (Nat.le_refl _) c3 c4
  have hkU : ∀ y, y < 6 → k0 ∉ tids (U y) := fun y hy e => by
    have := ((h_t y hy).1.2.2.2 k0 e).2.1
    rw [hk0] at this; cases this
  have hp : plug (.leaf ()) X = U r := by rw [hX]; exact plug_inc (U r) []
  have hids : tids (U r) = cL X ++ cR X := by
    have h9 := tids_plug X (.leaf ())
    rw [hp] at h9
    rw [h9]
    simp [tids]
  have hnew : tids (plug (.branch k0 (.leaf ()) (.leaf ())) X) = cL X ++ k0 :: cR X := by rw [tids_plug]; simp [tids]
  rw [hnew] at g3 g4
  have hpar : ∀ b, parC X = some b → b ∈ tids (U r) := fun b hb => by rw [hids]; rcases parC_mem hb with h | h <;> simp [h]
  have hQ2j : ∀ j x, x ∉ tids (U r) → x ≠ k0 → Q2 j x = Q j x := fun j x h1 h2 => by
    have h0 : sP (sP (sP Q 0 k0 none) 1 k0 none) 2 k0 none j x = Q j x := by rw [sP_na h2, sP_na h2, sP_na h2]
    rw [hQ2, ← h0]
    unfold hng
    cases hq : parC X with
    | none => dsimp only; rw [sP_na h2]
    | some u => dsimp only; rw [sP_na h2, sP_na (fun e => h1 (by rw [e]; exact hpar u hq))]
  have hQ23 : ∀ x, Q2 3 x = Q 3 x := fun x => by
    have h0 : sP (sP (sP Q 0 k0 none) 1 k0 none) 2 k0 none 3 x = Q 3 x := by rw [sP_nk (by decide), sP_nk (by decide), sP_nk (by decide)]
    rw [hQ2, ← h0]
    unfold hng
    cases hq : parC X with
    | none => dsimp only; rw [sP_nk (by decide)]
    | some u => dsimp only; rw [sP_nk (by decide), sP_nk (by omega)]
  have vr : va_up U r (spl k0 X (.leaf ()) (.leaf ())) r = spl k0 X (.leaf ()) (.leaf ()) := va_up_self _ _ _
  have vy : ∀ y, y ≠ r → va_up U r (spl k0 X (.leaf ()) (.leaf ())) y = U y := fun y hy => va_up_ne _ _ hy
  have hz : ∀ y, y < 6 → ∀ x ∈ tids (U y), va_up zs k0 (some n) x = zs x ∧ zn (va_up zs k0 (some n)) x = zn zs x := fun y hy x hx => by
    have hne : x ≠ k0 := fun e => hkU y hy (by rw [← e]; exact hx)
    exact ⟨va_up_ne _ _ hne, by unfold zn; rw [va_up_ne _ _ hne]⟩
  have hzk : zn (va_up zs k0 (some n)) k0 = n := by unfold zn; rw [va_up_self]; rfl
  have hnin : ∀ x, x ∈ cL X ++ k0 :: cR X ↔ x = k0 ∨ x ∈ tids (U r) := fun x => by
    rw [hids]; simp only [List.mem_append, List.mem_cons]
    constructor
    · rintro (h | h | h) <;> simp [h]
    · rintro (h | h | h) <;> simp [h]
  have hl := gids_len (T := U) (t := spl k0 X (.leaf ()) (.leaf ())) hr6
  rw [g3, hids] at hl
  simp only [List.length_append, List.length_cons] at hl
  refine ⟨fun y hy => ?_, gids_nodup (fun y hy => ?_) (fun y y' hy hy' hne x hx hx2 => ?_), by omega, fun k hk hzz => ?_, by omega⟩
  · by_cases e : y = r
    · subst e
      rw [vr]
      refine ⟨⟨by rw [sP_eq, g2], rep_congr _ _ g1 (fun x _ => ⟨by rw [sP_nk (by decide)], by rw [sP_nk (by decide)], by rw [sP_nk (by decide)]⟩), by rw [g3, ← hnew]; exact c4, fun x hx => ?_⟩, ?_⟩
      · rw [g3, hnin] at hx
        rcases hx with h | h
        · rw [h, hzk, va_up_self]; exact ⟨lt_k0, rfl, hn9⟩
        · rw [(hz y hy x h).1, (hz y hy x h).2]; exact a4 x h
      · unfold srt
        rw [g3]
        obtain ⟨l1, l2⟩ := inc_lr (z := (n : Int)) (U y) [] a5 hf (fun a ha => by cases ha) (fun a ha => by cases ha)
        rw [← hX] at l1 l2
        have hs' : (cL X ++ cR X).Pairwise (fun a b => zn zs a < zn zs b) := by rw [← hids]; exact a5
        obtain ⟨p1, p2, p3⟩ := List.pairwise_append.mp hs'
        have hzL : ∀ x ∈ cL X, zn (va_up zs k0 (some n)) x = zn zs x := fun x hx => (hz y hy x (by rw [hids]; simp [hx])).2
        have hzR : ∀ x ∈ cR X, zn (va_up zs k0 (some n)) x = zn zs x := fun x hx => (hz y hy x (by rw [hids]; simp [hx])).2
        refine List.pairwise_append.mpr ⟨List.Pairwise.imp_of_mem (fun {a b} ha hb h => by rw [hzL a ha, hzL b hb]; exact h) p1, List.pairwise_cons.mpr ⟨fun b hb => ?_, List.Pairwise.imp_of_mem (fun {a b} ha hb h => by rw [hzR a ha, hzR b hb]; exact h) p2⟩, fun a ha b hb => ?_⟩
        · have := l2 b hb
          rw [hzk, hzR b hb]; omega
        · rcases List.mem_cons.mp hb with h | h
          · have := l1 a ha
            rw [h, hzk, hzL a ha]; omega
          · rw [hzL a ha, hzR b h]; exact p3 a ha b h
    · rw [vy y e]
      obtain ⟨⟨b1, b2, b3, b4⟩, b5⟩ := h_t y hy
      have hq : ∀ j x, j < 3 → x ∈ tids (U y) → sP (rai k0 X Q2) 3 r (some k0) j x = Q j x := fun j x hj hx => by
        have h1 : x ∉ tids (U r) := hap.2 y r hy hr6 e x hx
        have h2 : x ≠ k0 := fun e9 => hkU y hy (by rw [← e9]; exact hx)
        rw [sP_nk (by omega), g4 j x (fun h => by rcases (hnin x).mp h with h | h; exact h2 h; exact h1 h), hQ2j j x h1 h2]
      refine ⟨⟨by rw [sP_na e, g5 3 y (by omega), hQ23, b1], rep_congr _ _ b2 (fun x hx => ⟨hq 0 x (by omega) hx, hq 1 x (by omega) hx, hq 2 x (by omega) hx⟩), b3, fun x hx => ?_⟩, ?_⟩
      · rw [(hz y hy x hx).1, (hz y hy x hx).2]; exact b4 x hx
      · unfold srt at b5 ⊢
        exact List.Pairwise.imp_of_mem (fun {a b} ha hb h => by rw [(hz y hy a ha).2, (hz y hy b hb).2]; exact h) b5
  · by_cases e : y = r
    · subst e; rw [vr, g3, ← hnew]; exact c4
    · rw [vy y e]; exact hap.1 y hy
  · by_cases e : y = r <;> by_cases e' : y' = r
    · exact hne (by rw [e, e'])
    · subst e
      rw [vr, g3, hnin] at hx
      rw [vy y' e'] at hx2
      rcases hx with h | h
      · exact hkU y' hy' (by rw [← h]; exact hx2)
      · exact hap.2 y y' hy hy' hne x h hx2
    · subst e'
      rw [vr, g3, hnin] at hx2
      rw [vy y e] at hx
      rcases hx2 with h | h
      · exact hkU y hy (by rw [← h]; exact hx)
      · exact hap.2 y y' hy hy' hne x hx h
    · rw [vy y e] at hx; rw [vy y' e'] at hx2; exact hap.2 y y' hy hy' hne x hx hx2
  · by_cases hka : k = k0
    · exact gids_mem.mpr ⟨r, hr6, by rw [vr, g3, hnin]; exact Or.inl hka⟩
    · rw [va_up_ne _ _ hka] at hzz
      obtain ⟨y, hy, hm⟩ := gids_mem.mp (h_zs k hk hzz)
      by_cases e : y = r
      · subst e; exact gids_mem.mpr ⟨y, hy, by rw [vr, g3, hnin]; exact Or.inr hm⟩
      · exact gids_mem.mpr ⟨y, hy, by rw [vy y e]; exact hm⟩
theorem RI_plant {sz' bi' : Nat → Nat} {r n a k0 : Nat} (h : RI T sz bi Q zs be mn φ) (hr6 : r < 6) (hn9 : n < 1000) (hlt : mn < 40) (hf : fnd sz (n : Int) (T r) = none) (ha : a ∉ gids T) (hsa : sz' a = n) (hba : bi' a = 0) (hold : ∀ b ∈ gids T, sz' b = sz b ∧ bi' b = bi b) (lt_k0 : k0 < 40) (hk0 : zs k0 = none) :
    RI (va_up T r (spl a (inc sz (n : Int) (T r) []) (.leaf ()) (.leaf ()))) sz' bi' (plQ Q r k0 (inc (zn zs) (n : Int) (mp φ (T r)) [])) (va_up zs k0 (some n)) (va_up be k0 0) (mn + 1) (va_up φ a k0) := by
  obtain ⟨h1, h2, h3⟩ := RI_at h hr6
  have hM := MI_plant h.1 hr6 hn9 hlt (by rw [fnd_mp (T r) h1, hf]; rfl) lt_k0 hk0 rfl
  have hφ : ∀ y, y < 6 → ∀ b ∈ tids (T y), va_up φ a k0 b = φ b := fun y hy b hb => va_up_ne _ _ (fun e => ha (by rw [← e]; exact gids_mem.mpr ⟨y, hy, hb⟩))
  have hmp : ∀ y, y < 6 → mp (va_up φ a k0) (T y) = mp φ (T y) := fun y hy => mp_congr _ (hφ y hy)
  have e1 := inc_mp (φ := va_up φ a k0) (sz := sz) (sz' := zn zs) (z := (n : Int)) (T r) [] (fun b hb => by rw [hφ r hr6 b hb]; exact h1 b hb)
  have h9 : mpC (va_up φ a k0) [] = [] := rfl
  rw [h9, hmp r hr6] at e1
  have e2 : mp (va_up φ a k0) (spl a (inc sz (n : Int) (T r) []) (.leaf ()) (.leaf ())) = spl k0 (inc (zn zs) (n : Int) (mp φ (T r)) []) (.leaf ()) (.leaf ()) := by
    rw [mp_spl _ _ _ _ _ _ (Nat.le_refl _), va_up_self, ← e1]
    rfl
  have hids : ∀ b, b ∈ tids (spl a (inc sz (n : Int) (T r) []) (.leaf ()) (.leaf ())) → b = a ∨ b ∈ tids (T r) := fun b hb => by
    have hm : va_up φ a k0 b ∈ tids (mp (va_up φ a k0) (spl a (inc sz (n : Int) (T r) []) (.leaf ()) (.leaf ()))) := by rw [mp_tids]; exact List.mem_map.mpr ⟨b, hb, rfl⟩
    have hs := spl_ids a (inc sz (n : Int) (T r) []) (.leaf ()) (.leaf ())
    rw [hs, tids_plug] at hb
    have hp : plug (.leaf ()) (inc sz (n : Int) (T r) []) = T r := plug_inc (T r) []
    have hq := tids_plug (inc sz (n : Int) (T r) []) (.leaf ())
    rw [hp] at hq
    rw [hq]
    simp [tids] at hb ⊢
    rcases hb with h | h | h <;> simp [h]
  refine ⟨?_, fun b hb => ?_⟩
  · have hfun : ∀ y, y < 6 → (fun q => mp (va_up φ a k0) (va_up T r (spl a (inc sz (n : Int) (T r) []) (.leaf ()) (.leaf ())) q)) y = va_up (fun q => mp φ (T q)) r (spl k0 (inc (zn zs) (n : Int) (mp φ (T r)) []) (.leaf ()) (.leaf ())) y := fun y hy => by
      dsimp only
      by_cases e : y = r
      · subst e; rw [va_up_self, va_up_self, e2]
      · rw [va_up_ne _ _ e, va_up_ne _ _ e, hmp y hy]
    exact MI_cg hM hfun
  · obtain ⟨y, hy, hm⟩ := gids_mem.mp hb
    have hcase : b = a ∨ b ∈ gids T := by
      by_cases e : y = r
      · subst e
        rw [va_up_self] at hm
        rcases hids b hm with h | h
        · exact Or.inl h
        · exact Or.inr (gids_mem.mpr ⟨y, hy, h⟩)
      · rw [va_up_ne _ _ e] at hm; exact Or.inr (gids_mem.mpr ⟨y, hy, hm⟩)
    rcases hcase with h9 | h9
    · rw [h9, va_up_self, va_up_self, hsa, hba]
      exact ⟨by unfold zn; rw [va_up_self]; rfl, rfl⟩
    · have hne : b ≠ a := fun e => ha (by rw [← e]; exact h9)
      rw [va_up_ne _ _ hne]
      obtain ⟨q, hq, hm9⟩ := gids_mem.mp h9
      have hz := ((h.1.1 q hq).1.2.2.2 (φ b) (by show φ b ∈ tids (mp φ (T q)); rw [mp_tids]; exact List.mem_map.mpr ⟨b, hm9, rfl⟩)).2.1
      have hk : φ b ≠ k0 := fun e => by rw [e, hk0] at hz; cases hz
      obtain ⟨d1, d2⟩ := h.2 b h9
      obtain ⟨d3, d4⟩ := hold b h9
      exact ⟨by unfold zn at d1 ⊢; rw [va_up_ne _ _ hk, d3]; exact d1, by rw [va_up_ne _ _ hk, d4]; exact d2⟩
end BothS
