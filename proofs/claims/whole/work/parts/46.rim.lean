/-! BOTH TOGETHER: the digest, the mean depth; eating keeps both together -/
section BothM
variable {T : Nat → Tr} {sz bi : Nat → Nat} {Q : PF} {zs : Nat → Option Nat} {be : Nat → Nat} {mn : Nat} {φ : Nat → Nat} {row x y : Int32}
theorem gids_mp (φ : Nat → Nat) (T : Nat → Tr) : gids (fun r => mp φ (T r)) = (gids T).map φ := by
  unfold gids
  simp only [mp_tids, List.map_append]
theorem RI_mn (h : RI T sz bi Q zs be mn φ) : mn = (gids T).length := by
  rw [h.1.2.2.1, gids_mp, List.length_map]
theorem RI_mxA (h : RI T sz bi Q zs be mn φ) {r a : Nat} (hr : r < 6) (ha : a ∈ tids (T r)) (d : Int64) : mxA (mp φ (T r)) (zn zs) be d (φ a) = mxA (T r) sz bi d a := by
  obtain ⟨h1, h2, h3⟩ := RI_at h hr
  unfold mxA
  rw [zof_mp (by rw [mp_tids]; exact h3) ha, h1 a ha, h2 a ha]
  dsimp only [mpZ]
  rw [mpC_length, mpC_parC, mp_rt, mp_rt, mp_tids, mp_tids, List.length_map, List.length_map, er_mp (fun b hb => h1 b (zof_sub ha (Or.inl hb))), er_mp (fun b hb => h1 b (zof_sub ha (Or.inr (Or.inl hb)))), er_mp (fun b hb => h1 b (zof_sub ha (Or.inr (Or.inr hb))))]
theorem RI_fold (h : RI T sz bi Q zs be mn φ) {r : Nat} (hr : r < 6) : ∀ (l : List Nat) (d : Int64), (∀ a ∈ l, a ∈ tids (T r)) → (l.map φ).foldl (mxA (mp φ (T r)) (zn zs) be) d = l.foldl (mxA (T r) sz bi) d := by
  intro l
  induction l with
  | nil => intro d _; rw [List.map_nil, List.foldl_nil, List.foldl_nil]
  | cons a l ih =>
    intro d hl
    rw [List.map_cons, List.foldl_cons, List.foldl_cons, RI_mxA h hr (hl a (by simp)), ih _ (fun b hb => hl b (by simp [hb]))]
theorem RI_mxR (h : RI T sz bi Q zs be mn φ) {r : Nat} (hr : r < 6) (d : Int64) : mxR (mp φ (T r)) (zn zs) be d = mxR (T r) sz bi d := by
  obtain ⟨h1, h2, h3⟩ := RI_at h hr
  have e : fvs be none ((tids (T r)).map φ) = (fvs bi none (tids (T r))).map φ := fvs_map (φ := φ) (acc := none) h2 (fun a q => by cases q)
  unfold mxR
  rw [mp_tids, List.length_map, mp_rt, mp_hgt, mp_dsm, mp_lvs, e, bst_mp, er_mp (fun b hb => h1 b (rt_mem hb)), er_mp (fun b hb => h1 b (fvs_mem hb)), er_mp (fun b hb => h1 b (bst_mem hb))]
theorem RI_dgR (h : RI T sz bi Q zs be mn φ) : ∀ (n r : Nat) (d : Int64), r + n ≤ 6 → dgR (fun r => mp φ (T r)) (zn zs) be n r d = dgR T sz bi n r d := by
  intro n
  induction n with
  | zero => intro r d _; rfl
  | succ n ih =>
    intro r d hr
    rw [dgR, dgR, ih _ _ (by omega), mp_tids, RI_fold h (by omega) _ _ (fun a ha => ha), RI_mxR h (by omega)]
theorem RI_dgV (h : RI T sz bi Q zs be mn φ) (tu : Nat) : dgV (fun r => mp φ (T r)) (zn zs) be tu = dgV T sz bi tu := by
  unfold dgV
  rw [RI_dgR h 6 0 _ (by omega), gids_mp, List.length_map]
theorem RI_mdp : ∀ t : Tr, mdp (mp φ t) = mdp t := by
  intro t
  unfold mdp
  rw [mp_tids, List.length_map, mp_dsm]
theorem va_mp {r : Nat} {t : Tr} : (fun q => mp φ (va_up T r t q)) = va_up (fun q => mp φ (T q)) r (mp φ t) := by
  funext q
  by_cases h : q = r
  · subst h; rw [va_up_self, va_up_self]
  · rw [va_up_ne _ _ h, va_up_ne _ _ h]
theorem MI_row {Q' : PF} {U : Nat → Tr} {r : Nat} {t' : Tr} (hM : MI Q zs U mn) (hr6 : r < 6) (h1 : Q' 3 r = rt t') (h2 : rep Q' none t') (hs : tids t' = tids (U r)) (hf : ∀ j x, j < 3 → x ∉ tids (U r) → Q' j x = Q j x) (hf3 : ∀ x, x ≠ r → Q' 3 x = Q 3 x) : MI Q' zs (va_up U r t') mn := by
  obtain ⟨h_t, h_nd, h_mn, h_zs, h_40⟩ := hM
  have hap := gids_apart h_nd
  have vy : ∀ y, y ≠ r → va_up U r t' y = U y := fun y h => va_up_ne _ _ h
  have hin : ∀ y, tids (va_up U r t' y) = tids (U y) := fun y => by
    by_cases e : y = r
    · subst e; rw [va_up_self, hs]
    · rw [vy y e]
  have hg : gids (va_up U r t') = gids U := by unfold gids; simp only [hin]
  refine ⟨fun y hy => ?_, by rw [hg]; exact h_nd, by rw [hg]; exact h_mn, by rw [hg]; exact h_zs, by rw [hg]; exact h_40⟩
  obtain ⟨⟨a1, a2, a3, a4⟩, a5⟩ := h_t y hy
  by_cases e : y = r
  · subst e
    rw [va_up_self]
    exact ⟨⟨h1, h2, by rw [hs]; exact a3, fun a ha => a4 a (by rw [← hs]; exact ha)⟩, by unfold srt; rw [hs]; exact a5⟩
  · rw [vy y e]
    have hx : ∀ x ∈ tids (U y), x ∉ tids (U r) := fun x hx => hap.2 y r hy hr6 e x hx
    exact ⟨⟨by rw [hf3 y e, a1], rep_congr _ _ a2 (fun x h9 => ⟨hf 0 x (by omega) (hx x h9), hf 1 x (by omega) (hx x h9), hf 2 x (by omega) (hx x h9)⟩), a3, a4⟩, a5⟩
theorem RI_eat (h : RI T sz bi Q zs be mn φ) {r a : Nat} (hr6 : r < 6) (ha : a ∈ tids (T r)) : RI (va_up T r (spz (zof (T r) a))) sz (va_up bi a (bi a + 1)) (sP (rai (φ a) (zof (mp φ (T r)) (φ a)).2.2.2 Q) 3 r (some (φ a))) zs (va_up be (φ a) (be (φ a) + 1)) mn φ := by
  obtain ⟨h1, h2, h3⟩ := RI_at h hr6
  obtain ⟨⟨a1, a2, a3, a4⟩, a5⟩ := h.1.1 r hr6
  have hin : φ a ∈ tids (mp φ (T r)) := by rw [mp_tids]; exact List.mem_map.mpr ⟨a, ha, rfl⟩
  obtain ⟨s1, s2, s3, s4, s5⟩ := spz_raise a2 a3 hin
  have hz := zof_mp a3 ha
  have hsp : spz (zof (mp φ (T r)) (φ a)) = mp φ (spz (zof (T r) a)) := by rw [hz, mp_spz]
  have hM := MI_row (t' := spz (zof (mp φ (T r)) (φ a))) h.1 hr6 (Q' := sP (rai (φ a) (zof (mp φ (T r)) (φ a)).2.2.2 Q) 3 r (some (φ a))) (by rw [sP_eq, s2]) (rep_congr _ _ s1 (fun x _ => ⟨by rw [sP_nk (by decide)], by rw [sP_nk (by decide)], by rw [sP_nk (by decide)]⟩)) s3 (fun j x hj hx => by rw [sP_nk (by omega), s4 j x hx]) (fun x hx => by rw [sP_na hx, s5 3 x (by omega)])
  have hgn : ((gids T).map φ).Nodup := by rw [← gids_mp]; exact h.1.2.1
  have hgi := map_inj hgn
  refine ⟨by rw [va_mp, ← hsp]; exact hM, fun b hb => ?_⟩
  have hb' : b ∈ gids T := by
    obtain ⟨y, hy, hm⟩ := gids_mem.mp hb
    by_cases e : y = r
    · subst e
      rw [va_up_self, spz_tids ha] at hm
      exact gids_mem.mpr ⟨y, hy, hm⟩
    · rw [va_up_ne _ _ e] at hm
      exact gids_mem.mpr ⟨y, hy, hm⟩
  obtain ⟨c1, c2⟩ := h.2 b hb'
  refine ⟨c1, ?_⟩
  have ha' : a ∈ gids T := gids_mem.mpr ⟨r, hr6, ha⟩
  by_cases e : b = a
  · subst e
    rw [va_up_self, va_up_self, c2]
  · rw [va_up_ne _ _ e, va_up_ne _ _ (fun q => e (hgi b hb' a ha' q)), c2]
end BothM
