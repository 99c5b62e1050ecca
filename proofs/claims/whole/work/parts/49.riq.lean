/-! BOTH TOGETHER: parting and picking keep both together -/
section BothR
variable {T : Nat → Tr} {sz bi : Nat → Nat} {Q : PF} {zs : Nat → Option Nat} {be : Nat → Nat} {mn : Nat} {φ : Nat → Nat}
theorem RI_sp (h : RI T sz bi Q zs be mn φ) {r a : Nat} {L9 R9 : Tr} (hr6 : r < 6) (ha : a ∈ tids (T r)) (hsp : spz (zof (T r) a) = .branch a L9 R9) :
    φ a ∈ tids (mp φ (T r)) ∧ spz (zof (mp φ (T r)) (φ a)) = .branch (φ a) (mp φ L9) (mp φ R9) ∧ tids L9 ++ a :: tids R9 = tids (T r) ∧ ((tids L9).map φ).Nodup ∧ (tids (T r)).Nodup := by
  obtain ⟨h1, h2, h3⟩ := RI_at h hr6
  have e3 : tids L9 ++ a :: tids R9 = tids (T r) := by
    have := spz_tids ha
    rw [hsp, tids_branch] at this
    exact this
  refine ⟨by rw [mp_tids]; exact List.mem_map.mpr ⟨a, ha, rfl⟩, by rw [zof_mp (by rw [mp_tids]; exact h3) ha, mp_spz, hsp]; rfl, e3, ?_, nd_map h3⟩
  rw [← e3, List.map_append] at h3
  exact (List.nodup_append.mp h3).1
theorem RI_pick (h : RI T sz bi Q zs be mn φ) {r a : Nat} {L9 R9 : Tr} (hr6 : r < 6) (ha : a ∈ tids (T r)) (hsp : spz (zof (T r) a) = .branch a L9 R9) : RI (va_up T r (jn L9 R9)) sz bi (pkQ Q r (φ a) (mp φ (T r)) (mp φ L9) (mp φ R9)) (va_up zs (φ a) none) be (mn - 1) φ := by
  obtain ⟨p1, p2, p3, p4, p5⟩ := RI_sp h hr6 ha hsp
  have hM := MI_pick h.1 hr6 p1 p2
  have hgi := map_inj (by rw [← gids_mp]; exact h.1.2.1 : ((gids T).map φ).Nodup)
  have hap := gids_apart (nd_map (by rw [← gids_mp]; exact h.1.2.1 : ((gids T).map φ).Nodup))
  refine ⟨by rw [va_mp, ← jn_mp p4]; exact hM, fun b hb => ?_⟩
  have ha' : a ∈ gids T := gids_mem.mpr ⟨r, hr6, ha⟩
  rw [← p3] at p5
  obtain ⟨n1, n2, n3⟩ := List.nodup_append.mp p5
  have n4 := (List.nodup_cons.mp n2).1
  have hb' : b ∈ gids T ∧ b ≠ a := by
    obtain ⟨y, hy, hm⟩ := gids_mem.mp hb
    by_cases e : y = r
    · subst e
      rw [va_up_self, jn_tids n1] at hm
      rcases List.mem_append.mp hm with h9 | h9
      · exact ⟨gids_mem.mpr ⟨y, hy, by rw [← p3]; simp [h9]⟩, fun e => n3 b h9 a (by simp) e⟩
      · exact ⟨gids_mem.mpr ⟨y, hy, by rw [← p3]; simp [h9]⟩, fun e => n4 (by rw [← e]; exact h9)⟩
    · rw [va_up_ne _ _ e] at hm
      exact ⟨gids_mem.mpr ⟨y, hy, hm⟩, fun e9 => hap.2 y r hy hr6 e b hm (by rw [e9]; exact ha)⟩
  obtain ⟨c1, c2⟩ := h.2 b hb'.1
  have hne : φ b ≠ φ a := fun q => hb'.2 (hgi b hb'.1 a ha' q)
  exact ⟨by unfold zn at c1 ⊢; rw [va_up_ne _ _ hne]; exact c1, c2⟩
theorem RI_split (h : RI T sz bi Q zs be mn φ) {r q b : Nat} {L9 R9 : Tr} (hr6 : r < 6) (hq6 : q < 6) (hrq : r ≠ q) (hT : T q = .leaf ()) (hb : b ∈ tids (T r)) (hsp : spz (zof (T r) b) = .branch b L9 R9) : RI (va_up (va_up T r (.branch b L9 (.leaf ()))) q R9) sz bi (ptQ Q r q (φ b) (mp φ (T r)) (mp φ R9)) zs be mn φ := by
  obtain ⟨p1, p2, p3, p4, p5⟩ := RI_sp h hr6 hb hsp
  have hM := MI_split h.1 hr6 hq6 hrq (by rw [hT]; rfl) p1 p2
  refine ⟨by rw [va_mp, va_mp]; exact hM, fun a ha => h.2 a ?_⟩
  obtain ⟨y, hy, hm⟩ := gids_mem.mp ha
  by_cases e : y = q
  · subst e
    rw [va_up_self] at hm
    exact gids_mem.mpr ⟨r, hr6, by rw [← p3]; simp [hm]⟩
  · rw [va_up_ne _ _ e] at hm
    by_cases e' : y = r
    · subst e'
      rw [va_up_self, tids_branch] at hm
      refine gids_mem.mpr ⟨y, hy, ?_⟩
      rw [← p3]
      rcases List.mem_append.mp hm with h9 | h9
      · simp [h9]
      · rcases List.mem_cons.mp h9 with h9 | h9
        · simp [h9]
        · cases h9
    · rw [va_up_ne _ _ e'] at hm
      exact gids_mem.mpr ⟨y, hy, hm⟩
theorem RI_split0 (h : RI T sz bi Q zs be mn φ) {r q : Nat} (hr6 : r < 6) (hq6 : q < 6) (hrq : r ≠ q) (hT : T q = .leaf ()) : RI (va_up (va_up T r (.leaf ())) q (T r)) sz bi (sP (sP Q 3 q (rt (mp φ (T r)))) 3 r none) zs be mn φ := by
  have hM := MI_split0 h.1 hr6 hq6 hrq (by show mp φ (T q) = _; rw [hT]; rfl)
  refine ⟨by rw [va_mp, va_mp]; exact hM, fun a ha => h.2 a ?_⟩
  obtain ⟨y, hy, hm⟩ := gids_mem.mp ha
  by_cases e : y = q
  · subst e
    rw [va_up_self] at hm
    exact gids_mem.mpr ⟨r, hr6, hm⟩
  · rw [va_up_ne _ _ e] at hm
    by_cases e' : y = r
    · subst e'; rw [va_up_self] at hm; cases hm
    · rw [va_up_ne _ _ e'] at hm
      exact gids_mem.mpr ⟨y, hy, hm⟩
end BothR
