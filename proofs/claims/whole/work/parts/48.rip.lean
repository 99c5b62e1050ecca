/-! BOTH TOGETHER: the reference's state after parting and picking -/
section BothP
variable {T : Nat → Tr} {sz bi : Nat → Nat} {Q : PF} {zs : Nat → Option Nat} {be : Nat → Nat} {mn : Nat} {φ : Nat → Nat} {U : Nat → Tr}
theorem MI_split {r q b : Nat} {L9 R9 : Tr} (hM : MI Q zs U mn) (hr6 : r < 6) (hq6 : q < 6) (hrq : r ≠ q) (hU : U q = .leaf ()) (hb : b ∈ tids (U r)) (hsp : spz (zof (U r) b) = .branch b L9 R9) : MI (ptQ Q r q b (U r) R9) zs (va_up (va_up U r (.branch b L9 (.leaf ()))) q R9) mn := by
  obtain ⟨⟨a1, a2, a3, a4⟩, a5⟩ := hM.1 r hr6
  have h40 : ∀ a ∈ tids (U r), a < 40 := fun a ha => (a4 a ha).1
  obtain ⟨Q1, hQ1⟩ : ∃ Q1, Q1 = sP (rai b (zof (U r) b).2.2.2 Q) 3 r (some b) := ⟨_, rfl⟩
  obtain ⟨s1, s2, s3, s4, s5⟩ := spz_raise a2 a3 hb
  obtain ⟨g1, g2, g3⟩ := picked_0 a2 a3 hb hsp hQ1
  obtain ⟨p1, p2⟩ := parted_1 (q := q) a2 a3 h40 hb hsp hQ1
  have hpt : ptQ Q r q b (U r) R9 = sP (sP (low Q1 (rt R9)) 3 q (rt R9)) 1 b none := by rw [ptQ, ← hQ1]
  rw [hpt]
  obtain ⟨n1, n2, n3⟩ := List.nodup_append.mp g2
  obtain ⟨n4, n5⟩ := List.nodup_cons.mp n2
  have hQ13 : ∀ x, x ≠ r → Q1 3 x = Q 3 x := fun x hx => by rw [hQ1, sP_na hx, s5 3 x (by omega)]
  have hQ1j : ∀ j x, j < 3 → x ∉ tids (U r) → Q1 j x = Q j x := fun j x hj hx => by rw [hQ1, sP_nk (by omega), s4 j x hx]
  have hv : ∀ j x, j < 3 → ¬ (j = 1 ∧ x = b) → rt R9 ≠ some x → sP (sP (low Q1 (rt R9)) 3 q (rt R9)) 1 b none j x = Q1 j x := fun j x hj h1 h2 => by rw [sP_ne h1, sP_nk (by omega), low_na h2]
  have hbR : rt R9 ≠ some b := fun e => n4 (rt_mem e)
  have hsrt : (tids L9 ++ b :: tids R9).Pairwise (fun a b => zn zs a < zn zs b) := by rw [g3]; exact a5
  refine MI_two hM hr6 hq6 hrq ⟨?_, ⟨?_, ?_, ?_, ?_, trivial⟩, ?_⟩ ⟨p1, p2, ?_⟩ ?_ (fun a => ?_) ?_ (fun j x hj hx hx2 => ?_) (fun x hx hx2 => ?_)
  · rw [sP_nk (by decide), sP_na hrq, low_ne (by decide), hQ1, sP_eq]; rfl
  · rw [hv 2 b (by omega) (by omega) hbR]; exact g1.1
  · rw [hv 0 b (by omega) (by omega) hbR]; exact g1.2.1
  · rw [sP_eq]; rfl
  · refine rep_congr _ _ g1.2.2.2.1 (fun x hx => ?_)
    have hxb : x ≠ b := fun e => n3 x hx b (by simp) e
    have hxR : rt R9 ≠ some x := fun e => n3 x hx x (by simp [rt_mem e]) rfl
    exact ⟨hv 0 x (by omega) (fun e => hxb e.2) hxR, hv 1 x (by omega) (fun e => hxb e.2) hxR, hv 2 x (by omega) (fun e => hxb e.2) hxR⟩
  · refine List.Pairwise.sublist ?_ hsrt
    exact List.Sublist.append (List.Sublist.refl _) (List.cons_sublist_cons.mpr (List.nil_sublist _))
  · exact List.Pairwise.sublist (List.Sublist.trans (List.sublist_cons_self _ _) (List.sublist_append_right _ _)) hsrt
  · have e : tids (.branch b L9 (.leaf ())) ++ tids R9 = tids L9 ++ b :: tids R9 := by simp [tids]
    rw [e]; exact g2
  · rw [← g3, hU]
    simp [tids]
    constructor
    · rintro ((h | h) | h) <;> simp [h]
    · rintro (h | h | h) <;> simp [h]
  · rw [← g3, hU]; simp [tids]; omega
  · have hxb : x ≠ b := fun e => hx (by rw [e]; exact hb)
    rw [hv j x hj (fun e => hxb e.2) (fun e => hx (by rw [← g3]; simp [rt_mem e])), hQ1j j x hj hx]
  · rw [sP_nk (by decide), sP_na hx2, low_ne (by decide), hQ13 x hx]
theorem MI_split0 {r q : Nat} (hM : MI Q zs U mn) (hr6 : r < 6) (hq6 : q < 6) (hrq : r ≠ q) (hU : U q = .leaf ()) : MI (sP (sP Q 3 q (rt (U r))) 3 r none) zs (va_up (va_up U r (.leaf ())) q (U r)) mn := by
  obtain ⟨⟨a1, a2, a3, a4⟩, a5⟩ := hM.1 r hr6
  have hv : ∀ j x, j < 3 → sP (sP Q 3 q (rt (U r))) 3 r none j x = Q j x := fun j x hj => by rw [sP_nk (by omega), sP_nk (by omega)]
  exact MI_two hM hr6 hq6 hrq ⟨sP_eq _ _ _ _, trivial, List.Pairwise.nil⟩ ⟨by rw [sP_na (Ne.symm hrq), sP_eq], rep_congr _ _ a2 (fun x _ => ⟨hv 0 x (by omega), hv 1 x (by omega), hv 2 x (by omega)⟩), a5⟩ (by simpa [tids] using a3) (fun a => by rw [hU]; simp [tids]) (by rw [hU]; simp [tids]) (fun j x hj _ _ => hv j x hj) (fun x hx hx2 => by rw [sP_na hx, sP_na hx2])
theorem MI_pick {r a : Nat} {L9 R9 : Tr} (hM : MI Q zs U mn) (hr6 : r < 6) (ha : a ∈ tids (U r)) (hsp : spz (zof (U r) a) = .branch a L9 R9) : MI (pkQ Q r a (U r) L9 R9) (va_up zs a none) (va_up U r (jn L9 R9)) (mn - 1) := by
  have hM0 := hM
  obtain ⟨h_t, h_nd, h_mn, h_zs, h_40⟩ := hM
  have hap := gids_apart h_nd
  obtain ⟨⟨a1, a2, a3, a4⟩, a5⟩ := h_t r hr6
  have h40 : ∀ a ∈ tids (U r), a < 40 := fun a ha => (a4 a ha).1
  obtain ⟨Q1, hQ1⟩ : ∃ Q1, Q1 = sP (rai a (zof (U r) a).2.2.2 Q) 3 r (some a) := ⟨_, rfl⟩
  obtain ⟨s1, s2, s3, s4, s5⟩ := spz_raise a2 a3 ha
  obtain ⟨g1, g2, g3⟩ := picked_0 a2 a3 ha hsp hQ1
  obtain ⟨k1, k2, k3, k4, k5⟩ := picked_1 a2 a3 h40 ha hsp hQ1
  have hpk : pkQ Q r a (U r) L9 R9 = sP (tgP (low (low Q1 (rt L9)) (rt R9)) L9 (rt R9)) 3 r (tgr L9 (rt R9)) := by rw [pkQ, ← hQ1]
  rw [hpk]
  obtain ⟨n1, n2, n3⟩ := List.nodup_append.mp g2
  obtain ⟨n4, n5⟩ := List.nodup_cons.mp n2
  have hnLR : (tids L9 ++ tids R9).Nodup := List.nodup_append.mpr ⟨n1, n5, fun x hx y hy => n3 x hx y (by simp [hy])⟩
  have hR : rep (low (low Q1 (rt L9)) (rt R9)) none R9 := by
    refine low_ok (par := some a) (rep_congr _ _ g1.2.2.2.2 (fun x hx => ?_)) n5
    have hne : rt L9 ≠ some x := fun e => n3 x (rt_mem e) x (by simp [hx]) rfl
    exact ⟨low_na hne, low_na hne, low_na hne⟩
  obtain ⟨t1, t2, t3, t4, t5⟩ := tg_ok (px := none) k3 hR hnLR
  have hlow : ∀ j x, x ∉ tids L9 → x ∉ tids R9 → low (low Q1 (rt L9)) (rt R9) j x = Q1 j x := fun j x h1 h2 => by rw [low_na (fun e => h2 (rt_mem e)), low_na (fun e => h1 (rt_mem e))]
  have hlow3 : ∀ x, low (low Q1 (rt L9)) (rt R9) 3 x = Q1 3 x := fun x => by rw [low_ne (by decide), low_ne (by decide)]
  have vr : va_up U r (jn L9 R9) r = jn L9 R9 := va_up_self _ _ _
  have vy : ∀ y, y ≠ r → va_up U r (jn L9 R9) y = U y := fun y hy => va_up_ne _ _ hy
  have hsub : ∀ x, x ∈ tids (jn L9 R9) → x ∈ tids (U r) ∧ x ≠ a := fun x hx => by
    rw [t3] at hx
    rcases List.mem_append.mp hx with h | h
    · exact ⟨by rw [← g3]; simp [h], fun e => n3 x h a (by simp) e⟩
    · exact ⟨by rw [← g3]; simp [h], fun e => n4 (by rw [← e]; exact h)⟩
  have hanot : ∀ y, y < 6 → y ≠ r → a ∉ tids (U y) := fun y hy e h => hap.2 y r hy hr6 e a h ha
  have hgs : ∀ x, x ∈ gids (va_up U r (jn L9 R9)) → x ∈ gids U ∧ x ≠ a := fun x hx => by
    obtain ⟨y, hy, hm⟩ := gids_mem.mp hx
    by_cases e : y = r
    · subst e; rw [vr] at hm; exact ⟨gids_mem.mpr ⟨y, hy, (hsub x hm).1⟩, (hsub x hm).2⟩
    · rw [vy y e] at hm; exact ⟨gids_mem.mpr ⟨y, hy, hm⟩, fun e9 => hanot y hy e (by rw [← e9]; exact hm)⟩
  have hl := gids_len (T := U) (t := jn L9 R9) hr6
  have hl2 := congrArg List.length g3
  rw [t3] at hl
  simp only [List.length_append, List.length_cons] at hl hl2
  refine MI_mk hM0 (fun y hy => ?_) (fun y y' hy hy' hne x hx hx2 => ?_) (fun x hx => (hgs x hx).1) (fun x hx => va_up_ne _ _ (hgs x hx).2) (fun k hk hz => ?_) (by rw [h_mn]; omega) (by omega)
  · by_cases e : y = r
    · subst e
      rw [vr]
      refine ⟨by rw [sP_eq, t2], rep_congr _ _ t1 (fun x _ => ⟨by rw [sP_nk (by decide)], by rw [sP_nk (by decide)], by rw [sP_nk (by decide)]⟩), by rw [t3]; exact hnLR, ?_⟩
      unfold srt
      rw [t3]
      refine List.Pairwise.sublist ?_ (show (tids L9 ++ a :: tids R9).Pairwise (fun a b => zn zs a < zn zs b) by rw [g3]; exact a5)
      exact List.Sublist.append (List.Sublist.refl _) (List.sublist_cons_self _ _)
    · rw [vy y e]
      obtain ⟨⟨b1, b2, b3, b4⟩, b5⟩ := h_t y hy
      have hx9 : ∀ x ∈ tids (U y), x ∉ tids (U r) := fun x hx => hap.2 y r hy hr6 e x hx
      have hq : ∀ j x, j < 3 → x ∈ tids (U y) → sP (tgP (low (low Q1 (rt L9)) (rt R9)) L9 (rt R9)) 3 r (tgr L9 (rt R9)) j x = Q j x := fun j x hj hx => by
        have hL : x ∉ tids L9 := fun e => hx9 x hx (by rw [← g3]; simp [e])
        have hR9 : x ∉ tids R9 := fun e => hx9 x hx (by rw [← g3]; simp [e])
        rw [sP_nk (by omega), t4 j x hL hR9, hlow j x hL hR9, hQ1, sP_nk (by omega), s4 j x (hx9 x hx)]
      exact ⟨by rw [sP_na e, t5 3 y (by omega), hlow3, hQ1, sP_na e, s5 3 y (by omega), b1], rep_congr _ _ b2 (fun x hx => ⟨hq 0 x (by omega) hx, hq 1 x (by omega) hx, hq 2 x (by omega) hx⟩), b3, b5⟩
  · by_cases e : y = r <;> by_cases e' : y' = r
    · exact hne (by rw [e, e'])
    · subst e; rw [vr] at hx; rw [vy y' e'] at hx2; exact hap.2 y y' hy hy' hne x (hsub x hx).1 hx2
    · subst e'; rw [vr] at hx2; rw [vy y e] at hx; exact hap.2 y y' hy hy' hne x hx (hsub x hx2).1
    · rw [vy y e] at hx; rw [vy y' e'] at hx2; exact hap.2 y y' hy hy' hne x hx hx2
  · have hka : k ≠ a := fun e => hz (by rw [e, va_up_self])
    rw [va_up_ne _ _ hka] at hz
    obtain ⟨y, hy, hm⟩ := gids_mem.mp (h_zs k hk hz)
    by_cases e : y = r
    · subst e
      rw [← g3] at hm
      refine gids_mem.mpr ⟨y, hy, ?_⟩
      rw [vr, t3]
      rcases List.mem_append.mp hm with h | h
      · simp [h]
      · rcases List.mem_cons.mp h with h | h
        · exact absurd h hka
        · simp [h]
    · exact gids_mem.mpr ⟨y, hy, by rw [vy y e]; exact hm⟩
end BothP
