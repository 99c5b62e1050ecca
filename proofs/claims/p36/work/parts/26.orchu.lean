/-! METHODS of SplayOrchard: those that change it -/
theorem gids_apart {T : Nat → Tr} (h : (gids T).Nodup) : (∀ r, r < 6 → (tids (T r)).Nodup) ∧ ∀ r q, r < 6 → q < 6 → r ≠ q → ∀ a, a ∈ tids (T r) → a ∉ tids (T q) := by
  unfold gids at h
  simp only [List.nodup_append, List.mem_append] at h
  obtain ⟨n0, ⟨n1, ⟨n2, ⟨n3, ⟨n4, n5, d4⟩, d3⟩, d2⟩, d1⟩, d0⟩ := h
  refine ⟨fun r hr => ?_, fun r q hr hq hne a h1 h2 => ?_⟩
  · have : r = 0 ∨ r = 1 ∨ r = 2 ∨ r = 3 ∨ r = 4 ∨ r = 5 := by omega
    rcases this with rfl | rfl | rfl | rfl | rfl | rfl <;> assumption
  · have key : ∀ r q, r < q → q < 6 → ∀ a, a ∈ tids (T r) → a ∈ tids (T q) → False := by
      intro r q hrq hq a h1 h2
      have : r = 0 ∨ r = 1 ∨ r = 2 ∨ r = 3 ∨ r = 4 := by omega
      have hq' : q = 1 ∨ q = 2 ∨ q = 3 ∨ q = 4 ∨ q = 5 := by omega
      rcases this with rfl | rfl | rfl | rfl | rfl <;> rcases hq' with rfl | rfl | rfl | rfl | rfl <;> first | omega | exact d0 a h1 a (by simp [h2]) rfl | exact d1 a h1 a (by simp [h2]) rfl | exact d2 a h1 a (by simp [h2]) rfl | exact d3 a h1 a (by simp [h2]) rfl | exact d4 a h1 a (by simp [h2]) rfl
    rcases Nat.lt_or_gt_of_ne hne with h | h
    · exact key r q h hq a h1 h2
    · exact key q r h hr a h2 h1
theorem gids_nodup {T : Nat → Tr} (h1 : ∀ r, r < 6 → (tids (T r)).Nodup) (h2 : ∀ r q, r < 6 → q < 6 → r ≠ q → ∀ a, a ∈ tids (T r) → a ∉ tids (T q)) : (gids T).Nodup := by
  unfold gids
  simp only [List.nodup_append, List.mem_append]
  have n : ∀ r q, r < 6 → q < 6 → r ≠ q → ∀ a, a ∈ tids (T r) → ∀ b, b ∈ tids (T q) → a ≠ b := fun r q hr hq hne a ha b hb e => h2 r q hr hq hne a ha (by rw [e]; exact hb)
  refine ⟨h1 0 (by omega), ⟨h1 1 (by omega), ⟨h1 2 (by omega), ⟨h1 3 (by omega), ⟨h1 4 (by omega), h1 5 (by omega), n 4 5 (by omega) (by omega) (by omega)⟩, ?_⟩, ?_⟩, ?_⟩, ?_⟩
  · rintro a ha b (hb | hb)
    · exact n 3 4 (by omega) (by omega) (by omega) a ha b hb
    · exact n 3 5 (by omega) (by omega) (by omega) a ha b hb
  · rintro a ha b (hb | hb | hb)
    · exact n 2 3 (by omega) (by omega) (by omega) a ha b hb
    · exact n 2 4 (by omega) (by omega) (by omega) a ha b hb
    · exact n 2 5 (by omega) (by omega) (by omega) a ha b hb
  · rintro a ha b (hb | hb | hb | hb)
    · exact n 1 2 (by omega) (by omega) (by omega) a ha b hb
    · exact n 1 3 (by omega) (by omega) (by omega) a ha b hb
    · exact n 1 4 (by omega) (by omega) (by omega) a ha b hb
    · exact n 1 5 (by omega) (by omega) (by omega) a ha b hb
  · rintro a ha b (hb | hb | hb | hb | hb)
    · exact n 0 1 (by omega) (by omega) (by omega) a ha b hb
    · exact n 0 2 (by omega) (by omega) (by omega) a ha b hb
    · exact n 0 3 (by omega) (by omega) (by omega) a ha b hb
    · exact n 0 4 (by omega) (by omega) (by omega) a ha b hb
    · exact n 0 5 (by omega) (by omega) (by omega) a ha b hb
theorem gids_len {T : Nat → Tr} {r : Nat} {t : Tr} (h : r < 6) : (gids (va_up T r t)).length + (tids (T r)).length = (gids T).length + (tids t).length := by
  have : r = 0 ∨ r = 1 ∨ r = 2 ∨ r = 3 ∨ r = 4 ∨ r = 5 := by omega
  rcases this with rfl | rfl | rfl | rfl | rfl | rfl <;> simp [gids, va_up] <;> omega
theorem srt_sub {sz : Nat → Nat} {t t' : Tr} (h : srt sz t) (hs : (tids t').Sublist (tids t)) : srt sz t' := List.Pairwise.sublist hs h
section MOrchU
variable {l : Launch} {D : va_G} {lo : Nat} {Γ : GT} {L : List Nat} {K : Nat → Nat} {sz : Nat → Nat} {si : Nat → Option Nat} {P : PF} {bi : Nat → Nat} {tu : Nat} {M : MW} {V : Int64 × UInt64}
/-- the trees changed, the same apples or fewer -/
theorem CI_mk {P' : PF} {o : Nat} {T T' : Nat → Tr} (hc : CI Γ o T L K sz si P) (h : ∀ r, r < 6 → P' 3 (gta Γ r) = rt (T' r) ∧ rep P' none (T' r) ∧ (tids (T' r)).Nodup ∧ srt sz (T' r)) (hap : ∀ r q, r < 6 → q < 6 → r ≠ q → ∀ a, a ∈ tids (T' r) → a ∉ tids (T' q)) (hsub : ∀ r, r < 6 → ∀ a ∈ tids (T' r), a ∈ gids T) (hlen : (gids T').length ≤ (gids T).length) : CI Γ o T' L K sz si P' := by
  obtain ⟨hg, c_t, c_nd, c_si, c_inj, c_40⟩ := hc
  have hs : ∀ a ∈ gids T', a ∈ gids T := fun a ha => by
    obtain ⟨r, hr, h1⟩ := gids_mem.mp ha
    exact hsub r hr a h1
  refine ⟨hg, fun r hr => ?_, gids_nodup (fun r hr => (h r hr).2.2.1) hap, fun a ha => ?_, fun a ha b hb => c_inj a (hs a ha) b (hs b hb), Nat.le_trans hlen c_40⟩
  · obtain ⟨h1, h2, h3, h4⟩ := h r hr
    obtain ⟨⟨a1, a2, -⟩, -⟩ := c_t r hr
    refine ⟨⟨a1, a2, h1, h2, h3, fun a ha => ?_⟩, h4⟩
    obtain ⟨q, hq, hm⟩ := gids_mem.mp (hsub r hr a ha)
    exact (c_t q hq).1.2.2.2.2.2 a hm
  · obtain ⟨b, h1, h2, h3, h4⟩ := c_si a (hs a ha)
    exact ⟨b, h1, h2, fun q => h3 (hs b q), h4⟩
theorem CI_row {P' : PF} {o r : Nat} {T : Nat → Tr} {t' : Tr} (hc : CI Γ o T L K sz si P) (hr6 : r < 6) (h1 : P' 3 (gta Γ r) = rt t') (h2 : rep P' none t') (hs : (tids t').Sublist (tids (T r))) (hf : ∀ j x, j < 3 → x ∉ tids (T r) → P' j x = P j x) (hf3 : ∀ x, x ≠ gta Γ r → P' 3 x = P 3 x) : CI Γ o (va_up T r t') L K sz si P' := by
  have hap := gids_apart hc.2.2.1
  have hcc := hc
  obtain ⟨hg, c_t, -⟩ := hcc
  refine CI_mk hc (fun q hq => ?_) (fun q q' hq hq' hne a ha => ?_) (fun q hq a ha => ?_) ?_
  · by_cases hqr : q = r
    · subst hqr
      rw [va_up_self]
      exact ⟨h1, h2, List.Nodup.sublist hs (hap.1 q hq), srt_sub (c_t q hq).2 hs⟩
    · rw [va_up_ne _ _ hqr]
      obtain ⟨⟨a1, a2, a3, a4, a5, a6⟩, a7⟩ := c_t q hq
      have hx : ∀ x ∈ tids (T q), x ∉ tids (T r) := fun x hx => hap.2 q r hq hr6 hqr x hx
      exact ⟨by rw [hf3 _ (fun e => hqr (hg.2.2.2.2.2 q r hq hr6 e)), a3], rep_congr _ _ a4 (fun x hx9 => ⟨hf 0 x (by omega) (hx x hx9), hf 1 x (by omega) (hx x hx9), hf 2 x (by omega) (hx x hx9)⟩), a5, a7⟩
  · have sub : ∀ y, y < 6 → ∀ b, b ∈ tids (va_up T r t' y) → b ∈ tids (T y) := fun y hy b hb => by
      by_cases hyr : y = r
      · subst hyr; rw [va_up_self] at hb; exact hs.subset hb
      · rw [va_up_ne _ _ hyr] at hb; exact hb
    exact fun hb => hap.2 q q' hq hq' hne a (sub q hq a ha) (sub q' hq' a hb)
  · by_cases hqr : q = r
    · subst hqr; rw [va_up_self] at ha; exact gids_mem.mpr ⟨q, hq, hs.subset ha⟩
    · rw [va_up_ne _ _ hqr] at ha; exact gids_mem.mpr ⟨q, hq, ha⟩
  · have h5 := gids_len (T := T) (t := t') hr6
    have h6 := hs.length_le
    omega
theorem CI_two {P' : PF} {o r q : Nat} {T : Nat → Tr} {t' u' : Tr} (hc : CI Γ o T L K sz si P) (hr6 : r < 6) (hq6 : q < 6) (hrq : r ≠ q) (h1 : P' 3 (gta Γ r) = rt t' ∧ rep P' none t' ∧ srt sz t') (h2 : P' 3 (gta Γ q) = rt u' ∧ rep P' none u' ∧ srt sz u') (hn : (tids t' ++ tids u').Nodup) (hs : ∀ a, a ∈ tids t' ∨ a ∈ tids u' → a ∈ tids (T r) ∨ a ∈ tids (T q)) (hl : (tids t').length + (tids u').length ≤ (tids (T r)).length + (tids (T q)).length) (hf : ∀ j x, j < 3 → x ∉ tids (T r) → x ∉ tids (T q) → P' j x = P j x) (hf3 : ∀ x, x ≠ gta Γ r → x ≠ gta Γ q → P' 3 x = P 3 x) : CI Γ o (va_up (va_up T r t') q u') L K sz si P' := by
  have hap := gids_apart hc.2.2.1
  have hcc := hc
  obtain ⟨hg, c_t, -⟩ := hcc
  obtain ⟨nt, nu, hd⟩ := List.nodup_append.mp hn
  have vq : va_up (va_up T r t') q u' q = u' := va_up_self _ _ _
  have vr : va_up (va_up T r t') q u' r = t' := by rw [va_up_ne _ _ hrq, va_up_self]
  have vy : ∀ y, y ≠ r → y ≠ q → va_up (va_up T r t') q u' y = T y := fun y h3 h4 => by rw [va_up_ne _ _ h4, va_up_ne _ _ h3]
  have hin : ∀ y, y < 6 → ∀ a, a ∈ tids (va_up (va_up T r t') q u' y) → ((y = r ∨ y = q) ∧ (a ∈ tids (T r) ∨ a ∈ tids (T q))) ∨ (y ≠ r ∧ y ≠ q ∧ a ∈ tids (T y)) := fun y hy a ha => by
    by_cases hyq : y = q
    · subst hyq; rw [vq] at ha; exact Or.inl ⟨Or.inr rfl, hs a (Or.inr ha)⟩
    · by_cases hyr : y = r
      · subst hyr; rw [vr] at ha; exact Or.inl ⟨Or.inl rfl, hs a (Or.inl ha)⟩
      · rw [vy y hyr hyq] at ha; exact Or.inr ⟨hyr, hyq, ha⟩
  refine CI_mk hc (fun y hy => ?_) (fun y y' hy hy' hne a ha hb => ?_) (fun y hy a ha => ?_) ?_
  · by_cases hyq : y = q
    · subst hyq; rw [vq]; exact ⟨h2.1, h2.2.1, nu, h2.2.2⟩
    · by_cases hyr : y = r
      · subst hyr; rw [vr]; exact ⟨h1.1, h1.2.1, nt, h1.2.2⟩
      · rw [vy y hyr hyq]
        obtain ⟨⟨a1, a2, a3, a4, a5, a6⟩, a7⟩ := c_t y hy
        have hx : ∀ x ∈ tids (T y), x ∉ tids (T r) ∧ x ∉ tids (T q) := fun x hx => ⟨hap.2 y r hy hr6 hyr x hx, hap.2 y q hy hq6 hyq x hx⟩
        exact ⟨by rw [hf3 _ (fun e => hyr (hg.2.2.2.2.2 y r hy hr6 e)) (fun e => hyq (hg.2.2.2.2.2 y q hy hq6 e)), a3], rep_congr _ _ a4 (fun x hx9 => ⟨hf 0 x (by omega) (hx x hx9).1 (hx x hx9).2, hf 1 x (by omega) (hx x hx9).1 (hx x hx9).2, hf 2 x (by omega) (hx x hx9).1 (hx x hx9).2⟩), a5, a7⟩
  · rcases hin y hy a ha with ⟨e1, m1⟩ | ⟨e1, e1', m1⟩ <;> rcases hin y' hy' a hb with ⟨e2, m2⟩ | ⟨e2, e2', m2⟩
    · rcases e1 with rfl | rfl <;> rcases e2 with rfl | rfl
      · exact hne rfl
      · rw [vr] at ha; rw [vq] at hb; exact hd a ha a hb rfl
      · rw [vq] at ha; rw [vr] at hb; exact hd a hb a ha rfl
      · exact hne rfl
    · rcases m1 with m1 | m1
      · exact hap.2 y' r hy' hr6 e2 a m2 m1
      · exact hap.2 y' q hy' hq6 e2' a m2 m1
    · rcases m2 with m2 | m2
      · exact hap.2 y r hy hr6 e1 a m1 m2
      · exact hap.2 y q hy hq6 e1' a m1 m2
    · exact hap.2 y y' hy hy' hne a m1 m2
  · rcases hin y hy a ha with ⟨-, m1 | m1⟩ | ⟨-, -, m1⟩
    · exact gids_mem.mpr ⟨r, hr6, m1⟩
    · exact gids_mem.mpr ⟨q, hq6, m1⟩
    · exact gids_mem.mpr ⟨y, hy, m1⟩
  · have h5 := gids_len (T := T) (t := t') hr6
    have h6 := gids_len (T := va_up T r t') (t := u') hq6
    rw [va_up_ne _ _ (Ne.symm hrq)] at h6
    omega
theorem CI_raise {o r a : Nat} {T : Nat → Tr} (hc : CI Γ o T L K sz si P) (hr6 : r < 6) (ha : a ∈ tids (T r)) : CI Γ o (va_up T r (spz (zof (T r) a))) L K sz si (sP (rai a (zof (T r) a).2.2.2 P) 3 (gta Γ r) (some a)) := by
  have htr := (hc.2.1 r hr6).1
  obtain ⟨g1, g2, g3, g4, g5⟩ := spz_raise htr.2.2.2.1 htr.2.2.2.2.1 ha
  exact CI_row hc hr6 (by rw [sP_eq, g2]) (rep_congr _ _ g1 (fun x _ => ⟨by rw [sP_nk (by omega)], by rw [sP_nk (by omega)], by rw [sP_nk (by omega)]⟩)) (by rw [g3]; exact List.Sublist.refl _) (fun j x hj hx => by rw [sP_nk (by omega), g4 j x hx]) (fun x hx => by rw [sP_na hx, g5 3 x (by omega)])
theorem pick_0 {P1 : PF} {o r a : Nat} {T : Nat → Tr} {L9 R9 : Tr} (hc : CI Γ o T L K sz si P) (hr6 : r < 6) (ha : a ∈ tids (T r)) (hsp : spz (zof (T r) a) = .branch a L9 R9) (hP1 : P1 = sP (rai a (zof (T r) a).2.2.2 P) 3 (gta Γ r) (some a)) : rep P1 none (.branch a L9 R9) ∧ tids L9 ++ a :: tids R9 = tids (T r) ∧ (∀ j x, j < 3 → x ∉ tids (T r) → P1 j x = P j x) ∧ (∀ x, x ≠ gta Γ r → P1 3 x = P 3 x) := by
  have htr := (hc.2.1 r hr6).1
  obtain ⟨g1, g2, g3, g4, g5⟩ := spz_raise htr.2.2.2.1 htr.2.2.2.2.1 ha
  rw [hsp] at g1 g3
  subst hP1
  exact ⟨rep_congr _ _ g1 (fun x _ => ⟨by rw [sP_nk (by omega)], by rw [sP_nk (by omega)], by rw [sP_nk (by omega)]⟩), g3, fun j x hj hx => by rw [sP_nk (by omega), g4 j x hx], fun x hx => by rw [sP_na hx, g5 3 x (by omega)]⟩
theorem pick_1 {P1 : PF} {o r a : Nat} {T : Nat → Tr} {L9 R9 : Tr} (hc : CI Γ o T L K sz si P) (hr6 : r < 6) (ha : a ∈ tids (T r)) (hsp : spz (zof (T r) a) = .branch a L9 R9) (hP1 : P1 = sP (rai a (zof (T r) a).2.2.2 P) 3 (gta Γ r) (some a)) : P1 0 a = rt L9 ∧ P1 1 a = rt R9 ∧ ∀ b, b ∈ tids L9 ∨ b ∈ tids R9 → okA L K b := by
  obtain ⟨g1, g2, -⟩ := pick_0 hc hr6 ha hsp hP1
  refine ⟨g1.2.1, g1.2.2.1, fun b hb => ((hc.2.1 r hr6).1.2.2.2.2.2 b ?_).1⟩
  rw [← g2]
  rcases hb with hb | hb <;> simp [hb]
theorem pick_2 {P1 P2 : PF} {o r a : Nat} {T : Nat → Tr} {L9 R9 : Tr} (hc : CI Γ o T L K sz si P) (hr6 : r < 6) (ha : a ∈ tids (T r)) (hsp : spz (zof (T r) a) = .branch a L9 R9) (hP1 : P1 = sP (rai a (zof (T r) a).2.2.2 P) 3 (gta Γ r) (some a)) (hP2 : P2 = stp P1 (gta Γ r) (rt L9)) : P2 1 a = rt R9 ∧ TR L K sz P2 (gta Γ r) L9 ∧ (tids L9).length ≤ (tids (T r)).length := by
  have htr := (hc.2.1 r hr6).1
  obtain ⟨g1, g2, g3, g4⟩ := pick_0 hc hr6 ha hsp hP1
  have hn := htr.2.2.2.2.1
  rw [← g2] at hn
  obtain ⟨nl, nar, hd⟩ := List.nodup_append.mp hn
  obtain ⟨q1, q2, q3, q4⟩ := stp_ok (t0 := gta Γ r) g1.2.2.2.1 nl
  subst hP2
  refine ⟨by rw [q3 1 a (fun e => hd a (rt_mem e) a (by simp) rfl) (by omega)]; exact g1.2.2.1, ⟨htr.1, htr.2.1, q2, q1, nl, fun x hx => htr.2.2.2.2.2 x (by rw [← g2]; simp [hx])⟩, by rw [← g2, List.length_append]; omega⟩
theorem pick_3 {P1 P2 : PF} {o r a : Nat} {T : Nat → Tr} {L9 R9 : Tr} (hc : CI Γ o T L K sz si P) (hr6 : r < 6) (ha : a ∈ tids (T r)) (hsp : spz (zof (T r) a) = .branch a L9 R9) (hP1 : P1 = sP (rai a (zof (T r) a).2.2.2 P) 3 (gta Γ r) (some a)) (hP2 : P2 = stp P1 (gta Γ r) (rt L9)) : CI Γ o (va_up T r (jn L9 R9)) L K sz si (appP P2 (gta Γ r) L9 (rt R9)) := by
  have htr := (hc.2.1 r hr6).1
  obtain ⟨g1, g2, g3, g4⟩ := pick_0 hc hr6 ha hsp hP1
  have hn := htr.2.2.2.2.1
  rw [← g2] at hn
  obtain ⟨nl, nar, hd⟩ := List.nodup_append.mp hn
  obtain ⟨na, nr⟩ := List.nodup_cons.mp nar
  obtain ⟨q1, q2, q3, q4⟩ := stp_ok (t0 := gta Γ r) g1.2.2.2.1 nl
  rw [← hP2] at q1 q2 q3 q4
  have hR : rep P2 (some a) R9 := rep_congr _ _ g1.2.2.2.2 (fun x hx => by
    have hne : rt L9 ≠ some x := fun e => hd x (rt_mem e) x (by simp [hx]) rfl
    exact ⟨q3 0 x hne (by omega), q3 1 x hne (by omega), q3 2 x hne (by omega)⟩)
  have hn2 : (tids L9 ++ tids R9).Nodup := List.nodup_append.mpr ⟨nl, nr, fun x hx y hy => hd x hx y (by simp [hy])⟩
  obtain ⟨k1, k2, k3, k4, k5⟩ := app_ok (t0 := gta Γ r) q1 hR hn2
  have hinT : ∀ x, x ∈ tids L9 ∨ x ∈ tids R9 → x ∈ tids (T r) := fun x hx => by rw [← g2]; rcases hx with h | h <;> simp [h]
  refine CI_row hc hr6 k2 k1 ?_ (fun j x hj hx => ?_) (fun x hx => by rw [k5 x hx, q4 x hx, g4 x hx])
  · rw [k3, ← g2]
    exact List.Sublist.append (List.Sublist.refl _) (List.sublist_cons_self _ _)
  · have hxL : x ∉ tids L9 := fun q => hx (hinT x (Or.inl q))
    have hxR : x ∉ tids R9 := fun q => hx (hinT x (Or.inr q))
    rw [k4 j x hxL hxR (by omega), q3 j x (fun e => hxL (rt_mem e)) (by omega), g3 j x hj hx]
theorem join_srt {T1 T2 : Tr} (h1 : srt sz T1) (h2 : srt sz T2) (hm : mayJ sz T1 T2 = true) : (tids T1 ++ tids T2).Pairwise (fun a b => sz a < sz b) := by
  refine List.pairwise_append.mpr ⟨h1, h2, fun a ha b hb => ?_⟩
  unfold mayJ at hm
  cases hl : (tids T1).getLast? with
  | none => rw [List.getLast?_eq_none_iff.mp hl] at ha; cases ha
  | some g =>
    rw [hl] at hm
    cases hh : (tids T2).head? with
    | none => rw [List.head?_eq_none_iff.mp hh] at hb; cases hb
    | some y =>
      rw [hh] at hm
      have hgy : sz g < sz y := of_decide_eq_true hm
      have ha2 : sz a ≤ sz g := by
        obtain ⟨l, hl2⟩ := List.getLast?_eq_some_iff.mp hl
        have h3 : (tids T1).Pairwise (fun a b => sz a < sz b) := h1
        rw [hl2] at h3 ha
        rcases List.mem_append.mp ha with h | h
        · exact Nat.le_of_lt ((List.pairwise_append.mp h3).2.2 a h g (by simp))
        · rw [List.mem_singleton.mp h]; exact Nat.le_refl _
      have hb2 : sz y ≤ sz b := by
        cases hq : tids T2 with
        | nil => rw [hq] at hb; cases hb
        | cons y' l =>
          rw [hq] at hh
          cases hh
          have h3 : (tids T2).Pairwise (fun a b => sz a < sz b) := h2
          rw [hq] at h3 hb
          rcases List.mem_cons.mp hb with h | h
          · rw [h]; exact Nat.le_refl _
          · exact Nat.le_of_lt ((List.pairwise_cons.mp h3).1 b h)
      omega
theorem join_ok {o r q : Nat} {T : Nat → Tr} (hc : CI Γ o T L K sz si P) (hr6 : r < 6) (hq6 : q < 6) (hrq : r ≠ q) (hm : mayJ sz (T r) (T q) = true) : CI Γ o (va_up (va_up T r (jn (T r) (T q))) q (.leaf ())) L K sz si (stp (appP P (gta Γ r) (T r) (rt (T q))) (gta Γ q) none) := by
  have hap := gids_apart hc.2.2.1
  have htr := (hc.2.1 r hr6).1
  have htq := (hc.2.1 q hq6).1
  have hne : gta Γ q ≠ gta Γ r := fun e => hrq (hc.1.2.2.2.2.2 r q hr6 hq6 e.symm)
  have hn : (tids (T r) ++ tids (T q)).Nodup := List.nodup_append.mpr ⟨htr.2.2.2.2.1, htq.2.2.2.2.1, fun x hx y hy e => hap.2 r q hr6 hq6 hrq x hx (by rw [e]; exact hy)⟩
  obtain ⟨k1, k2, k3, k4, k5⟩ := app_ok (t0 := gta Γ r) htr.2.2.2.1 htq.2.2.2.1 hn
  have hs : ∀ j x, (j = 3 → x ≠ gta Γ q) → stp (appP P (gta Γ r) (T r) (rt (T q))) (gta Γ q) none j x = appP P (gta Γ r) (T r) (rt (T q)) j x := fun j x h => sP_ne (fun e => h e.1 e.2)
  refine CI_two hc hr6 hq6 hrq ⟨by rw [hs 3 _ (fun _ => hne.symm)]; exact k2, rep_congr _ _ k1 (fun x _ => ⟨hs 0 x (by omega), hs 1 x (by omega), hs 2 x (by omega)⟩), ?_⟩ ⟨sP_eq _ _ _ _, trivial, List.Pairwise.nil⟩ (by rw [k3]; simpa [tids] using hn) (fun a ha => ?_) (by rw [k3]; simp [tids]) (fun j x hj hx hx2 => by rw [hs j x (by omega), k4 j x hx hx2 (by omega)]) (fun x hx hx2 => by rw [hs 3 x (fun _ => hx2), k5 x hx])
  · unfold srt
    rw [k3]
    exact join_srt (hc.2.1 r hr6).2 (hc.2.1 q hq6).2 hm
  · rcases ha with ha | ha
    · rw [k3] at ha; exact List.mem_append.mp ha
    · cases ha
theorem split_ok {P1 : PF} {o r q b : Nat} {T : Nat → Tr} {L9 R9 : Tr} (hc : CI Γ o T L K sz si P) (hr6 : r < 6) (hq6 : q < 6) (hrq : r ≠ q) (hTq : T q = .leaf ()) (hb : b ∈ tids (T r)) (hsp : spz (zof (T r) b) = .branch b L9 R9) (hP1 : P1 = sP (rai b (zof (T r) b).2.2.2 P) 3 (gta Γ r) (some b)) : CI Γ o (va_up (va_up T r (.branch b L9 (.leaf ()))) q R9) L K sz si (hng (stp P1 (gta Γ q) (rt R9)) none (some b) 1) := by
  have htr := (hc.2.1 r hr6).1
  obtain ⟨g1, g2, g3, g4⟩ := pick_0 hc hr6 hb hsp hP1
  have hne : gta Γ r ≠ gta Γ q := fun e => hrq (hc.1.2.2.2.2.2 r q hr6 hq6 e)
  have hn := htr.2.2.2.2.1
  rw [← g2] at hn
  obtain ⟨nl, nbr, hd⟩ := List.nodup_append.mp hn
  obtain ⟨nb, nr⟩ := List.nodup_cons.mp nbr
  obtain ⟨q1, q2, q3, q4⟩ := stp_ok (t0 := gta Γ q) g1.2.2.2.2 nr
  have hv : ∀ j x, ¬ (j = 1 ∧ x = b) → hng (stp P1 (gta Γ q) (rt R9)) none (some b) 1 j x = stp P1 (gta Γ q) (rt R9) j x := fun j x h => sP_ne h
  have hbR : rt R9 ≠ some b := fun e => nb (rt_mem e)
  have hbL : b ∉ tids L9 := fun h => hd b h b (by simp) rfl
  have hsrt : (tids L9 ++ b :: tids R9).Pairwise (fun a b => sz a < sz b) := by rw [g2]; exact (hc.2.1 r hr6).2
  have hP13 : P1 3 (gta Γ r) = some b := by rw [hP1, sP_eq]
  refine CI_two hc hr6 hq6 hrq ⟨?_, ⟨?_, ?_, ?_, ?_, trivial⟩, ?_⟩ ⟨?_, ?_, ?_⟩ ?_ (fun a ha => Or.inl ?_) ?_ (fun j x hj hx hx2 => ?_) (fun x hx hx2 => ?_)
  · rw [hv 3 _ (by omega), q4 _ hne, hP13]; rfl
  · rw [hv 2 b (by omega), q3 2 b hbR (by omega)]; exact g1.1
  · rw [hv 0 b (by omega), q3 0 b hbR (by omega)]; exact g1.2.1
  · show sP (stp P1 (gta Γ q) (rt R9)) 1 b none 1 b = _
    rw [sP_eq]; rfl
  · refine rep_congr _ _ g1.2.2.2.1 (fun x hx => ?_)
    have hxb : x ≠ b := fun e => hbL (by rw [← e]; exact hx)
    have hxR : rt R9 ≠ some x := fun e => hd x hx x (by simp [rt_mem e]) rfl
    exact ⟨by rw [hv 0 x (by omega), q3 0 x hxR (by omega)], by rw [hv 1 x (fun e => hxb e.2), q3 1 x hxR (by omega)], by rw [hv 2 x (by omega), q3 2 x hxR (by omega)]⟩
  · refine List.Pairwise.sublist ?_ hsrt
    exact List.Sublist.append (List.Sublist.refl _) (List.cons_sublist_cons.mpr (List.nil_sublist _))
  · rw [hv 3 _ (by omega)]; exact q2
  · refine rep_congr _ _ q1 (fun x hx => ?_)
    have hxb : x ≠ b := fun e => nb (by rw [← e]; exact hx)
    exact ⟨hv 0 x (by omega), hv 1 x (fun e => hxb e.2), hv 2 x (by omega)⟩
  · exact List.Pairwise.sublist (List.Sublist.trans (List.sublist_cons_self _ _) (List.sublist_append_right _ _)) hsrt
  · have e : tids (.branch b L9 (.leaf ())) ++ tids R9 = tids L9 ++ b :: tids R9 := by simp [tids]
    rw [e]; exact hn
  · rw [← g2]
    rcases ha with ha | ha
    · rw [tids_branch] at ha
      rcases List.mem_append.mp ha with h | h
      · simp [h]
      · rcases List.mem_cons.mp h with h | h
        · simp [h]
        · cases h
    · simp [ha]
  · rw [← g2]; simp [tids]; omega
  · have hxb : x ≠ b := fun e => hx (by rw [e]; exact hb)
    rw [hv j x (fun e => hxb e.2), q3 j x (fun e => hx (by rw [← g2]; simp [rt_mem e])) (by omega), g3 j x hj hx]
  · rw [hv 3 x (by omega), q4 x hx2, g4 x hx]
theorem split_none {o r q : Nat} {T : Nat → Tr} (hc : CI Γ o T L K sz si P) (hr6 : r < 6) (hq6 : q < 6) (hrq : r ≠ q) (hTq : T q = .leaf ()) : CI Γ o (va_up (va_up T r (.leaf ())) q (T r)) L K sz si (stp (stp P (gta Γ q) (rt (T r))) (gta Γ r) none) := by
  have htr := (hc.2.1 r hr6).1
  have hne : gta Γ r ≠ gta Γ q := fun e => hrq (hc.1.2.2.2.2.2 r q hr6 hq6 e)
  obtain ⟨q1, q2, q3, q4⟩ := stp_ok (t0 := gta Γ q) htr.2.2.2.1 htr.2.2.2.2.1
  have hs : ∀ j x, (j = 3 → x ≠ gta Γ r) → stp (stp P (gta Γ q) (rt (T r))) (gta Γ r) none j x = stp P (gta Γ q) (rt (T r)) j x := fun j x h => sP_ne (fun e => h e.1 e.2)
  refine CI_two hc hr6 hq6 hrq ⟨sP_eq _ _ _ _, trivial, List.Pairwise.nil⟩ ⟨by rw [hs 3 _ (fun _ => hne.symm)]; exact q2, rep_congr _ _ q1 (fun x _ => ⟨hs 0 x (by omega), hs 1 x (by omega), hs 2 x (by omega)⟩), (hc.2.1 r hr6).2⟩ (by simpa [tids] using htr.2.2.2.2.1) (fun a ha => Or.inl ?_) (by simp [tids]) (fun j x hj hx _ => by rw [hs j x (by omega), q3 j x (fun e => hx (rt_mem e)) (by omega)]) (fun x hx hx2 => by rw [hs 3 x (fun _ => hx), q4 x hx2])
  rcases ha with ha | ha
  · cases ha
  · exact ha
set_option maxRecDepth 100000 in
set_option maxHeartbeats 4000000 in
theorem c_X2_append {o t0 : Nat} {T1 : Tr} {x : Option Nat} (ok_o : o ∈ L ∧ K o = 2) (o_u : ∀ b, b ∈ L → K b = 2 → b = o) (h : TR L K sz P t0 T1) (okq_x : ∀ b, x = some b → okA L K b) (h40 : (tids T1).length < 1000) : Md l yX2_append wsX2_append (rmL 5 0 0) D lo Γ [.ref o, .ref t0, va_rf x] ((L, K, sz, si, P, bi, tu), M, V) none ((L, K, sz, si, appP P t0 T1 x, bi, tu + appN T1), M, V) := by
  refine Mz_of (cc := cX2_append) (maxL := 4) (ret := none) (by decide) rfl (by cases x <;> exact Nat.le_of_ble_eq_true rfl) ?_
  intro p e s m args below meth c ls S hr hlocks hK hH hS hl
  have hx := S.1
  have hb := S.2.1
  have hts := S.2.2.2.2
  have hl : lv_has ls 4 [(0, .ref o), (1, .ref t0), (2, va_rf x)] := hl
  have ok_t0 : t0 ∈ L ∧ K t0 = 1 := ⟨h.1, h.2.1⟩
  refine lv_aload_n hx hb dX2_append_0 rfl (lv_at hl 1 rfl) ?_
  refine cV S (c_X1_last (l := l) (D := D) (lo := lo) (Γ := Γ) (sz := sz) (si := si) (P := P) (bi := bi) (tu := tu) (M := M) (V := V) h) (cwV 0 hts gX2_append_X1_last rfl rfl rfl (by decide +kernel) ⟨Nat.le_of_ble_eq_true rfl, Nat.le_of_ble_eq_true rfl⟩) hK hH (Hp_recv hK hH ok_t0.1 ok_t0.2 rfl) hS rfl hl.1 rfl (Nat.le_of_ble_eq_true rfl) dX2_append_1 ⟨Nat.le_of_ble_eq_true rfl, Nat.le_of_ble_eq_true rfl⟩ (fun v Z1 H locs hpost hH hS => ?_)
  obtain ⟨rfl, rfl⟩ := hpost
  refine lq_astore_n (i := 3) (lv' := [(0, .ref o), (1, .ref t0), (2, va_rf x)]) S dX2_append_4 rfl hl (by decide) (by simp [cat_rf, cat_a, cat_i, cat_n]) (fun ls hl => ?_)
  refine lq_aload_n S dX2_append_5 rfl (lv_at hl 0 rfl) ?_
  refine lq_ifnonnull S dX2_append_6 (tgt := 17) (by decide) (fun y hq => ?_) (fun hq => ?_)
  · skip
    have hin := List.mem_of_getLast? hq
    have ok_y := (h.2.2.2.2.2 y hin).1
    have hzp := zof_plug hin
    rw [hq] at hl
    refine lv_aload_n hx hb dX2_append_17 rfl (lv_at hl 1 rfl) ?_
    refine lv_aload_n hx hb dX2_append_18 rfl (lv_at hl 2 rfl) ?_
    refine lv_aload_n hx hb dX2_append_19 rfl (lv_at hl 0 rfl) ?_
    refine cV S (c_X2_bringUp (l := l) (D := D) (lo := lo) (Γ := Γ) (sz := sz) (si := si) (P := P) (bi := bi) (tu := tu) (M := M) (V := V) (C := (zof T1 y).2.2.2) ok_o o_u ok_t0 ((Zp_plug _ _).mpr (by rw [hzp]; exact h.2.2.2.1)) (by rw [hzp]; exact h.2.2.2.2.1) (fun b hb9 => (h.2.2.2.2.2 b (by rw [← hzp]; exact hb9)).1) (Nat.lt_of_lt_of_le (cx_len (zof_in hin).1) (Nat.le_of_lt h40))) (cwV 2 hts gX2_append_X2_bringUp rfl rfl rfl (by decide +kernel) ⟨Nat.le_of_ble_eq_true rfl, Nat.le_of_ble_eq_true rfl⟩) hK hH (Hp_recv hK hH ok_o.1 ok_o.2 rfl) hS rfl hl.1 rfl (Nat.le_of_ble_eq_true rfl) dX2_append_20 ⟨Nat.le_of_ble_eq_true rfl, Nat.le_of_ble_eq_true rfl⟩ (fun v Z1 H locs hpost hH hS => ?_)
    obtain ⟨rfl, rfl⟩ := hpost
    refine lv_pop hx hb dX2_append_23 rfl ?_
    refine lv_aload_n hx hb dX2_append_24 rfl (lv_at hl 0 rfl) ?_
    refine lq_aload_n S dX2_append_25 rfl (lv_at hl 3 rfl) ?_
    refine cV S (c_X0_hangRight (l := l) (D := D) (lo := lo) (Γ := Γ) (sz := sz) (si := si) (P := (sP (rai y (zof T1 y).2.2.2 P) 3 t0 (some y))) (bi := bi) (tu := (tu + (zof T1 y).2.2.2.length)) (M := M) (V := V) (r := x) ok_y okq_x) (cwV 1 hts gX2_append_X0_hangRight rfl rfl rfl (by decide +kernel) ⟨Nat.le_of_ble_eq_true rfl, Nat.le_of_ble_eq_true rfl⟩) hK hH (Hp_recv hK hH ok_y.1 ok_y.2 rfl) hS rfl hl.1 rfl (Nat.le_of_ble_eq_true rfl) dX2_append_26 ⟨Nat.le_of_ble_eq_true rfl, Nat.le_of_ble_eq_true rfl⟩ (fun v Z1 H locs hpost hH hS => ?_)
    obtain ⟨rfl, rfl⟩ := hpost
    exact eV S hr hlocks hH hS ⟨rfl, by simp only [appP, appN, hq]⟩ dX2_append_29
  · skip
    refine lv_aload_n hx hb dX2_append_9 rfl (lv_at hl 2 rfl) ?_
    refine lq_aload_n S dX2_append_10 rfl (lv_at hl 3 rfl) ?_
    refine cV S (c_X1_setTop (l := l) (D := D) (lo := lo) (Γ := Γ) (sz := sz) (si := si) (P := P) (bi := bi) (tu := tu) (M := M) (V := V) (r := x) ok_t0 okq_x) (cwV 1 hts gX2_append_X1_setTop rfl rfl rfl (by decide +kernel) ⟨Nat.le_of_ble_eq_true rfl, Nat.le_of_ble_eq_true rfl⟩) hK hH (Hp_recv hK hH ok_t0.1 ok_t0.2 rfl) hS rfl hl.1 rfl (Nat.le_of_ble_eq_true rfl) dX2_append_11 ⟨Nat.le_of_ble_eq_true rfl, Nat.le_of_ble_eq_true rfl⟩ (fun v Z1 H locs hpost hH hS => ?_)
    obtain ⟨rfl, rfl⟩ := hpost
    refine lv_goto (tgt := 29) hx hb dX2_append_14 (by decide) ?_
    exact eV S hr hlocks hH hS ⟨rfl, by simp only [appP, appN, hq]; rfl⟩ dX2_append_29

set_option maxRecDepth 100000 in
set_option maxHeartbeats 4000000 in
theorem c_X2_eat {o : Nat} {T : Nat → Tr} {row x : Int32} (hst : l.stackTraces = false) (hc : CI Γ o T L K sz si P) : Mx l yX2_eat wsX2_eat (rmL 7 2 12) D lo Γ [.ref o, .int row, .int x] ((L, K, sz, si, P, bi, tu), M, V) (fun v Z' => ∃ r a, rowN row = some r ∧ fnd sz x.toInt (T r) = some a ∧ v = some (.int (nI (zof (T r) a).2.2.2.length)) ∧ CSW Γ o (va_up T r (spz (zof (T r) a))) sz (va_up bi a (bi a + 1)) (tu + (zof (T r) a).2.2.2.length) M V Z') (fun E Z' => ((E = "java/lang/IndexOutOfBoundsException" ∧ rowN row = none) ∨ (E = "java/lang/IllegalStateException" ∧ ∃ r, rowN row = some r ∧ fnd sz x.toInt (T r) = none)) ∧ Z' = ((L, K, sz, si, P, bi, tu), M, V)) := by
  refine Mx_of (cc := cX2_eat) (maxL := 5) (ret := (some .int)) (by decide) rfl (Nat.le_of_ble_eq_true rfl) ?_
  intro p e s m args below meth c ls S hr hlocks hK hH hS hX ht hl
  have hx := S.1
  have hb := S.2.1
  have hts := S.2.2.2.2
  have f62 : (Cond.fieldLink RX2 62 (TX0 5).1 (TX0 5).2.1 (TX0 5).2.2.1).before args s = true := hts _ (List.mem_of_getElem? (i := 1) rfl)
  have hi0 : ∀ w ∈ wsX00, w ∈ wsX2_eat := by decide +kernel
  have hl : lv_has ls 5 [(0, .ref o), (1, .int row), (2, .int x)] := hl
  have hc0 := hc
  obtain ⟨hg, c_t, c_nd, c_si, c_inj, c_40⟩ := hc
  obtain ⟨ok_o, o_u, ok_ra, ok_tt, tt_ne, ta_inj⟩ := hg
  refine lv_aload_n hx hb dX2_eat_0 rfl (lv_at hl 0 rfl) ?_
  refine lv_iload_n hx hb dX2_eat_1 rfl (lv_at hl 1 rfl) ?_
  refine cVx S (c_X2_treeOf (l := l) (D := D) (lo := lo) (Γ := Γ) (sz := sz) (si := si) (P := P) (bi := bi) (tu := tu) (M := M) (V := V) (row := row) hst hc0) (cwV 1 hts gX2_eat_X2_treeOf rfl rfl rfl (by decide +kernel) ⟨Nat.le_of_ble_eq_true rfl, Nat.le_of_ble_eq_true rfl⟩) hK hH hX (Hp_recv hK hH ok_o.1 ok_o.2 rfl) hS rfl hl.1 rfl (by simp [cat_rf, Value.category]) dX2_eat_2 ⟨Nat.le_of_ble_eq_true rfl, Nat.le_of_ble_eq_true rfl⟩ (fun E Z1 H locs ce q9 hpx hH hS hce hcv hcl => ?_) (fun v Z1 H locs hpost hH hS => ?_)
  · obtain ⟨rfl, hrow, rfl⟩ := hpx
    exact xO ht hlocks ⟨Or.inl ⟨rfl, hrow⟩, rfl⟩ hH hS hce hcv hcl (Nat.le_of_ble_eq_true rfl) (Nat.le_of_ble_eq_true rfl)
  obtain ⟨r, hrow, rfl, rfl⟩ := hpost
  have hr6 := (rowN_some hrow).1
  have htr := (c_t r hr6).1
  have ok_t : gta Γ r ∈ L ∧ K (gta Γ r) = 1 := ⟨htr.1, htr.2.1⟩
  refine lv_astore_n (lv' := [(3, .ref (gta Γ r)), (0, .ref o), (1, .int row), (2, .int x)]) hx hb dX2_eat_5 rfl hl (by decide) rfl (fun ls hl => ?_)
  refine lv_aload_n hx hb dX2_eat_6 rfl (lv_at hl 0 rfl) ?_
  refine lv_iload_n hx hb dX2_eat_7 rfl (lv_at hl 3 rfl) ?_
  refine cSx S (c_X2_appleOf (l := l) (D := D) (lo := lo) (Γ := Γ) (sz := sz) (si := si) (P := P) (bi := bi) (tu := tu) (M := M) (V := V) (x := x) hst htr) (va_cwS 2 hts gX2_eat_X2_appleOf rfl rfl rfl (by decide +kernel) ⟨Nat.le_of_ble_eq_true rfl, Nat.le_of_ble_eq_true rfl⟩) hK hH hX hS rfl hl.1 rfl (by simp [cat_rf, Value.category]) dX2_eat_8 ⟨Nat.le_of_ble_eq_true rfl, Nat.le_of_ble_eq_true rfl⟩ (fun E Z1 H locs ce q9 hpx hH hS hce hcv hcl => ?_) (fun v Z1 H locs hpost hH hS => ?_)
  · obtain ⟨rfl, hfa, rfl⟩ := hpx
    exact xO ht hlocks ⟨Or.inr ⟨rfl, r, hrow, hfa⟩, rfl⟩ hH hS hce hcv hcl (Nat.le_of_ble_eq_true rfl) (Nat.le_of_ble_eq_true rfl)
  obtain ⟨a, hfa, rfl, rfl⟩ := hpost
  have hin_a := (fnd_mem _ _ hfa).1
  have ok_a := (htr.2.2.2.2.2 a hin_a).1
  refine lv_astore (lv' := [(4, .ref a), (3, .ref (gta Γ r)), (0, .ref o), (1, .int row), (2, .int x)]) hx hb dX2_eat_11 hl (by decide) rfl (fun ls hl => ?_)
  refine lv_aload hx hb dX2_eat_13 (lv_at hl 0 rfl) ?_
  refine lv_dup hx hb dX2_eat_15 rfl ?_
  refine gA S hi0 hK hH ok_a 5 (by decide) f62 (v := .int (nI (bi a))) rfl dX2_eat_16 ?_
  refine lv_iconst (v := 1) hx hb dX2_eat_19 (by decide) ?_
  refine lv_iadd hx hb dX2_eat_20 ?_
  rw [nI_1]
  refine pB S hi0 hK hH hS ok_a (bi a + 1) f62 rfl dX2_eat_21 (fun H locs hH hS => ?_)
  refine lv_aload_n hx hb dX2_eat_24 rfl (lv_at hl 2 rfl) ?_
  refine lv_aload_n hx hb dX2_eat_25 rfl (lv_at hl 1 rfl) ?_
  refine lv_aload hx hb dX2_eat_26 (lv_at hl 0 rfl) ?_
  have hzp_a := zof_plug hin_a
  refine cV S (c_X2_bringUp (l := l) (D := D) (lo := lo) (Γ := Γ) (sz := sz) (si := si) (P := P) (bi := (va_up bi a (bi a + 1))) (tu := tu) (M := M) (V := V) (C := (zof (T r) a).2.2.2) ok_o o_u ok_t ((Zp_plug _ _).mpr (by rw [hzp_a]; exact htr.2.2.2.1)) (by rw [hzp_a]; exact htr.2.2.2.2.1) (fun b hb9 => (htr.2.2.2.2.2 b (by rw [← hzp_a]; exact hb9)).1) (Nat.lt_of_lt_of_le (cx_len (zof_in hin_a).1) (by have := gids_le (T := T) hr6; omega))) (cwV 2 hts gX2_eat_X2_bringUp rfl rfl rfl (by decide +kernel) ⟨Nat.le_of_ble_eq_true rfl, Nat.le_of_ble_eq_true rfl⟩) hK hH (Hp_recv hK hH ok_o.1 ok_o.2 rfl) hS rfl hl.1 rfl (Nat.le_of_ble_eq_true rfl) dX2_eat_28 ⟨Nat.le_of_ble_eq_true rfl, Nat.le_of_ble_eq_true rfl⟩ (fun v Z1 H locs hpost hH hS => ?_)
  obtain ⟨rfl, rfl⟩ := hpost
  refine W.widen (k := 2) (n := 12) (Nat.le_of_ble_eq_true rfl) (Nat.le_of_ble_eq_true rfl) ?_
  exact vx_ret (eI S hr hlocks hH hS ⟨r, a, hrow, hfa, rfl, L, K, si, _, rfl, CI_raise hc0 hr6 hin_a⟩ dX2_eat_31)

set_option maxRecDepth 100000 in
set_option maxHeartbeats 4000000 in
theorem c_X2_pick {o : Nat} {T : Nat → Tr} {row x : Int32} (hst : l.stackTraces = false) (hc : CI Γ o T L K sz si P) : Mx l yX2_pick wsX2_pick (rmL 7 2 12) D lo Γ [.ref o, .int row, .int x] ((L, K, sz, si, P, bi, tu), M, V) (fun v Z' => ∃ r a L9 R9, rowN row = some r ∧ fnd sz x.toInt (T r) = some a ∧ spz (zof (T r) a) = .branch a L9 R9 ∧ v = some (.int (nI (bi a))) ∧ CSW Γ o (va_up T r (jn L9 R9)) sz bi (tu + (zof (T r) a).2.2.2.length + appN L9) M V Z') (fun E Z' => ((E = "java/lang/IndexOutOfBoundsException" ∧ rowN row = none) ∨ (E = "java/lang/IllegalStateException" ∧ ∃ r, rowN row = some r ∧ fnd sz x.toInt (T r) = none)) ∧ Z' = ((L, K, sz, si, P, bi, tu), M, V)) := by
  refine Mx_of (cc := cX2_pick) (maxL := 5) (ret := (some .int)) (by decide) rfl (Nat.le_of_ble_eq_true rfl) ?_
  intro p e s m args below meth c ls S hr hlocks hK hH hS hX ht hl
  have hx := S.1
  have hb := S.2.1
  have hts := S.2.2.2.2
  have f66 : (Cond.fieldLink RX2 66 (TX0 3).1 (TX0 3).2.1 (TX0 3).2.2.1).before args s = true := hts _ (List.mem_of_getElem? (i := 1) rfl)
  have f73 : (Cond.fieldLink RX2 73 (TX0 4).1 (TX0 4).2.1 (TX0 4).2.2.1).before args s = true := hts _ (List.mem_of_getElem? (i := 2) rfl)
  have f62 : (Cond.fieldLink RX2 62 (TX0 5).1 (TX0 5).2.1 (TX0 5).2.2.1).before args s = true := hts _ (List.mem_of_getElem? (i := 3) rfl)
  have hi0 : ∀ w ∈ wsX00, w ∈ wsX2_pick := by decide +kernel
  have hl : lv_has ls 5 [(0, .ref o), (1, .int row), (2, .int x)] := hl
  have hc0 := hc
  obtain ⟨hg, c_t, c_nd, c_si, c_inj, c_40⟩ := hc
  obtain ⟨ok_o, o_u, ok_ra, ok_tt, tt_ne, ta_inj⟩ := hg
  refine lv_aload_n hx hb dX2_pick_0 rfl (lv_at hl 0 rfl) ?_
  refine lv_iload_n hx hb dX2_pick_1 rfl (lv_at hl 1 rfl) ?_
  refine cVx S (c_X2_treeOf (l := l) (D := D) (lo := lo) (Γ := Γ) (sz := sz) (si := si) (P := P) (bi := bi) (tu := tu) (M := M) (V := V) (row := row) hst hc0) (cwV 1 hts gX2_pick_X2_treeOf rfl rfl rfl (by decide +kernel) ⟨Nat.le_of_ble_eq_true rfl, Nat.le_of_ble_eq_true rfl⟩) hK hH hX (Hp_recv hK hH ok_o.1 ok_o.2 rfl) hS rfl hl.1 rfl (by simp [cat_rf, Value.category]) dX2_pick_2 ⟨Nat.le_of_ble_eq_true rfl, Nat.le_of_ble_eq_true rfl⟩ (fun E Z1 H locs ce q9 hpx hH hS hce hcv hcl => ?_) (fun v Z1 H locs hpost hH hS => ?_)
  · obtain ⟨rfl, hrow, rfl⟩ := hpx
    exact xO ht hlocks ⟨Or.inl ⟨rfl, hrow⟩, rfl⟩ hH hS hce hcv hcl (Nat.le_of_ble_eq_true rfl) (Nat.le_of_ble_eq_true rfl)
  obtain ⟨r, hrow, rfl, rfl⟩ := hpost
  have hr6 := (rowN_some hrow).1
  have htr := (c_t r hr6).1
  have ok_t : gta Γ r ∈ L ∧ K (gta Γ r) = 1 := ⟨htr.1, htr.2.1⟩
  refine lv_astore_n (lv' := [(3, .ref (gta Γ r)), (0, .ref o), (1, .int row), (2, .int x)]) hx hb dX2_pick_5 rfl hl (by decide) rfl (fun ls hl => ?_)
  refine lv_aload_n hx hb dX2_pick_6 rfl (lv_at hl 0 rfl) ?_
  refine lv_iload_n hx hb dX2_pick_7 rfl (lv_at hl 3 rfl) ?_
  refine cSx S (c_X2_appleOf (l := l) (D := D) (lo := lo) (Γ := Γ) (sz := sz) (si := si) (P := P) (bi := bi) (tu := tu) (M := M) (V := V) (x := x) hst htr) (va_cwS 2 hts gX2_pick_X2_appleOf rfl rfl rfl (by decide +kernel) ⟨Nat.le_of_ble_eq_true rfl, Nat.le_of_ble_eq_true rfl⟩) hK hH hX hS rfl hl.1 rfl (by simp [cat_rf, Value.category]) dX2_pick_8 ⟨Nat.le_of_ble_eq_true rfl, Nat.le_of_ble_eq_true rfl⟩ (fun E Z1 H locs ce q9 hpx hH hS hce hcv hcl => ?_) (fun v Z1 H locs hpost hH hS => ?_)
  · obtain ⟨rfl, hfa, rfl⟩ := hpx
    exact xO ht hlocks ⟨Or.inr ⟨rfl, r, hrow, hfa⟩, rfl⟩ hH hS hce hcv hcl (Nat.le_of_ble_eq_true rfl) (Nat.le_of_ble_eq_true rfl)
  obtain ⟨a, hfa, rfl, rfl⟩ := hpost
  have hin_a := (fnd_mem _ _ hfa).1
  have ok_a := (htr.2.2.2.2.2 a hin_a).1
  refine lv_astore (lv' := [(4, .ref a), (3, .ref (gta Γ r)), (0, .ref o), (1, .int row), (2, .int x)]) hx hb dX2_pick_11 hl (by decide) rfl (fun ls hl => ?_)
  refine lv_aload_n hx hb dX2_pick_13 rfl (lv_at hl 2 rfl) ?_
  refine lv_aload_n hx hb dX2_pick_14 rfl (lv_at hl 1 rfl) ?_
  refine lv_aload hx hb dX2_pick_15 (lv_at hl 0 rfl) ?_
  have hzp_a := zof_plug hin_a
  refine cV S (c_X2_bringUp (l := l) (D := D) (lo := lo) (Γ := Γ) (sz := sz) (si := si) (P := P) (bi := bi) (tu := tu) (M := M) (V := V) (C := (zof (T r) a).2.2.2) ok_o o_u ok_t ((Zp_plug _ _).mpr (by rw [hzp_a]; exact htr.2.2.2.1)) (by rw [hzp_a]; exact htr.2.2.2.2.1) (fun b hb9 => (htr.2.2.2.2.2 b (by rw [← hzp_a]; exact hb9)).1) (Nat.lt_of_lt_of_le (cx_len (zof_in hin_a).1) (by have := gids_le (T := T) hr6; omega))) (cwV 2 hts gX2_pick_X2_bringUp rfl rfl rfl (by decide +kernel) ⟨Nat.le_of_ble_eq_true rfl, Nat.le_of_ble_eq_true rfl⟩) hK hH (Hp_recv hK hH ok_o.1 ok_o.2 rfl) hS rfl hl.1 rfl (Nat.le_of_ble_eq_true rfl) dX2_pick_17 ⟨Nat.le_of_ble_eq_true rfl, Nat.le_of_ble_eq_true rfl⟩ (fun v Z1 H locs hpost hH hS => ?_)
  obtain ⟨rfl, rfl⟩ := hpost
  refine lv_pop hx hb dX2_pick_20 rfl ?_
  refine lv_aload_n hx hb dX2_pick_21 rfl (lv_at hl 1 rfl) ?_
  refine lv_aload hx hb dX2_pick_22 (lv_at hl 0 rfl) ?_
  obtain ⟨L9, R9, hsp⟩ := rt_some (spz_raise htr.2.2.2.1 htr.2.2.2.2.1 hin_a).2.1
  obtain ⟨P1, hP1⟩ : ∃ P1, P1 = sP (rai a (zof (T r) a).2.2.2 P) 3 (gta Γ r) (some a) := ⟨_, rfl⟩
  obtain ⟨k1, k2, k3⟩ := pick_1 hc0 hr6 hin_a hsp hP1
  rw [← hP1] at hH
  refine gA S hi0 hK hH ok_a 3 (by decide) f66 (v := va_rf (rt L9)) (by show some (va_rf (P1 0 a)) = _; rw [k1]) dX2_pick_24 ?_
  refine cV S (c_X1_setTop (l := l) (D := D) (lo := lo) (Γ := Γ) (sz := sz) (si := si) (P := P1) (bi := bi) (tu := (tu + (zof (T r) a).2.2.2.length)) (M := M) (V := V) (r := rt L9) ok_t (fun b h => k3 b (Or.inl (rt_mem h)))) (cwV 1 hts gX2_pick_X1_setTop rfl rfl rfl (by decide +kernel) ⟨Nat.le_of_ble_eq_true rfl, Nat.le_of_ble_eq_true rfl⟩) hK hH (Hp_recv hK hH ok_t.1 ok_t.2 rfl) hS rfl hl.1 rfl (Nat.le_of_ble_eq_true rfl) dX2_pick_27 ⟨Nat.le_of_ble_eq_true rfl, Nat.le_of_ble_eq_true rfl⟩ (fun v Z1 H locs hpost hH hS => ?_)
  obtain ⟨rfl, rfl⟩ := hpost
  obtain ⟨P2, hP2⟩ : ∃ P2, P2 = stp P1 (gta Γ r) (rt L9) := ⟨_, rfl⟩
  obtain ⟨k4, k5, k6⟩ := pick_2 hc0 hr6 hin_a hsp hP1 hP2
  rw [← hP2] at hH
  refine lv_aload_n hx hb dX2_pick_30 rfl (lv_at hl 2 rfl) ?_
  refine lv_aload_n hx hb dX2_pick_31 rfl (lv_at hl 1 rfl) ?_
  refine lv_aload hx hb dX2_pick_32 (lv_at hl 0 rfl) ?_
  refine gA S hi0 hK hH ok_a 4 (by decide) f73 (v := va_rf (rt R9)) (by show some (va_rf (P2 1 a)) = _; rw [k4]) dX2_pick_34 ?_
  refine cV S (c_X2_append (l := l) (D := D) (lo := lo) (Γ := Γ) (sz := sz) (si := si) (P := P2) (bi := bi) (tu := (tu + (zof (T r) a).2.2.2.length)) (M := M) (V := V) (x := rt R9) ok_o o_u k5 (fun b h => k3 b (Or.inr (rt_mem h))) (by have := gids_le (T := T) hr6; omega)) (cwV 2 hts gX2_pick_X2_append rfl rfl rfl (by decide +kernel) ⟨Nat.le_of_ble_eq_true rfl, Nat.le_of_ble_eq_true rfl⟩) hK hH (Hp_recv hK hH ok_o.1 ok_o.2 rfl) hS rfl hl.1 rfl (Nat.le_of_ble_eq_true rfl) dX2_pick_37 ⟨Nat.le_of_ble_eq_true rfl, Nat.le_of_ble_eq_true rfl⟩ (fun v Z1 H locs hpost hH hS => ?_)
  obtain ⟨rfl, rfl⟩ := hpost
  refine lv_aload hx hb dX2_pick_40 (lv_at hl 0 rfl) ?_
  refine gA S hi0 hK hH ok_a 5 (by decide) f62 (v := .int (nI (bi a))) rfl dX2_pick_42 ?_
  refine W.widen (k := 2) (n := 12) (Nat.le_of_ble_eq_true rfl) (Nat.le_of_ble_eq_true rfl) ?_
  exact vx_ret (eI S hr hlocks hH hS ⟨r, a, L9, R9, hrow, hfa, hsp, rfl, L, K, si, _, rfl, pick_3 hc0 hr6 hin_a hsp hP1 hP2⟩ dX2_pick_45)

set_option maxRecDepth 100000 in
set_option maxHeartbeats 4000000 in
theorem c_X2_join {o : Nat} {T : Nat → Tr} {row x : Int32} (hst : l.stackTraces = false) (hc : CI Γ o T L K sz si P) : Mx l yX2_join wsX2_join (rmL 7 3 18) D lo Γ [.ref o, .int row, .int x] ((L, K, sz, si, P, bi, tu), M, V) (fun v Z' => ∃ r q, rowN row = some r ∧ rowN x = some q ∧ (r ≠ q ∧ mayJ sz (T r) (T q) = true) ∧ v = some (.int (nI (tids (jn (T r) (T q))).length)) ∧ CSW Γ o (va_up (va_up T r (jn (T r) (T q))) q (.leaf ())) sz bi (tu + appN (T r)) M V Z') (fun E Z' => ((E = "java/lang/IndexOutOfBoundsException" ∧ (rowN row = none ∨ rowN x = none)) ∨ (E = "java/lang/IllegalStateException" ∧ ∃ r q, rowN row = some r ∧ rowN x = some q ∧ ¬ (r ≠ q ∧ mayJ sz (T r) (T q) = true))) ∧ Z' = ((L, K, sz, si, P, bi, tu), M, V)) := by
  refine Mx_of (cc := cX2_join) (maxL := 5) (ret := (some .int)) (by decide) rfl (Nat.le_of_ble_eq_true rfl) ?_
  intro p e s m args below meth c ls S hr hlocks hK hH hS hX ht hl
  have hx := S.1
  have hb := S.2.1
  have hts := S.2.2.2.2
  have f82 : (Cond.fieldLink RX2 82 (TX1 0).1 (TX1 0).2.1 (TX1 0).2.2.1).before args s = true := hts _ (List.mem_of_getElem? (i := 3) rfl)
  have hi1 : ∀ w ∈ wsX10, w ∈ wsX2_join := by decide +kernel
  have hl : lv_has ls 5 [(0, .ref o), (1, .int row), (2, .int x)] := hl
  have hc0 := hc
  obtain ⟨hg, c_t, c_nd, c_si, c_inj, c_40⟩ := hc
  obtain ⟨ok_o, o_u, ok_ra, ok_tt, tt_ne, ta_inj⟩ := hg
  refine lv_aload_n hx hb dX2_join_0 rfl (lv_at hl 0 rfl) ?_
  refine lv_iload_n hx hb dX2_join_1 rfl (lv_at hl 1 rfl) ?_
  refine cVx S (c_X2_treeOf (l := l) (D := D) (lo := lo) (Γ := Γ) (sz := sz) (si := si) (P := P) (bi := bi) (tu := tu) (M := M) (V := V) (row := row) hst hc0) (cwV 1 hts gX2_join_X2_treeOf rfl rfl rfl (by decide +kernel) ⟨Nat.le_of_ble_eq_true rfl, Nat.le_of_ble_eq_true rfl⟩) hK hH hX (Hp_recv hK hH ok_o.1 ok_o.2 rfl) hS rfl hl.1 rfl (by simp [cat_rf, Value.category]) dX2_join_2 ⟨Nat.le_of_ble_eq_true rfl, Nat.le_of_ble_eq_true rfl⟩ (fun E Z1 H locs ce q9 hpx hH hS hce hcv hcl => ?_) (fun v Z1 H locs hpost hH hS => ?_)
  · obtain ⟨rfl, hrow, rfl⟩ := hpx
    exact xO ht hlocks ⟨Or.inl ⟨rfl, Or.inl hrow⟩, rfl⟩ hH hS hce hcv hcl (Nat.le_of_ble_eq_true rfl) (Nat.le_of_ble_eq_true rfl)
  obtain ⟨r, hrow, rfl, rfl⟩ := hpost
  have hr6 := (rowN_some hrow).1
  have htr := (c_t r hr6).1
  have ok_t : gta Γ r ∈ L ∧ K (gta Γ r) = 1 := ⟨htr.1, htr.2.1⟩
  refine lv_astore_n (lv' := [(3, .ref (gta Γ r)), (0, .ref o), (1, .int row), (2, .int x)]) hx hb dX2_join_5 rfl hl (by decide) rfl (fun ls hl => ?_)
  refine lv_aload_n hx hb dX2_join_6 rfl (lv_at hl 1 rfl) ?_
  refine lv_iload_n hx hb dX2_join_7 rfl (lv_at hl 3 rfl) ?_
  refine cVx S (c_X2_treeOf (l := l) (D := D) (lo := lo) (Γ := Γ) (sz := sz) (si := si) (P := P) (bi := bi) (tu := tu) (M := M) (V := V) (row := x) hst hc0) (cwV 1 hts gX2_join_X2_treeOf rfl rfl rfl (by decide +kernel) ⟨Nat.le_of_ble_eq_true rfl, Nat.le_of_ble_eq_true rfl⟩) hK hH hX (Hp_recv hK hH ok_o.1 ok_o.2 rfl) hS rfl hl.1 rfl (by simp [cat_rf, Value.category]) dX2_join_8 ⟨Nat.le_of_ble_eq_true rfl, Nat.le_of_ble_eq_true rfl⟩ (fun E Z1 H locs ce q9 hpx hH hS hce hcv hcl => ?_) (fun v Z1 H locs hpost hH hS => ?_)
  · obtain ⟨rfl, hrow2, rfl⟩ := hpx
    exact xO ht hlocks ⟨Or.inl ⟨rfl, Or.inr hrow2⟩, rfl⟩ hH hS hce hcv hcl (Nat.le_of_ble_eq_true rfl) (Nat.le_of_ble_eq_true rfl)
  obtain ⟨q, hrow2, rfl, rfl⟩ := hpost
  have hr62 := (rowN_some hrow2).1
  have htr2 := (c_t q hr62).1
  have ok_t2 : gta Γ q ∈ L ∧ K (gta Γ q) = 1 := ⟨htr2.1, htr2.2.1⟩
  refine lv_astore (lv' := [(4, .ref (gta Γ q)), (3, .ref (gta Γ r)), (0, .ref o), (1, .int row), (2, .int x)]) hx hb dX2_join_11 hl (by decide) rfl (fun ls hl => ?_)
  refine lv_aload_n hx hb dX2_join_13 rfl (lv_at hl 1 rfl) ?_
  refine lv_aload hx hb dX2_join_14 (lv_at hl 0 rfl) ?_
  refine cSt S (c_X2_mayJoin (l := l) (D := D) (lo := lo) (Γ := Γ) (sz := sz) (si := si) (P := P) (bi := bi) (tu := tu) (M := M) (V := V) htr htr2) (va_cwS 2 hts gX2_join_X2_mayJoin rfl rfl rfl (by decide +kernel) ⟨Nat.le_of_ble_eq_true rfl, Nat.le_of_ble_eq_true rfl⟩) hK hH hS rfl hl.1 rfl (Nat.le_of_ble_eq_true rfl) dX2_join_16 ⟨Nat.le_of_ble_eq_true rfl, Nat.le_of_ble_eq_true rfl⟩ (fun v Z1 H locs hpost hH hS => ?_)
  obtain ⟨rfl, rfl⟩ := hpost
  refine lv_if_ne (tgt := 32) hx hb dX2_join_19 (by decide) (fun h1 => ?_) (fun h1 => ?_)
  · skip
    have h1 : r ≠ q ∧ mayJ sz (T r) (T q) = true := by
      by_cases h : gta Γ r ≠ gta Γ q ∧ mayJ sz (T r) (T q) = true
      · exact ⟨fun e => h.1 (by rw [e]), h.2⟩
      · rw [if_neg h] at h1; exact absurd rfl h1
    refine lv_aload_n hx hb dX2_join_32 rfl (lv_at hl 2 rfl) ?_
    refine lv_aload_n hx hb dX2_join_33 rfl (lv_at hl 1 rfl) ?_
    refine lv_aload hx hb dX2_join_34 (lv_at hl 0 rfl) ?_
    refine gTp S hi1 hK hH ok_t2.1 ok_t2.2 f82 (v := va_rf (rt (T q))) (congrArg va_rf htr2.2.2.1) dX2_join_36 ?_
    refine cV S (c_X2_append (l := l) (D := D) (lo := lo) (Γ := Γ) (sz := sz) (si := si) (P := P) (bi := bi) (tu := tu) (M := M) (V := V) (x := rt (T q)) ok_o o_u htr (fun b h => (htr2.2.2.2.2.2 b (rt_mem h)).1) (by have := gids_le (T := T) hr6; omega)) (cwV 2 hts gX2_join_X2_append rfl rfl rfl (by decide +kernel) ⟨Nat.le_of_ble_eq_true rfl, Nat.le_of_ble_eq_true rfl⟩) hK hH (Hp_recv hK hH ok_o.1 ok_o.2 rfl) hS rfl hl.1 rfl (Nat.le_of_ble_eq_true rfl) dX2_join_39 ⟨Nat.le_of_ble_eq_true rfl, Nat.le_of_ble_eq_true rfl⟩ (fun v Z1 H locs hpost hH hS => ?_)
    obtain ⟨rfl, rfl⟩ := hpost
    refine lv_aload hx hb dX2_join_42 (lv_at hl 0 rfl) ?_
    refine lv_null hx hb dX2_join_44 ?_
    refine cV S (c_X1_setTop (l := l) (D := D) (lo := lo) (Γ := Γ) (sz := sz) (si := si) (P := (appP P (gta Γ r) (T r) (rt (T q)))) (bi := bi) (tu := (tu + appN (T r))) (M := M) (V := V) (r := none) ok_t2 (fun b h => by cases h)) (cwV 1 hts gX2_join_X1_setTop rfl rfl rfl (by decide +kernel) ⟨Nat.le_of_ble_eq_true rfl, Nat.le_of_ble_eq_true rfl⟩) hK hH (Hp_recv hK hH ok_t2.1 ok_t2.2 rfl) hS rfl hl.1 rfl (Nat.le_of_ble_eq_true rfl) dX2_join_45 ⟨Nat.le_of_ble_eq_true rfl, Nat.le_of_ble_eq_true rfl⟩ (fun v Z1 H locs hpost hH hS => ?_)
    obtain ⟨rfl, rfl⟩ := hpost
    refine lv_aload_n hx hb dX2_join_48 rfl (lv_at hl 1 rfl) ?_
    have hc2 := join_ok hc0 hr6 hr62 h1.1 h1.2
    have htn := (hc2.2.1 r hr6).1
    rw [va_up_ne _ _ h1.1, va_up_self] at htn
    refine cV S (c_X1_count (l := l) (D := D) (lo := lo) (Γ := Γ) (sz := sz) (si := si) (P := (stp (appP P (gta Γ r) (T r) (rt (T q))) (gta Γ q) none)) (bi := bi) (tu := (tu + appN (T r))) (M := M) (V := V) htn) (cwV 0 hts gX2_join_X1_count rfl rfl rfl (by decide +kernel) ⟨Nat.le_of_ble_eq_true rfl, Nat.le_of_ble_eq_true rfl⟩) hK hH (Hp_recv hK hH ok_t.1 ok_t.2 rfl) hS rfl hl.1 rfl (Nat.le_of_ble_eq_true rfl) dX2_join_49 ⟨Nat.le_of_ble_eq_true rfl, Nat.le_of_ble_eq_true rfl⟩ (fun v Z1 H locs hpost hH hS => ?_)
    obtain ⟨rfl, rfl⟩ := hpost
    refine W.widen (k := 3) (n := 18) (Nat.le_of_ble_eq_true rfl) (Nat.le_of_ble_eq_true rfl) ?_
    exact vx_ret (eI S hr hlocks hH hS ⟨r, q, hrow, hrow2, h1, rfl, L, K, si, _, rfl, hc2⟩ dX2_join_52)
  · skip
    have h1 : ¬ (r ≠ q ∧ mayJ sz (T r) (T q) = true) := fun h => by rw [if_pos (⟨fun e => h.1 (ta_inj r q hr6 hr62 e), h.2⟩ : gta Γ r ≠ gta Γ q ∧ mayJ sz (T r) (T q) = true)] at h1; exact absurd h1 (by decide)
    exact tS (cls := "java/lang/IllegalStateException") (text := "the rows can't be joined") (ik := 32) (is := 100) (ic := 36) S hst hX hlocks ht hH hS ⟨Or.inr ⟨rfl, r, q, hrow, hrow2, h1⟩, rfl⟩ (by simp [xstr]) (by decide +kernel) (hts _ (List.mem_of_getElem? (i := 1) rfl)) (hts _ (List.mem_of_getElem? (i := 2) rfl)) (xg_all xg3 (hX.2.2.2.1 _ (by simp [xcl])) hX.2.2.2.2 (fun w h => hts w (List.mem_cons_of_mem _ (List.mem_append_left _ (List.mem_append_right _ h))))) (by decide +kernel) hl.1 dX2_join_22 dX2_join_25 dX2_join_26 dX2_join_28 dX2_join_31 (Nat.le_of_ble_eq_true rfl) (Nat.le_of_ble_eq_true rfl) (Nat.le_of_ble_eq_true rfl) (Nat.le_of_ble_eq_true rfl) (Nat.le_of_ble_eq_true rfl) (Nat.le_of_ble_eq_true rfl)

set_option maxRecDepth 100000 in
set_option maxHeartbeats 4000000 in
theorem c_X2_split {o : Nat} {T : Nat → Tr} {row x y : Int32} (hst : l.stackTraces = false) (hc : CI Γ o T L K sz si P) : Mx l yX2_split wsX2_split (rmL 7 4 24) D lo Γ [.ref o, .int row, .int x, .int y] ((L, K, sz, si, P, bi, tu), M, V) (fun v Z' => ∃ r q n, rowN row = some r ∧ rowN y = some q ∧ szN x = some n ∧ r ≠ q ∧ T q = .leaf () ∧ ((tids (T r)).takeWhile (fun a => decide ((sz a : Int) < (n : Int))) = blw sz n (T r)) ∧ ((∃ b L9 R9, (blw sz n (T r)).getLast? = some b ∧ spz (zof (T r) b) = .branch b L9 R9 ∧ v = some (.int (nI (tids R9).length)) ∧ CSW Γ o (va_up (va_up T r (.branch b L9 (.leaf ()))) q R9) sz bi (tu + (zof (T r) b).2.2.2.length) M V Z') ∨ ((blw sz n (T r)).getLast? = none ∧ v = some (.int (nI (tids (T r)).length)) ∧ CSW Γ o (va_up (va_up T r (.leaf ())) q (T r)) sz bi tu M V Z'))) (fun E Z' => ((E = "java/lang/IndexOutOfBoundsException" ∧ (rowN row = none ∨ rowN y = none)) ∨ (E = "java/lang/IllegalArgumentException" ∧ (∃ r q, rowN row = some r ∧ rowN y = some q) ∧ szN x = none) ∨ (E = "java/lang/IllegalStateException" ∧ ∃ r q n, rowN row = some r ∧ rowN y = some q ∧ szN x = some n ∧ ¬ (r ≠ q ∧ T q = .leaf ()))) ∧ Z' = ((L, K, sz, si, P, bi, tu), M, V)) := by
  refine Mx_of (cc := cX2_split) (maxL := 7) (ret := (some .int)) (by decide) rfl (Nat.le_of_ble_eq_true rfl) ?_
  intro p e s m args below meth c ls S hr hlocks hK hH hS hX ht hl
  have hx := S.1
  have hb := S.2.1
  have hts := S.2.2.2.2
  have f82 : (Cond.fieldLink RX2 82 (TX1 0).1 (TX1 0).2.1 (TX1 0).2.2.1).before args s = true := hts _ (List.mem_of_getElem? (i := 3) rfl)
  have f73 : (Cond.fieldLink RX2 73 (TX0 4).1 (TX0 4).2.1 (TX0 4).2.2.1).before args s = true := hts _ (List.mem_of_getElem? (i := 4) rfl)
  have hi0 : ∀ w ∈ wsX00, w ∈ wsX2_split := by decide +kernel
  have hi1 : ∀ w ∈ wsX10, w ∈ wsX2_split := by decide +kernel
  have hl : lv_has ls 7 [(0, .ref o), (1, .int row), (2, .int x), (3, .int y)] := hl
  have hc0 := hc
  obtain ⟨hg, c_t, c_nd, c_si, c_inj, c_40⟩ := hc
  obtain ⟨ok_o, o_u, ok_ra, ok_tt, tt_ne, ta_inj⟩ := hg
  refine lv_aload_n hx hb dX2_split_0 rfl (lv_at hl 0 rfl) ?_
  refine lv_iload_n hx hb dX2_split_1 rfl (lv_at hl 1 rfl) ?_
  refine cVx S (c_X2_treeOf (l := l) (D := D) (lo := lo) (Γ := Γ) (sz := sz) (si := si) (P := P) (bi := bi) (tu := tu) (M := M) (V := V) (row := row) hst hc0) (cwV 1 hts gX2_split_X2_treeOf rfl rfl rfl (by decide +kernel) ⟨Nat.le_of_ble_eq_true rfl, Nat.le_of_ble_eq_true rfl⟩) hK hH hX (Hp_recv hK hH ok_o.1 ok_o.2 rfl) hS rfl hl.1 rfl (by simp [cat_rf, Value.category]) dX2_split_2 ⟨Nat.le_of_ble_eq_true rfl, Nat.le_of_ble_eq_true rfl⟩ (fun E Z1 H locs ce q9 hpx hH hS hce hcv hcl => ?_) (fun v Z1 H locs hpost hH hS => ?_)
  · obtain ⟨rfl, hrow, rfl⟩ := hpx
    exact xO ht hlocks ⟨Or.inl ⟨rfl, Or.inl hrow⟩, rfl⟩ hH hS hce hcv hcl (Nat.le_of_ble_eq_true rfl) (Nat.le_of_ble_eq_true rfl)
  obtain ⟨r, hrow, rfl, rfl⟩ := hpost
  have hr6 := (rowN_some hrow).1
  have htr := (c_t r hr6).1
  have ok_t : gta Γ r ∈ L ∧ K (gta Γ r) = 1 := ⟨htr.1, htr.2.1⟩
  refine lv_astore (lv' := [(4, .ref (gta Γ r)), (0, .ref o), (1, .int row), (2, .int x), (3, .int y)]) hx hb dX2_split_5 hl (by decide) rfl (fun ls hl => ?_)
  refine lv_aload_n hx hb dX2_split_7 rfl (lv_at hl 1 rfl) ?_
  refine lv_iload_n hx hb dX2_split_8 rfl (lv_at hl 4 rfl) ?_
  refine cVx S (c_X2_treeOf (l := l) (D := D) (lo := lo) (Γ := Γ) (sz := sz) (si := si) (P := P) (bi := bi) (tu := tu) (M := M) (V := V) (row := y) hst hc0) (cwV 1 hts gX2_split_X2_treeOf rfl rfl rfl (by decide +kernel) ⟨Nat.le_of_ble_eq_true rfl, Nat.le_of_ble_eq_true rfl⟩) hK hH hX (Hp_recv hK hH ok_o.1 ok_o.2 rfl) hS rfl hl.1 rfl (by simp [cat_rf, Value.category]) dX2_split_9 ⟨Nat.le_of_ble_eq_true rfl, Nat.le_of_ble_eq_true rfl⟩ (fun E Z1 H locs ce q9 hpx hH hS hce hcv hcl => ?_) (fun v Z1 H locs hpost hH hS => ?_)
  · obtain ⟨rfl, hrow2, rfl⟩ := hpx
    exact xO ht hlocks ⟨Or.inl ⟨rfl, Or.inr hrow2⟩, rfl⟩ hH hS hce hcv hcl (Nat.le_of_ble_eq_true rfl) (Nat.le_of_ble_eq_true rfl)
  obtain ⟨q, hrow2, rfl, rfl⟩ := hpost
  have hr62 := (rowN_some hrow2).1
  have htr2 := (c_t q hr62).1
  have ok_t2 : gta Γ q ∈ L ∧ K (gta Γ q) = 1 := ⟨htr2.1, htr2.2.1⟩
  refine lv_astore (lv' := [(5, .ref (gta Γ q)), (4, .ref (gta Γ r)), (0, .ref o), (1, .int row), (2, .int x), (3, .int y)]) hx hb dX2_split_12 hl (by decide) rfl (fun ls hl => ?_)
  refine lv_iload_n hx hb dX2_split_14 rfl (lv_at hl 4 rfl) ?_
  refine cSx S (c_X2_checkSize (l := l) (D := D) (lo := lo) (Γ := Γ) (sz := sz) (si := si) (P := P) (bi := bi) (tu := tu) (M := M) (V := V) (x := x) hst) (va_cwS 1 hts gX2_split_X2_checkSize rfl rfl rfl (by decide +kernel) ⟨Nat.le_of_ble_eq_true rfl, Nat.le_of_ble_eq_true rfl⟩) hK hH hX hS rfl hl.1 rfl (by simp [cat_rf, Value.category]) dX2_split_15 ⟨Nat.le_of_ble_eq_true rfl, Nat.le_of_ble_eq_true rfl⟩ (fun E Z1 H locs ce q9 hpx hH hS hce hcv hcl => ?_) (fun v Z1 H locs hpost hH hS => ?_)
  · obtain ⟨rfl, hsz, rfl⟩ := hpx
    exact xO ht hlocks ⟨Or.inr (Or.inl ⟨rfl, ⟨r, q, hrow, hrow2⟩, hsz⟩), rfl⟩ hH hS hce hcv hcl (Nat.le_of_ble_eq_true rfl) (Nat.le_of_ble_eq_true rfl)
  obtain ⟨n, hsz, rfl, rfl⟩ := hpost
  obtain ⟨hn1000, hxn⟩ := szN_some hsz
  subst hxn
  have hzn : (nI n).toInt = (n : Int) := nI_toInt (by omega)
  refine lv_aload hx hb dX2_split_18 (lv_at hl 0 rfl) ?_
  refine lv_aload hx hb dX2_split_20 (lv_at hl 1 rfl) ?_
  refine lv_acmp_ne (rx := some (gta Γ q)) (ry := some (gta Γ r)) (tgt := 35) hx hb dX2_split_22 (by decide) (fun hne => ?_) (fun hne => ?_)
  · skip
    have hrq : r ≠ q := fun e => hne (by rw [e])
    refine lv_aload hx hb dX2_split_35 (lv_at hl 0 rfl) ?_
    refine gTp S hi1 hK hH ok_t2.1 ok_t2.2 f82 (v := va_rf (rt (T q))) (congrArg va_rf htr2.2.2.1) dX2_split_37 ?_
    refine lq_ifnull S dX2_split_40 (tgt := 53) (by decide) (fun hq => ?_) (fun b hq => ?_)
    · skip
      have hTq := rt_none hq
      refine lv_aload hx hb dX2_split_53 (lv_at hl 1 rfl) ?_
      refine lv_iload_n hx hb dX2_split_55 rfl (lv_at hl 4 rfl) ?_
      refine cV S (c_X1_greatestBelow (l := l) (D := D) (lo := lo) (Γ := Γ) (sz := sz) (si := si) (P := P) (bi := bi) (tu := tu) (M := M) (V := V) (x := nI n) htr) (cwV 1 hts gX2_split_X1_greatestBelow rfl rfl rfl (by decide +kernel) ⟨Nat.le_of_ble_eq_true rfl, Nat.le_of_ble_eq_true rfl⟩) hK hH (Hp_recv hK hH ok_t.1 ok_t.2 rfl) hS rfl hl.1 rfl (Nat.le_of_ble_eq_true rfl) dX2_split_56 ⟨Nat.le_of_ble_eq_true rfl, Nat.le_of_ble_eq_true rfl⟩ (fun v Z1 H locs hpost hH hS => ?_)
      obtain ⟨rfl, rfl⟩ := hpost
      rw [hzn]
      refine lq_astore (i := 6) (lv' := [(5, .ref (gta Γ q)), (4, .ref (gta Γ r)), (0, .ref o), (1, .int row), (2, .int (nI n)), (3, .int y)]) S dX2_split_59 hl (by decide) rfl (fun ls hl => ?_)
      refine lq_aload S dX2_split_61 (lv_at hl 0 rfl) ?_
      refine lq_ifnonnull S dX2_split_63 (tgt := 85) (by decide) (fun b hq3 => ?_) (fun hq3 => ?_)
      · skip
        have hin_b : b ∈ tids (T r) := List.IsPrefix.mem (List.mem_of_getLast? hq3) (List.takeWhile_prefix _)
        have ok_b := (htr.2.2.2.2.2 b hin_b).1
        rw [hq3] at hl
        refine lv_aload_n hx hb dX2_split_85 rfl (lv_at hl 3 rfl) ?_
        refine lv_aload hx hb dX2_split_86 (lv_at hl 2 rfl) ?_
        refine lv_aload hx hb dX2_split_88 (lv_at hl 0 rfl) ?_
        have hzp_b := zof_plug hin_b
        refine cV S (c_X2_bringUp (l := l) (D := D) (lo := lo) (Γ := Γ) (sz := sz) (si := si) (P := P) (bi := bi) (tu := tu) (M := M) (V := V) (C := (zof (T r) b).2.2.2) ok_o o_u ok_t ((Zp_plug _ _).mpr (by rw [hzp_b]; exact htr.2.2.2.1)) (by rw [hzp_b]; exact htr.2.2.2.2.1) (fun b hb9 => (htr.2.2.2.2.2 b (by rw [← hzp_b]; exact hb9)).1) (Nat.lt_of_lt_of_le (cx_len (zof_in hin_b).1) (by have := gids_le (T := T) hr6; omega))) (cwV 2 hts gX2_split_X2_bringUp rfl rfl rfl (by decide +kernel) ⟨Nat.le_of_ble_eq_true rfl, Nat.le_of_ble_eq_true rfl⟩) hK hH (Hp_recv hK hH ok_o.1 ok_o.2 rfl) hS rfl hl.1 rfl (Nat.le_of_ble_eq_true rfl) dX2_split_90 ⟨Nat.le_of_ble_eq_true rfl, Nat.le_of_ble_eq_true rfl⟩ (fun v Z1 H locs hpost hH hS => ?_)
        obtain ⟨rfl, rfl⟩ := hpost
        refine lv_pop hx hb dX2_split_93 rfl ?_
        refine lv_aload hx hb dX2_split_94 (lv_at hl 1 rfl) ?_
        refine lv_aload hx hb dX2_split_96 (lv_at hl 0 rfl) ?_
        obtain ⟨L9, R9, hsp⟩ := rt_some (spz_raise htr.2.2.2.1 htr.2.2.2.2.1 hin_b).2.1
        obtain ⟨P1, hP1⟩ : ∃ P1, P1 = sP (rai b (zof (T r) b).2.2.2 P) 3 (gta Γ r) (some b) := ⟨_, rfl⟩
        obtain ⟨k1, k2, k3⟩ := pick_1 hc0 hr6 hin_b hsp hP1
        rw [← hP1] at hH
        refine gA S hi0 hK hH ok_b 4 (by decide) f73 (v := va_rf (rt R9)) (by show some (va_rf (P1 1 b)) = _; rw [k2]) dX2_split_98 ?_
        refine cV S (c_X1_setTop (l := l) (D := D) (lo := lo) (Γ := Γ) (sz := sz) (si := si) (P := P1) (bi := bi) (tu := (tu + (zof (T r) b).2.2.2.length)) (M := M) (V := V) (r := rt R9) ok_t2 (fun b h => k3 b (Or.inr (rt_mem h)))) (cwV 1 hts gX2_split_X1_setTop rfl rfl rfl (by decide +kernel) ⟨Nat.le_of_ble_eq_true rfl, Nat.le_of_ble_eq_true rfl⟩) hK hH (Hp_recv hK hH ok_t2.1 ok_t2.2 rfl) hS rfl hl.1 rfl (Nat.le_of_ble_eq_true rfl) dX2_split_101 ⟨Nat.le_of_ble_eq_true rfl, Nat.le_of_ble_eq_true rfl⟩ (fun v Z1 H locs hpost hH hS => ?_)
        obtain ⟨rfl, rfl⟩ := hpost
        refine lv_aload hx hb dX2_split_104 (lv_at hl 0 rfl) ?_
        refine lv_null hx hb dX2_split_106 ?_
        refine cV S (c_X0_hangRight (l := l) (D := D) (lo := lo) (Γ := Γ) (sz := sz) (si := si) (P := (stp P1 (gta Γ q) (rt R9))) (bi := bi) (tu := (tu + (zof (T r) b).2.2.2.length)) (M := M) (V := V) (r := none) ok_b (fun b h => by cases h)) (cwV 1 hts gX2_split_X0_hangRight rfl rfl rfl (by decide +kernel) ⟨Nat.le_of_ble_eq_true rfl, Nat.le_of_ble_eq_true rfl⟩) hK hH (Hp_recv hK hH ok_b.1 ok_b.2 rfl) hS rfl hl.1 rfl (Nat.le_of_ble_eq_true rfl) dX2_split_107 ⟨Nat.le_of_ble_eq_true rfl, Nat.le_of_ble_eq_true rfl⟩ (fun v Z1 H locs hpost hH hS => ?_)
        obtain ⟨rfl, rfl⟩ := hpost
        refine lv_aload hx hb dX2_split_110 (lv_at hl 1 rfl) ?_
        have hc2 := split_ok hc0 hr6 hr62 hrq hTq hin_b hsp hP1
        have htn := (hc2.2.1 q hr62).1
        rw [va_up_self] at htn
        refine cV S (c_X1_count (l := l) (D := D) (lo := lo) (Γ := Γ) (sz := sz) (si := si) (P := (hng (stp P1 (gta Γ q) (rt R9)) none (some b) 1)) (bi := bi) (tu := (tu + (zof (T r) b).2.2.2.length)) (M := M) (V := V) htn) (cwV 0 hts gX2_split_X1_count rfl rfl rfl (by decide +kernel) ⟨Nat.le_of_ble_eq_true rfl, Nat.le_of_ble_eq_true rfl⟩) hK hH (Hp_recv hK hH ok_t2.1 ok_t2.2 rfl) hS rfl hl.1 rfl (Nat.le_of_ble_eq_true rfl) dX2_split_112 ⟨Nat.le_of_ble_eq_true rfl, Nat.le_of_ble_eq_true rfl⟩ (fun v Z1 H locs hpost hH hS => ?_)
        obtain ⟨rfl, rfl⟩ := hpost
        refine W.widen (k := 4) (n := 24) (Nat.le_of_ble_eq_true rfl) (Nat.le_of_ble_eq_true rfl) ?_
        exact vx_ret (eI S hr hlocks hH hS ⟨r, q, n, hrow, hrow2, hsz, hrq, hTq, rfl, Or.inl ⟨b, L9, R9, hq3, hsp, rfl, L, K, si, _, rfl, hc2⟩⟩ dX2_split_115)
      · skip
        refine lv_aload hx hb dX2_split_66 (lv_at hl 1 rfl) ?_
        refine lv_aload hx hb dX2_split_68 (lv_at hl 2 rfl) ?_
        refine gTp S hi1 hK hH ok_t.1 ok_t.2 f82 (v := va_rf (rt (T r))) (congrArg va_rf htr.2.2.1) dX2_split_70 ?_
        refine cV S (c_X1_setTop (l := l) (D := D) (lo := lo) (Γ := Γ) (sz := sz) (si := si) (P := P) (bi := bi) (tu := tu) (M := M) (V := V) (r := rt (T r)) ok_t2 (fun b h => (htr.2.2.2.2.2 b (rt_mem h)).1)) (cwV 1 hts gX2_split_X1_setTop rfl rfl rfl (by decide +kernel) ⟨Nat.le_of_ble_eq_true rfl, Nat.le_of_ble_eq_true rfl⟩) hK hH (Hp_recv hK hH ok_t2.1 ok_t2.2 rfl) hS rfl hl.1 rfl (Nat.le_of_ble_eq_true rfl) dX2_split_73 ⟨Nat.le_of_ble_eq_true rfl, Nat.le_of_ble_eq_true rfl⟩ (fun v Z1 H locs hpost hH hS => ?_)
        obtain ⟨rfl, rfl⟩ := hpost
        refine lv_aload hx hb dX2_split_76 (lv_at hl 2 rfl) ?_
        refine lv_null hx hb dX2_split_78 ?_
        refine cV S (c_X1_setTop (l := l) (D := D) (lo := lo) (Γ := Γ) (sz := sz) (si := si) (P := (stp P (gta Γ q) (rt (T r)))) (bi := bi) (tu := tu) (M := M) (V := V) (r := none) ok_t (fun b h => by cases h)) (cwV 1 hts gX2_split_X1_setTop rfl rfl rfl (by decide +kernel) ⟨Nat.le_of_ble_eq_true rfl, Nat.le_of_ble_eq_true rfl⟩) hK hH (Hp_recv hK hH ok_t.1 ok_t.2 rfl) hS rfl hl.1 rfl (Nat.le_of_ble_eq_true rfl) dX2_split_79 ⟨Nat.le_of_ble_eq_true rfl, Nat.le_of_ble_eq_true rfl⟩ (fun v Z1 H locs hpost hH hS => ?_)
        obtain ⟨rfl, rfl⟩ := hpost
        refine lv_goto (tgt := 110) hx hb dX2_split_82 (by decide) ?_
        refine lv_aload hx hb dX2_split_110 (lv_at hl 1 rfl) ?_
        have hc2 := split_none hc0 hr6 hr62 hrq hTq
        have htn := (hc2.2.1 q hr62).1
        rw [va_up_self] at htn
        refine cV S (c_X1_count (l := l) (D := D) (lo := lo) (Γ := Γ) (sz := sz) (si := si) (P := (stp (stp P (gta Γ q) (rt (T r))) (gta Γ r) none)) (bi := bi) (tu := tu) (M := M) (V := V) htn) (cwV 0 hts gX2_split_X1_count rfl rfl rfl (by decide +kernel) ⟨Nat.le_of_ble_eq_true rfl, Nat.le_of_ble_eq_true rfl⟩) hK hH (Hp_recv hK hH ok_t2.1 ok_t2.2 rfl) hS rfl hl.1 rfl (Nat.le_of_ble_eq_true rfl) dX2_split_112 ⟨Nat.le_of_ble_eq_true rfl, Nat.le_of_ble_eq_true rfl⟩ (fun v Z1 H locs hpost hH hS => ?_)
        obtain ⟨rfl, rfl⟩ := hpost
        refine W.widen (k := 4) (n := 24) (Nat.le_of_ble_eq_true rfl) (Nat.le_of_ble_eq_true rfl) ?_
        exact vx_ret (eI S hr hlocks hH hS ⟨r, q, n, hrow, hrow2, hsz, hrq, hTq, rfl, Or.inr ⟨hq3, rfl, L, K, si, _, rfl, hc2⟩⟩ dX2_split_115)
    · skip
      exact tS (cls := "java/lang/IllegalStateException") (text := "the other row is not empty") (ik := 32) (is := 85) (ic := 36) S hst hX hlocks ht hH hS ⟨Or.inr (Or.inr ⟨rfl, r, q, n, hrow, hrow2, hsz, fun h => by rw [h.2] at hq; cases hq⟩), rfl⟩ (by simp [xstr]) (by decide +kernel) (hts _ (List.mem_of_getElem? (i := 1) rfl)) (hts _ (List.mem_of_getElem? (i := 2) rfl)) (xg_all xg3 (hX.2.2.2.1 _ (by simp [xcl])) hX.2.2.2.2 (fun w h => hts w (List.mem_cons_of_mem _ (List.mem_append_left _ (List.mem_append_left _ (List.mem_append_right _ h)))))) (by decide +kernel) hl.1 dX2_split_43 dX2_split_46 dX2_split_47 dX2_split_49 dX2_split_52 (Nat.le_of_ble_eq_true rfl) (Nat.le_of_ble_eq_true rfl) (Nat.le_of_ble_eq_true rfl) (Nat.le_of_ble_eq_true rfl) (Nat.le_of_ble_eq_true rfl) (Nat.le_of_ble_eq_true rfl)
  · skip
    exact tS (cls := "java/lang/IllegalStateException") (text := "both rows are the same") (ik := 32) (is := 80) (ic := 36) S hst hX hlocks ht hH hS ⟨Or.inr (Or.inr ⟨rfl, r, q, n, hrow, hrow2, hsz, fun h => h.1 (ta_inj r q hr6 hr62 (Option.some.inj hne).symm)⟩), rfl⟩ (by simp [xstr]) (by decide +kernel) (hts _ (List.mem_of_getElem? (i := 1) rfl)) (hts _ (List.mem_of_getElem? (i := 2) rfl)) (xg_all xg3 (hX.2.2.2.1 _ (by simp [xcl])) hX.2.2.2.2 (fun w h => hts w (List.mem_cons_of_mem _ (List.mem_append_left _ (List.mem_append_left _ (List.mem_append_right _ h)))))) (by decide +kernel) hl.1 dX2_split_25 dX2_split_28 dX2_split_29 dX2_split_31 dX2_split_34 (Nat.le_of_ble_eq_true rfl) (Nat.le_of_ble_eq_true rfl) (Nat.le_of_ble_eq_true rfl) (Nat.le_of_ble_eq_true rfl) (Nat.le_of_ble_eq_true rfl) (Nat.le_of_ble_eq_true rfl)
end MOrchU
