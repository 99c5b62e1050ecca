/-! BOTH TOGETHER: joining, parting, picking keep both together -/
section BothJ
variable {T : Nat → Tr} {sz bi : Nat → Nat} {Q : PF} {zs : Nat → Option Nat} {be : Nat → Nat} {mn : Nat} {φ : Nat → Nat} {row x y : Int32}
theorem jn_mp {t u : Tr} (hn : ((tids t).map φ).Nodup) : jn (mp φ t) (mp φ u) = mp φ (jn t u) := by
  unfold jn
  rw [mp_tids, List.getLast?_map]
  cases hg : (tids t).getLast? with
  | none => rfl
  | some g =>
    have hin := List.mem_of_getLast? hg
    dsimp only [Option.map]
    rw [zof_mp (by rw [mp_tids]; exact hn) hin, mp_spz]
    cases spz (zof t g) with
    | leaf u => rfl
    | branch k l r => rfl
theorem nd_map : ∀ {l : List Nat}, (l.map φ).Nodup → l.Nodup := by
  intro l
  induction l with
  | nil => intro _; exact List.nodup_nil
  | cons a l ih =>
    intro h
    rw [List.map_cons] at h
    obtain ⟨h1, h2⟩ := List.nodup_cons.mp h
    exact List.nodup_cons.mpr ⟨fun e => h1 (List.mem_map.mpr ⟨a, e, rfl⟩), ih h2⟩
theorem jn_tids {t u : Tr} (hn : (tids t).Nodup) : tids (jn t u) = tids t ++ tids u := by
  unfold jn
  cases hg : (tids t).getLast? with
  | none => rw [List.getLast?_eq_none_iff.mp hg]; rfl
  | some g =>
    obtain ⟨L9, he, hL⟩ := spz_last hn hg
    dsimp only
    rw [he]
    dsimp only
    rw [tids_branch, ← hL]
    simp
theorem appN_mp {t : Tr} (hn : ((tids t).map φ).Nodup) : appN (mp φ t) = appN t := by
  unfold appN
  rw [mp_tids, List.getLast?_map]
  cases hg : (tids t).getLast? with
  | none => rfl
  | some g =>
    have hin := List.mem_of_getLast? hg
    dsimp only [Option.map]
    rw [zof_mp (by rw [mp_tids]; exact hn) hin]
    exact mpC_length φ _
/-- the trees changed, the same places or fewer; those left out are free -/
theorem MI_mk {Q' : PF} {zs' : Nat → Option Nat} {U U' : Nat → Tr} {mn' : Nat} (hM : MI Q zs U mn) (h : ∀ r, r < 6 → Q' 3 r = rt (U' r) ∧ rep Q' none (U' r) ∧ (tids (U' r)).Nodup ∧ srt (zn zs) (U' r)) (hap : ∀ r q, r < 6 → q < 6 → r ≠ q → ∀ a, a ∈ tids (U' r) → a ∉ tids (U' q)) (hsub : ∀ a, a ∈ gids U' → a ∈ gids U) (hz : ∀ a, a ∈ gids U' → zs' a = zs a) (hfree : ∀ k, k < 40 → zs' k ≠ none → k ∈ gids U') (hlen : mn' = (gids U').length) (hle : (gids U').length ≤ 40) : MI Q' zs' U' mn' := by
  obtain ⟨h_t, h_nd, h_mn, h_zs, h_40⟩ := hM
  have hg : ∀ r, r < 6 → ∀ a ∈ tids (U' r), a ∈ gids U' := fun r hr a ha => gids_mem.mpr ⟨r, hr, ha⟩
  have hzn : ∀ a, a ∈ gids U' → zn zs' a = zn zs a := fun a ha => by unfold zn; rw [hz a ha]
  refine ⟨fun r hr => ?_, gids_nodup (fun r hr => (h r hr).2.2.1) hap, hlen, hfree, hle⟩
  obtain ⟨h1, h2, h3, h4⟩ := h r hr
  refine ⟨⟨h1, h2, h3, fun a ha => ?_⟩, ?_⟩
  · obtain ⟨q, hq, hm⟩ := gids_mem.mp (hsub a (hg r hr a ha))
    obtain ⟨c1, c2, c3⟩ := (h_t q hq).1.2.2.2 a hm
    rw [hzn a (hg r hr a ha), hz a (hg r hr a ha)]
    exact ⟨c1, c2, c3⟩
  · unfold srt at h4 ⊢
    refine List.Pairwise.imp_of_mem (fun {a b} ha hb hlt => ?_) h4
    rw [hzn a (hg r hr a ha), hzn b (hg r hr b hb)]
    exact hlt
/-- two rows changed, the same places in both -/
theorem MI_two {Q' : PF} {U : Nat → Tr} {r q : Nat} {t' u' : Tr} (hM : MI Q zs U mn) (hr6 : r < 6) (hq6 : q < 6) (hrq : r ≠ q) (h1 : Q' 3 r = rt t' ∧ rep Q' none t' ∧ srt (zn zs) t') (h2 : Q' 3 q = rt u' ∧ rep Q' none u' ∧ srt (zn zs) u') (hn : (tids t' ++ tids u').Nodup) (hs : ∀ a, (a ∈ tids t' ∨ a ∈ tids u') ↔ (a ∈ tids (U r) ∨ a ∈ tids (U q))) (hl : (tids t').length + (tids u').length = (tids (U r)).length + (tids (U q)).length) (hf : ∀ j x, j < 3 → x ∉ tids (U r) → x ∉ tids (U q) → Q' j x = Q j x) (hf3 : ∀ x, x ≠ r → x ≠ q → Q' 3 x = Q 3 x) : MI Q' zs (va_up (va_up U r t') q u') mn := by
  have hM0 := hM
  obtain ⟨h_t, h_nd, h_mn, h_zs, h_40⟩ := hM
  have hap := gids_apart h_nd
  obtain ⟨nt, nu, hd⟩ := List.nodup_append.mp hn
  have vq : va_up (va_up U r t') q u' q = u' := va_up_self _ _ _
  have vr : va_up (va_up U r t') q u' r = t' := by rw [va_up_ne _ _ hrq, va_up_self]
  have vy : ∀ y, y ≠ r → y ≠ q → va_up (va_up U r t') q u' y = U y := fun y h3 h4 => by rw [va_up_ne _ _ h4, va_up_ne _ _ h3]
  have h5 := gids_len (T := U) (t := t') hr6
  have h6 := gids_len (T := va_up U r t') (t := u') hq6
  rw [va_up_ne _ _ (Ne.symm hrq)] at h6
  have hin : ∀ y, y < 6 → ∀ a, a ∈ tids (va_up (va_up U r t') q u' y) → ((y = r ∨ y = q) ∧ (a ∈ tids (U r) ∨ a ∈ tids (U q))) ∨ (y ≠ r ∧ y ≠ q ∧ a ∈ tids (U y)) := fun y hy a ha => by
    by_cases hyq : y = q
    · subst hyq; rw [vq] at ha; exact Or.inl ⟨Or.inr rfl, (hs a).mp (Or.inr ha)⟩
    · by_cases hyr : y = r
      · subst hyr; rw [vr] at ha; exact Or.inl ⟨Or.inl rfl, (hs a).mp (Or.inl ha)⟩
      · rw [vy y hyr hyq] at ha; exact Or.inr ⟨hyr, hyq, ha⟩
  have hgi : ∀ a, a ∈ gids (va_up (va_up U r t') q u') ↔ a ∈ gids U := fun a => by
    constructor
    · intro ha
      obtain ⟨y, hy, hm⟩ := gids_mem.mp ha
      rcases hin y hy a hm with ⟨-, h | h⟩ | ⟨-, -, h⟩
      · exact gids_mem.mpr ⟨r, hr6, h⟩
      · exact gids_mem.mpr ⟨q, hq6, h⟩
      · exact gids_mem.mpr ⟨y, hy, h⟩
    · intro ha
      obtain ⟨y, hy, hm⟩ := gids_mem.mp ha
      by_cases hyq : y = q ∨ y = r
      · have h9 : a ∈ tids (U r) ∨ a ∈ tids (U q) := by rcases hyq with e | e <;> subst e <;> simp [hm]
        rcases (hs a).mpr h9 with h | h
        · exact gids_mem.mpr ⟨r, hr6, by rw [vr]; exact h⟩
        · exact gids_mem.mpr ⟨q, hq6, by rw [vq]; exact h⟩
      · exact gids_mem.mpr ⟨y, hy, by rw [vy y (fun e => hyq (Or.inr e)) (fun e => hyq (Or.inl e))]; exact hm⟩
  refine MI_mk hM0 (fun y hy => ?_) (fun y y' hy hy' hne a ha hb => ?_) (fun a ha => (hgi a).mp ha) (fun a _ => rfl) (fun k hk hz => (hgi k).mpr (h_zs k hk hz)) (by rw [h_mn]; omega) (by omega)
  · by_cases hyq : y = q
    · subst hyq; rw [vq]; exact ⟨h2.1, h2.2.1, nu, h2.2.2⟩
    · by_cases hyr : y = r
      · subst hyr; rw [vr]; exact ⟨h1.1, h1.2.1, nt, h1.2.2⟩
      · rw [vy y hyr hyq]
        obtain ⟨⟨a3, a4, a5, a6⟩, a7⟩ := h_t y hy
        have hx : ∀ x ∈ tids (U y), x ∉ tids (U r) ∧ x ∉ tids (U q) := fun x hx => ⟨hap.2 y r hy hr6 hyr x hx, hap.2 y q hy hq6 hyq x hx⟩
        exact ⟨by rw [hf3 y hyr hyq, a3], rep_congr _ _ a4 (fun x hx9 => ⟨hf 0 x (by omega) (hx x hx9).1 (hx x hx9).2, hf 1 x (by omega) (hx x hx9).1 (hx x hx9).2, hf 2 x (by omega) (hx x hx9).1 (hx x hx9).2⟩), a5, a7⟩
  · rcases hin y hy a ha with ⟨e1, m1⟩ | ⟨e1, e1', m1⟩ <;> rcases hin y' hy' a hb with ⟨e2, m2⟩ | ⟨e2, e2', m2⟩
    · rcases e1 with rfl | rfl <;> rcases e2 with rfl | rfl
      · exact hne rfl
      · rw [vr] at ha; rw [vq] at hb; exact hd a ha a hb rfl
      · rw [vq] at ha; rw [vr] at hb; exact hd a hb a ha rfl
      · exact hne rfl
    · rcases m1 with m1 | m1
      · exact hap.2 y' r hy' hr6 e2 a m2 m1
      · exact hap.2 y' q hy' hq6 e2' a m2 m1
    · rcases m2 with m2 | m2
      · exact hap.2 y r hy hr6 e1 a m1 m2
      · exact hap.2 y q hy hq6 e1' a m1 m2
    · exact hap.2 y y' hy hy' hne a m1 m2
theorem RI_join (h : RI T sz bi Q zs be mn φ) {r q : Nat} (hr6 : r < 6) (hq6 : q < 6) (hrq : r ≠ q) (hm : mayJ (zn zs) (mp φ (T r)) (mp φ (T q)) = true) :
    RI (va_up (va_up T r (jn (T r) (T q))) q (.leaf ())) sz bi (sP (sP (tgP Q (mp φ (T r)) (rt (mp φ (T q)))) 3 r (tgr (mp φ (T r)) (rt (mp φ (T q))))) 3 q none) zs be mn φ := by
  obtain ⟨h_t, h_nd, h_mn, h_zs, h_40⟩ := id h.1
  have hap := gids_apart h_nd
  obtain ⟨⟨a1, a2, a3, a4⟩, a5⟩ := h_t r hr6
  obtain ⟨⟨b1, b2, b3, b4⟩, b5⟩ := h_t q hq6
  have hn : (tids (mp φ (T r)) ++ tids (mp φ (T q))).Nodup := List.nodup_append.mpr ⟨a3, b3, fun x hx y hy e => hap.2 r q hr6 hq6 hrq x hx (by rw [e]; exact hy)⟩
  obtain ⟨g1, g2, g3, g4, g5⟩ := tg_ok (px := none) a2 b2 hn
  have hs9 : ∀ j x, j < 3 → sP (sP (tgP Q (mp φ (T r)) (rt (mp φ (T q)))) 3 r (tgr (mp φ (T r)) (rt (mp φ (T q))))) 3 q none j x = tgP Q (mp φ (T r)) (rt (mp φ (T q))) j x := fun j x hj => by rw [sP_nk (by omega), sP_nk (by omega)]
  have hM := MI_two (Q' := sP (sP (tgP Q (mp φ (T r)) (rt (mp φ (T q)))) 3 r (tgr (mp φ (T r)) (rt (mp φ (T q))))) 3 q none) (t' := jn (mp φ (T r)) (mp φ (T q))) (u' := .leaf ()) h.1 hr6 hq6 hrq
    ⟨by rw [sP_na hrq, sP_eq, g2], rep_congr _ _ g1 (fun x _ => ⟨hs9 0 x (by omega), hs9 1 x (by omega), hs9 2 x (by omega)⟩), by unfold srt; rw [g3]; exact join_srt a5 b5 hm⟩
    ⟨sP_eq _ _ _ _, trivial, List.Pairwise.nil⟩ (by rw [g3]; simpa [tids] using hn) (fun a => by rw [g3]; simp [tids]) (by rw [g3]; simp [tids]) (fun j x hj hx hx2 => by rw [hs9 j x hj, g4 j x hx hx2]) (fun x hx hx2 => by rw [sP_na hx2, sP_na hx, g5 3 x (by omega)])
  refine ⟨?_, fun a ha => h.2 a ?_⟩
  · rw [va_mp, va_mp, ← jn_mp (RI_at h hr6).2.2]
    exact hM
  · obtain ⟨y, hy, hm9⟩ := gids_mem.mp ha
    have hT : ∀ x, x ∈ tids (jn (T r) (T q)) → x ∈ tids (T r) ∨ x ∈ tids (T q) := fun x hx => by
      rw [jn_tids (nd_map (RI_at h hr6).2.2)] at hx
      exact List.mem_append.mp hx
    by_cases hyq : y = q
    · subst hyq; rw [va_up_self] at hm9; cases hm9
    · rw [va_up_ne _ _ hyq] at hm9
      by_cases hyr : y = r
      · subst hyr
        rw [va_up_self] at hm9
        rcases hT a hm9 with h9 | h9
        · exact gids_mem.mpr ⟨y, hy, h9⟩
        · exact gids_mem.mpr ⟨q, hq6, h9⟩
      · rw [va_up_ne _ _ hyr] at hm9
        exact gids_mem.mpr ⟨y, hy, hm9⟩
end BothJ
