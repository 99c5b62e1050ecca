/-! THE START: the cells that the law has made, as a world; everything empty -/
set_option maxRecDepth 100000 in
set_option maxHeartbeats 4000000 in
theorem start_world {D : va_G} {lo : Nat} {H : Heap} {s : State} {cT cR : ClassId} {o ra tt t0 t1 t2 t3 t4 t5 : Nat} (hlo : lo ≤ H.size)
    (hP : va_P D vwCl [(o, .inr (2, [.ref ra, .ref tt, .int 0])), (ra, .inl (cT, 6, .inr (.inr (.inr (.inr (va_up (va_up (va_up (va_up (va_up (va_up (fun _ => none) 0 (some t0)) 1 (some t1)) 2 (some t2)) 3 (some t3)) 4 (some t4)) 5 (some t5))))))), (tt, .inr (1, [.null])), (t0, .inr (1, [.null])), (t1, .inr (1, [.null])), (t2, .inr (1, [.null])), (t3, .inr (1, [.null])), (t4, .inr (1, [.null])), (t5, .inr (1, [.null]))] H)
    (hD : va_D (lA lo) [(o, .inr (2, [.ref ra, .ref tt, .int 0])), (ra, .inl (cT, 6, .inr (.inr (.inr (.inr (va_up (va_up (va_up (va_up (va_up (va_up (fun _ => none) 0 (some t0)) 1 (some t1)) 2 (some t2)) 3 (some t3)) 4 (some t4)) 5 (some t5))))))), (tt, .inr (1, [.null])), (t0, .inr (1, [.null])), (t1, .inr (1, [.null])), (t2, .inr (1, [.null])), (t3, .inr (1, [.null])), (t4, .inr (1, [.null])), (t5, .inr (1, [.null]))])
    (hK : va_K D vwCl [(cR, .object RX3), (cT, .object RX1)] s) :
    ∃ (Γ : GT) (L : List Nat) (K : Nat → Nat), Hp D lo Γ ((L, K, fun _ => 0, fun _ => none, fun _ _ => none, fun _ => 0, 0), ([], fun _ => .inr (1, [])), 0, 0) H ∧ va_K D vwCl (TY Γ) s ∧ CI Γ o (fun _ => .leaf ()) L K (fun _ => 0) (fun _ => none) (fun _ _ => none) := by
  have n_ra_o : ra ≠ o := fun e => absurd (hD.1 1 0 _ _ rfl rfl e) (by decide)
  have n_tt_o : tt ≠ o := fun e => absurd (hD.1 2 0 _ _ rfl rfl e) (by decide)
  have n_tt_ra : tt ≠ ra := fun e => absurd (hD.1 2 1 _ _ rfl rfl e) (by decide)
  have n_t0_o : t0 ≠ o := fun e => absurd (hD.1 3 0 _ _ rfl rfl e) (by decide)
  have n_t0_ra : t0 ≠ ra := fun e => absurd (hD.1 3 1 _ _ rfl rfl e) (by decide)
  have n_t1_o : t1 ≠ o := fun e => absurd (hD.1 4 0 _ _ rfl rfl e) (by decide)
  have n_t1_ra : t1 ≠ ra := fun e => absurd (hD.1 4 1 _ _ rfl rfl e) (by decide)
  have n_t2_o : t2 ≠ o := fun e => absurd (hD.1 5 0 _ _ rfl rfl e) (by decide)
  have n_t2_ra : t2 ≠ ra := fun e => absurd (hD.1 5 1 _ _ rfl rfl e) (by decide)
  have n_t3_o : t3 ≠ o := fun e => absurd (hD.1 6 0 _ _ rfl rfl e) (by decide)
  have n_t3_ra : t3 ≠ ra := fun e => absurd (hD.1 6 1 _ _ rfl rfl e) (by decide)
  have n_t4_o : t4 ≠ o := fun e => absurd (hD.1 7 0 _ _ rfl rfl e) (by decide)
  have n_t4_ra : t4 ≠ ra := fun e => absurd (hD.1 7 1 _ _ rfl rfl e) (by decide)
  have n_t5_o : t5 ≠ o := fun e => absurd (hD.1 8 0 _ _ rfl rfl e) (by decide)
  have n_t5_ra : t5 ≠ ra := fun e => absurd (hD.1 8 1 _ _ rfl rfl e) (by decide)
  have n_t0_tt : t0 ≠ tt := fun e => absurd (hD.1 3 2 _ _ rfl rfl e) (by decide)
  have n_t1_tt : t1 ≠ tt := fun e => absurd (hD.1 4 2 _ _ rfl rfl e) (by decide)
  have n_t2_tt : t2 ≠ tt := fun e => absurd (hD.1 5 2 _ _ rfl rfl e) (by decide)
  have n_t3_tt : t3 ≠ tt := fun e => absurd (hD.1 6 2 _ _ rfl rfl e) (by decide)
  have n_t4_tt : t4 ≠ tt := fun e => absurd (hD.1 7 2 _ _ rfl rfl e) (by decide)
  have n_t5_tt : t5 ≠ tt := fun e => absurd (hD.1 8 2 _ _ rfl rfl e) (by decide)
  have n_t0_t1 : t0 ≠ t1 := fun e => absurd (hD.1 3 4 _ _ rfl rfl e) (by decide)
  have n_t0_t2 : t0 ≠ t2 := fun e => absurd (hD.1 3 5 _ _ rfl rfl e) (by decide)
  have n_t0_t3 : t0 ≠ t3 := fun e => absurd (hD.1 3 6 _ _ rfl rfl e) (by decide)
  have n_t0_t4 : t0 ≠ t4 := fun e => absurd (hD.1 3 7 _ _ rfl rfl e) (by decide)
  have n_t0_t5 : t0 ≠ t5 := fun e => absurd (hD.1 3 8 _ _ rfl rfl e) (by decide)
  have n_t1_t2 : t1 ≠ t2 := fun e => absurd (hD.1 4 5 _ _ rfl rfl e) (by decide)
  have n_t1_t3 : t1 ≠ t3 := fun e => absurd (hD.1 4 6 _ _ rfl rfl e) (by decide)
  have n_t1_t4 : t1 ≠ t4 := fun e => absurd (hD.1 4 7 _ _ rfl rfl e) (by decide)
  have n_t1_t5 : t1 ≠ t5 := fun e => absurd (hD.1 4 8 _ _ rfl rfl e) (by decide)
  have n_t2_t3 : t2 ≠ t3 := fun e => absurd (hD.1 5 6 _ _ rfl rfl e) (by decide)
  have n_t2_t4 : t2 ≠ t4 := fun e => absurd (hD.1 5 7 _ _ rfl rfl e) (by decide)
  have n_t2_t5 : t2 ≠ t5 := fun e => absurd (hD.1 5 8 _ _ rfl rfl e) (by decide)
  have n_t3_t4 : t3 ≠ t4 := fun e => absurd (hD.1 6 7 _ _ rfl rfl e) (by decide)
  have n_t3_t5 : t3 ≠ t5 := fun e => absurd (hD.1 6 8 _ _ rfl rfl e) (by decide)
  have n_t4_t5 : t4 ≠ t5 := fun e => absurd (hD.1 7 8 _ _ rfl rfl e) (by decide)
  obtain ⟨K, hKd⟩ : ∃ K : Nat → Nat, K = fun a => if a = o then 2 else if a = ra then 6 else 1 := ⟨_, rfl⟩
  have K_o : K o = 2 := by rw [hKd]; dsimp only; rw [if_pos rfl]
  have K_ra : K ra = 6 := by rw [hKd]; dsimp only; rw [if_neg n_ra_o, if_pos rfl]
  have K_tt : K tt = 1 := by rw [hKd]; dsimp only; rw [if_neg n_tt_o, if_neg n_tt_ra]
  have K_t0 : K t0 = 1 := by rw [hKd]; dsimp only; rw [if_neg n_t0_o, if_neg n_t0_ra]
  have K_t1 : K t1 = 1 := by rw [hKd]; dsimp only; rw [if_neg n_t1_o, if_neg n_t1_ra]
  have K_t2 : K t2 = 1 := by rw [hKd]; dsimp only; rw [if_neg n_t2_o, if_neg n_t2_ra]
  have K_t3 : K t3 = 1 := by rw [hKd]; dsimp only; rw [if_neg n_t3_o, if_neg n_t3_ra]
  have K_t4 : K t4 = 1 := by rw [hKd]; dsimp only; rw [if_neg n_t4_o, if_neg n_t4_ra]
  have K_t5 : K t5 = 1 := by rw [hKd]; dsimp only; rw [if_neg n_t5_o, if_neg n_t5_ra]
  obtain ⟨gt, hgt⟩ : ∃ gt : Nat → Nat, gt = fun i => if i = 0 then t0 else if i = 1 then t1 else if i = 2 then t2 else if i = 3 then t3 else if i = 4 then t4 else t5 := ⟨_, rfl⟩
  have g_0 : gt 0 = t0 := by rw [hgt]; rfl
  have g_1 : gt 1 = t1 := by rw [hgt]; rfl
  have g_2 : gt 2 = t2 := by rw [hgt]; rfl
  have g_3 : gt 3 = t3 := by rw [hgt]; rfl
  have g_4 : gt 4 = t4 := by rw [hgt]; rfl
  have g_5 : gt 5 = t5 := by rw [hgt]; rfl
  have hc1 : va_at D vwCl (ra, .inl (cT, 6, .inr (.inr (.inr (.inr (fun i => some (gt i))))))) H := by
    show H[ra]? = some (vp_cell cT (6, .inr (.inr (.inr (.inr (fun i => some (gt i)))))))
    rw [vp_cell_q, ← arrV_cg (f := fun j => va_rf ((va_up (va_up (va_up (va_up (va_up (va_up (fun _ => none) 0 (some t0)) 1 (some t1)) 2 (some t2)) 3 (some t3)) 4 (some t4)) 5 (some t5)) j)) (fun j hj => ?_)]
    · exact hP 1 _ rfl
    · have : j = 0 ∨ j = 1 ∨ j = 2 ∨ j = 3 ∨ j = 4 ∨ j = 5 := by omega
      rcases this with rfl | rfl | rfl | rfl | rfl | rfl
      · rw [g_0]; rfl
      · rw [g_1]; rfl
      · rw [g_2]; rfl
      · rw [g_3]; rfl
      · rw [g_4]; rfl
      · rw [g_5]; rfl
  have hP := hP.set hD (p := 1) rfl hc1 (fun _ _ => rfl)
  have hD := hD.set (p := 1) (e := .inl (cT, 6, .inr (.inr (.inr (.inr (fun i => some (gt i))))))) rfl
  have hP : va_P D vwCl [(o, .inr (2, [.ref ra, .ref tt, .int 0])), (ra, .inl (cT, 6, .inr (.inr (.inr (.inr (fun i => some (gt i))))))), (tt, .inr (1, [.null])), (t0, .inr (1, [.null])), (t1, .inr (1, [.null])), (t2, .inr (1, [.null])), (t3, .inr (1, [.null])), (t4, .inr (1, [.null])), (t5, .inr (1, [.null]))] H := hP
  have hD : va_D (lA lo) [(o, .inr (2, [.ref ra, .ref tt, .int 0])), (ra, .inl (cT, 6, .inr (.inr (.inr (.inr (fun i => some (gt i))))))), (tt, .inr (1, [.null])), (t0, .inr (1, [.null])), (t1, .inr (1, [.null])), (t2, .inr (1, [.null])), (t3, .inr (1, [.null])), (t4, .inr (1, [.null])), (t5, .inr (1, [.null]))] := hD
  obtain ⟨L, hLd⟩ : ∃ L : List Nat, L = [o, ra, tt, t0, t1, t2, t3, t4, t5] := ⟨_, rfl⟩
  have m_o : o ∈ L := by rw [hLd]; simp
  have m_ra : ra ∈ L := by rw [hLd]; simp
  have m_tt : tt ∈ L := by rw [hLd]; simp
  have m_t0 : t0 ∈ L := by rw [hLd]; simp
  have m_t1 : t1 ∈ L := by rw [hLd]; simp
  have m_t2 : t2 ∈ L := by rw [hLd]; simp
  have m_t3 : t3 ∈ L := by rw [hLd]; simp
  have m_t4 : t4 ∈ L := by rw [hLd]; simp
  have m_t5 : t5 ∈ L := by rw [hLd]; simp
  obtain ⟨Γ, hΓ⟩ : ∃ Γ : GT, Γ = (cR, cT, ra, tt, gt) := ⟨_, rfl⟩
  have eQ9 : gAr Γ = cR := by rw [hΓ]; rfl
  have eT : gT Γ = cT := by rw [hΓ]; rfl
  have eR : gra Γ = ra := by rw [hΓ]; rfl
  have eU : gtt Γ = tt := by rw [hΓ]; rfl
  have eA : gta Γ = gt := by rw [hΓ]; rfl
  obtain ⟨Z, hZ⟩ : ∃ Z : WS, Z = ((L, K, fun _ => 0, fun _ => none, fun _ _ => none, fun _ => 0, 0), ([], fun _ => .inr (1, [])), 0, 0) := ⟨_, rfl⟩
  have e_o : ef Γ Z o = .inr (2, [.ref ra, .ref tt, .int 0]) := by
    rw [hZ]
    unfold ef
    dsimp only
    rw [if_neg (show ¬ K o = 0 by rw [K_o]; decide), if_neg (show ¬ K o = 1 by rw [K_o]; decide), if_pos (show K o = 2 from K_o)]
    try (rw [eR, eU]; rfl)
  have e_ra : ef Γ Z ra = .inl (cT, 6, .inr (.inr (.inr (.inr (fun i => some (gt i)))))) := by
    rw [hZ]
    unfold ef
    dsimp only
    rw [if_neg (show ¬ K ra = 0 by rw [K_ra]; decide), if_neg (show ¬ K ra = 1 by rw [K_ra]; decide), if_neg (show ¬ K ra = 2 by rw [K_ra]; decide), if_pos (show K ra = 6 from K_ra)]
    try (rw [eT, eA])
  have e_tt : ef Γ Z tt = .inr (1, [.null]) := by
    rw [hZ]
    unfold ef
    dsimp only
    rw [if_neg (show ¬ K tt = 0 by rw [K_tt]; decide), if_pos (show K tt = 1 from K_tt)]
    try (rfl)
  have e_t0 : ef Γ Z t0 = .inr (1, [.null]) := by
    rw [hZ]
    unfold ef
    dsimp only
    rw [if_neg (show ¬ K t0 = 0 by rw [K_t0]; decide), if_pos (show K t0 = 1 from K_t0)]
    try (rfl)
  have e_t1 : ef Γ Z t1 = .inr (1, [.null]) := by
    rw [hZ]
    unfold ef
    dsimp only
    rw [if_neg (show ¬ K t1 = 0 by rw [K_t1]; decide), if_pos (show K t1 = 1 from K_t1)]
    try (rfl)
  have e_t2 : ef Γ Z t2 = .inr (1, [.null]) := by
    rw [hZ]
    unfold ef
    dsimp only
    rw [if_neg (show ¬ K t2 = 0 by rw [K_t2]; decide), if_pos (show K t2 = 1 from K_t2)]
    try (rfl)
  have e_t3 : ef Γ Z t3 = .inr (1, [.null]) := by
    rw [hZ]
    unfold ef
    dsimp only
    rw [if_neg (show ¬ K t3 = 0 by rw [K_t3]; decide), if_pos (show K t3 = 1 from K_t3)]
    try (rfl)
  have e_t4 : ef Γ Z t4 = .inr (1, [.null]) := by
    rw [hZ]
    unfold ef
    dsimp only
    rw [if_neg (show ¬ K t4 = 0 by rw [K_t4]; decide), if_pos (show K t4 = 1 from K_t4)]
    try (rfl)
  have e_t5 : ef Γ Z t5 = .inr (1, [.null]) := by
    rw [hZ]
    unfold ef
    dsimp only
    rw [if_neg (show ¬ K t5 = 0 by rw [K_t5]; decide), if_pos (show K t5 = 1 from K_t5)]
    try (rfl)
  have hpl : va_pl L (ef Γ Z) = [(o, .inr (2, [.ref ra, .ref tt, .int 0])), (ra, .inl (cT, 6, .inr (.inr (.inr (.inr (fun i => some (gt i))))))), (tt, .inr (1, [.null])), (t0, .inr (1, [.null])), (t1, .inr (1, [.null])), (t2, .inr (1, [.null])), (t3, .inr (1, [.null])), (t4, .inr (1, [.null])), (t5, .inr (1, [.null]))] := by
    rw [hLd]
    unfold va_pl
    simp only [List.map_cons, List.map_nil]
    rw [e_o, e_ra, e_tt, e_t0, e_t1, e_t2, e_t3, e_t4, e_t5]
  rw [← hpl] at hP hD
  refine ⟨Γ, L, K, ⟨?_, ?_, ⟨hlo, ?_⟩, ?_⟩, ?_, ?_⟩
  · rw [← hZ, show Z.1.1 = L by rw [hZ]]; exact hP
  · rw [← hZ, show Z.1.1 = L by rw [hZ]]; exact hD
  · intro a ha; cases ha
  · exact ⟨fun a _ j _ b hb => (by cases hb), fun a _ b hb => (by cases hb), fun t _ _ b hb => (by cases hb)⟩
  · show va_K D vwCl [(gAr Γ, .object RX3), (gT Γ, .object RX1)] s
    rw [eQ9, eT]
    exact hK
  · have hg : gids (fun _ => Lean.RArray.leaf ()) = [] := rfl
    refine ⟨⟨⟨m_o, K_o⟩, fun b hb hk => ?_, by rw [eR]; exact ⟨m_ra, K_ra⟩, by rw [eU]; exact ⟨m_tt, K_tt⟩, fun r hr => ?_, fun r r' hr hr' he => ?_⟩, fun r hr => ⟨⟨?_, ?_, rfl, trivial, List.nodup_nil, fun a ha => (by cases ha)⟩, List.Pairwise.nil⟩, List.nodup_nil, fun a ha => (by rw [hg] at ha; cases ha), fun a ha => (by rw [hg] at ha; cases ha), by decide⟩
    · rw [hLd] at hb
      simp only [List.mem_cons, List.not_mem_nil, or_false] at hb
      rcases hb with h9 | h9 | h9 | h9 | h9 | h9 | h9 | h9 | h9
      · exact h9
      · rw [h9, K_ra] at hk; exact absurd hk (by decide)
      · rw [h9, K_tt] at hk; exact absurd hk (by decide)
      · rw [h9, K_t0] at hk; exact absurd hk (by decide)
      · rw [h9, K_t1] at hk; exact absurd hk (by decide)
      · rw [h9, K_t2] at hk; exact absurd hk (by decide)
      · rw [h9, K_t3] at hk; exact absurd hk (by decide)
      · rw [h9, K_t4] at hk; exact absurd hk (by decide)
      · rw [h9, K_t5] at hk; exact absurd hk (by decide)
    · rw [eA, eU]
      have : r = 0 ∨ r = 1 ∨ r = 2 ∨ r = 3 ∨ r = 4 ∨ r = 5 := by omega
      rcases this with rfl | rfl | rfl | rfl | rfl | rfl
      · rw [g_0]; exact n_t0_tt
      · rw [g_1]; exact n_t1_tt
      · rw [g_2]; exact n_t2_tt
      · rw [g_3]; exact n_t3_tt
      · rw [g_4]; exact n_t4_tt
      · rw [g_5]; exact n_t5_tt
    · rw [eA] at he
      have h1 : r = 0 ∨ r = 1 ∨ r = 2 ∨ r = 3 ∨ r = 4 ∨ r = 5 := by omega
      have h2 : r' = 0 ∨ r' = 1 ∨ r' = 2 ∨ r' = 3 ∨ r' = 4 ∨ r' = 5 := by omega
      rcases h1 with rfl | rfl | rfl | rfl | rfl | rfl
      · rcases h2 with rfl | rfl | rfl | rfl | rfl | rfl
        · rfl
        · rw [g_0, g_1] at he; exact absurd he n_t0_t1
        · rw [g_0, g_2] at he; exact absurd he n_t0_t2
        · rw [g_0, g_3] at he; exact absurd he n_t0_t3
        · rw [g_0, g_4] at he; exact absurd he n_t0_t4
        · rw [g_0, g_5] at he; exact absurd he n_t0_t5
      · rcases h2 with rfl | rfl | rfl | rfl | rfl | rfl
        · rw [g_1, g_0] at he; exact absurd he.symm n_t0_t1
        · rfl
        · rw [g_1, g_2] at he; exact absurd he n_t1_t2
        · rw [g_1, g_3] at he; exact absurd he n_t1_t3
        · rw [g_1, g_4] at he; exact absurd he n_t1_t4
        · rw [g_1, g_5] at he; exact absurd he n_t1_t5
      · rcases h2 with rfl | rfl | rfl | rfl | rfl | rfl
        · rw [g_2, g_0] at he; exact absurd he.symm n_t0_t2
        · rw [g_2, g_1] at he; exact absurd he.symm n_t1_t2
        · rfl
        · rw [g_2, g_3] at he; exact absurd he n_t2_t3
        · rw [g_2, g_4] at he; exact absurd he n_t2_t4
        · rw [g_2, g_5] at he; exact absurd he n_t2_t5
      · rcases h2 with rfl | rfl | rfl | rfl | rfl | rfl
        · rw [g_3, g_0] at he; exact absurd he.symm n_t0_t3
        · rw [g_3, g_1] at he; exact absurd he.symm n_t1_t3
        · rw [g_3, g_2] at he; exact absurd he.symm n_t2_t3
        · rfl
        · rw [g_3, g_4] at he; exact absurd he n_t3_t4
        · rw [g_3, g_5] at he; exact absurd he n_t3_t5
      · rcases h2 with rfl | rfl | rfl | rfl | rfl | rfl
        · rw [g_4, g_0] at he; exact absurd he.symm n_t0_t4
        · rw [g_4, g_1] at he; exact absurd he.symm n_t1_t4
        · rw [g_4, g_2] at he; exact absurd he.symm n_t2_t4
        · rw [g_4, g_3] at he; exact absurd he.symm n_t3_t4
        · rfl
        · rw [g_4, g_5] at he; exact absurd he n_t4_t5
      · rcases h2 with rfl | rfl | rfl | rfl | rfl | rfl
        · rw [g_5, g_0] at he; exact absurd he.symm n_t0_t5
        · rw [g_5, g_1] at he; exact absurd he.symm n_t1_t5
        · rw [g_5, g_2] at he; exact absurd he.symm n_t2_t5
        · rw [g_5, g_3] at he; exact absurd he.symm n_t3_t5
        · rw [g_5, g_4] at he; exact absurd he.symm n_t4_t5
        · rfl
    · rw [eA]
      have : r = 0 ∨ r = 1 ∨ r = 2 ∨ r = 3 ∨ r = 4 ∨ r = 5 := by omega
      rcases this with rfl | rfl | rfl | rfl | rfl | rfl
      · rw [g_0]; exact m_t0
      · rw [g_1]; exact m_t1
      · rw [g_2]; exact m_t2
      · rw [g_3]; exact m_t3
      · rw [g_4]; exact m_t4
      · rw [g_5]; exact m_t5
    · rw [eA]
      have : r = 0 ∨ r = 1 ∨ r = 2 ∨ r = 3 ∨ r = 4 ∨ r = 5 := by omega
      rcases this with rfl | rfl | rfl | rfl | rfl | rfl
      · rw [g_0]; exact K_t0
      · rw [g_1]; exact K_t1
      · rw [g_2]; exact K_t2
      · rw [g_3]; exact K_t3
      · rw [g_4]; exact K_t4
      · rw [g_5]; exact K_t5
