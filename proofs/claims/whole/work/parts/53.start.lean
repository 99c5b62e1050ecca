/-! THE START: the cells that the law has made, as a world; everything empty -/
/-- between two calls: class and reference are in step -/
def LI (Γ : GT) (o : Nat) (Z : WS) : Prop := ∃ (T : Nat → Tr) (sz bi : Nat → Nat) (tu th mn kt : Nat) (Q : PF) (zs : Nat → Option Nat) (be : Nat → Nat) (kp : Nat → Int32) (φ : Nat → Nat) (V : Int64 × UInt64), CSW Γ o T sz bi tu (th, mn, tu, kt, Q, zs, be, kp) V Z ∧ RI T sz bi Q zs be mn φ
theorem enc_0 (i : Nat) : encN (fun _ _ => none) (fun _ => none) (fun _ => 4294967295) i = -1 := by
  have e : nI 4294967295 = -1 := by decide
  unfold encN
  simp only [er, e, ite_self]
theorem nil_RI : RI (fun _ => .leaf ()) (fun _ => 0) (fun _ => 0) (fun _ _ => none) (fun _ => none) (fun _ => 4294967295) 0 id := by
  have hg : gids (fun _ => Lean.RArray.leaf ()) = [] := rfl
  refine ⟨⟨fun r hr => ⟨⟨rfl, trivial, List.nodup_nil, fun a ha => (by cases ha)⟩, List.Pairwise.nil⟩, List.nodup_nil, rfl, fun k hk h => absurd rfl h, by decide⟩, fun a ha => by rw [hg] at ha; cases ha⟩
set_option maxRecDepth 100000 in
set_option maxHeartbeats 4000000 in
theorem start_world {D : va_G} {lo : Nat} {H : Heap} {s : State} {cT cI cJ cD : ClassId} {o ra tt t0 t1 t2 t3 t4 t5 mo na ka lg db : Nat} (hlo : lo ≤ H.size)
    (hP : va_P D vwCl [(o, .inr (2, [.ref ra, .ref tt, .int 0])), (ra, .inl (cT, 6, .inr (.inr (.inr (.inr (va_up (va_up (va_up (va_up (va_up (va_up (fun _ => none) 0 (some t0)) 1 (some t1)) 2 (some t2)) 3 (some t3)) 4 (some t4)) 5 (some t5))))))), (tt, .inr (1, [.null])), (t0, .inr (1, [.null])), (t1, .inr (1, [.null])), (t2, .inr (1, [.null])), (t3, .inr (1, [.null])), (t4, .inr (1, [.null])), (t5, .inr (1, [.null])), (mo, .inr (3, [.int 0, .int 0, .int 0, .ref na, .ref ka, .int 0])), (na, .inl (cI, 206, .inl (fun _ => -1))), (ka, .inl (cI, 206, .inl (fun _ => 0))), (lg, .inl (cJ, 1, .inr (.inl (fun _ => 0)))), (db, .inl (cD, 1, .inr (.inr (.inr (.inl (fun _ => 0))))))] H)
    (hD : va_D (lA lo) [(o, .inr (2, [.ref ra, .ref tt, .int 0])), (ra, .inl (cT, 6, .inr (.inr (.inr (.inr (va_up (va_up (va_up (va_up (va_up (va_up (fun _ => none) 0 (some t0)) 1 (some t1)) 2 (some t2)) 3 (some t3)) 4 (some t4)) 5 (some t5))))))), (tt, .inr (1, [.null])), (t0, .inr (1, [.null])), (t1, .inr (1, [.null])), (t2, .inr (1, [.null])), (t3, .inr (1, [.null])), (t4, .inr (1, [.null])), (t5, .inr (1, [.null])), (mo, .inr (3, [.int 0, .int 0, .int 0, .ref na, .ref ka, .int 0])), (na, .inl (cI, 206, .inl (fun _ => -1))), (ka, .inl (cI, 206, .inl (fun _ => 0))), (lg, .inl (cJ, 1, .inr (.inl (fun _ => 0)))), (db, .inl (cD, 1, .inr (.inr (.inr (.inl (fun _ => 0))))))])
    (hK : va_K D vwCl [(cT, .object RX1), (cI, .int), (cJ, .long), (cD, .double)] s) :
    ∃ (Γ : GT) (Z : WS), Hp D lo Γ Z H ∧ va_K D vwCl (TY Γ) s ∧ LI Γ o Z ∧ gxa Γ 3 = mo ∧ gxa Γ 7 = lg ∧ gxa Γ 8 = db := by
  have n_ra_o : ra ≠ o := fun e => absurd (hD.1 1 0 _ _ rfl rfl e) (by decide)
  have n_tt_o : tt ≠ o := fun e => absurd (hD.1 2 0 _ _ rfl rfl e) (by decide)
  have n_tt_ra : tt ≠ ra := fun e => absurd (hD.1 2 1 _ _ rfl rfl e) (by decide)
  have n_tt_mo : tt ≠ mo := fun e => absurd (hD.1 2 9 _ _ rfl rfl e) (by decide)
  have n_tt_na : tt ≠ na := fun e => absurd (hD.1 2 10 _ _ rfl rfl e) (by decide)
  have n_tt_ka : tt ≠ ka := fun e => absurd (hD.1 2 11 _ _ rfl rfl e) (by decide)
  have n_tt_lg : tt ≠ lg := fun e => absurd (hD.1 2 12 _ _ rfl rfl e) (by decide)
  have n_tt_db : tt ≠ db := fun e => absurd (hD.1 2 13 _ _ rfl rfl e) (by decide)
  have n_t0_o : t0 ≠ o := fun e => absurd (hD.1 3 0 _ _ rfl rfl e) (by decide)
  have n_t0_ra : t0 ≠ ra := fun e => absurd (hD.1 3 1 _ _ rfl rfl e) (by decide)
  have n_t0_mo : t0 ≠ mo := fun e => absurd (hD.1 3 9 _ _ rfl rfl e) (by decide)
  have n_t0_na : t0 ≠ na := fun e => absurd (hD.1 3 10 _ _ rfl rfl e) (by decide)
  have n_t0_ka : t0 ≠ ka := fun e => absurd (hD.1 3 11 _ _ rfl rfl e) (by decide)
  have n_t0_lg : t0 ≠ lg := fun e => absurd (hD.1 3 12 _ _ rfl rfl e) (by decide)
  have n_t0_db : t0 ≠ db := fun e => absurd (hD.1 3 13 _ _ rfl rfl e) (by decide)
  have n_t1_o : t1 ≠ o := fun e => absurd (hD.1 4 0 _ _ rfl rfl e) (by decide)
  have n_t1_ra : t1 ≠ ra := fun e => absurd (hD.1 4 1 _ _ rfl rfl e) (by decide)
  have n_t1_mo : t1 ≠ mo := fun e => absurd (hD.1 4 9 _ _ rfl rfl e) (by decide)
  have n_t1_na : t1 ≠ na := fun e => absurd (hD.1 4 10 _ _ rfl rfl e) (by decide)
  have n_t1_ka : t1 ≠ ka := fun e => absurd (hD.1 4 11 _ _ rfl rfl e) (by decide)
  have n_t1_lg : t1 ≠ lg := fun e => absurd (hD.1 4 12 _ _ rfl rfl e) (by decide)
  have n_t1_db : t1 ≠ db := fun e => absurd (hD.1 4 13 _ _ rfl rfl e) (by decide)
  have n_t2_o : t2 ≠ o := fun e => absurd (hD.1 5 0 _ _ rfl rfl e) (by decide)
  have n_t2_ra : t2 ≠ ra := fun e => absurd (hD.1 5 1 _ _ rfl rfl e) (by decide)
  have n_t2_mo : t2 ≠ mo := fun e => absurd (hD.1 5 9 _ _ rfl rfl e) (by decide)
  have n_t2_na : t2 ≠ na := fun e => absurd (hD.1 5 10 _ _ rfl rfl e) (by decide)
  have n_t2_ka : t2 ≠ ka := fun e => absurd (hD.1 5 11 _ _ rfl rfl e) (by decide)
  have n_t2_lg : t2 ≠ lg := fun e => absurd (hD.1 5 12 _ _ rfl rfl e) (by decide)
  have n_t2_db : t2 ≠ db := fun e => absurd (hD.1 5 13 _ _ rfl rfl e) (by decide)
  have n_t3_o : t3 ≠ o := fun e => absurd (hD.1 6 0 _ _ rfl rfl e) (by decide)
  have n_t3_ra : t3 ≠ ra := fun e => absurd (hD.1 6 1 _ _ rfl rfl e) (by decide)
  have n_t3_mo : t3 ≠ mo := fun e => absurd (hD.1 6 9 _ _ rfl rfl e) (by decide)
  have n_t3_na : t3 ≠ na := fun e => absurd (hD.1 6 10 _ _ rfl rfl e) (by decide)
  have n_t3_ka : t3 ≠ ka := fun e => absurd (hD.1 6 11 _ _ rfl rfl e) (by decide)
  have n_t3_lg : t3 ≠ lg := fun e => absurd (hD.1 6 12 _ _ rfl rfl e) (by decide)
  have n_t3_db : t3 ≠ db := fun e => absurd (hD.1 6 13 _ _ rfl rfl e) (by decide)
  have n_t4_o : t4 ≠ o := fun e => absurd (hD.1 7 0 _ _ rfl rfl e) (by decide)
  have n_t4_ra : t4 ≠ ra := fun e => absurd (hD.1 7 1 _ _ rfl rfl e) (by decide)
  have n_t4_mo : t4 ≠ mo := fun e => absurd (hD.1 7 9 _ _ rfl rfl e) (by decide)
  have n_t4_na : t4 ≠ na := fun e => absurd (hD.1 7 10 _ _ rfl rfl e) (by decide)
  have n_t4_ka : t4 ≠ ka := fun e => absurd (hD.1 7 11 _ _ rfl rfl e) (by decide)
  have n_t4_lg : t4 ≠ lg := fun e => absurd (hD.1 7 12 _ _ rfl rfl e) (by decide)
  have n_t4_db : t4 ≠ db := fun e => absurd (hD.1 7 13 _ _ rfl rfl e) (by decide)
  have n_t5_o : t5 ≠ o := fun e => absurd (hD.1 8 0 _ _ rfl rfl e) (by decide)
  have n_t5_ra : t5 ≠ ra := fun e => absurd (hD.1 8 1 _ _ rfl rfl e) (by decide)
  have n_t5_mo : t5 ≠ mo := fun e => absurd (hD.1 8 9 _ _ rfl rfl e) (by decide)
  have n_t5_na : t5 ≠ na := fun e => absurd (hD.1 8 10 _ _ rfl rfl e) (by decide)
  have n_t5_ka : t5 ≠ ka := fun e => absurd (hD.1 8 11 _ _ rfl rfl e) (by decide)
  have n_t5_lg : t5 ≠ lg := fun e => absurd (hD.1 8 12 _ _ rfl rfl e) (by decide)
  have n_t5_db : t5 ≠ db := fun e => absurd (hD.1 8 13 _ _ rfl rfl e) (by decide)
  have n_mo_o : mo ≠ o := fun e => absurd (hD.1 9 0 _ _ rfl rfl e) (by decide)
  have n_mo_ra : mo ≠ ra := fun e => absurd (hD.1 9 1 _ _ rfl rfl e) (by decide)
  have n_na_o : na ≠ o := fun e => absurd (hD.1 10 0 _ _ rfl rfl e) (by decide)
  have n_na_ra : na ≠ ra := fun e => absurd (hD.1 10 1 _ _ rfl rfl e) (by decide)
  have n_na_mo : na ≠ mo := fun e => absurd (hD.1 10 9 _ _ rfl rfl e) (by decide)
  have n_ka_o : ka ≠ o := fun e => absurd (hD.1 11 0 _ _ rfl rfl e) (by decide)
  have n_ka_ra : ka ≠ ra := fun e => absurd (hD.1 11 1 _ _ rfl rfl e) (by decide)
  have n_ka_mo : ka ≠ mo := fun e => absurd (hD.1 11 9 _ _ rfl rfl e) (by decide)
  have n_ka_na : ka ≠ na := fun e => absurd (hD.1 11 10 _ _ rfl rfl e) (by decide)
  have n_lg_o : lg ≠ o := fun e => absurd (hD.1 12 0 _ _ rfl rfl e) (by decide)
  have n_lg_ra : lg ≠ ra := fun e => absurd (hD.1 12 1 _ _ rfl rfl e) (by decide)
  have n_lg_mo : lg ≠ mo := fun e => absurd (hD.1 12 9 _ _ rfl rfl e) (by decide)
  have n_lg_na : lg ≠ na := fun e => absurd (hD.1 12 10 _ _ rfl rfl e) (by decide)
  have n_lg_ka : lg ≠ ka := fun e => absurd (hD.1 12 11 _ _ rfl rfl e) (by decide)
  have n_db_o : db ≠ o := fun e => absurd (hD.1 13 0 _ _ rfl rfl e) (by decide)
  have n_db_ra : db ≠ ra := fun e => absurd (hD.1 13 1 _ _ rfl rfl e) (by decide)
  have n_db_mo : db ≠ mo := fun e => absurd (hD.1 13 9 _ _ rfl rfl e) (by decide)
  have n_db_na : db ≠ na := fun e => absurd (hD.1 13 10 _ _ rfl rfl e) (by decide)
  have n_db_ka : db ≠ ka := fun e => absurd (hD.1 13 11 _ _ rfl rfl e) (by decide)
  have n_db_lg : db ≠ lg := fun e => absurd (hD.1 13 12 _ _ rfl rfl e) (by decide)
  have n_t0_tt : t0 ≠ tt := fun e => absurd (hD.1 3 2 _ _ rfl rfl e) (by decide)
  have n_t1_tt : t1 ≠ tt := fun e => absurd (hD.1 4 2 _ _ rfl rfl e) (by decide)
  have n_t2_tt : t2 ≠ tt := fun e => absurd (hD.1 5 2 _ _ rfl rfl e) (by decide)
  have n_t3_tt : t3 ≠ tt := fun e => absurd (hD.1 6 2 _ _ rfl rfl e) (by decide)
  have n_t4_tt : t4 ≠ tt := fun e => absurd (hD.1 7 2 _ _ rfl rfl e) (by decide)
  have n_t5_tt : t5 ≠ tt := fun e => absurd (hD.1 8 2 _ _ rfl rfl e) (by decide)
  have n_t0_t1 : t0 ≠ t1 := fun e => absurd (hD.1 3 4 _ _ rfl rfl e) (by decide)
  have n_t0_t2 : t0 ≠ t2 := fun e => absurd (hD.1 3 5 _ _ rfl rfl e) (by decide)
  have n_t0_t3 : t0 ≠ t3 := fun e => absurd (hD.1 3 6 _ _ rfl rfl e) (by decide)
  have n_t0_t4 : t0 ≠ t4 := fun e => absurd (hD.1 3 7 _ _ rfl rfl e) (by decide)
  have n_t0_t5 : t0 ≠ t5 := fun e => absurd (hD.1 3 8 _ _ rfl rfl e) (by decide)
  have n_t1_t2 : t1 ≠ t2 := fun e => absurd (hD.1 4 5 _ _ rfl rfl e) (by decide)
  have n_t1_t3 : t1 ≠ t3 := fun e => absurd (hD.1 4 6 _ _ rfl rfl e) (by decide)
  have n_t1_t4 : t1 ≠ t4 := fun e => absurd (hD.1 4 7 _ _ rfl rfl e) (by decide)
  have n_t1_t5 : t1 ≠ t5 := fun e => absurd (hD.1 4 8 _ _ rfl rfl e) (by decide)
  have n_t2_t3 : t2 ≠ t3 := fun e => absurd (hD.1 5 6 _ _ rfl rfl e) (by decide)
  have n_t2_t4 : t2 ≠ t4 := fun e => absurd (hD.1 5 7 _ _ rfl rfl e) (by decide)
  have n_t2_t5 : t2 ≠ t5 := fun e => absurd (hD.1 5 8 _ _ rfl rfl e) (by decide)
  have n_t3_t4 : t3 ≠ t4 := fun e => absurd (hD.1 6 7 _ _ rfl rfl e) (by decide)
  have n_t3_t5 : t3 ≠ t5 := fun e => absurd (hD.1 6 8 _ _ rfl rfl e) (by decide)
  have n_t4_t5 : t4 ≠ t5 := fun e => absurd (hD.1 7 8 _ _ rfl rfl e) (by decide)
  obtain ⟨K, hKd⟩ : ∃ K : Nat → Nat, K = fun a => if a = o then 2 else if a = ra then 6 else if a = mo then 3 else if a = na then 4 else if a = ka then 5 else if a = lg then 7 else if a = db then 8 else 1 := ⟨_, rfl⟩
  have K_o : K o = 2 := by rw [hKd]; dsimp only; rw [if_pos rfl]
  have K_ra : K ra = 6 := by rw [hKd]; dsimp only; rw [if_neg n_ra_o, if_pos rfl]
  have K_tt : K tt = 1 := by rw [hKd]; dsimp only; rw [if_neg n_tt_o, if_neg n_tt_ra, if_neg n_tt_mo, if_neg n_tt_na, if_neg n_tt_ka, if_neg n_tt_lg, if_neg n_tt_db]
  have K_t0 : K t0 = 1 := by rw [hKd]; dsimp only; rw [if_neg n_t0_o, if_neg n_t0_ra, if_neg n_t0_mo, if_neg n_t0_na, if_neg n_t0_ka, if_neg n_t0_lg, if_neg n_t0_db]
  have K_t1 : K t1 = 1 := by rw [hKd]; dsimp only; rw [if_neg n_t1_o, if_neg n_t1_ra, if_neg n_t1_mo, if_neg n_t1_na, if_neg n_t1_ka, if_neg n_t1_lg, if_neg n_t1_db]
  have K_t2 : K t2 = 1 := by rw [hKd]; dsimp only; rw [if_neg n_t2_o, if_neg n_t2_ra, if_neg n_t2_mo, if_neg n_t2_na, if_neg n_t2_ka, if_neg n_t2_lg, if_neg n_t2_db]
  have K_t3 : K t3 = 1 := by rw [hKd]; dsimp only; rw [if_neg n_t3_o, if_neg n_t3_ra, if_neg n_t3_mo, if_neg n_t3_na, if_neg n_t3_ka, if_neg n_t3_lg, if_neg n_t3_db]
  have K_t4 : K t4 = 1 := by rw [hKd]; dsimp only; rw [if_neg n_t4_o, if_neg n_t4_ra, if_neg n_t4_mo, if_neg n_t4_na, if_neg n_t4_ka, if_neg n_t4_lg, if_neg n_t4_db]
  have K_t5 : K t5 = 1 := by rw [hKd]; dsimp only; rw [if_neg n_t5_o, if_neg n_t5_ra, if_neg n_t5_mo, if_neg n_t5_na, if_neg n_t5_ka, if_neg n_t5_lg, if_neg n_t5_db]
  have K_mo : K mo = 3 := by rw [hKd]; dsimp only; rw [if_neg n_mo_o, if_neg n_mo_ra, if_pos rfl]
  have K_na : K na = 4 := by rw [hKd]; dsimp only; rw [if_neg n_na_o, if_neg n_na_ra, if_neg n_na_mo, if_pos rfl]
  have K_ka : K ka = 5 := by rw [hKd]; dsimp only; rw [if_neg n_ka_o, if_neg n_ka_ra, if_neg n_ka_mo, if_neg n_ka_na, if_pos rfl]
  have K_lg : K lg = 7 := by rw [hKd]; dsimp only; rw [if_neg n_lg_o, if_neg n_lg_ra, if_neg n_lg_mo, if_neg n_lg_na, if_neg n_lg_ka, if_pos rfl]
  have K_db : K db = 8 := by rw [hKd]; dsimp only; rw [if_neg n_db_o, if_neg n_db_ra, if_neg n_db_mo, if_neg n_db_na, if_neg n_db_ka, if_neg n_db_lg, if_pos rfl]
  obtain ⟨gt, hgt⟩ : ∃ gt : Nat → Nat, gt = fun i => if i = 0 then t0 else if i = 1 then t1 else if i = 2 then t2 else if i = 3 then t3 else if i = 4 then t4 else t5 := ⟨_, rfl⟩
  have g_0 : gt 0 = t0 := by rw [hgt]; rfl
  have g_1 : gt 1 = t1 := by rw [hgt]; rfl
  have g_2 : gt 2 = t2 := by rw [hgt]; rfl
  have g_3 : gt 3 = t3 := by rw [hgt]; rfl
  have g_4 : gt 4 = t4 := by rw [hgt]; rfl
  have g_5 : gt 5 = t5 := by rw [hgt]; rfl
  obtain ⟨gx, hgx⟩ : ∃ gx : Nat → Nat, gx = fun j => if j = 3 then mo else if j = 4 then na else if j = 5 then ka else if j = 7 then lg else db := ⟨_, rfl⟩
  have x_3 : gx 3 = mo := by rw [hgx]; rfl
  have x_4 : gx 4 = na := by rw [hgx]; rfl
  have x_5 : gx 5 = ka := by rw [hgx]; rfl
  have x_7 : gx 7 = lg := by rw [hgx]; rfl
  have x_8 : gx 8 = db := by rw [hgx]; rfl
  have hc1 : va_at D vwCl (ra, .inl (cT, 6, .inr (.inr (.inr (.inr (fun i => some (gt i))))))) H := by
    show H[ra]? = some (vp_cell cT (6, .inr (.inr (.inr (.inr (fun i => some (gt i)))))))
    rw [vp_cell_q, ← arrV_cg (f := fun j => va_rf ((va_up (va_up (va_up (va_up (va_up (va_up (fun _ => none) 0 (some t0)) 1 (some t1)) 2 (some t2)) 3 (some t3)) 4 (some t4)) 5 (some t5)) j)) (fun j hj => ?_)]
    · exact hP 1 _ rfl
    · have : j = 0 ∨ j = 1 ∨ j = 2 ∨ j = 3 ∨ j = 4 ∨ j = 5 := by omega
      rcases this with rfl | rfl | rfl | rfl | rfl | rfl
      · rw [g_0]; rfl
      · rw [g_1]; rfl
      · rw [g_2]; rfl
      · rw [g_3]; rfl
      · rw [g_4]; rfl
      · rw [g_5]; rfl
  have hP := hP.set hD (p := 1) rfl hc1 (fun _ _ => rfl)
  have hD := hD.set (p := 1) (e := .inl (cT, 6, .inr (.inr (.inr (.inr (fun i => some (gt i))))))) rfl
  have hP : va_P D vwCl [(o, .inr (2, [.ref ra, .ref tt, .int 0])), (ra, .inl (cT, 6, .inr (.inr (.inr (.inr (fun i => some (gt i))))))), (tt, .inr (1, [.null])), (t0, .inr (1, [.null])), (t1, .inr (1, [.null])), (t2, .inr (1, [.null])), (t3, .inr (1, [.null])), (t4, .inr (1, [.null])), (t5, .inr (1, [.null])), (mo, .inr (3, [.int 0, .int 0, .int 0, .ref na, .ref ka, .int 0])), (na, .inl (cI, 206, .inl (fun _ => -1))), (ka, .inl (cI, 206, .inl (fun _ => 0))), (lg, .inl (cJ, 1, .inr (.inl (fun _ => 0)))), (db, .inl (cD, 1, .inr (.inr (.inr (.inl (fun _ => 0))))))] H := hP
  have hD : va_D (lA lo) [(o, .inr (2, [.ref ra, .ref tt, .int 0])), (ra, .inl (cT, 6, .inr (.inr (.inr (.inr (fun i => some (gt i))))))), (tt, .inr (1, [.null])), (t0, .inr (1, [.null])), (t1, .inr (1, [.null])), (t2, .inr (1, [.null])), (t3, .inr (1, [.null])), (t4, .inr (1, [.null])), (t5, .inr (1, [.null])), (mo, .inr (3, [.int 0, .int 0, .int 0, .ref na, .ref ka, .int 0])), (na, .inl (cI, 206, .inl (fun _ => -1))), (ka, .inl (cI, 206, .inl (fun _ => 0))), (lg, .inl (cJ, 1, .inr (.inl (fun _ => 0)))), (db, .inl (cD, 1, .inr (.inr (.inr (.inl (fun _ => 0))))))] := hD
  obtain ⟨L, hLd⟩ : ∃ L : List Nat, L = [o, ra, tt, t0, t1, t2, t3, t4, t5, mo, na, ka, lg, db] := ⟨_, rfl⟩
  have m_o : o ∈ L := by rw [hLd]; simp
  have m_ra : ra ∈ L := by rw [hLd]; simp
  have m_tt : tt ∈ L := by rw [hLd]; simp
  have m_t0 : t0 ∈ L := by rw [hLd]; simp
  have m_t1 : t1 ∈ L := by rw [hLd]; simp
  have m_t2 : t2 ∈ L := by rw [hLd]; simp
  have m_t3 : t3 ∈ L := by rw [hLd]; simp
  have m_t4 : t4 ∈ L := by rw [hLd]; simp
  have m_t5 : t5 ∈ L := by rw [hLd]; simp
  have m_mo : mo ∈ L := by rw [hLd]; simp
  have m_na : na ∈ L := by rw [hLd]; simp
  have m_ka : ka ∈ L := by rw [hLd]; simp
  have m_lg : lg ∈ L := by rw [hLd]; simp
  have m_db : db ∈ L := by rw [hLd]; simp
  obtain ⟨Γ, hΓ⟩ : ∃ Γ : GT, Γ = (cI, cT, cJ, cD, ra, tt, gt, gx) := ⟨_, rfl⟩
  have eI : gI Γ = cI := by rw [hΓ]; rfl
  have eT : gT Γ = cT := by rw [hΓ]; rfl
  have eJ : gJ Γ = cJ := by rw [hΓ]; rfl
  have eD : gD Γ = cD := by rw [hΓ]; rfl
  have eR : gra Γ = ra := by rw [hΓ]; rfl
  have eU : gtt Γ = tt := by rw [hΓ]; rfl
  have eA : gta Γ = gt := by rw [hΓ]; rfl
  have eX : gxa Γ = gx := by rw [hΓ]; rfl
  have eN : gna Γ = na := by unfold gna; rw [eX]; exact x_4
  have eO : gka Γ = ka := by unfold gka; rw [eX]; exact x_5
  obtain ⟨Z, hZ⟩ : ∃ Z : WS, Z = ((L, K, fun _ => 0, fun _ => none, fun _ _ => none, fun _ => 0, 0), (0, 0, 0, 0, fun _ _ => none, fun _ => none, fun _ => 4294967295, fun _ => 0), 0, 0) := ⟨_, rfl⟩
  have e_o : ef Γ Z o = .inr (2, [.ref ra, .ref tt, .int 0]) := by
    rw [hZ]
    unfold ef
    dsimp only
    rw [if_neg (show ¬ K o = 0 by rw [K_o]; decide), if_neg (show ¬ K o = 1 by rw [K_o]; decide), if_pos (show K o = 2 from K_o)]
    try (rw [eR, eU]; rfl)
  have e_ra : ef Γ Z ra = .inl (cT, 6, .inr (.inr (.inr (.inr (fun i => some (gt i)))))) := by
    rw [hZ]
    unfold ef
    dsimp only
    rw [if_neg (show ¬ K ra = 0 by rw [K_ra]; decide), if_neg (show ¬ K ra = 1 by rw [K_ra]; decide), if_neg (show ¬ K ra = 2 by rw [K_ra]; decide), if_neg (show ¬ K ra = 3 by rw [K_ra]; decide), if_neg (show ¬ K ra = 4 by rw [K_ra]; decide), if_neg (show ¬ K ra = 5 by rw [K_ra]; decide), if_pos (show K ra = 6 from K_ra)]
    try (rw [eT, eA])
  have e_tt : ef Γ Z tt = .inr (1, [.null]) := by
    rw [hZ]
    unfold ef
    dsimp only
    rw [if_neg (show ¬ K tt = 0 by rw [K_tt]; decide), if_pos (show K tt = 1 from K_tt)]
    try (rfl)
  have e_t0 : ef Γ Z t0 = .inr (1, [.null]) := by
    rw [hZ]
    unfold ef
    dsimp only
    rw [if_neg (show ¬ K t0 = 0 by rw [K_t0]; decide), if_pos (show K t0 = 1 from K_t0)]
    try (rfl)
  have e_t1 : ef Γ Z t1 = .inr (1, [.null]) := by
    rw [hZ]
    unfold ef
    dsimp only
    rw [if_neg (show ¬ K t1 = 0 by rw [K_t1]; decide), if_pos (show K t1 = 1 from K_t1)]
    try (rfl)
  have e_t2 : ef Γ Z t2 = .inr (1, [.null]) := by
    rw [hZ]
    unfold ef
    dsimp only
    rw [if_neg (show ¬ K t2 = 0 by rw [K_t2]; decide), if_pos (show K t2 = 1 from K_t2)]
    try (rfl)
  have e_t3 : ef Γ Z t3 = .inr (1, [.null]) := by
    rw [hZ]
    unfold ef
    dsimp only
    rw [if_neg (show ¬ K t3 = 0 by rw [K_t3]; decide), if_pos (show K t3 = 1 from K_t3)]
    try (rfl)
  have e_t4 : ef Γ Z t4 = .inr (1, [.null]) := by
    rw [hZ]
    unfold ef
    dsimp only
    rw [if_neg (show ¬ K t4 = 0 by rw [K_t4]; decide), if_pos (show K t4 = 1 from K_t4)]
    try (rfl)
  have e_t5 : ef Γ Z t5 = .inr (1, [.null]) := by
    rw [hZ]
    unfold ef
    dsimp only
    rw [if_neg (show ¬ K t5 = 0 by rw [K_t5]; decide), if_pos (show K t5 = 1 from K_t5)]
    try (rfl)
  have e_mo : ef Γ Z mo = .inr (3, [.int 0, .int 0, .int 0, .ref na, .ref ka, .int 0]) := by
    rw [hZ]
    unfold ef
    dsimp only
    rw [if_neg (show ¬ K mo = 0 by rw [K_mo]; decide), if_neg (show ¬ K mo = 1 by rw [K_mo]; decide), if_neg (show ¬ K mo = 2 by rw [K_mo]; decide), if_pos (show K mo = 3 from K_mo)]
    try (rw [eN, eO]; rfl)
  have e_na : ef Γ Z na = .inl (cI, 206, .inl (fun _ => -1)) := by
    rw [hZ]
    unfold ef
    dsimp only
    rw [if_neg (show ¬ K na = 0 by rw [K_na]; decide), if_neg (show ¬ K na = 1 by rw [K_na]; decide), if_neg (show ¬ K na = 2 by rw [K_na]; decide), if_neg (show ¬ K na = 3 by rw [K_na]; decide), if_pos (show K na = 4 from K_na)]
    try (rw [eI, show encN (fun _ _ => none) (fun _ => none) (fun _ => 4294967295) = fun _ => -1 from funext enc_0])
  have e_ka : ef Γ Z ka = .inl (cI, 206, .inl (fun _ => 0)) := by
    rw [hZ]
    unfold ef
    dsimp only
    rw [if_neg (show ¬ K ka = 0 by rw [K_ka]; decide), if_neg (show ¬ K ka = 1 by rw [K_ka]; decide), if_neg (show ¬ K ka = 2 by rw [K_ka]; decide), if_neg (show ¬ K ka = 3 by rw [K_ka]; decide), if_neg (show ¬ K ka = 4 by rw [K_ka]; decide), if_pos (show K ka = 5 from K_ka)]
    try (rw [eI])
  have e_lg : ef Γ Z lg = .inl (cJ, 1, .inr (.inl (fun _ => 0))) := by
    rw [hZ]
    unfold ef
    dsimp only
    rw [if_neg (show ¬ K lg = 0 by rw [K_lg]; decide), if_neg (show ¬ K lg = 1 by rw [K_lg]; decide), if_neg (show ¬ K lg = 2 by rw [K_lg]; decide), if_neg (show ¬ K lg = 3 by rw [K_lg]; decide), if_neg (show ¬ K lg = 4 by rw [K_lg]; decide), if_neg (show ¬ K lg = 5 by rw [K_lg]; decide), if_neg (show ¬ K lg = 6 by rw [K_lg]; decide), if_pos (show K lg = 7 from K_lg)]
    try (rw [eJ])
  have e_db : ef Γ Z db = .inl (cD, 1, .inr (.inr (.inr (.inl (fun _ => 0))))) := by
    rw [hZ]
    unfold ef
    dsimp only
    rw [if_neg (show ¬ K db = 0 by rw [K_db]; decide), if_neg (show ¬ K db = 1 by rw [K_db]; decide), if_neg (show ¬ K db = 2 by rw [K_db]; decide), if_neg (show ¬ K db = 3 by rw [K_db]; decide), if_neg (show ¬ K db = 4 by rw [K_db]; decide), if_neg (show ¬ K db = 5 by rw [K_db]; decide), if_neg (show ¬ K db = 6 by rw [K_db]; decide), if_neg (show ¬ K db = 7 by rw [K_db]; decide), if_pos (show K db = 8 from K_db)]
    try (rw [eD])
  have hpl : va_pl L (ef Γ Z) = [(o, .inr (2, [.ref ra, .ref tt, .int 0])), (ra, .inl (cT, 6, .inr (.inr (.inr (.inr (fun i => some (gt i))))))), (tt, .inr (1, [.null])), (t0, .inr (1, [.null])), (t1, .inr (1, [.null])), (t2, .inr (1, [.null])), (t3, .inr (1, [.null])), (t4, .inr (1, [.null])), (t5, .inr (1, [.null])), (mo, .inr (3, [.int 0, .int 0, .int 0, .ref na, .ref ka, .int 0])), (na, .inl (cI, 206, .inl (fun _ => -1))), (ka, .inl (cI, 206, .inl (fun _ => 0))), (lg, .inl (cJ, 1, .inr (.inl (fun _ => 0)))), (db, .inl (cD, 1, .inr (.inr (.inr (.inl (fun _ => 0))))))] := by
    rw [hLd]
    unfold va_pl
    simp only [List.map_cons, List.map_nil]
    rw [e_o, e_ra, e_tt, e_t0, e_t1, e_t2, e_t3, e_t4, e_t5, e_mo, e_na, e_ka, e_lg, e_db]
  rw [← hpl] at hP hD
  have hMG : MG Γ L K := by
    intro j hj
    rw [eX]
    simp only [List.mem_cons, List.not_mem_nil, or_false] at hj
    rcases hj with rfl | rfl | rfl | rfl | rfl
    · rw [x_3]
      refine ⟨m_mo, K_mo, fun b hb hk => ?_⟩
      rw [hLd] at hb
      simp only [List.mem_cons, List.not_mem_nil, or_false] at hb
      rcases hb with h9 | h9 | h9 | h9 | h9 | h9 | h9 | h9 | h9 | h9 | h9 | h9 | h9 | h9
      · rw [h9, K_o] at hk; exact absurd hk (by decide)
      · rw [h9, K_ra] at hk; exact absurd hk (by decide)
      · rw [h9, K_tt] at hk; exact absurd hk (by decide)
      · rw [h9, K_t0] at hk; exact absurd hk (by decide)
      · rw [h9, K_t1] at hk; exact absurd hk (by decide)
      · rw [h9, K_t2] at hk; exact absurd hk (by decide)
      · rw [h9, K_t3] at hk; exact absurd hk (by decide)
      · rw [h9, K_t4] at hk; exact absurd hk (by decide)
      · rw [h9, K_t5] at hk; exact absurd hk (by decide)
      · exact h9
      · rw [h9, K_na] at hk; exact absurd hk (by decide)
      · rw [h9, K_ka] at hk; exact absurd hk (by decide)
      · rw [h9, K_lg] at hk; exact absurd hk (by decide)
      · rw [h9, K_db] at hk; exact absurd hk (by decide)
    · rw [x_4]
      refine ⟨m_na, K_na, fun b hb hk => ?_⟩
      rw [hLd] at hb
      simp only [List.mem_cons, List.not_mem_nil, or_false] at hb
      rcases hb with h9 | h9 | h9 | h9 | h9 | h9 | h9 | h9 | h9 | h9 | h9 | h9 | h9 | h9
      · rw [h9, K_o] at hk; exact absurd hk (by decide)
      · rw [h9, K_ra] at hk; exact absurd hk (by decide)
      · rw [h9, K_tt] at hk; exact absurd hk (by decide)
      · rw [h9, K_t0] at hk; exact absurd hk (by decide)
      · rw [h9, K_t1] at hk; exact absurd hk (by decide)
      · rw [h9, K_t2] at hk; exact absurd hk (by decide)
      · rw [h9, K_t3] at hk; exact absurd hk (by decide)
      · rw [h9, K_t4] at hk; exact absurd hk (by decide)
      · rw [h9, K_t5] at hk; exact absurd hk (by decide)
      · rw [h9, K_mo] at hk; exact absurd hk (by decide)
      · exact h9
      · rw [h9, K_ka] at hk; exact absurd hk (by decide)
      · rw [h9, K_lg] at hk; exact absurd hk (by decide)
      · rw [h9, K_db] at hk; exact absurd hk (by decide)
    · rw [x_5]
      refine ⟨m_ka, K_ka, fun b hb hk => ?_⟩
      rw [hLd] at hb
      simp only [List.mem_cons, List.not_mem_nil, or_false] at hb
      rcases hb with h9 | h9 | h9 | h9 | h9 | h9 | h9 | h9 | h9 | h9 | h9 | h9 | h9 | h9
      · rw [h9, K_o] at hk; exact absurd hk (by decide)
      · rw [h9, K_ra] at hk; exact absurd hk (by decide)
      · rw [h9, K_tt] at hk; exact absurd hk (by decide)
      · rw [h9, K_t0] at hk; exact absurd hk (by decide)
      · rw [h9, K_t1] at hk; exact absurd hk (by decide)
      · rw [h9, K_t2] at hk; exact absurd hk (by decide)
      · rw [h9, K_t3] at hk; exact absurd hk (by decide)
      · rw [h9, K_t4] at hk; exact absurd hk (by decide)
      · rw [h9, K_t5] at hk; exact absurd hk (by decide)
      · rw [h9, K_mo] at hk; exact absurd hk (by decide)
      · rw [h9, K_na] at hk; exact absurd hk (by decide)
      · exact h9
      · rw [h9, K_lg] at hk; exact absurd hk (by decide)
      · rw [h9, K_db] at hk; exact absurd hk (by decide)
    · rw [x_7]
      refine ⟨m_lg, K_lg, fun b hb hk => ?_⟩
      rw [hLd] at hb
      simp only [List.mem_cons, List.not_mem_nil, or_false] at hb
      rcases hb with h9 | h9 | h9 | h9 | h9 | h9 | h9 | h9 | h9 | h9 | h9 | h9 | h9 | h9
      · rw [h9, K_o] at hk; exact absurd hk (by decide)
      · rw [h9, K_ra] at hk; exact absurd hk (by decide)
      · rw [h9, K_tt] at hk; exact absurd hk (by decide)
      · rw [h9, K_t0] at hk; exact absurd hk (by decide)
      · rw [h9, K_t1] at hk; exact absurd hk (by decide)
      · rw [h9, K_t2] at hk; exact absurd hk (by decide)
      · rw [h9, K_t3] at hk; exact absurd hk (by decide)
      · rw [h9, K_t4] at hk; exact absurd hk (by decide)
      · rw [h9, K_t5] at hk; exact absurd hk (by decide)
      · rw [h9, K_mo] at hk; exact absurd hk (by decide)
      · rw [h9, K_na] at hk; exact absurd hk (by decide)
      · rw [h9, K_ka] at hk; exact absurd hk (by decide)
      · exact h9
      · rw [h9, K_db] at hk; exact absurd hk (by decide)
    · rw [x_8]
      refine ⟨m_db, K_db, fun b hb hk => ?_⟩
      rw [hLd] at hb
      simp only [List.mem_cons, List.not_mem_nil, or_false] at hb
      rcases hb with h9 | h9 | h9 | h9 | h9 | h9 | h9 | h9 | h9 | h9 | h9 | h9 | h9 | h9
      · rw [h9, K_o] at hk; exact absurd hk (by decide)
      · rw [h9, K_ra] at hk; exact absurd hk (by decide)
      · rw [h9, K_tt] at hk; exact absurd hk (by decide)
      · rw [h9, K_t0] at hk; exact absurd hk (by decide)
      · rw [h9, K_t1] at hk; exact absurd hk (by decide)
      · rw [h9, K_t2] at hk; exact absurd hk (by decide)
      · rw [h9, K_t3] at hk; exact absurd hk (by decide)
      · rw [h9, K_t4] at hk; exact absurd hk (by decide)
      · rw [h9, K_t5] at hk; exact absurd hk (by decide)
      · rw [h9, K_mo] at hk; exact absurd hk (by decide)
      · rw [h9, K_na] at hk; exact absurd hk (by decide)
      · rw [h9, K_ka] at hk; exact absurd hk (by decide)
      · rw [h9, K_lg] at hk; exact absurd hk (by decide)
      · exact h9
  refine ⟨Γ, Z, ⟨?_, ?_, ⟨hlo, ?_⟩, ?_⟩, ?_, ?_, by rw [eX]; exact x_3, by rw [eX]; exact x_7, by rw [eX]; exact x_8⟩
  · rw [show Z.1.1 = L by rw [hZ]]; exact hP
  · rw [show Z.1.1 = L by rw [hZ]]; exact hD
  · rw [hZ]; exact hMG
  · rw [hZ]; exact ⟨fun a _ j _ b hb => (by cases hb), fun a _ b hb => (by cases hb), fun t _ _ b hb => (by cases hb)⟩
  · show va_K D vwCl [(gI Γ, .int), (gT Γ, .object RX1), (gJ Γ, .long), (gD Γ, .double)] s
    rw [eI, eT, eJ, eD]
    exact hK.sub [1, 0, 2, 3] rfl
  · refine ⟨fun _ => .leaf (), fun _ => 0, fun _ => 0, 0, 0, 0, 0, fun _ _ => none, fun _ => none, fun _ => 4294967295, fun _ => 0, id, (0, 0), ⟨L, K, fun _ => none, fun _ _ => none, hZ, ?_⟩, nil_RI⟩
    have hg : gids (fun _ => Lean.RArray.leaf ()) = [] := rfl
    refine ⟨⟨⟨m_o, K_o⟩, fun b hb hk => ?_, by rw [eR]; exact ⟨m_ra, K_ra⟩, by rw [eU]; exact ⟨m_tt, K_tt⟩, fun r hr => ?_, fun r r' hr hr' he => ?_⟩, fun r hr => ⟨⟨?_, ?_, rfl, trivial, List.nodup_nil, fun a ha => (by cases ha)⟩, List.Pairwise.nil⟩, List.nodup_nil, fun a ha => (by rw [hg] at ha; cases ha), fun a ha => (by rw [hg] at ha; cases ha), by decide⟩
    · rw [hLd] at hb
      simp only [List.mem_cons, List.not_mem_nil, or_false] at hb
      rcases hb with h9 | h9 | h9 | h9 | h9 | h9 | h9 | h9 | h9 | h9 | h9 | h9 | h9 | h9
      · exact h9
      · rw [h9, K_ra] at hk; exact absurd hk (by decide)
      · rw [h9, K_tt] at hk; exact absurd hk (by decide)
      · rw [h9, K_t0] at hk; exact absurd hk (by decide)
      · rw [h9, K_t1] at hk; exact absurd hk (by decide)
      · rw [h9, K_t2] at hk; exact absurd hk (by decide)
      · rw [h9, K_t3] at hk; exact absurd hk (by decide)
      · rw [h9, K_t4] at hk; exact absurd hk (by decide)
      · rw [h9, K_t5] at hk; exact absurd hk (by decide)
      · rw [h9, K_mo] at hk; exact absurd hk (by decide)
      · rw [h9, K_na] at hk; exact absurd hk (by decide)
      · rw [h9, K_ka] at hk; exact absurd hk (by decide)
      · rw [h9, K_lg] at hk; exact absurd hk (by decide)
      · rw [h9, K_db] at hk; exact absurd hk (by decide)
    · rw [eA, eU]
      have : r = 0 ∨ r = 1 ∨ r = 2 ∨ r = 3 ∨ r = 4 ∨ r = 5 := by omega
      rcases this with rfl | rfl | rfl | rfl | rfl | rfl
      · rw [g_0]; exact n_t0_tt
      · rw [g_1]; exact n_t1_tt
      · rw [g_2]; exact n_t2_tt
      · rw [g_3]; exact n_t3_tt
      · rw [g_4]; exact n_t4_tt
      · rw [g_5]; exact n_t5_tt
    · rw [eA] at he
      have h1 : r = 0 ∨ r = 1 ∨ r = 2 ∨ r = 3 ∨ r = 4 ∨ r = 5 := by omega
      have h2 : r' = 0 ∨ r' = 1 ∨ r' = 2 ∨ r' = 3 ∨ r' = 4 ∨ r' = 5 := by omega
      rcases h1 with rfl | rfl | rfl | rfl | rfl | rfl
      · rcases h2 with rfl | rfl | rfl | rfl | rfl | rfl
        · rfl
        · rw [g_0, g_1] at he; exact absurd he n_t0_t1
        · rw [g_0, g_2] at he; exact absurd he n_t0_t2
        · rw [g_0, g_3] at he; exact absurd he n_t0_t3
        · rw [g_0, g_4] at he; exact absurd he n_t0_t4
        · rw [g_0, g_5] at he; exact absurd he n_t0_t5
      · rcases h2 with rfl | rfl | rfl | rfl | rfl | rfl
        · rw [g_1, g_0] at he; exact absurd he.symm n_t0_t1
        · rfl
        · rw [g_1, g_2] at he; exact absurd he n_t1_t2
        · rw [g_1, g_3] at he; exact absurd he n_t1_t3
        · rw [g_1, g_4] at he; exact absurd he n_t1_t4
        · rw [g_1, g_5] at he; exact absurd he n_t1_t5
      · rcases h2 with rfl | rfl | rfl | rfl | rfl | rfl
        · rw [g_2, g_0] at he; exact absurd he.symm n_t0_t2
        · rw [g_2, g_1] at he; exact absurd he.symm n_t1_t2
        · rfl
        · rw [g_2, g_3] at he; exact absurd he n_t2_t3
        · rw [g_2, g_4] at he; exact absurd he n_t2_t4
        · rw [g_2, g_5] at he; exact absurd he n_t2_t5
      · rcases h2 with rfl | rfl | rfl | rfl | rfl | rfl
        · rw [g_3, g_0] at he; exact absurd he.symm n_t0_t3
        · rw [g_3, g_1] at he; exact absurd he.symm n_t1_t3
        · rw [g_3, g_2] at he; exact absurd he.symm n_t2_t3
        · rfl
        · rw [g_3, g_4] at he; exact absurd he n_t3_t4
        · rw [g_3, g_5] at he; exact absurd he n_t3_t5
      · rcases h2 with rfl | rfl | rfl | rfl | rfl | rfl
        · rw [g_4, g_0] at he; exact absurd he.symm n_t0_t4
        · rw [g_4, g_1] at he; exact absurd he.symm n_t1_t4
        · rw [g_4, g_2] at he; exact absurd he.symm n_t2_t4
        · rw [g_4, g_3] at he; exact absurd he.symm n_t3_t4
        · rfl
        · rw [g_4, g_5] at he; exact absurd he n_t4_t5
      · rcases h2 with rfl | rfl | rfl | rfl | rfl | rfl
        · rw [g_5, g_0] at he; exact absurd he.symm n_t0_t5
        · rw [g_5, g_1] at he; exact absurd he.symm n_t1_t5
        · rw [g_5, g_2] at he; exact absurd he.symm n_t2_t5
        · rw [g_5, g_3] at he; exact absurd he.symm n_t3_t5
        · rw [g_5, g_4] at he; exact absurd he.symm n_t4_t5
        · rfl
    · rw [eA]
      have : r = 0 ∨ r = 1 ∨ r = 2 ∨ r = 3 ∨ r = 4 ∨ r = 5 := by omega
      rcases this with rfl | rfl | rfl | rfl | rfl | rfl
      · rw [g_0]; exact m_t0
      · rw [g_1]; exact m_t1
      · rw [g_2]; exact m_t2
      · rw [g_3]; exact m_t3
      · rw [g_4]; exact m_t4
      · rw [g_5]; exact m_t5
    · rw [eA]
      have : r = 0 ∨ r = 1 ∨ r = 2 ∨ r = 3 ∨ r = 4 ∨ r = 5 := by omega
      rcases this with rfl | rfl | rfl | rfl | rfl | rfl
      · rw [g_0]; exact K_t0
      · rw [g_1]; exact K_t1
      · rw [g_2]; exact K_t2
      · rw [g_3]; exact K_t3
      · rw [g_4]; exact K_t4
      · rw [g_5]; exact K_t5
