/-! THE HAND-MADE ORCHARD: planting -/
theorem rt_plug_ne {t t' : Tr} {s : Bool} {p : Nat} {u : Tr} : ∀ {C : Cx}, rt (plug t ((s, p, u) :: C)) = rt (plug t' ((s, p, u) :: C)) := by
  have key : ∀ (C : Cx) (x y : Tr), rt x = rt y → rt (plug x C) = rt (plug y C) := by
    intro C
    induction C with
    | nil => intro x y h; exact h
    | cons f C ih =>
      intro x y h
      obtain ⟨s, p, u⟩ := f
      exact ih _ _ (by rw [rt_nd, rt_nd])
  intro C
  exact key C _ _ (by rw [rt_nd, rt_nd])
theorem rt_same {Y : Nat → Tr} (r : Nat) : va_up (fun i => rt (Y i)) r (rt (Y r)) = fun i => rt (Y i) := by
  funext i
  by_cases e : i = r
  · subst e; exact va_up_self _ _ _
  · exact va_up_ne _ _ e
theorem va_up2 {α : Type} (f : Nat → α) (k : Nat) (x y : α) : va_up (va_up f k x) k y = va_up f k y := by
  funext i
  by_cases e : i = k
  · subst e; rw [va_up_self, va_up_self]
  · rw [va_up_ne _ _ e, va_up_ne _ _ e, va_up_ne _ _ e]
/-- the tree with the new apple hung into it -/
theorem plant_t {zz z1 : Nat → Nat} {Y : Nat → Tr} {r n a : Nat} {X : Cx} {t1 : Tr} (hO : SO zz Y) (hr6 : r < 6) (hn9 : n < 1000) (h40 : (gids Y).length < 40) (hpl : plug (.leaf ()) X = Y r) (hlr : (∀ b ∈ cL X, (zz b : Int) < (n : Int)) ∧ ∀ b ∈ cR X, (n : Int) < (zz b : Int)) (hat : a ∉ tids (Y r)) (ht1 : t1 = plug (.branch a (.leaf ()) (.leaf ())) X) (hza : z1 a = n) (hzo : ∀ b, b ≠ a → z1 b = zz b) :
    (tids t1).Nodup ∧ srt z1 t1 ∧ (∀ b ∈ tids t1, z1 b < 1000) ∧ (tids t1).length ≤ 40 ∧ a ∈ tids t1 ∧ ((∀ b ∈ tids t1, b ≠ a → b ∈ tids (Y r)) ∧ spz (zof t1 a) = spl a X (.leaf ()) (.leaf ()) ∧ (zof t1 a).2.2.2.length = X.length) ∧ tids (spl a X (.leaf ()) (.leaf ())) = tids t1 ∧ rt (spl a X (.leaf ()) (.leaf ())) = some a := by
  obtain ⟨o1, o2, o3, o4, o5, o6⟩ := SO_at hO hr6
  have e0 : tids (Y r) = cL X ++ cR X := by rw [← hpl, tids_plug]; simp [tids]
  have e1 : tids t1 = cL X ++ a :: cR X := by rw [ht1, tids_plug]; simp [tids]
  rw [e0] at o1 hat
  have nL : a ∉ cL X := fun h => hat (by simp [h])
  have nR : a ∉ cR X := fun h => hat (by simp [h])
  have hnd : (tids t1).Nodup := by
    rw [e1]
    rw [List.nodup_append] at o1 ⊢
    refine ⟨o1.1, List.nodup_cons.mpr ⟨nR, o1.2.1⟩, fun x hx y hy => ?_⟩
    rcases List.mem_cons.mp hy with h | h
    · rw [h]; rintro rfl; exact nL hx
    · exact o1.2.2 x hx y h
  have hin : ∀ b ∈ tids t1, b ≠ a → b ∈ tids (Y r) := fun b hb hne => by
    rw [e1] at hb
    rw [e0]
    rcases List.mem_append.mp hb with h | h
    · simp [h]
    · rcases List.mem_cons.mp h with h | h
      · exact absurd h hne
      · simp [h]
  have ha : a ∈ tids t1 := by rw [e1]; simp
  have hz : zof t1 a = (a, .leaf (), .leaf (), X) := zof_eq hnd (by rw [ht1]; exact zs_at a _ _ X)
  have hs : srt z1 t1 := by
    unfold srt at o2 ⊢
    rw [e0, List.pairwise_append] at o2
    rw [e1, List.pairwise_append]
    refine ⟨?_, List.pairwise_cons.mpr ⟨fun b hb => ?_, ?_⟩, fun x hx y hy => ?_⟩
    · refine List.Pairwise.imp_of_mem ?_ o2.1
      intro x y hx hy h
      rw [hzo x (fun e => nL (by rw [← e]; exact hx)), hzo y (fun e => nL (by rw [← e]; exact hy))]
      exact h
    · rw [hza, hzo b (fun e => nR (by rw [← e]; exact hb))]
      have := hlr.2 b hb
      omega
    · refine List.Pairwise.imp_of_mem ?_ o2.2.1
      intro x y hx hy h
      rw [hzo x (fun e => nR (by rw [← e]; exact hx)), hzo y (fun e => nR (by rw [← e]; exact hy))]
      exact h
    · rw [hzo x (fun e => nL (by rw [← e]; exact hx))]
      rcases List.mem_cons.mp hy with h | h
      · rw [h, hza]
        have := hlr.1 x hx
        omega
      · rw [hzo y (fun e => nR (by rw [← e]; exact h))]
        exact o2.2.2 x hx y h
  have hsp : spz (zof t1 a) = spl a X (.leaf ()) (.leaf ()) := by rw [hz]; rfl
  refine ⟨hnd, hs, fun b hb => ?_, ?_, ha, ⟨hin, hsp, by rw [hz]⟩, ?_, ?_⟩
  · by_cases e : b = a
    · rw [e, hza]; exact hn9
    · rw [hzo b e]; exact o3 b (hin b hb e)
  · have h1 := gids_le (T := Y) hr6
    have h2 : (tids t1).length = (tids (Y r)).length + 1 := by rw [e0, e1]; simp; omega
    omega
  · rw [← hsp]; exact spz_tids ha
  · rw [← hsp]; exact (spz_rt ha).choose_spec.choose_spec.2.1
section MSim6
variable {l : Launch} {D : va_G} {lo : Nat} {Γ : GT} {C : CW} {V : Int64 × UInt64} {U : List Nat} {E : Nat → va_E} {zz ee : Nat → Nat}
set_option maxRecDepth 100000 in
set_option maxHeartbeats 4000000 in
theorem c_X4_plant {sa ta tn : Nat} {Y : Nat → Tr} (hI : SI Γ (U, E) sa ta Y zz ee tn) (hO : SO zz Y) {r n : Nat} (hr6 : r < 6) (hn9 : n < 1000) (hf : fnd zz (n : Int) (Y r) = none) (h40 : (gids Y).length < 40) : My l yX4_plant wsX4_plant (rmL 4 3 84) D lo Γ [.ref sa, .int (nI r), .int (nI n)] (C, (U, E), V) (fun v Z' => v = some (.int (nI (inc zz (n : Int) (Y r) []).length)) ∧ ∃ C' U' E' a, Z' = (C', (U', E'), V) ∧ Ext C C' ∧ Gr (U, E) (U', E') (sa :: ta :: tids (Y r)) ∧ a ∉ U ∧ SI Γ (U', E') sa ta (va_up Y r (spl a (inc zz (n : Int) (Y r) []) (.leaf ()) (.leaf ()))) (va_up zz a n) (va_up ee a 0) (tn + (inc zz (n : Int) (Y r) []).length)) := by
  refine My_of (cc := cX4_plant) (maxL := 5) (ret := (some .int)) (by decide) rfl (Nat.le_of_ble_eq_true rfl) ?_
  intro p e s m args below meth c ls hname S hr hlocks hK hH hS hX hl
  have hx := S.1
  have hb := S.2.1
  have hts := S.2.2.2.2
  have f9 : (Cond.fieldLink RX4 9 (TX4 0).1 (TX4 0).2.1 (TX4 0).2.2.1).before args s = true := hts _ (List.mem_of_getElem? (i := 1) rfl)
  have f24 : (Cond.fieldLink RX4 24 (TX3 0).1 (TX3 0).2.1 (TX3 0).2.2.1).before args s = true := hts _ (List.mem_of_getElem? (i := 5) rfl)
  have f33 : (Cond.fieldLink RX4 33 (TX3 2).1 (TX3 2).2.1 (TX3 2).2.2.1).before args s = true := hts _ (List.mem_of_getElem? (i := 6) rfl)
  have f37 : (Cond.fieldLink RX4 37 (TX3 3).1 (TX3 3).2.1 (TX3 3).2.2.1).before args s = true := hts _ (List.mem_of_getElem? (i := 7) rfl)
  have hi3 : ∀ w ∈ wsX30, w ∈ wsX4_plant := by decide +kernel
  have hi4 : ∀ w ∈ wsX40, w ∈ wsX4_plant := by decide +kernel
  have hlo : lo ≤ s.heap.size := hH.2.2.1.1
  have hg : Gr (U, E) (U, E) (sa :: ta :: tids (Y r)) := Gr.rf _ _
  have hE : Ext C C := Ext.rf C
  have hl : lv_has ls 5 [(0, .ref sa), (1, .int (nI r)), (2, .int (nI n))] := hl
  have hI0 := hI
  obtain ⟨m_sa, e_sa, m_ta, e_ta, hY⟩ := hI
  obtain ⟨o1, o2, o3, o4, o5, o6⟩ := SO_at hO hr6
  obtain ⟨nta, nsa⟩ := SI_ne hI0 hr6
  obtain ⟨X, hXd⟩ : ∃ X, X = inc zz (n : Int) (Y r) [] := ⟨_, rfl⟩
  have hwy : wy zz n (Y r) = anc X := by
    have h1 := wy_inc (Y r) [] hf
    rw [anc_nil, List.nil_append, ← hXd] at h1
    exact h1
  have hpl : plug (.leaf ()) X = Y r := by rw [hXd]; exact plug_inc (Y r) []
  have hlr := inc_lr (Y r) [] o2 hf (fun _ h => by cases h) (fun _ h => by cases h)
  rw [← hXd] at hlr
  rw [← hXd]
  have htr := hY r hr6
  have hX40 : X.length ≤ 40 := by have := o6 n; rw [hwy, anc_len] at this; exact this
  refine lv_aload_n hx hb dX4_plant_0 rfl (lv_at hl 0 rfl) ?_
  refine gM S hi4 hK hH m_sa e_sa 0 (by decide) f9 (v := .ref ta) rfl dX4_plant_1 ?_
  refine lv_iload_n hx hb dX4_plant_4 rfl (lv_at hl 1 rfl) ?_
  refine gQ S hK hH m_ta e_ta (j := r) rfl hr6 (by decide) (r := (rt (Y r))) rfl dX4_plant_5 ?_
  refine lv_iload_n hx hb dX4_plant_6 rfl (lv_at hl 2 rfl) ?_
  refine cyS S (c_X4_path htr o3 hn9 (o6 n)) (va_cwS 2 hts gX4_plant_X4_path rfl rfl rfl (by decide +kernel) ⟨Nat.le_of_ble_eq_true rfl, Nat.le_of_ble_eq_true rfl⟩) hK hH hX hS rfl hl.1 rfl (by simp [cat_rf, Value.category]) dX4_plant_7 ⟨Nat.le_of_ble_eq_true rfl, Nat.le_of_ble_eq_true rfl⟩ (fun v Z1 H locs hpost hH hS => ?_)
  obtain ⟨C1, U1, E1, q, rfl, rfl, hx9, hg9, fr9, m_q, e_q⟩ := hpost
  have e_sa : E1 sa = .inr (4, [.ref ta, .int (nI tn)]) := (hg9.2 sa m_sa (by simp)).trans e_sa
  have m_sa := hg9.1 sa m_sa
  have e_ta : E1 ta = qE Γ 6 (fun i => rt (Y i)) := (hg9.2 ta m_ta (by simp)).trans e_ta
  have m_ta := hg9.1 ta m_ta
  have n9q : q ≠ ta := fun e9 => fr9 (by rw [e9]; exact hI0.2.2.1)
  have hg := hg.tr (hg9.wd (fun b hb9 => by cases hb9))
  have hE := hE.tr hx9
  have htr := sT_gr htr hg9 (by simp)
  rw [hwy, anc_len] at e_q
  refine lv_astore_n (lv' := [(3, .ref q), (0, .ref sa), (1, .int (nI r)), (2, .int (nI n))]) hx hb dX4_plant_10 rfl hl (by decide) rfl (fun ls hl => ?_)
  refine nB S hi3 (hts _ (List.mem_of_getElem? (i := 2) rfl)) (hts _ (List.mem_of_getElem? (i := 3) rfl)) (hts _ (List.mem_of_getElem? (i := 4) rfl)) hK hH hlo hS (Nat.le_of_ble_eq_true rfl) (Nat.le_of_ble_eq_true rfl) dX4_plant_11 (fun a C4 U3 E2 H fr hx9 m_a su e_a ho hH hS => ?_)
  have n9_sa : sa ≠ a := fun e9 => fr (by rw [← e9]; exact m_sa)
  have e_sa : E2 sa = .inr (4, [.ref ta, .int (nI tn)]) := (ho sa n9_sa).trans e_sa
  have m_sa := su sa m_sa
  have n9_sa_a := n9_sa
  have n9_ta : ta ≠ a := fun e9 => fr (by rw [← e9]; exact m_ta)
  have e_ta : E2 ta = qE Γ 6 (fun i => rt (Y i)) := (ho ta n9_ta).trans e_ta
  have m_ta := su ta m_ta
  have n9_ta_a := n9_ta
  have n9_q : q ≠ a := fun e9 => fr (by rw [← e9]; exact m_q)
  have e_q : E2 q = qE Γ X.length (fun i => (anc X)[i]?) := (ho q n9_q).trans e_q
  have m_q := su q m_q
  have n9_q_a := n9_q
  have hg := hg.new fr su ho
  have hE := hE.tr hx9
  have htr0 := htr
  have fra : a ∉ U := fun h9 => fr (hg9.1 a h9)
  have fra1 := fr
  have su9 := su
  have w_a : a ∉ (U, E).1 := fra
  have htr := sT_gr htr (Gr.new (Gr.rf _ []) fr su ho) (by simp)
  refine lv_dup hx hb dX4_plant_14 rfl ?_
  refine lv_iload_n hx hb dX4_plant_15 rfl (lv_at hl 3 rfl) ?_
  refine cyI S (c_X3_init (a := a) (n := n) m_a e_a) ⟨callB_of 1 hts gX4_plant_X3_init rfl rfl rfl (hts _ (List.mem_of_getElem? (i := 4) rfl)) (hts _ (List.mem_of_getElem? (i := 12) rfl)) (by decide +kernel) ⟨Nat.le_of_ble_eq_true rfl, Nat.le_of_ble_eq_true rfl⟩, rfl, hts _ (List.mem_of_getElem? (i := 13) rfl)⟩ hK hH hX hS rfl hl.1 rfl (by simp [cat_rf, Value.category]) dX4_plant_16 ⟨Nat.le_of_ble_eq_true rfl, Nat.le_of_ble_eq_true rfl⟩ (fun v Z1 H locs hpost hH hS => ?_)
  obtain ⟨rfl, E5, rfl, e_a, ho⟩ := hpost
  have e_sa : E5 sa = .inr (4, [.ref ta, .int (nI tn)]) := (ho sa n9_sa_a).trans e_sa
  have e_ta : E5 ta = qE Γ 6 (fun i => rt (Y i)) := (ho ta n9_ta_a).trans e_ta
  have e_q : E5 q = qE Γ X.length (fun i => (anc X)[i]?) := (ho q n9_q_a).trans e_q
  have hg := hg.put' w_a ho
  have hat : a ∉ tids (Y r) := fun h9 => fra1 (sT_at _ htr0 a h9).1
  have htr : sT (U3, E5) zz ee (Y r) := sT_cg (Y r) htr (fun b hb9 hM => ⟨hM, ho b (fun e9 => hat (by rw [← e9]; exact hb9)), rfl, rfl⟩)
  obtain ⟨z1, hz1⟩ : ∃ z1, z1 = va_up zz a n := ⟨_, rfl⟩
  obtain ⟨e1, he1⟩ : ∃ e1, e1 = va_up ee a 0 := ⟨_, rfl⟩
  have zq : ∀ b, b ≠ a → z1 b = zz b ∧ e1 b = ee b := fun b h9 => by rw [hz1, he1]; exact ⟨va_up_ne _ _ h9, va_up_ne _ _ h9⟩
  have zqq : z1 a = n ∧ e1 a = 0 := by rw [hz1, he1]; exact ⟨va_up_self _ _ _, va_up_self _ _ _⟩
  have htr : sT (U3, E5) z1 e1 (Y r) := sT_cg (Y r) htr (fun b hb9 hM => ⟨hM, rfl, zq b (fun e9 => hat (by rw [← e9]; exact hb9))⟩)
  have e_aC : E5 a = aC z1 e1 a none none := by rw [e_a]; unfold aC; rw [zqq.1, zqq.2]; rfl
  obtain ⟨t1, ht1⟩ : ∃ t1, t1 = plug (.branch a (.leaf ()) (.leaf ())) X := ⟨_, rfl⟩
  obtain ⟨p1, p2, p3, p4, p5, p6, p7, p8⟩ := plant_t hO hr6 hn9 h40 hpl hlr hat ht1 zqq.1 (fun b hb9 => (zq b hb9).1)
  refine lv_astore (lv' := [(4, .ref a), (3, .ref q), (0, .ref sa), (1, .int (nI r)), (2, .int (nI n))]) hx hb dX4_plant_19 hl (by decide) rfl (fun ls hl => ?_)
  have hst : SI Γ (U, E) sa ta Y zz ee tn := hI0
  have tail : ∀ (Ex : Nat → va_E), Ex sa = .inr (4, [.ref ta, .int (nI tn)]) → Ex ta = qE Γ 6 (va_up (fun i => rt (Y i)) r (rt t1)) → Ex q = qE Γ X.length (fun i => (anc X)[i]?) → sT (U3, Ex) z1 e1 t1 → Gr (U, E) (U3, Ex) (sa :: ta :: tids (Y r)) → ∀ H locs, Hp D lo Γ (C4, (U3, Ex), V) H → va_S (lA lo) s.heap H locs → ∀ ls, lv_has ls 5 [(3, .ref q), (0, .ref sa), (1, .int (nI r)), (2, .int (nI n))] → W p l e (rmL 4 3 84) s m args below meth c H locs (0 + 1 + 1 + 0) (0 + 40 + 4 + 0) (MQ below (Qz D lo Γ (fun v Z' => v = some (.int (nI X.length)) ∧ ∃ C' U' E' a, Z' = (C', (U', E'), V) ∧ Ext C C' ∧ Gr (U, E) (U', E') (sa :: ta :: tids (Y r)) ∧ a ∉ U ∧ SI Γ (U', E') sa ta (va_up Y r (spl a X (.leaf ()) (.leaf ()))) (va_up zz a n) (va_up ee a 0) (tn + X.length))) args s ((rmL 4 3 84) : Room).cells ((rmL 4 3 84) : Room).slots (lA lo)) (F0 m 75 ls []) := by
    intro Ex e_sa e_ta e_q hT hg H locs hH hS ls hl
    refine lv_aload_n hx hb dX4_plant_75 rfl (lv_at hl 1 rfl) ?_
    refine gM S hi4 hK hH m_sa e_sa 0 (by decide) f9 (v := .ref ta) rfl dX4_plant_76 ?_
    refine lv_iload_n hx hb dX4_plant_79 rfl (lv_at hl 2 rfl) ?_
    refine lv_aload_n hx hb dX4_plant_80 rfl (lv_at hl 1 rfl) ?_
    refine lv_aload_n hx hb dX4_plant_81 rfl (lv_at hl 1 rfl) ?_
    refine gM S hi4 hK hH m_sa e_sa 0 (by decide) f9 (v := .ref ta) rfl dX4_plant_82 ?_
    refine lv_iload_n hx hb dX4_plant_85 rfl (lv_at hl 2 rfl) ?_
    refine gQ S hK hH m_ta e_ta (j := r) rfl hr6 (by decide) (r := (rt t1)) (va_up_self _ _ _) dX4_plant_86 ?_
    refine lv_iload_n hx hb dX4_plant_87 rfl (lv_at hl 3 rfl) ?_
    have rc9 := rec9 hK hH m_sa e_sa (q := (RX4, TX4, 2)) rfl
    refine cyV S (c_X4_raise m_sa e_sa hT p2 p1 p3 p4 p5 zqq.1) (cwV 2 hts gX4_plant_X4_raise rfl rfl rfl (by decide +kernel) ⟨Nat.le_of_ble_eq_true rfl, Nat.le_of_ble_eq_true rfl⟩) hK hH hX rc9 hS rfl hl.1 rfl (by simp [cat_rf, Value.category]) dX4_plant_88 ⟨Nat.le_of_ble_eq_true rfl, Nat.le_of_ble_eq_true rfl⟩ (fun v Z1 H locs hpost hH hS => ?_)
    obtain ⟨rfl, C2, U2, E2, rfl, hx9, hg9, hT9, e_sa9⟩ := hpost
    have nta1 : ta ∉ sa :: tids t1 := fun h9 => by
      rcases List.mem_cons.mp h9 with h8 | h8
      · exact neMQ e_sa e_ta h8.symm
      · obtain ⟨-, x9, y9, h7⟩ := sT_at _ hT ta h8
        exact neBQ h7 e_ta rfl
    have nq1 : q ∉ sa :: tids t1 := fun h9 => by
      rcases List.mem_cons.mp h9 with h8 | h8
      · exact neMQ e_sa e_q h8.symm
      · obtain ⟨-, x9, y9, h7⟩ := sT_at _ hT q h8
        exact neBQ h7 e_q rfl
    have e_ta : E2 ta = qE Γ 6 (va_up (fun i => rt (Y i)) r (rt t1)) := (hg9.2 ta m_ta nta1).trans e_ta
    have m_ta := hg9.1 ta m_ta
    have e_q : E2 q = qE Γ X.length (fun i => (anc X)[i]?) := (hg9.2 q m_q nq1).trans e_q
    have m_q := hg9.1 q m_q
    have e_sa := e_sa9
    have m_sa := hg9.1 sa m_sa
    have hg := hg.tr2 hg9 (fun b hb9 => by
      rcases List.mem_cons.mp hb9 with h | h
      · exact Or.inl (by simp [h])
      · by_cases hba : b = a
        · exact Or.inr (by rw [hba]; exact fra)
        · exact Or.inl (by simp [p6.1 b h hba]))
    have hE := hE.tr hx9
    rw [p6.2.1] at hT9
    rw [p6.2.2] at e_sa
    have haS : a ∈ tids (spl a X (.leaf ()) (.leaf ())) := by rw [p7]; exact p5
    obtain ⟨m_a, x9, y9, e_a⟩ := sT_at _ hT9 a haS
    have w_ta : ta ∈ sa :: ta :: tids (Y r) := by simp
    have n_qta : q ≠ ta := fun e9 => n9q e9
    have n9_a : a ≠ ta := (neBQ e_a e_ta)
    have n9_sa : sa ≠ ta := (neMQ e_sa e_ta)
    have n9_q : q ≠ ta := n_qta
    refine pQ S hK hH hS m_ta e_ta (j := r) rfl hr6 (by decide) (some a) (fun b h => by cases h; exact ⟨m_a, _, e_a⟩) rfl dX4_plant_91 (fun E21 H locs e_ta ho hH hS => ?_)
    have e_a : E21 a = .inr (3, [.int (nI (z1 a)), .int (nI (e1 a)), va_rf x9, va_rf y9]) := (ho a n9_a).trans e_a
    have e_sa : E21 sa = .inr (4, [.ref ta, .int (nI (tn + X.length))]) := (ho sa n9_sa).trans e_sa
    have e_q : E21 q = qE Γ X.length (fun i => (anc X)[i]?) := (ho q n9_q).trans e_q
    have hg := hg.put w_ta ho
    have hT9 := sT_cg (M' := (U2, E21)) _ hT9 (fun b hb9 hM => ⟨hM, ho b (fun e9 => nta1 (by rw [p7] at hb9; rw [← e9]; simp [hb9])), rfl, rfl⟩)
    refine lv_aload_n hx hb dX4_plant_92 rfl (lv_at hl 0 rfl) ?_
    refine lQ S hK hH m_q e_q dX4_plant_93 ?_
    have hfin : SI Γ (U2, E21) sa ta (va_up Y r (spl a X (.leaf ()) (.leaf ()))) z1 e1 (tn + X.length) := SI_mk1 hI0 hO.1 hr6 hg e_sa (by rw [e_ta]; exact congrArg (qE Γ 6) (by rw [va_up2]; exact rt_up p8)) hT9 (fun b hb9 => ⟨fun h9 => (zq b (fun e9 => fra (by rw [← e9]; exact h9))).1, fun h9 => (zq b (fun e9 => fra (by rw [← e9]; exact h9))).2⟩)
    exact eI S hr hlocks hH hS ⟨rfl, C2, U2, E21, a, rfl, hE, hg, fra, by rw [← hz1, ← he1]; exact hfin⟩ dX4_plant_94
  cases X with
  | nil =>
    have w_ta : ta ∈ sa :: ta :: tids (Y r) := by simp
    have e_q1 := e_q
    have e_q : E5 q = qE Γ 0 (fun i => (anc [])[i]?) := e_q
    have n_qta : q ≠ ta := fun e9 => n9q e9
    refine lv_aload_n hx hb dX4_plant_21 rfl (lv_at hl 1 rfl) ?_
    refine lQ S hK hH m_q e_q dX4_plant_22 ?_
    refine lv_if_ne (tgt := 37) hx hb dX4_plant_23 (by decide) (fun h1 => absurd h1 (fun h => h rfl)) (fun _ => ?_)
    refine lv_aload_n hx hb dX4_plant_26 rfl (lv_at hl 2 rfl) ?_
    refine gM S hi4 hK hH m_sa e_sa 0 (by decide) f9 (v := .ref ta) rfl dX4_plant_27 ?_
    refine lv_iload_n hx hb dX4_plant_30 rfl (lv_at hl 3 rfl) ?_
    refine lv_aload hx hb dX4_plant_31 (lv_at hl 0 rfl) ?_
    have n9_a : a ≠ ta := (Ne.symm n9_ta_a)
    have n9_sa : sa ≠ ta := (neMQ e_sa e_ta)
    have n9_q : q ≠ ta := n_qta
    refine pQ S hK hH hS m_ta e_ta (j := r) rfl hr6 (by decide) (some a) (fun b h => by cases h; exact ⟨m_a, _, e_a⟩) rfl dX4_plant_33 (fun E22 H locs e_ta ho hH hS => ?_)
    have e_a : E22 a = .inr (3, [.int (nI n), .int 0, .null, .null]) := (ho a n9_a).trans e_a
    have e_sa : E22 sa = .inr (4, [.ref ta, .int (nI tn)]) := (ho sa n9_sa).trans e_sa
    have e_q : E22 q = qE Γ 0 (fun i => (anc [])[i]?) := (ho q n9_q).trans e_q
    have hg := hg.put w_ta ho
    refine lv_goto (tgt := 75) hx hb dX4_plant_34 (by decide) ?_
    exact tail E22 e_sa (by rw [e_ta, ht1]; rfl) e_q (by rw [ht1]; exact ⟨⟨m_a, (ho a n9_a).trans e_aC⟩, trivial, trivial⟩) hg H locs hH hS ls (lv_sub hl [1, 2, 3, 4] rfl)
  | cons f X2 =>
    obtain ⟨sd, p, u⟩ := f
    have hzz : sZ (U3, E5) z1 e1 (.leaf ()) ((sd, p, u) :: X2) := (sZ_plug _ _).mpr (by rw [hpl]; exact htr)
    have hzz0 := hzz
    obtain ⟨-, ⟨m_p, e_p⟩, hu, hC2⟩ := hzz
    have hpt : p ∈ tids (Y r) := by rw [← hpl, tids_plug]; cases sd <;> simp [cL, cR]
    have n_pa : p ≠ a := fun e9 => hat (by rw [← e9]; exact hpt)
    have zp : z1 p = zz p ∧ e1 p = ee p := zq p n_pa
    have zp3 : zz p < 1000 := o3 p hpt
    have w_p : p ∈ sa :: ta :: tids (Y r) := by simp [hpt]
    have hnX : (cL ((sd, p, u) :: X2) ++ cR ((sd, p, u) :: X2)).Nodup := by have h9 := o1; rw [← hpl, tids_plug] at h9; simpa [tids] using h9
    have hlast : (anc ((sd, p, u) :: X2))[X2.length]? = some p := by rw [anc_cons, List.getElem?_append_right (by simp [anc_len])]; simp [anc_len]
    have hrt : rt t1 = rt (Y r) := by rw [ht1, ← hpl]; exact rt_plug_ne
    cases sd with
    | true =>
      have e_p : E5 p = .inr (3, [.int (nI (z1 p)), .int (nI (e1 p)), va_rf (rt u), .null]) := e_p
      have e_q : E5 q = qE Γ (X2.length + 1) (fun i => (anc ((true, p, u) :: X2))[i]?) := e_q
      have n_qta : q ≠ ta := fun e9 => n9q e9
      have hX41 : X2.length + 1 ≤ 40 := hX40
      refine lv_aload_n hx hb dX4_plant_21 rfl (lv_at hl 1 rfl) ?_
      refine lQ S hK hH m_q e_q dX4_plant_22 ?_
      refine lv_if_ne (tgt := 37) hx hb dX4_plant_23 (by decide) (fun _ => ?_) (fun h1 => absurd h1 (nI_ne0 (by omega) (by omega)))
      refine lv_iload_n hx hb dX4_plant_37 rfl (lv_at hl 4 rfl) ?_
      refine lv_aload_n hx hb dX4_plant_38 rfl (lv_at hl 1 rfl) ?_
      refine lv_aload_n hx hb dX4_plant_39 rfl (lv_at hl 1 rfl) ?_
      refine lQ S hK hH m_q e_q dX4_plant_40 ?_
      refine lv_iconst (v := 1) hx hb dX4_plant_41 (by decide) ?_
      refine lv_isub hx hb dX4_plant_42 ?_
      refine gQ S hK hH m_q e_q (j := X2.length) (nI_pred X2.length) (by omega) (by omega) (r := (some p)) hlast dX4_plant_43 ?_
      refine gB S hi3 hK hH m_p e_p 0 (by decide) f24 (v := .int (nI (z1 p))) rfl dX4_plant_44 ?_
      have hpn : zz p < n := by have := hlr.1 p (by simp [cL]); omega
      refine lv_icmp_ge (tgt := 64) hx hb dX4_plant_47 (by decide) (fun _ => ?_) (fun h1 => absurd (nI_le (by rw [zp.1]; omega) (by omega)) h1)
      refine lv_aload_n hx hb dX4_plant_64 rfl (lv_at hl 1 rfl) ?_
      refine lv_aload_n hx hb dX4_plant_65 rfl (lv_at hl 1 rfl) ?_
      refine lQ S hK hH m_q e_q dX4_plant_66 ?_
      refine lv_iconst (v := 1) hx hb dX4_plant_67 (by decide) ?_
      refine lv_isub hx hb dX4_plant_68 ?_
      refine gQ S hK hH m_q e_q (j := X2.length) (nI_pred X2.length) (by omega) (by omega) (r := (some p)) hlast dX4_plant_69 ?_
      refine lv_aload hx hb dX4_plant_70 (lv_at hl 0 rfl) ?_
      have n9_a : a ≠ p := (Ne.symm n_pa)
      have n9_sa : sa ≠ p := (Ne.symm (neBM e_p e_sa))
      have n9_ta : ta ≠ p := (Ne.symm (neBQ e_p e_ta))
      have n9_q : q ≠ p := (Ne.symm (neBQ e_p e_q))
      refine pBr S hi3 hK hH hS m_p e_p 3 (by decide) f37 (some a) rfl dX4_plant_72 rfl (fun E23 H locs e_p ho hH hS => ?_)
      have e_p : E23 p = .inr (3, [.int (nI (z1 p)), .int (nI (e1 p)), va_rf (rt u), .ref a]) := e_p
      have e_a : E23 a = .inr (3, [.int (nI n), .int 0, .null, .null]) := (ho a n9_a).trans e_a
      have e_sa : E23 sa = .inr (4, [.ref ta, .int (nI tn)]) := (ho sa n9_sa).trans e_sa
      have e_ta : E23 ta = qE Γ 6 (fun i => rt (Y i)) := (ho ta n9_ta).trans e_ta
      have e_q : E23 q = qE Γ (X2.length + 1) (fun i => (anc ((true, p, u) :: X2))[i]?) := (ho q n9_q).trans e_q
      have hg := hg.put w_p ho
      have hT : sT (U3, E23) z1 e1 t1 := by
        rw [ht1]
        refine (sZ_plug _ _).mp ⟨⟨⟨m_a, (ho a (Ne.symm n_pa)).trans e_aC⟩, trivial, trivial⟩, sC_re hzz0.2 hnX (fun _ h => h) (fun _ _ _ _ h => by cases h; exact e_p) (fun b hb9 hp9 => ho b (fun e9 => hp9 (by rw [e9]; rfl)))⟩
      exact tail E23 e_sa (by rw [e_ta]; exact congrArg (qE Γ 6) (by rw [hrt]; exact (rt_same r).symm)) e_q hT hg H locs hH hS ls (lv_sub hl [1, 2, 3, 4] rfl)
    | false =>
      have e_p : E5 p = .inr (3, [.int (nI (z1 p)), .int (nI (e1 p)), .null, va_rf (rt u)]) := e_p
      have e_q : E5 q = qE Γ (X2.length + 1) (fun i => (anc ((false, p, u) :: X2))[i]?) := e_q
      have n_qta : q ≠ ta := fun e9 => n9q e9
      have hX41 : X2.length + 1 ≤ 40 := hX40
      refine lv_aload_n hx hb dX4_plant_21 rfl (lv_at hl 1 rfl) ?_
      refine lQ S hK hH m_q e_q dX4_plant_22 ?_
      refine lv_if_ne (tgt := 37) hx hb dX4_plant_23 (by decide) (fun _ => ?_) (fun h1 => absurd h1 (nI_ne0 (by omega) (by omega)))
      refine lv_iload_n hx hb dX4_plant_37 rfl (lv_at hl 4 rfl) ?_
      refine lv_aload_n hx hb dX4_plant_38 rfl (lv_at hl 1 rfl) ?_
      refine lv_aload_n hx hb dX4_plant_39 rfl (lv_at hl 1 rfl) ?_
      refine lQ S hK hH m_q e_q dX4_plant_40 ?_
      refine lv_iconst (v := 1) hx hb dX4_plant_41 (by decide) ?_
      refine lv_isub hx hb dX4_plant_42 ?_
      refine gQ S hK hH m_q e_q (j := X2.length) (nI_pred X2.length) (by omega) (by omega) (r := (some p)) hlast dX4_plant_43 ?_
      refine gB S hi3 hK hH m_p e_p 0 (by decide) f24 (v := .int (nI (z1 p))) rfl dX4_plant_44 ?_
      have hpn : n < zz p := by have := hlr.2 p (by simp [cR]); omega
      refine lv_icmp_ge (tgt := 64) hx hb dX4_plant_47 (by decide) (fun h1 => absurd h1 (nI_ge (by rw [zp.1]; exact hpn) (by rw [zp.1]; omega))) (fun _ => ?_)
      refine lv_aload_n hx hb dX4_plant_50 rfl (lv_at hl 1 rfl) ?_
      refine lv_aload_n hx hb dX4_plant_51 rfl (lv_at hl 1 rfl) ?_
      refine lQ S hK hH m_q e_q dX4_plant_52 ?_
      refine lv_iconst (v := 1) hx hb dX4_plant_53 (by decide) ?_
      refine lv_isub hx hb dX4_plant_54 ?_
      refine gQ S hK hH m_q e_q (j := X2.length) (nI_pred X2.length) (by omega) (by omega) (r := (some p)) hlast dX4_plant_55 ?_
      refine lv_aload hx hb dX4_plant_56 (lv_at hl 0 rfl) ?_
      have n9_a : a ≠ p := (Ne.symm n_pa)
      have n9_sa : sa ≠ p := (Ne.symm (neBM e_p e_sa))
      have n9_ta : ta ≠ p := (Ne.symm (neBQ e_p e_ta))
      have n9_q : q ≠ p := (Ne.symm (neBQ e_p e_q))
      refine pBr S hi3 hK hH hS m_p e_p 2 (by decide) f33 (some a) rfl dX4_plant_58 rfl (fun E24 H locs e_p ho hH hS => ?_)
      have e_p : E24 p = .inr (3, [.int (nI (z1 p)), .int (nI (e1 p)), .ref a, va_rf (rt u)]) := e_p
      have e_a : E24 a = .inr (3, [.int (nI n), .int 0, .null, .null]) := (ho a n9_a).trans e_a
      have e_sa : E24 sa = .inr (4, [.ref ta, .int (nI tn)]) := (ho sa n9_sa).trans e_sa
      have e_ta : E24 ta = qE Γ 6 (fun i => rt (Y i)) := (ho ta n9_ta).trans e_ta
      have e_q : E24 q = qE Γ (X2.length + 1) (fun i => (anc ((false, p, u) :: X2))[i]?) := (ho q n9_q).trans e_q
      have hg := hg.put w_p ho
      refine lv_goto (tgt := 75) hx hb dX4_plant_61 (by decide) ?_
      have hT : sT (U3, E24) z1 e1 t1 := by
        rw [ht1]
        refine (sZ_plug _ _).mp ⟨⟨⟨m_a, (ho a (Ne.symm n_pa)).trans e_aC⟩, trivial, trivial⟩, sC_re hzz0.2 hnX (fun _ h => h) (fun _ _ _ _ h => by cases h; exact e_p) (fun b hb9 hp9 => ho b (fun e9 => hp9 (by rw [e9]; rfl)))⟩
      exact tail E24 e_sa (by rw [e_ta]; exact congrArg (qE Γ 6) (by rw [hrt]; exact (rt_same r).symm)) e_q hT hg H locs hH hS ls (lv_sub hl [1, 2, 3, 4] rfl)
end MSim6
