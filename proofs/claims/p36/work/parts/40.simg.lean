/-! THE HAND-MADE ORCHARD: two trees into one; picking; fitting; joining -/
theorem jn_tids {T1 T2 : Tr} (hn : (tids T1).Nodup) : tids (jn T1 T2) = tids T1 ++ tids T2 := by
  unfold jn
  cases hm : (tids T1).getLast? with
  | none =>
    rw [List.getLast?_eq_none_iff.mp hm]
    rfl
  | some m =>
    obtain ⟨L9, h1, h2⟩ := spz_last hn hm
    dsimp only
    rw [h1]
    dsimp only
    rw [tids_branch, ← h2]
    simp
theorem two_le {T : Nat → Tr} {r q : Nat} (hr : r < 6) (hq : q < 6) (h : r ≠ q) : (tids (T r)).length + (tids (T q)).length ≤ (gids T).length := by
  have h1 := gids_len (T := T) (t := .leaf ()) hr
  have h2 := gids_le (T := va_up T r (.leaf ())) hq
  rw [va_up_ne _ _ (Ne.symm h)] at h2
  have h3 : (tids (.leaf () : Tr)).length = 0 := rfl
  omega
theorem rt_up2 {Y : Nat → Tr} {r q : Nat} {t u : Tr} {x y : Option Nat} (h : rt t = x) (h2 : rt u = y) : va_up (va_up (fun i => rt (Y i)) r x) q y = fun i => rt (va_up (va_up Y r t) q u i) := by
  rw [rt_up h]
  exact rt_up (Y := va_up Y r t) h2
theorem SI_mk2 {Γ : GT} {U U' : List Nat} {E E' : Nat → va_E} {sa ta tn tn' : Nat} {Y : Nat → Tr} {zz ee zz' ee' : Nat → Nat} {t u : Tr} (h : SI Γ (U, E) sa ta Y zz ee tn) (hn : (gids Y).Nodup) {r q : Nat} (hr : r < 6) (hq : q < 6) (hrq : r ≠ q) (hg : Gr (U, E) (U', E') (sa :: ta :: (tids (Y r) ++ tids (Y q)))) (h1 : E' sa = .inr (4, [.ref ta, .int (nI tn')])) (h2 : E' ta = qE Γ 6 (fun i => rt (va_up (va_up Y r t) q u i))) (h3 : sT (U', E') zz' ee' t) (h4 : sT (U', E') zz' ee' u) (hz : ∀ b, b ∈ U → zz' b = zz b ∧ ee' b = ee b) : SI Γ (U', E') sa ta (va_up (va_up Y r t) q u) zz' ee' tn' := by
  refine ⟨hg.1 sa h.1, h1, hg.1 ta h.2.2.1, h2, fun i hi => ?_⟩
  by_cases e : i = q
  · subst e; rw [va_up_self]; exact h4
  · rw [va_up_ne _ _ e]
    by_cases e2 : i = r
    · subst e2; rw [va_up_self]; exact h3
    · rw [va_up_ne _ _ e2]
      refine SI_oth h hn hr hq hg (fun b hb => ?_) hi e2 e (fun b hb => hz b (sT_at _ (h.2.2.2.2 i hi) b hb).1)
      rcases List.mem_cons.mp hb with h9 | h9
      · exact Or.inl h9
      · rcases List.mem_cons.mp h9 with h9 | h9
        · exact Or.inr (Or.inl h9)
        · rcases List.mem_append.mp h9 with h9 | h9
          · exact Or.inr (Or.inr (Or.inl h9))
          · exact Or.inr (Or.inr (Or.inr (Or.inl h9)))
section MSim7
variable {l : Launch} {D : va_G} {lo : Nat} {Γ : GT} {C : CW} {V : Int64 × UInt64} {U : List Nat} {E : Nat → va_E} {zz ee : Nat → Nat}
set_option maxRecDepth 100000 in
set_option maxHeartbeats 4000000 in
theorem c_X4_both {sa ta tn : Nat} {t1 t2 : Tr} (m_sa : sa ∈ U) (e_sa : E sa = .inr (4, [.ref ta, .int (nI tn)])) (ht1 : sT (U, E) zz ee t1) (ht2 : sT (U, E) zz ee t2) (hs : srt zz t1) (hnd : (tids t1).Nodup) (hz : ∀ b ∈ tids t1, zz b < 1000) (h40 : (tids t1).length ≤ 40) (hap : ∀ b ∈ tids t2, b ∉ tids t1) : My l yX4_both wsX4_both (rmL 43 1 40) D lo Γ [.ref sa, va_rf (rt t1), va_rf (rt t2)] (C, (U, E), V) (fun v Z' => v = some (va_rf (rt (jn t1 t2))) ∧ ∃ C' U' E', Z' = (C', (U', E'), V) ∧ Ext C C' ∧ Gr (U, E) (U', E') (sa :: tids t1) ∧ sT (U', E') zz ee (jn t1 t2) ∧ E' sa = .inr (4, [.ref ta, .int (nI (tn + appN t1))])) := by
  refine My_of (cc := cX4_both) (maxL := 4) (ret := (some (.object "SplayOrchardLaw$Apple"))) (by decide) rfl (by cases t1 <;> cases t2 <;> exact Nat.le_of_ble_eq_true rfl) ?_
  intro p e s m args below meth c ls hname S hr hlocks hK hH hS hX hl
  have hx := S.1
  have hb := S.2.1
  have hts := S.2.2.2.2
  have f37 : (Cond.fieldLink RX4 37 (TX3 3).1 (TX3 3).2.1 (TX3 3).2.2.1).before args s = true := hts _ (List.mem_of_getElem? (i := 1) rfl)
  have hi3 : ∀ w ∈ wsX30, w ∈ wsX4_both := by decide +kernel
  have hlo : lo ≤ s.heap.size := hH.2.2.1.1
  have hg : Gr (U, E) (U, E) (sa :: tids t1) := Gr.rf _ _
  have hE : Ext C C := Ext.rf C
  have hl : lv_has ls 4 [(0, .ref sa), (1, va_rf (rt t1)), (2, va_rf (rt t2))] := (by cases t1 <;> cases t2 <;> exact hl)
  have nsa1 : sa ∉ tids t1 := fun h9 => by
    obtain ⟨-, x9, y9, h7⟩ := sT_at _ ht1 sa h9
    exact neBM h7 e_sa rfl
  have nsa2 : sa ∉ tids t2 := fun h9 => by
    obtain ⟨-, x9, y9, h7⟩ := sT_at _ ht2 sa h9
    exact neBM h7 e_sa rfl
  have hg40 : hgt t1 ≤ 40 := by have := hgt_len t1; omega
  cases t1 with
  | leaf u =>
    have hl : lv_has ls 4 [(0, .ref sa), (1, .null), (2, va_rf (rt t2))] := hl
    refine lv_aload_nN hx hb dX4_both_0 rfl (lv_at hl 1 rfl) ?_
    refine lv_ifnonnullN hx hb dX4_both_1 ?_
    refine lq_aload_n S dX4_both_4 rfl (lv_at hl 2 rfl) ?_
    refine W.widen (k := ((rmL 43 1 40) : Room).cells) (n := ((rmL 43 1 40) : Room).slots) (Nat.le_of_ble_eq_true rfl) (Nat.le_of_ble_eq_true rfl) ?_
    exact eA S hr hlocks (rt t2) rfl hH hS ⟨rfl, C, U, E, rfl, hE, hg, ht2, e_sa⟩ dX4_both_5
  | branch k tl tr =>
    have hl : lv_has ls 4 [(0, .ref sa), (1, .ref k), (2, va_rf (rt t2))] := hl
    refine lv_aload_n hx hb dX4_both_0 rfl (lv_at hl 1 rfl) ?_
    refine lv_ifnonnull hx hb dX4_both_1 (tgt := 6) (by decide) ?_
    refine lv_aload_n hx hb dX4_both_6 rfl (lv_at hl 0 rfl) ?_
    refine lv_aload_n hx hb dX4_both_7 rfl (lv_at hl 1 rfl) ?_
    refine lv_aload_n hx hb dX4_both_8 rfl (lv_at hl 1 rfl) ?_
    refine cyS S (c_X4_most (.branch k tl tr) 40 hg40 ht1 (by simp)) (va_cwS 1 hts gX4_both_X4_most rfl rfl rfl (by decide +kernel) ⟨Nat.le_of_ble_eq_true rfl, Nat.le_of_ble_eq_true rfl⟩) hK hH hX hS rfl hl.1 rfl (by simp [cat_rf, Value.category]) dX4_both_9 ⟨Nat.le_of_ble_eq_true rfl, Nat.le_of_ble_eq_true rfl⟩ (fun v Z1 H locs hpost hH hS => ?_)
    obtain ⟨b, hb1, rfl, rfl⟩ := hpost
    have hbm := List.mem_of_getLast? hb1
    obtain ⟨L9, hsp, hL9⟩ := spz_last hnd hb1
    have hjn : jn (.branch k tl tr) t2 = .branch b L9 t2 := by unfold jn; rw [hb1]; dsimp only; rw [hsp]
    have hapN : appN (.branch k tl tr) = (zof (.branch k tl tr) b).2.2.2.length := by unfold appN; rw [hb1]
    have rc9 := rec9 hK hH m_sa e_sa (q := (RX4, TX4, 2)) rfl
    have w_b : b ∈ sa :: tids (.branch k tl tr) := List.mem_cons_of_mem _ hbm
    refine cyV S (c_X4_raise (n := zz b) m_sa e_sa ht1 hs hnd hz h40 hbm rfl) (cwV 2 hts gX4_both_X4_raise rfl rfl rfl (by decide +kernel) ⟨Nat.le_of_ble_eq_true rfl, Nat.le_of_ble_eq_true rfl⟩) hK hH hX rc9 hS rfl hl.1 rfl (by simp [cat_rf, Value.category]) dX4_both_12 ⟨Nat.le_of_ble_eq_true rfl, Nat.le_of_ble_eq_true rfl⟩ (fun v Z1 H locs hpost hH hS => ?_)
    obtain ⟨rfl, C1, U1, E1, rfl, hx9, hg9, hT9, e_sa9⟩ := hpost
    have hg := hg.tr hg9
    have hE := hE.tr hx9
    have m_sa := hg9.1 sa m_sa
    have e_sa := e_sa9
    have ht2 := sT_gr ht2 hg9 (fun c9 hc9 h9 => by rcases List.mem_cons.mp h9 with h | h; exact nsa2 (by rw [← h]; exact hc9); exact hap c9 hc9 h)
    rw [hsp] at hT9
    obtain ⟨⟨m_b, e_b⟩, hTL, -⟩ := hT9
    have n_sab : sa ≠ b := fun e9 => nsa1 (by rw [e9]; exact hbm)
    have hnb : b ∉ tids L9 := fun h9 => by
      rw [← hL9, List.nodup_append] at hnd
      exact hnd.2.2 b h9 b (by simp) rfl
    have hLt : ∀ c9 ∈ tids L9, c9 ∈ tids (.branch k tl tr) := fun c9 h9 => by rw [← hL9]; simp [h9]
    have e_b : E1 b = .inr (3, [.int (nI (zz b)), .int (nI (ee b)), va_rf (rt L9), .null]) := e_b
    refine lv_astore_n (lv' := [(3, .ref b), (0, .ref sa), (1, .ref k), (2, va_rf (rt t2))]) hx hb dX4_both_15 rfl hl (by decide) (by simp [cat_rf, cat_a, cat_i, cat_n] <;> decide) (fun ls hl => ?_)
    refine lv_aload_n hx hb dX4_both_16 rfl (lv_at hl 0 rfl) ?_
    refine lq_aload_n S dX4_both_17 rfl (lv_at hl 3 rfl) ?_
    have n9_sa : sa ≠ b := n_sab
    refine pBr S hi3 hK hH hS m_b e_b 3 (by decide) f37 (rt t2) rfl dX4_both_18 rfl (fun E2 H locs e_b ho hH hS => ?_)
    have e_b : E2 b = .inr (3, [.int (nI (zz b)), .int (nI (ee b)), va_rf (rt L9), va_rf (rt t2)]) := e_b
    have e_sa : E2 sa = .inr (4, [.ref ta, .int (nI (tn + (zof (.branch k tl tr) b).2.2.2.length))]) := (ho sa n9_sa).trans e_sa
    have hg := hg.put w_b ho
    refine lv_aload_n hx hb dX4_both_21 rfl (lv_at hl 0 rfl) ?_
    have hTf : sT (U1, E2) zz ee (jn (.branch k tl tr) t2) := by
      rw [hjn]
      exact ⟨⟨m_b, e_b⟩, sT_cg L9 hTL (fun c9 h9 hM => ⟨hM, ho c9 (fun e9 => hnb (by rw [← e9]; exact h9)), rfl, rfl⟩), sT_cg t2 ht2 (fun c9 h9 hM => ⟨hM, ho c9 (fun e9 => hap c9 h9 (by rw [e9]; exact hbm)), rfl, rfl⟩)⟩
    exact eA S hr hlocks (some b) rfl hH hS ⟨by rw [hjn]; rfl, C1, U1, E2, rfl, hE, hg, hTf, by rw [hapN]; exact e_sa⟩ dX4_both_22

set_option maxRecDepth 100000 in
set_option maxHeartbeats 4000000 in
theorem c_X4_pick {sa ta tn : Nat} {Y : Nat → Tr} (hI : SI Γ (U, E) sa ta Y zz ee tn) (hO : SO zz Y) {r n a : Nat} {L9 R9 : Tr} (hr6 : r < 6) (hn9 : n < 1000) (hf : fnd zz (n : Int) (Y r) = some a) (hsp : spz (zof (Y r) a) = .branch a L9 R9) : My l yX4_pick wsX4_pick (rmL 44 2 80) D lo Γ [.ref sa, .int (nI r), .int (nI n)] (C, (U, E), V) (fun v Z' => v = some (.int (nI (ee a))) ∧ ∃ C' U' E', Z' = (C', (U', E'), V) ∧ Ext C C' ∧ Gr (U, E) (U', E') (sa :: ta :: tids (Y r)) ∧ SI Γ (U', E') sa ta (va_up Y r (jn L9 R9)) zz ee (tn + (zof (Y r) a).2.2.2.length + appN L9)) := by
  refine My_of (cc := cX4_pick) (maxL := 4) (ret := (some .int)) (by decide) rfl (Nat.le_of_ble_eq_true rfl) ?_
  intro p e s m args below meth c ls hname S hr hlocks hK hH hS hX hl
  have hx := S.1
  have hb := S.2.1
  have hts := S.2.2.2.2
  have f9 : (Cond.fieldLink RX4 9 (TX4 0).1 (TX4 0).2.1 (TX4 0).2.2.1).before args s = true := hts _ (List.mem_of_getElem? (i := 1) rfl)
  have f33 : (Cond.fieldLink RX4 33 (TX3 2).1 (TX3 2).2.1 (TX3 2).2.2.1).before args s = true := hts _ (List.mem_of_getElem? (i := 2) rfl)
  have f37 : (Cond.fieldLink RX4 37 (TX3 3).1 (TX3 3).2.1 (TX3 3).2.2.1).before args s = true := hts _ (List.mem_of_getElem? (i := 3) rfl)
  have f30 : (Cond.fieldLink RX4 30 (TX3 1).1 (TX3 1).2.1 (TX3 1).2.2.1).before args s = true := hts _ (List.mem_of_getElem? (i := 4) rfl)
  have hi3 : ∀ w ∈ wsX30, w ∈ wsX4_pick := by decide +kernel
  have hi4 : ∀ w ∈ wsX40, w ∈ wsX4_pick := by decide +kernel
  have hlo : lo ≤ s.heap.size := hH.2.2.1.1
  have hg : Gr (U, E) (U, E) (sa :: ta :: tids (Y r)) := Gr.rf _ _
  have hE : Ext C C := Ext.rf C
  have hl : lv_has ls 4 [(0, .ref sa), (1, .int (nI r)), (2, .int (nI n))] := hl
  have hI0 := hI
  obtain ⟨m_sa, e_sa, m_ta, e_ta, hY⟩ := hI
  obtain ⟨o1, o2, o3, o4, o5, o6⟩ := SO_at hO hr6
  obtain ⟨nta, nsa⟩ := SI_ne hI0 hr6
  have htr := hY r hr6
  obtain ⟨ha, hza⟩ := fnd_mem _ _ hf
  have hza : zz a = n := by omega
  have htd : tids L9 ++ a :: tids R9 = tids (Y r) := by rw [← spz_tids ha, hsp, tids_branch]
  have w_ta : ta ∈ sa :: ta :: tids (Y r) := by simp
  have rc9 := rec9 hK hH m_sa e_sa (q := (RX4, TX4, 2)) rfl
  refine lv_aload_n hx hb dX4_pick_0 rfl (lv_at hl 0 rfl) ?_
  refine lv_aload_n hx hb dX4_pick_1 rfl (lv_at hl 0 rfl) ?_
  refine gM S hi4 hK hH m_sa e_sa 0 (by decide) f9 (v := .ref ta) rfl dX4_pick_2 ?_
  refine lv_iload_n hx hb dX4_pick_5 rfl (lv_at hl 1 rfl) ?_
  refine gQ S hK hH m_ta e_ta (j := r) rfl hr6 (by decide) (r := (rt (Y r))) rfl dX4_pick_6 ?_
  refine lv_iload_n hx hb dX4_pick_7 rfl (lv_at hl 2 rfl) ?_
  refine cyV S (c_X4_raise m_sa e_sa htr o2 o1 o3 o4 ha hza) (cwV 2 hts gX4_pick_X4_raise rfl rfl rfl (by decide +kernel) ⟨Nat.le_of_ble_eq_true rfl, Nat.le_of_ble_eq_true rfl⟩) hK hH hX rc9 hS rfl hl.1 rfl (by simp [cat_rf, Value.category]) dX4_pick_8 ⟨Nat.le_of_ble_eq_true rfl, Nat.le_of_ble_eq_true rfl⟩ (fun v Z1 H locs hpost hH hS => ?_)
  obtain ⟨rfl, C1, U1, E1, rfl, hx9, hg9, hT9, e_sa9⟩ := hpost
  have e_ta : E1 ta = qE Γ 6 (fun i => rt (Y i)) := (hg9.2 ta m_ta nta).trans e_ta
  have m_ta := hg9.1 ta m_ta
  have e_sa := e_sa9
  have m_sa := hg9.1 sa m_sa
  have hg := hg.tr2 hg9 (fun b hb9 => Or.inl (by rcases List.mem_cons.mp hb9 with h | h <;> simp [h]))
  have hE := hE.tr hx9
  rw [hsp] at hT9
  obtain ⟨⟨m_a, e_a⟩, hTL, hTR⟩ := hT9
  have hnd9 : (tids L9 ++ a :: tids R9).Nodup := by rw [htd]; exact o1
  have hs9 : (tids L9 ++ a :: tids R9).Pairwise (fun b c9 => zz b < zz c9) := by rw [htd]; exact o2
  rw [List.nodup_append] at hnd9
  have hsL : srt zz L9 := (List.pairwise_append.mp hs9).1
  have hLt : ∀ c9 ∈ tids L9, c9 ∈ tids (Y r) := fun c9 h9 => by rw [← htd]; simp [h9]
  have hRt : ∀ c9 ∈ tids R9, c9 ∈ tids (Y r) := fun c9 h9 => by rw [← htd]; simp [h9]
  have hapL : ∀ c9 ∈ tids R9, c9 ∉ tids L9 := fun c9 h9 h8 => hnd9.2.2 c9 h8 c9 (by simp [h9]) rfl
  have hL40 : (tids L9).length ≤ 40 := by have := congrArg List.length htd; rw [List.length_append] at this; omega
  have haL : a ∉ tids L9 := fun h8 => hnd9.2.2 a h8 a (by simp) rfl
  have nta9 : ta ∉ sa :: tids L9 := fun h9 => nta (by rcases List.mem_cons.mp h9 with h | h; simp [h]; simp [hLt ta h])
  have n_asa : a ≠ sa := fun e9 => nsa (by rw [← e9]; exact ha)
  have e_a : E1 a = .inr (3, [.int (nI (zz a)), .int (nI (ee a)), va_rf (rt L9), va_rf (rt R9)]) := e_a
  refine lv_astore_n (lv' := [(3, .ref a), (0, .ref sa), (1, .int (nI r)), (2, .int (nI n))]) hx hb dX4_pick_11 rfl hl (by decide) rfl (fun ls hl => ?_)
  refine lv_aload_n hx hb dX4_pick_12 rfl (lv_at hl 1 rfl) ?_
  refine gM S hi4 hK hH m_sa e_sa 0 (by decide) f9 (v := .ref ta) rfl dX4_pick_13 ?_
  refine lv_iload_n hx hb dX4_pick_16 rfl (lv_at hl 2 rfl) ?_
  refine lv_aload_n hx hb dX4_pick_17 rfl (lv_at hl 1 rfl) ?_
  refine lv_aload_n hx hb dX4_pick_18 rfl (lv_at hl 0 rfl) ?_
  refine gB S hi3 hK hH m_a e_a 2 (by decide) f33 (v := va_rf (rt L9)) rfl dX4_pick_19 ?_
  refine lv_aload_n hx hb dX4_pick_22 rfl (lv_at hl 0 rfl) ?_
  refine gB S hi3 hK hH m_a e_a 3 (by decide) f37 (v := va_rf (rt R9)) rfl dX4_pick_23 ?_
  have rc9 := rec9 hK hH m_sa e_sa (q := (RX4, TX4, 2)) rfl
  refine cyV S (c_X4_both m_sa e_sa hTL hTR hsL hnd9.1 (fun b hb9 => o3 b (hLt b hb9)) hL40 hapL) (cwV 2 hts gX4_pick_X4_both rfl rfl rfl (by decide +kernel) ⟨Nat.le_of_ble_eq_true rfl, Nat.le_of_ble_eq_true rfl⟩) hK hH hX rc9 hS rfl hl.1 rfl (by simp [cat_rf, Value.category]) dX4_pick_26 ⟨Nat.le_of_ble_eq_true rfl, Nat.le_of_ble_eq_true rfl⟩ (fun v Z1 H locs hpost hH hS => ?_)
  obtain ⟨rfl, C2, U2, E2, rfl, hx9, hg9, hT9, e_sa9⟩ := hpost
  have e_a : E2 a = .inr (3, [.int (nI (zz a)), .int (nI (ee a)), va_rf (rt L9), va_rf (rt R9)]) := (hg9.2 a m_a (fun h9 => by rcases List.mem_cons.mp h9 with h | h; exact n_asa h; exact haL h)).trans e_a
  have m_a := hg9.1 a m_a
  have e_ta : E2 ta = qE Γ 6 (fun i => rt (Y i)) := (hg9.2 ta m_ta nta9).trans e_ta
  have m_ta := hg9.1 ta m_ta
  have e_sa := e_sa9
  have m_sa := hg9.1 sa m_sa
  have hg := hg.tr2 hg9 (fun b hb9 => Or.inl (by rcases List.mem_cons.mp hb9 with h | h; simp [h]; simp [hLt b h]))
  have hE := hE.tr hx9
  have jnt : tids (jn L9 R9) = tids L9 ++ tids R9 := jn_tids hnd9.1
  have hjt : ∀ c9 ∈ tids (jn L9 R9), c9 ∈ tids (Y r) := fun c9 h9 => by rw [jnt] at h9; rcases List.mem_append.mp h9 with h | h; exact hLt c9 h; exact hRt c9 h
  have n9_a : a ≠ ta := (neBQ e_a e_ta)
  have n9_sa : sa ≠ ta := (neMQ e_sa e_ta)
  refine pQ S hK hH hS m_ta e_ta (j := r) rfl hr6 (by decide) (rt (jn L9 R9)) (sT_rt hT9) rfl dX4_pick_29 (fun E3 H locs e_ta ho hH hS => ?_)
  have e_a : E3 a = .inr (3, [.int (nI (zz a)), .int (nI (ee a)), va_rf (rt L9), va_rf (rt R9)]) := (ho a n9_a).trans e_a
  have e_sa : E3 sa = .inr (4, [.ref ta, .int (nI (tn + (zof (Y r) a).2.2.2.length + appN L9))]) := (ho sa n9_sa).trans e_sa
  have hg := hg.put w_ta ho
  have hT9 := sT_cg (M' := (U2, E3)) _ hT9 (fun b hb9 hM => ⟨hM, ho b (fun e9 => nta (by rw [← e9]; simp [hjt b hb9])), rfl, rfl⟩)
  refine lv_aload_n hx hb dX4_pick_30 rfl (lv_at hl 0 rfl) ?_
  refine gB S hi3 hK hH m_a e_a 1 (by decide) f30 (v := .int (nI (ee a))) rfl dX4_pick_31 ?_
  have hfin : SI Γ (U2, E3) sa ta (va_up Y r (jn L9 R9)) zz ee (tn + (zof (Y r) a).2.2.2.length + appN L9) := SI_mk1 hI0 hO.1 hr6 hg e_sa (by rw [e_ta]; exact congrArg (qE Γ 6) (rt_up rfl)) hT9 (fun b hb9 => ⟨fun _ => rfl, fun _ => rfl⟩)
  exact eI S hr hlocks hH hS ⟨rfl, C2, U2, E3, rfl, hE, hg, hfin⟩ dX4_pick_34

set_option maxRecDepth 100000 in
set_option maxHeartbeats 4000000 in
theorem c_X4_fits {sa ta tn : Nat} {Y : Nat → Tr} (hI : SI Γ (U, E) sa ta Y zz ee tn) (hO : SO zz Y) {r q : Nat} (hr6 : r < 6) (hq6 : q < 6) : My l yX4_fits wsX4_fits (rmL 42 0 0) D lo Γ [.ref sa, .int (nI r), .int (nI q)] (C, (U, E), V) (fun v Z' => v = some (.int (if r ≠ q ∧ mayJ zz (Y r) (Y q) = true then 1 else 0)) ∧ Z' = (C, (U, E), V)) := by
  refine My_of (cc := cX4_fits) (maxL := 3) (ret := (some .boolean)) (by decide) rfl (Nat.le_of_ble_eq_true rfl) ?_
  intro p e s m args below meth c ls hname S hr hlocks hK hH hS hX hl
  have hx := S.1
  have hb := S.2.1
  have hts := S.2.2.2.2
  have f9 : (Cond.fieldLink RX4 9 (TX4 0).1 (TX4 0).2.1 (TX4 0).2.2.1).before args s = true := hts _ (List.mem_of_getElem? (i := 1) rfl)
  have hi4 : ∀ w ∈ wsX40, w ∈ wsX4_fits := by decide +kernel
  have hlo : lo ≤ s.heap.size := hH.2.2.1.1
  have hg : Gr (U, E) (U, E) [] := Gr.rf _ _
  have hE : Ext C C := Ext.rf C
  have hl : lv_has ls 3 [(0, .ref sa), (1, .int (nI r)), (2, .int (nI q))] := hl
  have hI0 := hI
  obtain ⟨m_sa, e_sa, m_ta, e_ta, hY⟩ := hI
  obtain ⟨o1, o2, o3, o4, o5, o6⟩ := SO_at hO hr6
  obtain ⟨v1, v2, v3, v4, v5, v6⟩ := SO_at hO hq6
  refine lv_iload_n hx hb dX4_fits_0 rfl (lv_at hl 1 rfl) ?_
  refine lv_iload_n hx hb dX4_fits_1 rfl (lv_at hl 2 rfl) ?_
  refine lv_icmp_eq (tgt := 48) hx hb dX4_fits_2 (by decide) (fun h1 => ?_) (fun h1 => ?_)
  · skip
    have h1 : r = q := (nI_eq (by omega) (by omega)).mp h1
    refine lv_iconst (v := 0) hx hb dX4_fits_48 (by decide) ?_
    exact eZ S hr hlocks (Or.inl rfl) hH hS ⟨by rw [if_neg (fun h => h.1 h1)], rfl⟩ dX4_fits_49
  · skip
    have h1 : ¬ r = q := fun e9 => h1 (by rw [e9])
    have htr := hY r hr6
    have htq := hY q hq6
    rcases hYr : Y r with u9 | ⟨k9, x9, y9⟩
    · skip
      refine lv_aload_n hx hb dX4_fits_5 rfl (lv_at hl 0 rfl) ?_
      refine gM S hi4 hK hH m_sa e_sa 0 (by decide) f9 (v := .ref ta) rfl dX4_fits_6 ?_
      refine lv_iload_n hx hb dX4_fits_9 rfl (lv_at hl 1 rfl) ?_
      refine gQ S hK hH m_ta e_ta (j := r) rfl hr6 (by decide) (r := none) (by show rt (Y r) = none; rw [hYr]; rfl) dX4_fits_10 ?_
      refine lv_ifnullN hx hb dX4_fits_11 (tgt := 44) (by decide) ?_
      refine lv_iconst (v := 1) hx hb dX4_fits_44 (by decide) ?_
      refine lv_goto (tgt := 49) hx hb dX4_fits_45 (by decide) ?_
      exact eZ S hr hlocks (Or.inr rfl) hH hS ⟨by rw [if_pos ⟨h1, by rfl⟩], rfl⟩ dX4_fits_49
    · skip
      rcases hYq : Y q with u9 | ⟨k8, x8, y8⟩
      · skip
        refine lv_aload_n hx hb dX4_fits_5 rfl (lv_at hl 0 rfl) ?_
        refine gM S hi4 hK hH m_sa e_sa 0 (by decide) f9 (v := .ref ta) rfl dX4_fits_6 ?_
        refine lv_iload_n hx hb dX4_fits_9 rfl (lv_at hl 1 rfl) ?_
        refine gQ S hK hH m_ta e_ta (j := r) rfl hr6 (by decide) (r := (some k9)) (by show rt (Y r) = some k9; rw [hYr]; rfl) dX4_fits_10 ?_
        refine lv_ifnull hx hb dX4_fits_11 ?_
        refine lv_aload_n hx hb dX4_fits_14 rfl (lv_at hl 0 rfl) ?_
        refine gM S hi4 hK hH m_sa e_sa 0 (by decide) f9 (v := .ref ta) rfl dX4_fits_15 ?_
        refine lv_iload_n hx hb dX4_fits_18 rfl (lv_at hl 2 rfl) ?_
        refine gQ S hK hH m_ta e_ta (j := q) rfl hq6 (by decide) (r := none) (by show rt (Y q) = none; rw [hYq]; rfl) dX4_fits_19 ?_
        refine lv_ifnullN hx hb dX4_fits_20 (tgt := 44) (by decide) ?_
        refine lv_iconst (v := 1) hx hb dX4_fits_44 (by decide) ?_
        refine lv_goto (tgt := 49) hx hb dX4_fits_45 (by decide) ?_
        exact eZ S hr hlocks (Or.inr rfl) hH hS ⟨by rw [if_pos ⟨h1, by unfold mayJ; cases (tids (Lean.RArray.branch k9 x9 y9)).getLast? <;> rfl⟩], rfl⟩ dX4_fits_49
      · skip
        refine lv_aload_n hx hb dX4_fits_5 rfl (lv_at hl 0 rfl) ?_
        refine gM S hi4 hK hH m_sa e_sa 0 (by decide) f9 (v := .ref ta) rfl dX4_fits_6 ?_
        refine lv_iload_n hx hb dX4_fits_9 rfl (lv_at hl 1 rfl) ?_
        refine gQ S hK hH m_ta e_ta (j := r) rfl hr6 (by decide) (r := (some k9)) (by show rt (Y r) = some k9; rw [hYr]; rfl) dX4_fits_10 ?_
        refine lv_ifnull hx hb dX4_fits_11 ?_
        refine lv_aload_n hx hb dX4_fits_14 rfl (lv_at hl 0 rfl) ?_
        refine gM S hi4 hK hH m_sa e_sa 0 (by decide) f9 (v := .ref ta) rfl dX4_fits_15 ?_
        refine lv_iload_n hx hb dX4_fits_18 rfl (lv_at hl 2 rfl) ?_
        refine gQ S hK hH m_ta e_ta (j := q) rfl hq6 (by decide) (r := (some k8)) (by show rt (Y q) = some k8; rw [hYq]; rfl) dX4_fits_19 ?_
        refine lv_ifnull hx hb dX4_fits_20 ?_
        refine lv_aload_n hx hb dX4_fits_23 rfl (lv_at hl 0 rfl) ?_
        refine gM S hi4 hK hH m_sa e_sa 0 (by decide) f9 (v := .ref ta) rfl dX4_fits_24 ?_
        refine lv_iload_n hx hb dX4_fits_27 rfl (lv_at hl 1 rfl) ?_
        refine gQ S hK hH m_ta e_ta (j := r) rfl hr6 (by decide) (r := (some k9)) (by show rt (Y r) = some k9; rw [hYr]; rfl) dX4_fits_28 ?_
        refine cyS S (c_X4_most (.branch k9 x9 y9) 40 (by rw [← hYr]; exact o5) (by rw [← hYr]; exact htr) (by simp)) (va_cwS 1 hts gX4_fits_X4_most rfl rfl rfl (by decide +kernel) ⟨Nat.le_of_ble_eq_true rfl, Nat.le_of_ble_eq_true rfl⟩) hK hH hX hS rfl hl.1 rfl (by simp [cat_rf, Value.category]) dX4_fits_29 ⟨Nat.le_of_ble_eq_true rfl, Nat.le_of_ble_eq_true rfl⟩ (fun v Z1 H locs hpost hH hS => ?_)
        obtain ⟨b, hb1, rfl, rfl⟩ := hpost
        refine lv_aload_n hx hb dX4_fits_32 rfl (lv_at hl 0 rfl) ?_
        refine gM S hi4 hK hH m_sa e_sa 0 (by decide) f9 (v := .ref ta) rfl dX4_fits_33 ?_
        refine lv_iload_n hx hb dX4_fits_36 rfl (lv_at hl 2 rfl) ?_
        refine gQ S hK hH m_ta e_ta (j := q) rfl hq6 (by decide) (r := (some k8)) (by show rt (Y q) = some k8; rw [hYq]; rfl) dX4_fits_37 ?_
        refine cyS S (c_X4_least (.branch k8 x8 y8) 40 (by rw [← hYq]; exact v5) (by rw [← hYq]; exact htq) (by simp)) (va_cwS 1 hts gX4_fits_X4_least rfl rfl rfl (by decide +kernel) ⟨Nat.le_of_ble_eq_true rfl, Nat.le_of_ble_eq_true rfl⟩) hK hH hX hS rfl hl.1 rfl (by simp [cat_rf, Value.category]) dX4_fits_38 ⟨Nat.le_of_ble_eq_true rfl, Nat.le_of_ble_eq_true rfl⟩ (fun v Z1 H locs hpost hH hS => ?_)
        obtain ⟨b8, hb8, rfl, rfl⟩ := hpost
        have zb := o3 b (by rw [hYr]; exact List.mem_of_getLast? hb1)
        have zb8 := v3 b8 (by rw [hYq]; exact List.mem_of_head? hb8)
        have hmj : mayJ zz (.branch k9 x9 y9) (.branch k8 x8 y8) = decide (zz b < zz b8) := by unfold mayJ; rw [hb1, hb8]
        refine lv_icmp_ge (tgt := 48) hx hb dX4_fits_41 (by decide) (fun h2 => ?_) (fun h2 => ?_)
        · skip
          have h2 : ¬ zz b < zz b8 := fun q8 => absurd h2 (fun q9 => by have := (nI_leI (by omega) (by omega)).mp q9; omega)
          refine lv_iconst (v := 0) hx hb dX4_fits_48 (by decide) ?_
          exact eZ S hr hlocks (Or.inl rfl) hH hS ⟨by rw [if_neg (fun h => by rw [hmj] at h; exact h2 (by simpa using h.2))], rfl⟩ dX4_fits_49
        · skip
          have h2 : zz b < zz b8 := Nat.lt_of_not_le (fun q9 => h2 (nI_le q9 (by omega)))
          refine lv_iconst (v := 1) hx hb dX4_fits_44 (by decide) ?_
          refine lv_goto (tgt := 49) hx hb dX4_fits_45 (by decide) ?_
          exact eZ S hr hlocks (Or.inr rfl) hH hS ⟨by rw [if_pos ⟨h1, by rw [hmj]; simpa using h2⟩], rfl⟩ dX4_fits_49

set_option maxRecDepth 100000 in
set_option maxHeartbeats 4000000 in
theorem c_X4_join {sa ta tn : Nat} {Y : Nat → Tr} (hI : SI Γ (U, E) sa ta Y zz ee tn) (hO : SO zz Y) {r q : Nat} (hr6 : r < 6) (hq6 : q < 6) (hrq : r ≠ q) : My l yX4_join wsX4_join (rmL 44 1 40) D lo Γ [.ref sa, .int (nI r), .int (nI q)] (C, (U, E), V) (fun v Z' => v = some (.int (nI (tids (jn (Y r) (Y q))).length)) ∧ ∃ C' U' E', Z' = (C', (U', E'), V) ∧ Ext C C' ∧ Gr (U, E) (U', E') (sa :: ta :: (tids (Y r) ++ tids (Y q))) ∧ SI Γ (U', E') sa ta (va_up (va_up Y r (jn (Y r) (Y q))) q (.leaf ())) zz ee (tn + appN (Y r))) := by
  refine My_of (cc := cX4_join) (maxL := 3) (ret := (some .int)) (by decide) rfl (Nat.le_of_ble_eq_true rfl) ?_
  intro p e s m args below meth c ls hname S hr hlocks hK hH hS hX hl
  have hx := S.1
  have hb := S.2.1
  have hts := S.2.2.2.2
  have f9 : (Cond.fieldLink RX4 9 (TX4 0).1 (TX4 0).2.1 (TX4 0).2.2.1).before args s = true := hts _ (List.mem_of_getElem? (i := 1) rfl)
  have hi4 : ∀ w ∈ wsX40, w ∈ wsX4_join := by decide +kernel
  have hlo : lo ≤ s.heap.size := hH.2.2.1.1
  have hg : Gr (U, E) (U, E) (sa :: ta :: (tids (Y r) ++ tids (Y q))) := Gr.rf _ _
  have hE : Ext C C := Ext.rf C
  have hl : lv_has ls 3 [(0, .ref sa), (1, .int (nI r)), (2, .int (nI q))] := hl
  have hI0 := hI
  obtain ⟨m_sa, e_sa, m_ta, e_ta, hY⟩ := hI
  obtain ⟨o1, o2, o3, o4, o5, o6⟩ := SO_at hO hr6
  obtain ⟨nta, nsa⟩ := SI_ne hI0 hr6
  have htr := hY r hr6
  obtain ⟨v1, v2, v3, v4, v5, v6⟩ := SO_at hO hq6
  have htq := hY q hq6
  obtain ⟨ntq, nsq⟩ := SI_ne hI0 hq6
  have w_ta : ta ∈ sa :: ta :: (tids (Y r) ++ tids (Y q)) := by simp
  have hap : ∀ b ∈ tids (Y q), b ∉ tids (Y r) := (gids_apart hO.1).2 q r hq6 hr6 (Ne.symm hrq)
  have jnt : tids (jn (Y r) (Y q)) = tids (Y r) ++ tids (Y q) := jn_tids o1
  have hj40 : (tids (Y r) ++ tids (Y q)).length ≤ 40 := by have := two_le hr6 hq6 hrq (T := Y); have := hO.2.2.2; rw [List.length_append]; omega
  have rc9 := rec9 hK hH m_sa e_sa (q := (RX4, TX4, 2)) rfl
  refine lv_aload_n hx hb dX4_join_0 rfl (lv_at hl 0 rfl) ?_
  refine gM S hi4 hK hH m_sa e_sa 0 (by decide) f9 (v := .ref ta) rfl dX4_join_1 ?_
  refine lv_iload_n hx hb dX4_join_4 rfl (lv_at hl 1 rfl) ?_
  refine lv_aload_n hx hb dX4_join_5 rfl (lv_at hl 0 rfl) ?_
  refine lv_aload_n hx hb dX4_join_6 rfl (lv_at hl 0 rfl) ?_
  refine gM S hi4 hK hH m_sa e_sa 0 (by decide) f9 (v := .ref ta) rfl dX4_join_7 ?_
  refine lv_iload_n hx hb dX4_join_10 rfl (lv_at hl 1 rfl) ?_
  refine gQ S hK hH m_ta e_ta (j := r) rfl hr6 (by decide) (r := (rt (Y r))) rfl dX4_join_11 ?_
  refine lv_aload_n hx hb dX4_join_12 rfl (lv_at hl 0 rfl) ?_
  refine gM S hi4 hK hH m_sa e_sa 0 (by decide) f9 (v := .ref ta) rfl dX4_join_13 ?_
  refine lv_iload_n hx hb dX4_join_16 rfl (lv_at hl 2 rfl) ?_
  refine gQ S hK hH m_ta e_ta (j := q) rfl hq6 (by decide) (r := (rt (Y q))) rfl dX4_join_17 ?_
  refine cyV S (c_X4_both m_sa e_sa htr htq o2 o1 o3 o4 hap) (cwV 2 hts gX4_join_X4_both rfl rfl rfl (by decide +kernel) ⟨Nat.le_of_ble_eq_true rfl, Nat.le_of_ble_eq_true rfl⟩) hK hH hX rc9 hS rfl hl.1 rfl (by simp [cat_rf, Value.category]) dX4_join_18 ⟨Nat.le_of_ble_eq_true rfl, Nat.le_of_ble_eq_true rfl⟩ (fun v Z1 H locs hpost hH hS => ?_)
  obtain ⟨rfl, C1, U1, E1, rfl, hx9, hg9, hT9, e_sa9⟩ := hpost
  have e_ta : E1 ta = qE Γ 6 (fun i => rt (Y i)) := (hg9.2 ta m_ta nta).trans e_ta
  have m_ta := hg9.1 ta m_ta
  have e_sa := e_sa9
  have m_sa := hg9.1 sa m_sa
  have hg := hg.tr2 hg9 (fun b hb9 => Or.inl (by rcases List.mem_cons.mp hb9 with h | h <;> simp [h]))
  have hE := hE.tr hx9
  have njt : ∀ b ∈ tids (jn (Y r) (Y q)), b ≠ ta := fun b hb9 e9 => by
    rw [jnt] at hb9
    rcases List.mem_append.mp hb9 with h | h
    · exact nta (by rw [← e9]; simp [h])
    · exact ntq (by rw [← e9]; simp [h])
  have n9_sa : sa ≠ ta := (neMQ e_sa e_ta)
  refine pQ S hK hH hS m_ta e_ta (j := r) rfl hr6 (by decide) (rt (jn (Y r) (Y q))) (sT_rt hT9) rfl dX4_join_21 (fun E2 H locs e_ta ho hH hS => ?_)
  have e_sa : E2 sa = .inr (4, [.ref ta, .int (nI (tn + appN (Y r)))]) := (ho sa n9_sa).trans e_sa
  have hg := hg.put w_ta ho
  have hT9 := sT_cg (M' := (U1, E2)) _ hT9 (fun b hb9 hM => ⟨hM, ho b (njt b hb9), rfl, rfl⟩)
  refine lv_aload_n hx hb dX4_join_22 rfl (lv_at hl 0 rfl) ?_
  refine gM S hi4 hK hH m_sa e_sa 0 (by decide) f9 (v := .ref ta) rfl dX4_join_23 ?_
  refine lv_iload_n hx hb dX4_join_26 rfl (lv_at hl 2 rfl) ?_
  refine lv_null hx hb dX4_join_27 ?_
  have n9_sa : sa ≠ ta := (neMQ e_sa e_ta)
  refine pQ S hK hH hS m_ta e_ta (j := q) rfl hq6 (by decide) none (fun b h => by cases h) rfl dX4_join_28 (fun E3 H locs e_ta ho hH hS => ?_)
  have e_sa : E3 sa = .inr (4, [.ref ta, .int (nI (tn + appN (Y r)))]) := (ho sa n9_sa).trans e_sa
  have hg := hg.put w_ta ho
  have hT9 := sT_cg (M' := (U1, E3)) _ hT9 (fun b hb9 hM => ⟨hM, ho b (njt b hb9), rfl, rfl⟩)
  refine lv_aload_n hx hb dX4_join_29 rfl (lv_at hl 0 rfl) ?_
  refine gM S hi4 hK hH m_sa e_sa 0 (by decide) f9 (v := .ref ta) rfl dX4_join_30 ?_
  refine lv_iload_n hx hb dX4_join_33 rfl (lv_at hl 1 rfl) ?_
  refine gQ S hK hH m_ta e_ta (j := r) rfl hr6 (by decide) (r := (rt (jn (Y r) (Y q)))) ((va_up_ne _ _ hrq).trans (va_up_self _ _ _)) dX4_join_34 ?_
  have hhj : hgt (jn (Y r) (Y q)) ≤ 40 := by have := hgt_len (jn (Y r) (Y q)); rw [jnt] at this; omega
  have hfin : SI Γ (U1, E3) sa ta (va_up (va_up Y r (jn (Y r) (Y q))) q (.leaf ())) zz ee (tn + appN (Y r)) := SI_mk2 hI0 hO.1 hr6 hq6 hrq hg e_sa (by rw [e_ta]; exact congrArg (qE Γ 6) (rt_up2 rfl rfl)) hT9 trivial (fun _ _ => ⟨rfl, rfl⟩)
  refine cyS S (c_X4_count (jn (Y r) (Y q)) 40 hhj hT9) (va_cwS 1 hts gX4_join_X4_count rfl rfl rfl (by decide +kernel) ⟨Nat.le_of_ble_eq_true rfl, Nat.le_of_ble_eq_true rfl⟩) hK hH hX hS rfl hl.1 rfl (by simp [cat_rf, Value.category]) dX4_join_35 ⟨Nat.le_of_ble_eq_true rfl, Nat.le_of_ble_eq_true rfl⟩ (fun v Z1 H locs hpost hH hS => ?_)
  obtain ⟨rfl, rfl⟩ := hpost
  exact eI S hr hlocks hH hS ⟨rfl, C1, U1, E3, rfl, hE, hg, hfin⟩ dX4_join_38
end MSim7
