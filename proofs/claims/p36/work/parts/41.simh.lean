/-! THE HAND-MADE ORCHARD: splitting; copying -/
theorem va_up_sw {α : Type} {f : Nat → α} {r q : Nat} {x y : α} (h : r ≠ q) : va_up (va_up f r x) q y = va_up (va_up f q y) r x := by
  funext i
  by_cases e : i = r
  · subst e; rw [va_up_ne _ _ h, va_up_self, va_up_self]
  · by_cases e2 : i = q
    · subst e2; rw [va_up_self, va_up_ne _ _ e, va_up_self]
    · rw [va_up_ne _ _ e2, va_up_ne _ _ e, va_up_ne _ _ e, va_up_ne _ _ e2]
theorem tw_in {p : Nat → Bool} : ∀ {l : List Nat} {a : Nat}, a ∈ l.takeWhile p → a ∈ l := fun h => (List.takeWhile_sublist _).subset h
theorem blw_in {zz : Nat → Nat} {z : Int} {t : Tr} {a : Nat} (h : a ∈ blw zz z t) : a ∈ tids t := tw_in h
theorem tw_s {zz : Nat → Nat} {k : Nat} : ∀ {l : List Nat}, l.Pairwise (fun a b => zz a < zz b) → ((∀ a ∈ l, zz a ≠ k) → l.takeWhile (fun a => decide ((zz a : Int) < ((k + 1 : Nat) : Int))) = l.takeWhile (fun a => decide ((zz a : Int) < (k : Int)))) ∧ ∀ a ∈ l, zz a = k → (l.takeWhile (fun a => decide ((zz a : Int) < ((k + 1 : Nat) : Int)))).getLast? = some a := by
  intro l
  induction l with
  | nil => intro _; exact ⟨fun _ => rfl, fun a h => by cases h⟩
  | cons b l ih =>
    intro hs
    obtain ⟨h1, h2⟩ := List.pairwise_cons.mp hs
    obtain ⟨i1, i2⟩ := ih h2
    refine ⟨fun hn => ?_, fun a ha hz => ?_⟩
    · have hb := hn b (by simp)
      rw [List.takeWhile_cons, List.takeWhile_cons]
      by_cases h : zz b < k
      · rw [if_pos (by simp; omega), if_pos (by simp; omega), i1 (fun a ha => hn a (by simp [ha]))]
      · rw [if_neg (by simp; omega), if_neg (by simp; omega)]
    · rw [List.takeWhile_cons]
      rcases List.mem_cons.mp ha with h | h
      · subst h
        rw [if_pos (by simp; omega)]
        have : l.takeWhile (fun a => decide ((zz a : Int) < ((k + 1 : Nat) : Int))) = [] := by
          cases l with
          | nil => rfl
          | cons c l =>
            have := h1 c (by simp)
            rw [List.takeWhile_cons, if_neg (by simp; omega)]
        rw [this]
        rfl
      · have := h1 a h
        rw [if_pos (by simp; omega), List.getLast?_cons, i2 a h hz]
        rfl
theorem blw_s0 {zz : Nat → Nat} {t : Tr} {k : Nat} (hs : srt zz t) (h : fnd zz (k : Int) t = none) : blw zz ((k + 1 : Nat) : Int) t = blw zz (k : Int) t :=
  (tw_s hs).1 (fun a ha hz => by rw [fnd_of t a hs ha (by omega)] at h; cases h)
theorem blw_s1 {zz : Nat → Nat} {t : Tr} {k a : Nat} (hs : srt zz t) (h : fnd zz (k : Int) t = some a) : (blw zz ((k + 1 : Nat) : Int) t).getLast? = some a ∧ zz a = k := by
  obtain ⟨h1, h2⟩ := fnd_mem _ _ h
  have h2 : zz a = k := by omega
  exact ⟨(tw_s hs).2 a h1 h2, h2⟩
theorem blw_00 {zz : Nat → Nat} {t : Tr} : blw zz ((0 : Nat) : Int) t = [] := by
  unfold blw
  cases tids t with
  | nil => rfl
  | cons a l => rw [List.takeWhile_cons, if_neg (by simp)]
section MSim8
variable {l : Launch} {D : va_G} {lo : Nat} {Γ : GT} {C : CW} {V : Int64 × UInt64} {U : List Nat} {E : Nat → va_E} {zz ee : Nat → Nat}
set_option maxRecDepth 100000 in
set_option maxHeartbeats 4000000 in
theorem c_X4_split {sa ta tn : Nat} {Y : Nat → Tr} (hI : SI Γ (U, E) sa ta Y zz ee tn) (hO : SO zz Y) {r n q : Nat} (hr6 : r < 6) (hq6 : q < 6) (hrq : r ≠ q) (hn9 : n < 1000) (hYq : Y q = .leaf ()) : My l yX4_split wsX4_split (rmL 45 1001 40040) D lo Γ [.ref sa, .int (nI r), .int (nI n), .int (nI q)] (C, (U, E), V) (fun v Z' => ∃ C' U' E', Z' = (C', (U', E'), V) ∧ Ext C C' ∧ Gr (U, E) (U', E') (sa :: ta :: (tids (Y r) ++ tids (Y q))) ∧ ((∃ b L9 R9, (blw zz (n : Int) (Y r)).getLast? = some b ∧ spz (zof (Y r) b) = .branch b L9 R9 ∧ v = some (.int (nI (tids R9).length)) ∧ SI Γ (U', E') sa ta (va_up (va_up Y r (.branch b L9 (.leaf ()))) q R9) zz ee (tn + (zof (Y r) b).2.2.2.length)) ∨ ((blw zz (n : Int) (Y r)).getLast? = none ∧ v = some (.int (nI (tids (Y r)).length)) ∧ SI Γ (U', E') sa ta (va_up (va_up Y r (.leaf ())) q (Y r)) zz ee tn))) := by
  refine My_of (cc := cX4_split) (maxL := 6) (ret := (some .int)) (by decide) rfl (Nat.le_of_ble_eq_true rfl) ?_
  intro p e s m args below meth c ls hname S hr hlocks hK hH hS hX hl
  have hx := S.1
  have hb := S.2.1
  have hts := S.2.2.2.2
  have f9 : (Cond.fieldLink RX4 9 (TX4 0).1 (TX4 0).2.1 (TX4 0).2.2.1).before args s = true := hts _ (List.mem_of_getElem? (i := 1) rfl)
  have f37 : (Cond.fieldLink RX4 37 (TX3 3).1 (TX3 3).2.1 (TX3 3).2.2.1).before args s = true := hts _ (List.mem_of_getElem? (i := 2) rfl)
  have hi3 : ∀ w ∈ wsX30, w ∈ wsX4_split := by decide +kernel
  have hi4 : ∀ w ∈ wsX40, w ∈ wsX4_split := by decide +kernel
  have hlo : lo ≤ s.heap.size := hH.2.2.1.1
  have hg : Gr (U, E) (U, E) (sa :: ta :: (tids (Y r) ++ tids (Y q))) := Gr.rf _ _
  have hE : Ext C C := Ext.rf C
  have hl : lv_has ls 6 [(0, .ref sa), (1, .int (nI r)), (2, .int (nI n)), (3, .int (nI q))] := hl
  have hI0 := hI
  obtain ⟨m_sa, e_sa, m_ta, e_ta, hY⟩ := hI
  obtain ⟨o1, o2, o3, o4, o5, o6⟩ := SO_at hO hr6
  obtain ⟨nta, nsa⟩ := SI_ne hI0 hr6
  have htr := hY r hr6
  have htr0 := htr
  refine lv_iconst (v := -1) hx hb dX4_split_0 (by decide) ?_
  refine lv_istore (lv' := [(4, .int (-1)), (0, .ref sa), (1, .int (nI r)), (2, .int (nI n)), (3, .int (nI q))]) hx hb dX4_split_1 hl (by decide) rfl (fun ls hl => ?_)
  refine lv_iconst (v := 0) hx hb dX4_split_3 (by decide) ?_
  refine lv_istore (lv' := [(5, .int 0), (4, .int (-1)), (0, .ref sa), (1, .int (nI r)), (2, .int (nI n)), (3, .int (nI q))]) hx hb dX4_split_4 hl (by decide) rfl (fun ls hl => ?_)
  have endp : ∀ (C' : CW) (U' : List Nat) (E' : Nat → va_E), Ext C C' → Gr (U, E) (U', E') [] → ∀ H locs, Hp D lo Γ (C', (U', E'), V) H → va_S (lA lo) s.heap H locs → ∀ ls, lv_has ls 6 [(5, .int (nI n)), (4, .int (er (((blw zz ((n : Nat) : Int) (Y r)).getLast?).map zz))), (0, .ref sa), (1, .int (nI r)), (2, .int (nI n)), (3, .int (nI q))] → W p l e (rmL 45 1001 40040) s m args below meth c H locs 1000 40000 (MQ below (Qz D lo Γ (fun v Z' => ∃ C' U' E', Z' = (C', (U', E'), V) ∧ Ext C C' ∧ Gr (U, E) (U', E') (sa :: ta :: (tids (Y r) ++ tids (Y q))) ∧ ((∃ b L9 R9, (blw zz (n : Int) (Y r)).getLast? = some b ∧ spz (zof (Y r) b) = .branch b L9 R9 ∧ v = some (.int (nI (tids R9).length)) ∧ SI Γ (U', E') sa ta (va_up (va_up Y r (.branch b L9 (.leaf ()))) q R9) zz ee (tn + (zof (Y r) b).2.2.2.length)) ∨ ((blw zz (n : Int) (Y r)).getLast? = none ∧ v = some (.int (nI (tids (Y r)).length)) ∧ SI Γ (U', E') sa ta (va_up (va_up Y r (.leaf ())) q (Y r)) zz ee tn)))) args s ((rmL 45 1001 40040) : Room).cells ((rmL 45 1001 40040) : Room).slots (lA lo)) (F0 m 36 ls []) := by
    intro C' U' E' hE hg H locs hH hS ls hl
    have e_sa : E' sa = .inr (4, [.ref ta, .int (nI tn)]) := (hg.2 sa m_sa (by simp)).trans e_sa
    have m_sa := hg.1 sa m_sa
    have e_ta : E' ta = qE Γ 6 (fun i => rt (Y i)) := (hg.2 ta m_ta (by simp)).trans e_ta
    have m_ta := hg.1 ta m_ta
    have htr := sT_gr htr hg (by simp)
    have hg := hg.wd (w' := (sa :: ta :: (tids (Y r) ++ tids (Y q)))) (fun b hb9 => by cases hb9)
    have w_ta : ta ∈ (sa :: ta :: (tids (Y r) ++ tids (Y q))) := by simp
    cases hbl : (blw zz (n : Int) (Y r)).getLast? with
    | none =>
      rw [hbl] at hl
      have hl : lv_has ls 6 [(5, .int (nI n)), (4, .int (-1)), (0, .ref sa), (1, .int (nI r)), (2, .int (nI n)), (3, .int (nI q))] := hl
      refine lv_iload hx hb dX4_split_36 (lv_at hl 1 rfl) ?_
      refine lv_if_ge (tgt := 63) hx hb dX4_split_38 (by decide) (fun h1 => absurd h1 (by decide)) (fun _ => ?_)
      refine lv_aload_n hx hb dX4_split_41 rfl (lv_at hl 2 rfl) ?_
      refine gM S hi4 hK hH m_sa e_sa 0 (by decide) f9 (v := .ref ta) rfl dX4_split_42 ?_
      refine lv_iload_n hx hb dX4_split_45 rfl (lv_at hl 5 rfl) ?_
      refine lv_aload_n hx hb dX4_split_46 rfl (lv_at hl 2 rfl) ?_
      refine gM S hi4 hK hH m_sa e_sa 0 (by decide) f9 (v := .ref ta) rfl dX4_split_47 ?_
      refine lv_iload_n hx hb dX4_split_50 rfl (lv_at hl 3 rfl) ?_
      refine gQ S hK hH m_ta e_ta (j := r) rfl hr6 (by decide) (r := (rt (Y r))) rfl dX4_split_51 ?_
      have n9_sa : sa ≠ ta := (neMQ e_sa e_ta)
      refine pQ S hK hH hS m_ta e_ta (j := q) rfl hq6 (by decide) (rt (Y r)) (sT_rt htr) rfl dX4_split_52 (fun E1 H locs e_ta ho hH hS => ?_)
      have e_sa : E1 sa = .inr (4, [.ref ta, .int (nI tn)]) := (ho sa n9_sa).trans e_sa
      have hg := hg.put w_ta ho
      have htr := sT_cg (M' := (U', E1)) _ htr (fun b hb9 hM => ⟨hM, ho b (fun e9 => nta (by rw [← e9]; simp [hb9])), rfl, rfl⟩)
      refine lv_aload_n hx hb dX4_split_53 rfl (lv_at hl 2 rfl) ?_
      refine gM S hi4 hK hH m_sa e_sa 0 (by decide) f9 (v := .ref ta) rfl dX4_split_54 ?_
      refine lv_iload_n hx hb dX4_split_57 rfl (lv_at hl 3 rfl) ?_
      refine lv_null hx hb dX4_split_58 ?_
      have n9_sa : sa ≠ ta := (neMQ e_sa e_ta)
      refine pQ S hK hH hS m_ta e_ta (j := r) rfl hr6 (by decide) none (fun b h => by cases h) rfl dX4_split_59 (fun E2 H locs e_ta ho hH hS => ?_)
      have e_sa : E2 sa = .inr (4, [.ref ta, .int (nI tn)]) := (ho sa n9_sa).trans e_sa
      have hg := hg.put w_ta ho
      have htr := sT_cg (M' := (U', E2)) _ htr (fun b hb9 hM => ⟨hM, ho b (fun e9 => nta (by rw [← e9]; simp [hb9])), rfl, rfl⟩)
      refine lv_goto (tgt := 106) hx hb dX4_split_60 (by decide) ?_
      refine lv_aload_n hx hb dX4_split_106 rfl (lv_at hl 2 rfl) ?_
      refine gM S hi4 hK hH m_sa e_sa 0 (by decide) f9 (v := .ref ta) rfl dX4_split_107 ?_
      refine lv_iload_n hx hb dX4_split_110 rfl (lv_at hl 5 rfl) ?_
      refine gQ S hK hH m_ta e_ta (j := q) rfl hq6 (by decide) (r := (rt (Y r))) ((va_up_ne _ _ (Ne.symm hrq)).trans (va_up_self _ _ _)) dX4_split_111 ?_
      have hfin : SI Γ (U', E2) sa ta (va_up (va_up Y r (.leaf ())) q (Y r)) zz ee tn := SI_mk2 hI0 hO.1 hr6 hq6 hrq hg e_sa (by rw [e_ta, va_up_sw (Ne.symm hrq)]; exact congrArg (qE Γ 6) (rt_up2 rfl rfl)) trivial htr (fun _ _ => ⟨rfl, rfl⟩)
      refine cyS S (c_X4_count (Y r) 40 o5 htr) (va_cwS 1 hts gX4_split_X4_count rfl rfl rfl (by decide +kernel) ⟨Nat.le_of_ble_eq_true rfl, Nat.le_of_ble_eq_true rfl⟩) hK hH hX hS rfl hl.1 rfl (by simp [cat_rf, Value.category]) dX4_split_112 ⟨Nat.le_of_ble_eq_true rfl, Nat.le_of_ble_eq_true rfl⟩ (fun v Z1 H locs hpost hH hS => ?_)
      obtain ⟨rfl, rfl⟩ := hpost
      refine W.widen (k := ((rmL 45 1001 40040) : Room).cells) (n := ((rmL 45 1001 40040) : Room).slots) (Nat.le_of_ble_eq_true rfl) (Nat.le_of_ble_eq_true rfl) ?_
      exact eI S hr hlocks hH hS ⟨C', U', E2, rfl, hE, hg, Or.inr ⟨rfl, rfl, hfin⟩⟩ dX4_split_115
    | some b =>
      rw [hbl] at hl
      have hl : lv_has ls 6 [(5, .int (nI n)), (4, .int (nI (zz b))), (0, .ref sa), (1, .int (nI r)), (2, .int (nI n)), (3, .int (nI q))] := hl
      have hbt : b ∈ tids (Y r) := blw_in (List.mem_of_getLast? hbl)
      have zb := o3 b hbt
      obtain ⟨L9, R9, hsp, hsr, htd⟩ := spz_rt hbt
      have rc9 := rec9 hK hH m_sa e_sa (q := (RX4, TX4, 2)) rfl
      refine lv_iload hx hb dX4_split_36 (lv_at hl 1 rfl) ?_
      refine lv_if_ge (tgt := 63) hx hb dX4_split_38 (by decide) (fun _ => ?_) (fun h1 => absurd (nI_pos' (by omega)) h1)
      refine lv_aload_n hx hb dX4_split_63 rfl (lv_at hl 2 rfl) ?_
      refine gM S hi4 hK hH m_sa e_sa 0 (by decide) f9 (v := .ref ta) rfl dX4_split_64 ?_
      refine lv_iload_n hx hb dX4_split_67 rfl (lv_at hl 3 rfl) ?_
      refine lv_aload_n hx hb dX4_split_68 rfl (lv_at hl 2 rfl) ?_
      refine lv_aload_n hx hb dX4_split_69 rfl (lv_at hl 2 rfl) ?_
      refine gM S hi4 hK hH m_sa e_sa 0 (by decide) f9 (v := .ref ta) rfl dX4_split_70 ?_
      refine lv_iload_n hx hb dX4_split_73 rfl (lv_at hl 3 rfl) ?_
      refine gQ S hK hH m_ta e_ta (j := r) rfl hr6 (by decide) (r := (rt (Y r))) rfl dX4_split_74 ?_
      refine lv_iload hx hb dX4_split_75 (lv_at hl 1 rfl) ?_
      refine cyV S (c_X4_raise (n := zz b) m_sa e_sa htr o2 o1 o3 o4 hbt rfl) (cwV 2 hts gX4_split_X4_raise rfl rfl rfl (by decide +kernel) ⟨Nat.le_of_ble_eq_true rfl, Nat.le_of_ble_eq_true rfl⟩) hK hH hX rc9 hS rfl hl.1 rfl (by simp [cat_rf, Value.category]) dX4_split_77 ⟨Nat.le_of_ble_eq_true rfl, Nat.le_of_ble_eq_true rfl⟩ (fun v Z1 H locs hpost hH hS => ?_)
      obtain ⟨rfl, C1, U1, E1, rfl, hx9, hg9, hT9, e_sa9⟩ := hpost
      have e_ta : E1 ta = qE Γ 6 (fun i => rt (Y i)) := (hg9.2 ta m_ta nta).trans e_ta
      have m_ta := hg9.1 ta m_ta
      have e_sa := e_sa9
      have m_sa := hg9.1 sa m_sa
      have hg := hg.tr2 hg9 (fun b hb9 => Or.inl (by rcases List.mem_cons.mp hb9 with h | h <;> simp [h]))
      have hE := hE.tr hx9
      rw [hsp] at hT9
      have n_bta : b ≠ ta := fun e9 => nta (by rw [← e9]; simp [hbt])
      have hT90 := hT9
      obtain ⟨⟨m_b, e_b⟩, hTL, hTR⟩ := hT9
      have hnd9 : (tids L9 ++ b :: tids R9).Nodup := by rw [htd]; exact o1
      rw [List.nodup_append] at hnd9
      have hLt : ∀ c9 ∈ tids L9, c9 ∈ tids (Y r) ∧ c9 ≠ b := fun c9 h9 => ⟨by rw [← htd]; simp [h9], fun e9 => hnd9.2.2 c9 h9 b (by simp) e9⟩
      have hRt : ∀ c9 ∈ tids R9, c9 ∈ tids (Y r) ∧ c9 ≠ b := fun c9 h9 => ⟨by rw [← htd]; simp [h9], fun e9 => (List.nodup_cons.mp hnd9.2.1).1 (by rw [← e9]; exact h9)⟩
      have hR40 : hgt R9 ≤ 40 := by have := hgt_len R9; have h8 := congrArg List.length htd; rw [List.length_append, List.length_cons] at h8; omega
      have w_b : b ∈ (sa :: ta :: (tids (Y r) ++ tids (Y q))) := by simp [hbt]
      have w_ta : ta ∈ (sa :: ta :: (tids (Y r) ++ tids (Y q))) := by simp
      have e_b : E1 b = .inr (3, [.int (nI (zz b)), .int (nI (ee b)), va_rf (rt L9), va_rf (rt R9)]) := e_b
      have n9_b : b ≠ ta := n_bta
      have n9_sa : sa ≠ ta := (neMQ e_sa e_ta)
      refine pQ S hK hH hS m_ta e_ta (j := r) rfl hr6 (by decide) (some b) (fun c9 h => by cases h; exact ⟨m_b, _, e_b⟩) rfl dX4_split_80 (fun E2 H locs e_ta ho hH hS => ?_)
      have e_b : E2 b = .inr (3, [.int (nI (zz b)), .int (nI (ee b)), va_rf (rt L9), va_rf (rt R9)]) := (ho b n9_b).trans e_b
      have e_sa : E2 sa = .inr (4, [.ref ta, .int (nI (tn + (zof (Y r) b).2.2.2.length))]) := (ho sa n9_sa).trans e_sa
      have hg := hg.put w_ta ho
      have hTL := sT_cg (M' := (U1, E2)) _ hTL (fun c9 hb9 hM => ⟨hM, ho c9 (fun e9 => nta (by rw [← e9]; simp [(hLt c9 hb9).1])), rfl, rfl⟩)
      have hTR := sT_cg (M' := (U1, E2)) _ hTR (fun c9 hb9 hM => ⟨hM, ho c9 (fun e9 => nta (by rw [← e9]; simp [(hRt c9 hb9).1])), rfl, rfl⟩)
      refine lv_aload_n hx hb dX4_split_81 rfl (lv_at hl 2 rfl) ?_
      refine gM S hi4 hK hH m_sa e_sa 0 (by decide) f9 (v := .ref ta) rfl dX4_split_82 ?_
      refine lv_iload_n hx hb dX4_split_85 rfl (lv_at hl 5 rfl) ?_
      refine lv_aload_n hx hb dX4_split_86 rfl (lv_at hl 2 rfl) ?_
      refine gM S hi4 hK hH m_sa e_sa 0 (by decide) f9 (v := .ref ta) rfl dX4_split_87 ?_
      refine lv_iload_n hx hb dX4_split_90 rfl (lv_at hl 3 rfl) ?_
      refine gQ S hK hH m_ta e_ta (j := r) rfl hr6 (by decide) (r := (some b)) (va_up_self _ _ _) dX4_split_91 ?_
      refine gB S hi3 hK hH m_b e_b 3 (by decide) f37 (v := va_rf (rt R9)) rfl dX4_split_92 ?_
      have n9_b : b ≠ ta := n_bta
      have n9_sa : sa ≠ ta := (neMQ e_sa e_ta)
      refine pQ S hK hH hS m_ta e_ta (j := q) rfl hq6 (by decide) (rt R9) (sT_rt hTR) rfl dX4_split_95 (fun E3 H locs e_ta ho hH hS => ?_)
      have e_b : E3 b = .inr (3, [.int (nI (zz b)), .int (nI (ee b)), va_rf (rt L9), va_rf (rt R9)]) := (ho b n9_b).trans e_b
      have e_sa : E3 sa = .inr (4, [.ref ta, .int (nI (tn + (zof (Y r) b).2.2.2.length))]) := (ho sa n9_sa).trans e_sa
      have hg := hg.put w_ta ho
      have hTL := sT_cg (M' := (U1, E3)) _ hTL (fun c9 hb9 hM => ⟨hM, ho c9 (fun e9 => nta (by rw [← e9]; simp [(hLt c9 hb9).1])), rfl, rfl⟩)
      have hTR := sT_cg (M' := (U1, E3)) _ hTR (fun c9 hb9 hM => ⟨hM, ho c9 (fun e9 => nta (by rw [← e9]; simp [(hRt c9 hb9).1])), rfl, rfl⟩)
      refine lv_aload_n hx hb dX4_split_96 rfl (lv_at hl 2 rfl) ?_
      refine gM S hi4 hK hH m_sa e_sa 0 (by decide) f9 (v := .ref ta) rfl dX4_split_97 ?_
      refine lv_iload_n hx hb dX4_split_100 rfl (lv_at hl 3 rfl) ?_
      refine gQ S hK hH m_ta e_ta (j := r) rfl hr6 (by decide) (r := (some b)) ((va_up_ne _ _ hrq).trans (va_up_self _ _ _)) dX4_split_101 ?_
      refine lv_null hx hb dX4_split_102 ?_
      have n9_sa : sa ≠ b := (Ne.symm (neBM e_b e_sa))
      have n9_ta : ta ≠ b := (Ne.symm n_bta)
      refine pBr S hi3 hK hH hS m_b e_b 3 (by decide) f37 none rfl dX4_split_103 rfl (fun E4 H locs e_b ho hH hS => ?_)
      have e_b : E4 b = .inr (3, [.int (nI (zz b)), .int (nI (ee b)), va_rf (rt L9), .null]) := e_b
      have e_sa : E4 sa = .inr (4, [.ref ta, .int (nI (tn + (zof (Y r) b).2.2.2.length))]) := (ho sa n9_sa).trans e_sa
      have e_ta : E4 ta = qE Γ 6 (va_up (va_up (fun i => rt (Y i)) r (some b)) q (rt R9)) := (ho ta n9_ta).trans e_ta
      have hg := hg.put w_b ho
      have hTL := sT_cg (M' := (U1, E4)) _ hTL (fun c9 hb9 hM => ⟨hM, ho c9 (fun e9 => (hLt c9 hb9).2 e9), rfl, rfl⟩)
      have hTR := sT_cg (M' := (U1, E4)) _ hTR (fun c9 hb9 hM => ⟨hM, ho c9 (fun e9 => (hRt c9 hb9).2 e9), rfl, rfl⟩)
      refine lv_aload_n hx hb dX4_split_106 rfl (lv_at hl 2 rfl) ?_
      refine gM S hi4 hK hH m_sa e_sa 0 (by decide) f9 (v := .ref ta) rfl dX4_split_107 ?_
      refine lv_iload_n hx hb dX4_split_110 rfl (lv_at hl 5 rfl) ?_
      refine gQ S hK hH m_ta e_ta (j := q) rfl hq6 (by decide) (r := (rt R9)) (va_up_self _ _ _) dX4_split_111 ?_
      have hfin : SI Γ (U1, E4) sa ta (va_up (va_up Y r (.branch b L9 (.leaf ()))) q R9) zz ee (tn + (zof (Y r) b).2.2.2.length) := SI_mk2 hI0 hO.1 hr6 hq6 hrq hg e_sa (by rw [e_ta]; exact congrArg (qE Γ 6) (rt_up2 rfl rfl)) ⟨⟨m_b, e_b⟩, hTL, trivial⟩ hTR (fun _ _ => ⟨rfl, rfl⟩)
      refine cyS S (c_X4_count R9 40 hR40 hTR) (va_cwS 1 hts gX4_split_X4_count rfl rfl rfl (by decide +kernel) ⟨Nat.le_of_ble_eq_true rfl, Nat.le_of_ble_eq_true rfl⟩) hK hH hX hS rfl hl.1 rfl (by simp [cat_rf, Value.category]) dX4_split_112 ⟨Nat.le_of_ble_eq_true rfl, Nat.le_of_ble_eq_true rfl⟩ (fun v Z1 H locs hpost hH hS => ?_)
      obtain ⟨rfl, rfl⟩ := hpost
      refine W.widen (k := ((rmL 45 1001 40040) : Room).cells) (n := ((rmL 45 1001 40040) : Room).slots) (Nat.le_of_ble_eq_true rfl) (Nat.le_of_ble_eq_true rfl) ?_
      exact eI S hr hlocks hH hS ⟨C1, U1, E4, rfl, hE, hg, Or.inl ⟨b, L9, R9, rfl, hsp, rfl, hfin⟩⟩ dX4_split_115
  have loop : ∀ (N k : Nat) (C' : CW) (U' : List Nat) (E' : Nat → va_E), N + k = n → Ext C C' → Gr (U, E) (U', E') [] → ∀ H locs, Hp D lo Γ (C', (U', E'), V) H → va_S (lA lo) s.heap H locs → ∀ ls, lv_has ls 6 [(5, .int (nI k)), (4, .int (er (((blw zz ((k : Nat) : Int) (Y r)).getLast?).map zz))), (0, .ref sa), (1, .int (nI r)), (2, .int (nI n)), (3, .int (nI q))] → W p l e (rmL 45 1001 40040) s m args below meth c H locs k (40 * k) (MQ below (Qz D lo Γ (fun v Z' => ∃ C' U' E', Z' = (C', (U', E'), V) ∧ Ext C C' ∧ Gr (U, E) (U', E') (sa :: ta :: (tids (Y r) ++ tids (Y q))) ∧ ((∃ b L9 R9, (blw zz (n : Int) (Y r)).getLast? = some b ∧ spz (zof (Y r) b) = .branch b L9 R9 ∧ v = some (.int (nI (tids R9).length)) ∧ SI Γ (U', E') sa ta (va_up (va_up Y r (.branch b L9 (.leaf ()))) q R9) zz ee (tn + (zof (Y r) b).2.2.2.length)) ∨ ((blw zz (n : Int) (Y r)).getLast? = none ∧ v = some (.int (nI (tids (Y r)).length)) ∧ SI Γ (U', E') sa ta (va_up (va_up Y r (.leaf ())) q (Y r)) zz ee tn)))) args s ((rmL 45 1001 40040) : Room).cells ((rmL 45 1001 40040) : Room).slots (lA lo)) (F0 m 6 ls []) := by
    intro N
    induction N with
    | zero =>
      intro k C' U' E' hk hE hg H locs hH hS ls hl
      have hk : k = n := by omega
      subst hk
      have hl : lv_has ls 6 [(5, .int (nI k)), (4, .int (er (((blw zz ((k : Nat) : Int) (Y r)).getLast?).map zz))), (0, .ref sa), (1, .int (nI r)), (2, .int (nI k)), (3, .int (nI q))] := hl
      refine lv_iload hx hb dX4_split_6 (lv_at hl 0 rfl) ?_
      refine lv_iload_n hx hb dX4_split_8 rfl (lv_at hl 4 rfl) ?_
      refine lv_icmp_ge (tgt := 36) hx hb dX4_split_9 (by decide) (fun _ => ?_) (fun h1 => absurd (Int32.le_refl _) h1)
      refine W.widen (k := 1000) (n := 40000) (by omega) (by omega) ?_
      exact endp C' U' E' hE hg H locs hH hS ls hl
    | succ N ih =>
      intro k C' U' E' hk hE hg H locs hH hS ls hl
      have hkn : k < n := by omega
      have e_sa : E' sa = .inr (4, [.ref ta, .int (nI tn)]) := (hg.2 sa m_sa (by simp)).trans e_sa
      have m_sa := hg.1 sa m_sa
      have e_ta : E' ta = qE Γ 6 (fun i => rt (Y i)) := (hg.2 ta m_ta (by simp)).trans e_ta
      have m_ta := hg.1 ta m_ta
      have htr := sT_gr htr hg (by simp)
      refine lv_iload hx hb dX4_split_6 (lv_at hl 0 rfl) ?_
      refine lv_iload_n hx hb dX4_split_8 rfl (lv_at hl 4 rfl) ?_
      refine lv_icmp_ge (tgt := 36) hx hb dX4_split_9 (by decide) (fun h1 => absurd h1 (nI_ge hkn (by omega))) (fun _ => ?_)
      refine lv_aload_n hx hb dX4_split_12 rfl (lv_at hl 2 rfl) ?_
      refine gM S hi4 hK hH m_sa e_sa 0 (by decide) f9 (v := .ref ta) rfl dX4_split_13 ?_
      refine lv_iload_n hx hb dX4_split_16 rfl (lv_at hl 3 rfl) ?_
      refine gQ S hK hH m_ta e_ta (j := r) rfl hr6 (by decide) (r := (rt (Y r))) rfl dX4_split_17 ?_
      refine lv_iload hx hb dX4_split_18 (lv_at hl 0 rfl) ?_
      refine cyS S (c_X4_has htr o3 (n := k) (by omega) (o6 k)) (va_cwS 2 hts gX4_split_X4_has rfl rfl rfl (by decide +kernel) ⟨Nat.le_of_ble_eq_true rfl, Nat.le_of_ble_eq_true rfl⟩) hK hH hX hS rfl hl.1 rfl (by simp [cat_rf, Value.category]) dX4_split_20 ⟨(by show k + 1 ≤ 1001; omega), (by show 40 * k + 40 ≤ 40040; omega)⟩ (fun v Z1 H locs hpost hH hS => ?_)
      obtain ⟨rfl, C2, U2, E2, rfl, hx9, hg9⟩ := hpost
      have hE2 := hE.tr hx9
      have hg2 := hg.tr hg9
      cases hfk : fnd zz (k : Int) (Y r) with
      | none =>
        show W p l e _ s m args below meth c H locs _ _ _ (F0 m 23 ls [.int 0])
        refine lv_if_eq (tgt := 30) hx hb dX4_split_23 (by decide) (fun _ => ?_) (fun h1 => absurd (by decide) h1)
        refine lv_iinc (v := nI (k + 1)) (lv' := [(5, .int (nI (k + 1))), (4, .int (er (((blw zz ((k : Nat) : Int) (Y r)).getLast?).map zz))), (0, .ref sa), (1, .int (nI r)), (2, .int (nI n)), (3, .int (nI q))]) hx hb dX4_split_30 hl (k := 0) rfl (nI_1 k) (by decide) rfl (fun ls hl => ?_)
        refine lv_goto (tgt := 6) hx hb dX4_split_33 (by decide) ?_
        refine W.widen (k := k + 1) (n := 40 * (k + 1)) (by show k + 1 ≤ k + 1; omega) (by show 40 * k + 40 ≤ 40 * (k + 1); omega) ?_
        exact ih (k + 1) C2 U2 E2 (by omega) hE2 hg2 H locs hH hS ls (by rw [blw_s0 o2 hfk]; exact lv_sub hl [0, 1, 2, 3, 4, 5] rfl)
      | some a =>
        show W p l e _ s m args below meth c H locs _ _ _ (F0 m 23 ls [.int 1])
        refine lv_if_eq (tgt := 30) hx hb dX4_split_23 (by decide) (fun h1 => absurd h1 (by decide)) (fun _ => ?_)
        refine lv_iload hx hb dX4_split_26 (lv_at hl 0 rfl) ?_
        refine lv_istore (lv' := [(4, .int (nI k)), (5, .int (nI k)), (0, .ref sa), (1, .int (nI r)), (2, .int (nI n)), (3, .int (nI q))]) hx hb dX4_split_28 hl (by decide) rfl (fun ls hl => ?_)
        refine lv_iinc (v := nI (k + 1)) (lv' := [(5, .int (nI (k + 1))), (4, .int (nI k)), (0, .ref sa), (1, .int (nI r)), (2, .int (nI n)), (3, .int (nI q))]) hx hb dX4_split_30 hl (k := 1) rfl (nI_1 k) (by decide) rfl (fun ls hl => ?_)
        refine lv_goto (tgt := 6) hx hb dX4_split_33 (by decide) ?_
        refine W.widen (k := k + 1) (n := 40 * (k + 1)) (by show k + 1 ≤ k + 1; omega) (by show 40 * k + 40 ≤ 40 * (k + 1); omega) ?_
        exact ih (k + 1) C2 U2 E2 (by omega) hE2 hg2 H locs hH hS ls (by rw [(blw_s1 o2 hfk).1]; show lv_has ls 6 [(5, .int (nI (k + 1))), (4, .int (nI (zz a))), (0, .ref sa), (1, .int (nI r)), (2, .int (nI n)), (3, .int (nI q))]; rw [(blw_s1 o2 hfk).2]; exact lv_sub hl [0, 1, 2, 3, 4, 5] rfl)
  exact loop n 0 C U E (by omega) hE (Gr.rf _ _) _ _ hH hS ls (by rw [blw_00]; exact lv_sub hl [0, 1, 2, 3, 4, 5] rfl)

set_option maxRecDepth 100000 in
set_option maxHeartbeats 4000000 in
theorem c_X4_copy {sa ta tn : Nat} {Y : Nat → Tr} (hI : SI Γ (U, E) sa ta Y zz ee tn) (hO : SO zz Y) : My l yX4_copy wsX4_copy (rmL 44 242 968) D lo Γ [.ref sa] (C, (U, E), V) (fun v Z' => ∃ C' U' E' sb tb Y' zz' ee', v = some (.ref sb) ∧ Z' = (C', (U', E'), V) ∧ Ext C C' ∧ Gr (U, E) (U', E') [] ∧ (∀ b ∈ U, zz' b = zz b ∧ ee' b = ee b) ∧ SI Γ (U', E') sb tb Y' zz' ee' tn ∧ (gids Y').Nodup ∧ ((∀ b ∈ gids Y', b ∉ U) ∧ sb ∉ U ∧ tb ∉ U) ∧ ∀ r, r < 6 → mp zz' (Y' r) = mp zz (Y r)) := by
  refine My_of (cc := cX4_copy) (maxL := 3) (ret := (some (.object "SplayOrchardLaw$Sim"))) (by decide) rfl (Nat.le_of_ble_eq_true rfl) ?_
  intro p e s m args below meth c ls hname S hr hlocks hK hH hS hX hl
  have hx := S.1
  have hb := S.2.1
  have hts := S.2.2.2.2
  have f9 : (Cond.fieldLink RX4 9 (TX4 0).1 (TX4 0).2.1 (TX4 0).2.2.1).before args s = true := hts _ (List.mem_of_getElem? (i := 4) rfl)
  have f20 : (Cond.fieldLink RX4 20 (TX4 1).1 (TX4 1).2.1 (TX4 1).2.2.1).before args s = true := hts _ (List.mem_of_getElem? (i := 5) rfl)
  have hi4 : ∀ w ∈ wsX40, w ∈ wsX4_copy := by decide +kernel
  have hlo : lo ≤ s.heap.size := hH.2.2.1.1
  have hg : Gr (U, E) (U, E) [] := Gr.rf _ _
  have hE : Ext C C := Ext.rf C
  have hl : lv_has ls 3 [(0, .ref sa)] := hl
  have hI0 := hI
  obtain ⟨m_sa, e_sa, m_ta, e_ta, hY⟩ := hI
  refine nM S hi4 (hts _ (List.mem_of_getElem? (i := 1) rfl)) (hts _ (List.mem_of_getElem? (i := 2) rfl)) (hts _ (List.mem_of_getElem? (i := 3) rfl)) hK hH hlo hS (Nat.le_of_ble_eq_true rfl) (Nat.le_of_ble_eq_true rfl) dX4_copy_0 (fun sb C3 U2 E1 H fr hx9 m_sb su e_sb ho hH hS => ?_)
  have n9_sa : sa ≠ sb := fun e9 => fr (by rw [← e9]; exact m_sa)
  have e_sa : E1 sa = .inr (4, [.ref ta, .int (nI tn)]) := (ho sa n9_sa).trans e_sa
  have m_sa := su sa m_sa
  have n9_sa_sb := n9_sa
  have n9_ta : ta ≠ sb := fun e9 => fr (by rw [← e9]; exact m_ta)
  have e_ta : E1 ta = qE Γ 6 (fun i => rt (Y i)) := (ho ta n9_ta).trans e_ta
  have m_ta := su ta m_ta
  have n9_ta_sb := n9_ta
  have hg := hg.new fr su ho
  have hE := hE.tr hx9
  have frb := fr
  have su9 := su
  refine lv_dup hx hb dX4_copy_3 rfl ?_
  refine cyI S (c_X4_init m_sb e_sb) ⟨callB_of 0 hts gX4_copy_X4_init rfl rfl rfl (hts _ (List.mem_of_getElem? (i := 3) rfl)) (hts _ (List.mem_of_getElem? (i := 6) rfl)) (by decide +kernel) ⟨Nat.le_of_ble_eq_true rfl, Nat.le_of_ble_eq_true rfl⟩, rfl, hts _ (List.mem_of_getElem? (i := 7) rfl)⟩ hK hH hX hS rfl hl.1 rfl (by simp [cat_rf, Value.category]) dX4_copy_4 ⟨Nat.le_of_ble_eq_true rfl, Nat.le_of_ble_eq_true rfl⟩ (fun v Z1 H locs hpost hH hS => ?_)
  obtain ⟨rfl, C1, U1, E2, tb, rfl, hx9, hg9, frt, m_tb, e_tb, e_sb⟩ := hpost
  have hE := hE.tr hx9
  have hg := hg.tr2 hg9 (fun b hb9 => Or.inr (by rw [List.mem_singleton.mp hb9]; exact frb))
  have frt0 : tb ∉ U := fun h9 => frt (su9 tb h9)
  have e_sa : E2 sa = .inr (4, [.ref ta, .int (nI tn)]) := (hg9.2 sa m_sa (by simp [n9_sa_sb])).trans e_sa
  have m_sa := hg9.1 sa m_sa
  have e_ta : E2 ta = qE Γ 6 (fun i => rt (Y i)) := (hg9.2 ta m_ta (by simp [n9_ta_sb])).trans e_ta
  have m_ta := hg9.1 ta m_ta
  have m_sb := hg9.1 sb m_sb
  refine lv_astore_n (lv' := [(1, .ref sb), (0, .ref sa)]) hx hb dX4_copy_7 rfl hl (by decide) rfl (fun ls hl => ?_)
  refine lv_iconst (v := 0) hx hb dX4_copy_8 (by decide) ?_
  refine lv_istore_n (lv' := [(2, .int 0), (1, .ref sb), (0, .ref sa)]) hx hb dX4_copy_9 rfl hl (by decide) rfl (fun ls hl => ?_)
  have loop : ∀ (N r : Nat) (C' : CW) (U' : List Nat) (E' : Nat → va_E) (Y' : Nat → Tr) (zz' ee' : Nat → Nat), N + r = 6 → Ext C C' → Gr (U, E) (U', E') [] → (∀ i, i < 6 → sT (U', E') zz' ee' (Y' i) ∧ (tids (Y' i)).Nodup ∧ ∀ b ∈ tids (Y' i), b ∉ U) → (∀ i j, i < 6 → j < 6 → i ≠ j → ∀ b ∈ tids (Y' i), b ∉ tids (Y' j)) → (∀ i, r ≤ i → Y' i = .leaf ()) → (∀ i, i < r → mp zz' (Y' i) = mp zz (Y i)) → (∀ b ∈ U, zz' b = zz b ∧ ee' b = ee b) → (sb ∈ U' ∧ E' sb = .inr (4, [.ref tb, .int 0])) → (tb ∈ U' ∧ E' tb = qE Γ 6 (fun i => rt (Y' i))) → ∀ H locs, Hp D lo Γ (C', (U', E'), V) H → va_S (lA lo) s.heap H locs → ∀ ls, lv_has ls 3 [(2, .int (nI r)), (1, .ref sb), (0, .ref sa)] → W p l e (rmL 44 242 968) s m args below meth c H locs (2 + 40 * r) (8 + 160 * r) (MQ below (Qz D lo Γ (fun v Z' => ∃ C' U' E' sb tb Y' zz' ee', v = some (.ref sb) ∧ Z' = (C', (U', E'), V) ∧ Ext C C' ∧ Gr (U, E) (U', E') [] ∧ (∀ b ∈ U, zz' b = zz b ∧ ee' b = ee b) ∧ SI Γ (U', E') sb tb Y' zz' ee' tn ∧ (gids Y').Nodup ∧ ((∀ b ∈ gids Y', b ∉ U) ∧ sb ∉ U ∧ tb ∉ U) ∧ ∀ r, r < 6 → mp zz' (Y' r) = mp zz (Y r))) args s ((rmL 44 242 968) : Room).cells ((rmL 44 242 968) : Room).slots (lA lo)) (F0 m 10 ls []) := by
    intro N
    induction N with
    | zero =>
      intro r C' U' E' Y' zz' ee' hk6 hE hg i1 i2 i3 i4 i5 i6 i7 H locs hH hS ls hl
      have hk9 : r = 6 := by omega
      subst hk9
      obtain ⟨m_sb, e_sb⟩ := i6
      have e_sb0 := e_sb
      obtain ⟨m_tb, e_tb⟩ := i7
      have e_sa : E' sa = .inr (4, [.ref ta, .int (nI tn)]) := (hg.2 sa hI0.1 (by simp)).trans hI0.2.1
      have m_sa := hg.1 sa hI0.1
      have e_ta : E' ta = qE Γ 6 (fun i => rt (Y i)) := (hg.2 ta hI0.2.2.1 (by simp)).trans hI0.2.2.2.1
      have m_ta := hg.1 ta hI0.2.2.1
      have n_sasb : sa ≠ sb := fun e9 => frb (by rw [← e9]; exact hI0.1)
      have n_tatb : ta ≠ tb := fun e9 => frt0 (by rw [← e9]; exact hI0.2.2.1)
      have w_sb : sb ∉ (U, E).1 := frb
      refine lv_iload_n hx hb dX4_copy_10 rfl (lv_at hl 0 rfl) ?_
      refine lv_bipush (v := 6) hx hb dX4_copy_11 (by decide +kernel) ?_
      refine lv_icmp_ge (tgt := 37) hx hb dX4_copy_13 (by decide) (fun _ => ?_) (fun h1 => absurd (by decide) h1)
      refine lv_aload_n hx hb dX4_copy_37 rfl (lv_at hl 1 rfl) ?_
      refine lv_aload_n hx hb dX4_copy_38 rfl (lv_at hl 2 rfl) ?_
      refine gM S hi4 hK hH m_sa e_sa 1 (by decide) f20 (v := .int (nI tn)) rfl dX4_copy_39 ?_
      have n9_sa : sa ≠ sb := n_sasb
      have n9_ta : ta ≠ sb := (Ne.symm (neMQ e_sb e_ta))
      have n9_tb : tb ≠ sb := (Ne.symm (neMQ e_sb e_tb))
      refine pM1 S hi4 hK hH hS m_sb e_sb f20 dX4_copy_42 rfl (fun E4 H locs e_sb ho hH hS => ?_)
      have e_sb : E4 sb = .inr (4, [.ref tb, .int (nI tn)]) := e_sb
      have e_sa : E4 sa = .inr (4, [.ref ta, .int (nI tn)]) := (ho sa n9_sa).trans e_sa
      have e_ta : E4 ta = qE Γ 6 (fun i => rt (Y i)) := (ho ta n9_ta).trans e_ta
      have e_tb : E4 tb = qE Γ 6 (fun i => rt (Y' i)) := (ho tb n9_tb).trans e_tb
      have hg := hg.put' w_sb ho
      refine lv_aload_n hx hb dX4_copy_45 rfl (lv_at hl 1 rfl) ?_
      have hfin : SI Γ (U', E4) sb tb Y' zz' ee' tn := ⟨m_sb, e_sb, m_tb, e_tb, fun i hi => sT_cg _ (i1 i hi).1 (fun b hb9 hM => ⟨hM, ho b (fun e9 => by
        obtain ⟨-, x9, y9, h7⟩ := sT_at _ (i1 i hi).1 b hb9
        exact neBM h7 e_sb0 e9), rfl, rfl⟩)⟩
      have hnd9 := gids_nodup (fun i hi => (i1 i hi).2.1) i2
      refine W.widen (k := ((rmL 44 242 968) : Room).cells) (n := ((rmL 44 242 968) : Room).slots) (Nat.le_of_ble_eq_true rfl) (Nat.le_of_ble_eq_true rfl) ?_
      exact eA S hr hlocks (some sb) rfl hH hS ⟨C', U', E4, sb, tb, Y', zz', ee', rfl, rfl, hE, hg, i5, hfin, hnd9, ⟨fun b hb9 => by obtain ⟨i, hi, hm⟩ := gids_mem.mp hb9; exact (i1 i hi).2.2 b hm, frb, frt0⟩, i4⟩ dX4_copy_46
    | succ N ih =>
      intro r C' U' E' Y' zz' ee' hk6 hE hg i1 i2 i3 i4 i5 i6 i7 H locs hH hS ls hl
      have hr6 : r < 6 := by omega
      obtain ⟨m_sb, e_sb⟩ := i6
      obtain ⟨m_tb, e_tb⟩ := i7
      obtain ⟨o1, o2, o3, o4, o5, o6⟩ := SO_at hO hr6
      have htr : sT (U', E') zz' ee' (Y r) := sT_cg (Y r) (hY r hr6) (fun b hb9 hM => ⟨hg.1 b hM, hg.2 b hM (by simp), i5 b hM⟩)
      have hmr : mp zz' (Y r) = mp zz (Y r) := mp_congr _ (fun b hb9 => (i5 b (sT_at _ (hY r hr6) b hb9).1).1)
      have e_sa : E' sa = .inr (4, [.ref ta, .int (nI tn)]) := (hg.2 sa hI0.1 (by simp)).trans hI0.2.1
      have m_sa := hg.1 sa hI0.1
      have e_ta : E' ta = qE Γ 6 (fun i => rt (Y i)) := (hg.2 ta hI0.2.2.1 (by simp)).trans hI0.2.2.2.1
      have m_ta := hg.1 ta hI0.2.2.1
      have n_sasb : sa ≠ sb := fun e9 => frb (by rw [← e9]; exact hI0.1)
      have n_tatb : ta ≠ tb := fun e9 => frt0 (by rw [← e9]; exact hI0.2.2.1)
      have w_tb : tb ∉ (U, E).1 := frt0
      refine lv_iload_n hx hb dX4_copy_10 rfl (lv_at hl 0 rfl) ?_
      refine lv_bipush (v := 6) hx hb dX4_copy_11 (by decide +kernel) ?_
      refine lv_icmp_ge (tgt := 37) hx hb dX4_copy_13 (by decide) (fun h1 => absurd h1 (nI_ge hr6 (by decide))) (fun _ => ?_)
      refine lv_aload_n hx hb dX4_copy_16 rfl (lv_at hl 1 rfl) ?_
      refine gM S hi4 hK hH m_sb e_sb 0 (by decide) f9 (v := .ref tb) rfl dX4_copy_17 ?_
      refine lv_iload_n hx hb dX4_copy_20 rfl (lv_at hl 0 rfl) ?_
      refine lv_aload_n hx hb dX4_copy_21 rfl (lv_at hl 2 rfl) ?_
      refine gM S hi4 hK hH m_sa e_sa 0 (by decide) f9 (v := .ref ta) rfl dX4_copy_22 ?_
      refine lv_iload_n hx hb dX4_copy_25 rfl (lv_at hl 0 rfl) ?_
      refine gQ S hK hH m_ta e_ta (j := r) rfl hr6 (by decide) (r := (rt (Y r))) rfl dX4_copy_26 ?_
      refine cyS S (c_X4_copied (Y r) 40 C' U' E' zz' ee' o5 htr) (va_cwS 1 hts gX4_copy_X4_copied rfl rfl rfl (by decide +kernel) ⟨Nat.le_of_ble_eq_true rfl, Nat.le_of_ble_eq_true rfl⟩) hK hH hX hS rfl hl.1 rfl (by simp [cat_rf, Value.category]) dX4_copy_27 ⟨(by show 2 + 40 * r + (tids (Y r)).length ≤ 242; omega), (by show 8 + 160 * r + 4 * (tids (Y r)).length ≤ 968; omega)⟩ (fun v Z1 H locs hpost hH hS => ?_)
      obtain ⟨C2, U2, E2, t9, z9, e9, rfl, rfl, hx9, hg9, hz9, hT9, hf9, hn9, hm9⟩ := hpost
      have hg0 := hg
      have hOld : ∀ i, i < 6 → sT (U2, E2) z9 e9 (Y' i) := fun i hi => sT_cg _ (i1 i hi).1 (fun b hb9 hM => ⟨hg9.1 b hM, hg9.2 b hM (by simp), hz9 b hM⟩)
      have e_sa : E2 sa = .inr (4, [.ref ta, .int (nI tn)]) := (hg9.2 sa m_sa (by simp)).trans e_sa
      have m_sa := hg9.1 sa m_sa
      have e_sb : E2 sb = .inr (4, [.ref tb, .int 0]) := (hg9.2 sb m_sb (by simp)).trans e_sb
      have m_sb := hg9.1 sb m_sb
      have e_ta : E2 ta = qE Γ 6 (fun i => rt (Y i)) := (hg9.2 ta m_ta (by simp)).trans e_ta
      have m_ta := hg9.1 ta m_ta
      have e_tb : E2 tb = qE Γ 6 (fun i => rt (Y' i)) := (hg9.2 tb m_tb (by simp)).trans e_tb
      have m_tb := hg9.1 tb m_tb
      have hg := hg.tr hg9
      have hE := hE.tr hx9
      have e_tb0 := e_tb
      have n9_sa : sa ≠ tb := (neMQ e_sa e_tb)
      have n9_sb : sb ≠ tb := (neMQ e_sb e_tb)
      have n9_ta : ta ≠ tb := n_tatb
      refine pQ S hK hH hS m_tb e_tb (j := r) rfl hr6 (by decide) (rt t9) (sT_rt hT9) rfl dX4_copy_30 (fun E11 H locs e_tb ho hH hS => ?_)
      have e_sa : E11 sa = .inr (4, [.ref ta, .int (nI tn)]) := (ho sa n9_sa).trans e_sa
      have e_sb : E11 sb = .inr (4, [.ref tb, .int 0]) := (ho sb n9_sb).trans e_sb
      have e_ta : E11 ta = qE Γ 6 (fun i => rt (Y i)) := (ho ta n9_ta).trans e_ta
      have hg := hg.put' w_tb ho
      have nap : ∀ (t : Tr), sT (U2, E2) z9 e9 t → sT (U2, E11) z9 e9 t := fun t ht => sT_cg t ht (fun b hb9 hM => ⟨hM, ho b (fun e8 => by
        obtain ⟨-, x9, y9, h7⟩ := sT_at _ ht b hb9
        exact neBQ h7 e_tb0 e8), rfl, rfl⟩)
      have fr9 : ∀ i, i < 6 → ∀ b ∈ tids t9, b ∉ tids (Y' i) := fun i hi b hb9 h9 => hf9 b hb9 (sT_at _ (i1 i hi).1 b h9).1
      refine lv_iinc (v := nI (r + 1)) (lv' := [(2, .int (nI (r + 1))), (1, .ref sb), (0, .ref sa)]) hx hb dX4_copy_31 hl (k := 0) rfl (nI_1 r) (by decide) rfl (fun ls hl => ?_)
      refine lv_goto (tgt := 10) hx hb dX4_copy_34 (by decide) ?_
      refine W.widen (k := 2 + 40 * (r + 1)) (n := 8 + 160 * (r + 1)) (by show 2 + 40 * r + (tids (Y r)).length ≤ _; omega) (by show 8 + 160 * r + 4 * (tids (Y r)).length ≤ _; omega) ?_
      refine ih (r + 1) C2 U2 E11 (va_up Y' r t9) z9 e9 (by omega) hE hg (fun i hi => ?_) (fun i j hi hj hij b hb9 => ?_) (fun i hi => ?_) (fun i hi => ?_) (fun b hM => ?_) ⟨m_sb, e_sb⟩ ⟨m_tb, by rw [e_tb]; exact congrArg (qE Γ 6) (rt_up rfl)⟩ H locs hH hS ls (lv_sub hl [0, 1, 2] rfl)
      · by_cases e8 : i = r
        · subst e8; rw [va_up_self]; exact ⟨nap _ hT9, hn9, fun b hb9 h9 => hf9 b hb9 (hg0.1 b h9)⟩
        · rw [va_up_ne _ _ e8]; exact ⟨nap _ (hOld i hi), (i1 i hi).2⟩
      · by_cases e8 : i = r <;> by_cases e7 : j = r
        · exact absurd (e8.trans e7.symm) hij
        · subst e8; rw [va_up_self] at hb9; rw [va_up_ne _ _ e7]; exact fr9 j hj b hb9
        · subst e7; rw [va_up_ne _ _ e8] at hb9; rw [va_up_self]; exact fun h9 => fr9 i hi b h9 hb9
        · rw [va_up_ne _ _ e8] at hb9; rw [va_up_ne _ _ e7]; exact i2 i j hi hj hij b hb9
      · rw [va_up_ne _ _ (by omega)]; exact i3 i (by omega)
      · by_cases e8 : i = r
        · subst e8; rw [va_up_self, hm9]; exact hmr
        · rw [va_up_ne _ _ e8, ← i4 i (by omega)]
          exact mp_congr _ (fun b hb9 => (hz9 b (sT_at _ (i1 i (by omega)).1 b hb9).1).1)
      · obtain ⟨q1, q2⟩ := hz9 b (hg0.1 b hM)
        obtain ⟨q3, q4⟩ := i5 b hM
        exact ⟨q1.trans q3, q2.trans q4⟩
  exact loop 6 0 C1 U1 E2 (fun _ => .leaf ()) zz ee rfl hE hg (fun _ _ => ⟨trivial, List.Pairwise.nil, fun _ h => by cases h⟩) (fun _ _ _ _ _ _ h => by cases h) (fun _ _ => rfl) (fun _ h => absurd h (Nat.not_lt_zero _)) (fun _ _ => ⟨rfl, rfl⟩) ⟨m_sb, e_sb⟩ ⟨m_tb, e_tb⟩ _ _ hH hS ls (lv_sub hl [0, 1, 2] rfl)
end MSim8
