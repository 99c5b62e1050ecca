/-! THE HAND-MADE ORCHARD: bringing up -/
theorem Gr.tr2 {A B C : MW} {w w' : List Nat} (h : Gr A B w) (k : Gr B C w') (hw : ∀ a, a ∈ w' → a ∈ w ∨ a ∉ A.1) : Gr A C w :=
  ⟨fun a ha => k.1 a (h.1 a ha), fun a ha hn => (k.2 a (h.1 a ha) (fun h9 => (hw a h9).elim hn (fun q => q ha))).trans (h.2 a ha hn)⟩
theorem nI_sub (n k : Nat) : nI (n + k) - nI k = nI n := by
  rw [← nI_add, Int32.add_sub_cancel]
section MSim4
variable {l : Launch} {D : va_G} {lo : Nat} {Γ : GT} {C : CW} {V : Int64 × UInt64} {U : List Nat} {E : Nat → va_E} {zz ee : Nat → Nat}
set_option maxRecDepth 100000 in
set_option maxHeartbeats 4000000 in
theorem c_X4_raise {sa ta tn a n : Nat} {t : Tr} (m_sa : sa ∈ U) (e_sa : E sa = .inr (4, [.ref ta, .int (nI tn)])) (ht : sT (U, E) zz ee t) (hs : srt zz t) (hnd : (tids t).Nodup) (hz : ∀ b ∈ tids t, zz b < 1000) (h40 : (tids t).length ≤ 40) (ha : a ∈ tids t) (hza : zz a = n) : My l yX4_raise wsX4_raise (rmL 3 1 40) D lo Γ [.ref sa, va_rf (rt t), .int (nI n)] (C, (U, E), V) (fun v Z' => v = some (.ref a) ∧ ∃ C' U' E', Z' = (C', (U', E'), V) ∧ Ext C C' ∧ Gr (U, E) (U', E') (sa :: tids t) ∧ sT (U', E') zz ee (spz (zof t a)) ∧ E' sa = .inr (4, [.ref ta, .int (nI (tn + (zof t a).2.2.2.length))])) := by
  refine My_of (cc := cX4_raise) (maxL := 10) (ret := (some (.object "SplayOrchardLaw$Apple"))) (by decide) rfl (by cases t <;> exact Nat.le_of_ble_eq_true rfl) ?_
  intro p e s m args below meth c ls hname S hr hlocks hK hH hS hX hl
  have hx := S.1
  have hb := S.2.1
  have hts := S.2.2.2.2
  have f33 : (Cond.fieldLink RX4 33 (TX3 2).1 (TX3 2).2.1 (TX3 2).2.2.1).before args s = true := hts _ (List.mem_of_getElem? (i := 1) rfl)
  have f37 : (Cond.fieldLink RX4 37 (TX3 3).1 (TX3 3).2.1 (TX3 3).2.2.1).before args s = true := hts _ (List.mem_of_getElem? (i := 2) rfl)
  have hi3 : ∀ w ∈ wsX30, w ∈ wsX4_raise := by decide +kernel
  have hlo : lo ≤ s.heap.size := hH.2.2.1.1
  have hg : Gr (U, E) (U, E) (sa :: tids t) := Gr.rf _ _
  have hE : Ext C C := Ext.rf C
  have hl : lv_has ls 10 [(0, .ref sa), (1, va_rf (rt t)), (2, .int (nI n))] := (by cases t <;> exact hl)
  obtain ⟨z1, z2⟩ := zof_in ha
  have hplug := zof_plug ha
  obtain ⟨X, hXd⟩ : ∃ X, X = (zof t a).2.2.2 := ⟨_, rfl⟩
  obtain ⟨tl, htl⟩ : ∃ tl, tl = (zof t a).2.1 := ⟨_, rfl⟩
  obtain ⟨tr, htr⟩ : ∃ tr, tr = (zof t a).2.2.1 := ⟨_, rfl⟩
  have hspz : spz (zof t a) = spl a X tl tr := by unfold spz; rw [z2, ← hXd, ← htl, ← htr]
  rw [← hXd, ← htl, ← htr] at hplug
  have hwy := wy_zs t [] hs _ z1
  rw [anc_nil, List.nil_append, z2, ← hXd, hza] at hwy
  have hwl : (wy zz n t).length = X.length + 1 := by rw [hwy, List.length_append, anc_len]; rfl
  have hX40 : X.length + 1 ≤ 40 := by have := wy_hgt (zz := zz) (n := n) t; have := hgt_len t; omega
  have hn9 : n < 1000 := by rw [← hza]; exact hz a ha
  refine lq_aload_n S dX4_raise_0 rfl (lv_at hl 1 rfl) ?_
  refine lv_iload_n hx hb dX4_raise_1 rfl (lv_at hl 2 rfl) ?_
  refine cyS S (c_X4_path ht hz hn9 (by omega)) (va_cwS 2 hts gX4_raise_X4_path rfl rfl rfl (by decide +kernel) ⟨Nat.le_of_ble_eq_true rfl, Nat.le_of_ble_eq_true rfl⟩) hK hH hX hS rfl hl.1 rfl (by simp [cat_rf, Value.category]) dX4_raise_2 ⟨Nat.le_of_ble_eq_true rfl, Nat.le_of_ble_eq_true rfl⟩ (fun v Z1 H locs hpost hH hS => ?_)
  obtain ⟨C1, U1, E1, q, rfl, rfl, hx9, hg9, fr9, m_q, e_q⟩ := hpost
  have e_sa : E1 sa = .inr (4, [.ref ta, .int (nI tn)]) := (hg9.2 sa m_sa (by simp)).trans e_sa
  have m_sa := hg9.1 sa m_sa
  have e_q : E1 q = qE Γ (X.length + 1) (fun i => (anc X ++ [a])[i]?) := by rw [e_q, hwl, hwy]
  have hg := hg.tr (hg9.wd (fun b hb9 => by cases hb9))
  have ht1 := sT_gr ht hg9 (by simp)
  have hz1 : sZ (U1, E1) zz ee (.branch a tl tr) X := (sZ_plug _ _).mpr (by rw [hplug]; exact ht1)
  refine lv_astore_n (lv' := [(3, .ref q), (0, .ref sa), (1, va_rf (rt t)), (2, .int (nI n))]) hx hb dX4_raise_5 rfl hl (by decide) rfl (fun ls hl => ?_)
  refine lv_aload_n hx hb dX4_raise_6 rfl (lv_at hl 0 rfl) ?_
  refine lQ S hK hH m_q e_q dX4_raise_7 ?_
  refine lv_iconst (v := 1) hx hb dX4_raise_8 (by decide) ?_
  refine lv_isub hx hb dX4_raise_9 ?_
  rw [nI_pred]
  refine lv_istore (lv' := [(4, .int (nI X.length)), (3, .ref q), (0, .ref sa), (1, va_rf (rt t)), (2, .int (nI n))]) hx hb dX4_raise_10 hl (by decide) rfl (fun ls hl => ?_)
  refine lv_aload_n hx hb dX4_raise_12 rfl (lv_at hl 1 rfl) ?_
  refine lv_iload hx hb dX4_raise_13 (lv_at hl 0 rfl) ?_
  refine gQ S hK hH m_q e_q (j := X.length) rfl (by omega) (by omega) (r := (some a)) (by rw [← anc_len X]; simp) dX4_raise_15 ?_
  refine lv_astore (lv' := [(5, .ref a), (4, .int (nI X.length)), (3, .ref q), (0, .ref sa), (1, va_rf (rt t)), (2, .int (nI n))]) hx hb dX4_raise_16 hl (by decide) rfl (fun ls hl => ?_)
  have loop : ∀ (N : Nat) (X' : Cx) (l' r' : Tr) (E' : Nat → va_E) (f' : Nat → Option Nat), X'.length ≤ N → sZ (U1, E') zz ee (.branch a l' r') X' → (tids (plug (.branch a l' r') X')).Nodup → spl a X' l' r' = spl a X tl tr → tids (plug (.branch a l' r') X') = tids t → X'.length ≤ X.length → E' sa = .inr (4, [.ref ta, .int (nI (tn + (X.length - X'.length)))]) → E' q = qE Γ (X.length + 1) f' → (∀ i, i < X'.length → f' i = (anc X')[i]?) → Gr (U, E) (U1, E') (sa :: tids t) → ∀ H locs, Hp D lo Γ (C1, (U1, E'), V) H → va_S (lA lo) s.heap H locs → ∀ ls, lv_has ls 10 [(5, .ref a), (4, .int (nI X'.length)), (3, .ref q), (0, .ref sa)] → W p l e (rmL 3 1 40) s m args below meth c H locs (0 + 1) (0 + 40) (MQ below (Qz D lo Γ (fun v Z' => v = some (.ref a) ∧ ∃ C' U' E', Z' = (C', (U', E'), V) ∧ Ext C C' ∧ Gr (U, E) (U', E') (sa :: tids t) ∧ sT (U', E') zz ee (spz (zof t a)) ∧ E' sa = .inr (4, [.ref ta, .int (nI (tn + (zof t a).2.2.2.length))]))) args s ((rmL 3 1 40) : Room).cells ((rmL 3 1 40) : Room).slots (lA lo)) (F0 m 18 ls []) := by
    intro N
    induction N with
    | zero =>
      intro X' l' r' E' f' hN hzz hn hsp htids hlen e_sa e_q hf hG H locs hH hS ls hl
      cases X' with
      | cons f X3 => exact absurd hN (by simp)
      | nil =>
        have hl : lv_has ls 10 [(5, .ref a), (4, .int (nI 0)), (3, .ref q), (0, .ref sa)] := hl
        refine lv_iload hx hb dX4_raise_18 (lv_at hl 1 rfl) ?_
        refine lv_if_le (tgt := 235) hx hb dX4_raise_20 (by decide) (fun _ => ?_) (fun h1 => absurd (by decide) h1)
        refine lv_aload hx hb dX4_raise_235 (lv_at hl 0 rfl) ?_
        exact eA S hr hlocks (some a) rfl hH hS ⟨rfl, C1, U1, E', rfl, hx9, hG, by rw [hspz, ← hsp]; exact hzz.1, by rw [← hXd]; exact e_sa⟩ dX4_raise_237
    | succ N ih =>
      intro X' l' r' E' f' hN hzz hn hsp htids hlen e_sa e_q hf hG H locs hH hS ls hl
      cases X' with
      | nil =>
        have hl : lv_has ls 10 [(5, .ref a), (4, .int (nI 0)), (3, .ref q), (0, .ref sa)] := hl
        refine lv_iload hx hb dX4_raise_18 (lv_at hl 1 rfl) ?_
        refine lv_if_le (tgt := 235) hx hb dX4_raise_20 (by decide) (fun _ => ?_) (fun h1 => absurd (by decide) h1)
        refine lv_aload hx hb dX4_raise_235 (lv_at hl 0 rfl) ?_
        exact eA S hr hlocks (some a) rfl hH hS ⟨rfl, C1, U1, E', rfl, hx9, hG, by rw [hspz, ← hsp]; exact hzz.1, by rw [← hXd]; exact e_sa⟩ dX4_raise_237
      | cons f X2 =>
        obtain ⟨s1, p1, u1⟩ := f
        have m_sa1 := m_sa
        cases X2 with
        | nil =>
          obtain ⟨n1, n2, n3, n4⟩ := zap1 hn
          have hzz0 := hzz
          obtain ⟨⟨⟨m_a, e_a⟩, hl', hr'⟩, ⟨m_p1, e_p1⟩, hu, -⟩ := hzz
          have hlx : 1 ≤ X.length := hlen
          have e_sa0 : E' sa = .inr (4, [.ref ta, .int (nI (tn + (X.length - 1)))]) := e_sa
          have e_sa := e_sa0
          have hp1t : p1 ∈ tids t := by rw [← htids]; cases s1 <;> simp [plug, nd, tids]
          cases s1 with
          | false =>
            have hl : lv_has ls 10 [(5, .ref a), (4, .int (nI 1)), (3, .ref q), (0, .ref sa)] := hl
            have e_a : E' a = .inr (3, [.int (nI (zz a)), .int (nI (ee a)), va_rf (rt l'), va_rf (rt r')]) := e_a
            have e_p1 : E' p1 = .inr (3, [.int (nI (zz p1)), .int (nI (ee p1)), .ref a, va_rf (rt u1)]) := e_p1
            have hg : Gr (U1, E') (U1, E') [sa, p1, a] := Gr.rf _ _
            refine lv_iload hx hb dX4_raise_18 (lv_at hl 1 rfl) ?_
            refine lv_if_le (tgt := 235) hx hb dX4_raise_20 (by decide) (fun h1 => absurd h1 (by decide)) (fun _ => ?_)
            refine lv_aload_n hx hb dX4_raise_23 rfl (lv_at hl 2 rfl) ?_
            refine lv_iload hx hb dX4_raise_24 (lv_at hl 1 rfl) ?_
            refine lv_iconst (v := 1) hx hb dX4_raise_26 (by decide) ?_
            refine lv_isub hx hb dX4_raise_27 ?_
            refine gQ S hK hH m_q e_q (j := 0) (nI_pred 0) (by omega) (by omega) (r := (some p1)) (hf 0 Nat.zero_lt_one) dX4_raise_28 ?_
            refine lv_astore (lv' := [(6, .ref p1), (5, .ref a), (4, .int (nI 1)), (3, .ref q), (0, .ref sa)]) hx hb dX4_raise_29 hl (by decide) rfl (fun ls hl => ?_)
            refine lv_iload hx hb dX4_raise_31 (lv_at hl 2 rfl) ?_
            refine lv_iconst (v := 1) hx hb dX4_raise_33 (by decide) ?_
            refine lv_icmp_ne (tgt := 48) hx hb dX4_raise_34 (by decide) (fun h1 => absurd h1 (fun h => h (by decide))) (fun _ => ?_)
            refine lv_aload_n hx hb dX4_raise_37 rfl (lv_at hl 4 rfl) ?_
            refine lv_aload hx hb dX4_raise_38 (lv_at hl 0 rfl) ?_
            refine lv_aload hx hb dX4_raise_40 (lv_at hl 1 rfl) ?_
            have k9_q : q ∉ [sa, p1, a] := by
              have q1 : q ≠ sa := (Ne.symm (neMQ e_sa e_q))
              have q2 : q ≠ p1 := (Ne.symm (neBQ e_p1 e_q))
              have q3 : q ≠ a := (Ne.symm (neBQ e_a e_q))
              simp [q1, q2, q3]
            have rc9 := rec9 hK hH m_sa e_sa (q := (RX4, TX4, 2)) rfl
            refine cyV S (c_X4_turnL (sa := sa) (ta := ta) (tn := (tn + (X.length - 1))) (up := p1) (own := a) (b9 := (rt l')) (c9 := (rt r')) (y := (rt u1)) m_sa e_sa m_p1 e_p1 m_a e_a (Ne.symm n1)) (cwV 2 hts gX4_raise_X4_turn rfl rfl rfl (by decide +kernel) ⟨Nat.le_of_ble_eq_true rfl, Nat.le_of_ble_eq_true rfl⟩) hK hH hX rc9 hS rfl hl.1 rfl (by simp [cat_rf, Value.category]) dX4_raise_42 ⟨Nat.le_of_ble_eq_true rfl, Nat.le_of_ble_eq_true rfl⟩ (fun v Z1 H locs hpost hH hS => ?_)
            obtain ⟨rfl, E2, rfl, e_sa, e_p1, e_a, hg9⟩ := hpost
            have e_q : E2 q = qE Γ (X.length + 1) f' := (hg9.2 q m_q k9_q).trans e_q
            have e_p1 : E2 p1 = .inr (3, [.int (nI (zz p1)), .int (nI (ee p1)), va_rf (rt r'), va_rf (rt u1)]) := e_p1
            have e_a : E2 a = .inr (3, [.int (nI (zz a)), .int (nI (ee a)), va_rf (rt l'), .ref p1]) := e_a
            have hg := hg.tr (hg9.wd (fun b hb9 => Or.inl (by simp only [List.mem_cons, List.not_mem_nil, or_false] at hb9 ⊢; rcases hb9 with h | h | h <;> simp [h])))
            refine lv_goto (tgt := 235) hx hb dX4_raise_45 (by decide) ?_
            refine lv_aload hx hb dX4_raise_235 (lv_at hl 1 rfl) ?_
            have hT := sim1 (M' := (U1, E2)) hzz0 hn (fun _ h => h) e_a e_p1 (fun b hb9 => by
              have hc9 : b ∈ U1 ∧ ∃ x y, E' b = aC zz ee b x y := by
                rcases hb9 with h | h | h
                · exact sT_at _ hl' b h
                · exact sT_at _ hr' b h
                · exact sT_at _ hu b h
              obtain ⟨q1, q2, -⟩ := n2 b hb9
              obtain ⟨h8, x9, y9, h9⟩ := hc9
              exact hg.2 b h8 (by
                have q3 : b ≠ sa := neBM h9 e_sa0
                simp [q1, q2, q3]))
            have hsp2 : sT (U1, E2) zz ee (spz (zof t a)) := by rw [hspz, ← hsp]; exact hT
            exact eA S hr hlocks (some a) rfl hH hS ⟨rfl, C1, U1, E2, rfl, hx9, Gr.tr2 hG hg (fun b hb9 => Or.inl (by simp only [List.mem_cons, List.not_mem_nil, or_false] at hb9 ⊢; rcases hb9 with h | h | h <;> simp [h, hp1t, ha])), hsp2, by rw [e_sa, show tn + (X.length - 1) + 1 = tn + (zof t a).2.2.2.length by rw [← hXd]; omega]⟩ dX4_raise_237
          | true =>
            have hl : lv_has ls 10 [(5, .ref a), (4, .int (nI 1)), (3, .ref q), (0, .ref sa)] := hl
            have e_a : E' a = .inr (3, [.int (nI (zz a)), .int (nI (ee a)), va_rf (rt l'), va_rf (rt r')]) := e_a
            have e_p1 : E' p1 = .inr (3, [.int (nI (zz p1)), .int (nI (ee p1)), va_rf (rt u1), .ref a]) := e_p1
            have hg : Gr (U1, E') (U1, E') [sa, p1, a] := Gr.rf _ _
            refine lv_iload hx hb dX4_raise_18 (lv_at hl 1 rfl) ?_
            refine lv_if_le (tgt := 235) hx hb dX4_raise_20 (by decide) (fun h1 => absurd h1 (by decide)) (fun _ => ?_)
            refine lv_aload_n hx hb dX4_raise_23 rfl (lv_at hl 2 rfl) ?_
            refine lv_iload hx hb dX4_raise_24 (lv_at hl 1 rfl) ?_
            refine lv_iconst (v := 1) hx hb dX4_raise_26 (by decide) ?_
            refine lv_isub hx hb dX4_raise_27 ?_
            refine gQ S hK hH m_q e_q (j := 0) (nI_pred 0) (by omega) (by omega) (r := (some p1)) (hf 0 Nat.zero_lt_one) dX4_raise_28 ?_
            refine lv_astore (lv' := [(6, .ref p1), (5, .ref a), (4, .int (nI 1)), (3, .ref q), (0, .ref sa)]) hx hb dX4_raise_29 hl (by decide) rfl (fun ls hl => ?_)
            refine lv_iload hx hb dX4_raise_31 (lv_at hl 2 rfl) ?_
            refine lv_iconst (v := 1) hx hb dX4_raise_33 (by decide) ?_
            refine lv_icmp_ne (tgt := 48) hx hb dX4_raise_34 (by decide) (fun h1 => absurd h1 (fun h => h (by decide))) (fun _ => ?_)
            refine lv_aload_n hx hb dX4_raise_37 rfl (lv_at hl 4 rfl) ?_
            refine lv_aload hx hb dX4_raise_38 (lv_at hl 0 rfl) ?_
            refine lv_aload hx hb dX4_raise_40 (lv_at hl 1 rfl) ?_
            have k9_q : q ∉ [sa, p1, a] := by
              have q1 : q ≠ sa := (Ne.symm (neMQ e_sa e_q))
              have q2 : q ≠ p1 := (Ne.symm (neBQ e_p1 e_q))
              have q3 : q ≠ a := (Ne.symm (neBQ e_a e_q))
              simp [q1, q2, q3]
            have rc9 := rec9 hK hH m_sa e_sa (q := (RX4, TX4, 2)) rfl
            refine cyV S (c_X4_turnR (sa := sa) (ta := ta) (tn := (tn + (X.length - 1))) (up := p1) (own := a) (b9 := (rt l')) (c9 := (rt r')) (x := (rt u1)) (y := (some a)) (fun e9 => (n2 a (Or.inr (Or.inr (rt_mem e9)))).1 rfl) m_sa e_sa m_p1 e_p1 m_a e_a (Ne.symm n1)) (cwV 2 hts gX4_raise_X4_turn rfl rfl rfl (by decide +kernel) ⟨Nat.le_of_ble_eq_true rfl, Nat.le_of_ble_eq_true rfl⟩) hK hH hX rc9 hS rfl hl.1 rfl (by simp [cat_rf, Value.category]) dX4_raise_42 ⟨Nat.le_of_ble_eq_true rfl, Nat.le_of_ble_eq_true rfl⟩ (fun v Z1 H locs hpost hH hS => ?_)
            obtain ⟨rfl, E3, rfl, e_sa, e_p1, e_a, hg9⟩ := hpost
            have e_q : E3 q = qE Γ (X.length + 1) f' := (hg9.2 q m_q k9_q).trans e_q
            have e_p1 : E3 p1 = .inr (3, [.int (nI (zz p1)), .int (nI (ee p1)), va_rf (rt u1), va_rf (rt l')]) := e_p1
            have e_a : E3 a = .inr (3, [.int (nI (zz a)), .int (nI (ee a)), .ref p1, va_rf (rt r')]) := e_a
            have hg := hg.tr (hg9.wd (fun b hb9 => Or.inl (by simp only [List.mem_cons, List.not_mem_nil, or_false] at hb9 ⊢; rcases hb9 with h | h | h <;> simp [h])))
            refine lv_goto (tgt := 235) hx hb dX4_raise_45 (by decide) ?_
            refine lv_aload hx hb dX4_raise_235 (lv_at hl 1 rfl) ?_
            have hT := sim1 (M' := (U1, E3)) hzz0 hn (fun _ h => h) e_a e_p1 (fun b hb9 => by
              have hc9 : b ∈ U1 ∧ ∃ x y, E' b = aC zz ee b x y := by
                rcases hb9 with h | h | h
                · exact sT_at _ hl' b h
                · exact sT_at _ hr' b h
                · exact sT_at _ hu b h
              obtain ⟨q1, q2, -⟩ := n2 b hb9
              obtain ⟨h8, x9, y9, h9⟩ := hc9
              exact hg.2 b h8 (by
                have q3 : b ≠ sa := neBM h9 e_sa0
                simp [q1, q2, q3]))
            have hsp2 : sT (U1, E3) zz ee (spz (zof t a)) := by rw [hspz, ← hsp]; exact hT
            exact eA S hr hlocks (some a) rfl hH hS ⟨rfl, C1, U1, E3, rfl, hx9, Gr.tr2 hG hg (fun b hb9 => Or.inl (by simp only [List.mem_cons, List.not_mem_nil, or_false] at hb9 ⊢; rcases hb9 with h | h | h <;> simp [h, hp1t, ha])), hsp2, by rw [e_sa, show tn + (X.length - 1) + 1 = tn + (zof t a).2.2.2.length by rw [← hXd]; omega]⟩ dX4_raise_237
        | cons f X3 =>
          obtain ⟨s2, p2, u2⟩ := f
          obtain ⟨n1, n2, n3, n4⟩ := zap2 hn
          have hzz0 := hzz
          obtain ⟨⟨⟨m_a, e_a⟩, hl', hr'⟩, ⟨m_p1, e_p1⟩, hu1, ⟨m_p2, e_p2⟩, hu2, hC3⟩ := hzz
          have hlx : X3.length + 2 ≤ X.length := hlen
          have hN2 : X3.length ≤ N := by simp only [List.length_cons] at hN; omega
          have e_sa0 : E' sa = .inr (4, [.ref ta, .int (nI (tn + (X.length - (X3.length + 2))))]) := e_sa
          have e_sa := e_sa0
          have hf1 : f' (X3.length + 1) = some p1 := by rw [hf _ (by simp), anc_cons, anc_cons, List.getElem?_append_right (by simp [anc_len])]; simp [anc_len]
          have hf2 : f' X3.length = some p2 := by rw [hf _ (by simp; omega), anc_cons, List.getElem?_append_left (by simp [anc_len, anc_cons]), anc_cons, List.getElem?_append_right (by simp [anc_len])]; simp [anc_len]
          have hf0 : ∀ i, i < X3.length → f' i = (anc X3)[i]? := fun i hi => by rw [hf i (by simp only [List.length_cons]; omega), anc_cons, anc_cons, List.append_assoc, List.getElem?_append_left (by rw [anc_len]; exact hi)]
          have hup : ∀ i, i < X3.length → va_up f' X3.length (some a) i = (anc X3)[i]? := fun i hi => (va_up_ne _ _ (by omega)).trans (hf0 i hi)
          have hpt : p1 ∈ tids t ∧ p2 ∈ tids t ∧ ∀ b, b ∈ cL X3 ∨ b ∈ cR X3 → b ∈ tids t := by
            rw [← htids, plug, plug, tids_plug]
            refine ⟨?_, ?_, fun b hb9 => ?_⟩
            · cases s1 <;> cases s2 <;> simp [nd, tids]
            · cases s1 <;> cases s2 <;> simp [nd, tids]
            · rcases hb9 with h | h <;> simp [h]
          have x21 : rt u2 ≠ some p1 := fun e9 => (n2 p1 (Or.inr (Or.inr (Or.inr (rt_mem e9))))).2.1 rfl
          have x2a : rt u2 ≠ some a := fun e9 => (n2 a (Or.inr (Or.inr (Or.inr (rt_mem e9))))).1 rfl
          have x1a : rt u1 ≠ some a := fun e9 => (n2 a (Or.inr (Or.inr (Or.inl (rt_mem e9))))).1 rfl
          have e_q0 := e_q
          cases s1 with
          | false =>
            cases s2 with
            | false =>
              cases X3 with
              | nil =>
                have hl : lv_has ls 10 [(5, .ref a), (4, .int (nI (([] : Cx).length + 2))), (3, .ref q), (0, .ref sa)] := hl
                have e_a : E' a = .inr (3, [.int (nI (zz a)), .int (nI (ee a)), va_rf (rt l'), va_rf (rt r')]) := e_a
                have e_p1 : E' p1 = .inr (3, [.int (nI (zz p1)), .int (nI (ee p1)), .ref a, va_rf (rt u1)]) := e_p1
                have e_p2 : E' p2 = .inr (3, [.int (nI (zz p2)), .int (nI (ee p2)), .ref p1, va_rf (rt u2)]) := e_p2
                have e_sa : E' sa = .inr (4, [.ref ta, .int (nI (tn + (X.length - (([] : Cx).length + 2))))]) := e_sa0
                have hg : Gr (U1, E') (U1, E') [sa, q, a, p1, p2] := Gr.rf _ _
                have w_sa : sa ∈ [sa, q, a, p1, p2] := by simp
                have w_q : q ∈ [sa, q, a, p1, p2] := by simp
                have w_a : a ∈ [sa, q, a, p1, p2] := by simp
                have w_p1 : p1 ∈ [sa, q, a, p1, p2] := by simp
                have w_p2 : p2 ∈ [sa, q, a, p1, p2] := by simp
                refine lv_iload hx hb dX4_raise_18 (lv_at hl 1 rfl) ?_
                refine lv_if_le (tgt := 235) hx hb dX4_raise_20 (by decide) (fun h1 => absurd h1 (nI_nle (by omega) (by omega))) (fun _ => ?_)
                refine lv_aload_n hx hb dX4_raise_23 rfl (lv_at hl 2 rfl) ?_
                refine lv_iload hx hb dX4_raise_24 (lv_at hl 1 rfl) ?_
                refine lv_iconst (v := 1) hx hb dX4_raise_26 (by decide) ?_
                refine lv_isub hx hb dX4_raise_27 ?_
                refine gQ S hK hH m_q e_q (j := (([] : Cx).length + 1)) (nI_pred (([] : Cx).length + 1)) (by omega) (by omega) (r := (some p1)) hf1 dX4_raise_28 ?_
                refine lv_astore (lv' := [(6, .ref p1), (5, .ref a), (4, .int (nI (([] : Cx).length + 2))), (3, .ref q), (0, .ref sa)]) hx hb dX4_raise_29 hl (by decide) rfl (fun ls hl => ?_)
                refine lv_iload hx hb dX4_raise_31 (lv_at hl 2 rfl) ?_
                refine lv_iconst (v := 1) hx hb dX4_raise_33 (by decide) ?_
                refine lv_icmp_ne (tgt := 48) hx hb dX4_raise_34 (by decide) (fun _ => ?_) (fun h1 => absurd h1 (fun e9 => by have := (nI_eq (b := 1) (by omega) (by omega)).mp e9; omega))
                refine lv_aload_n hx hb dX4_raise_48 rfl (lv_at hl 3 rfl) ?_
                refine lv_iload hx hb dX4_raise_49 (lv_at hl 2 rfl) ?_
                refine lv_iconst (v := 2) hx hb dX4_raise_51 (by decide) ?_
                refine lv_isub hx hb dX4_raise_52 ?_
                refine gQ S hK hH m_q e_q (j := ([] : Cx).length) (nI_sub ([] : Cx).length 2) (by omega) (by omega) (r := (some p2)) hf2 dX4_raise_53 ?_
                refine lv_astore (lv' := [(7, .ref p2), (6, .ref p1), (5, .ref a), (4, .int (nI (([] : Cx).length + 2))), (3, .ref q), (0, .ref sa)]) hx hb dX4_raise_54 hl (by decide) rfl (fun ls hl => ?_)
                refine lv_iload hx hb dX4_raise_56 (lv_at hl 3 rfl) ?_
                refine lv_iconst (v := 2) hx hb dX4_raise_58 (by decide) ?_
                refine lv_icmp_le (tgt := 71) hx hb dX4_raise_59 (by decide) (fun _ => ?_) (fun h1 => absurd (by decide) h1)
                refine lv_null hx hb dX4_raise_71 ?_
                refine lv_astoreN (lv' := [(8, .null), (7, .ref p2), (6, .ref p1), (5, .ref a), (4, .int (nI (([] : Cx).length + 2))), (3, .ref q), (0, .ref sa)]) hx hb dX4_raise_72 hl (by decide) rfl (fun ls hl => ?_)
                refine lv_aloadN hx hb dX4_raise_74 (lv_at hl 0 rfl) ?_
                refine lv_ifnullN hx hb dX4_raise_76 (tgt := 93) (by decide) ?_
                refine lv_iconst (v := 0) hx hb dX4_raise_93 (by decide) ?_
                refine lv_istore (lv' := [(9, .int 0), (8, .null), (7, .ref p2), (6, .ref p1), (5, .ref a), (4, .int (nI (([] : Cx).length + 2))), (3, .ref q), (0, .ref sa)]) hx hb dX4_raise_94 hl (by decide) rfl (fun ls hl => ?_)
                refine lv_aload hx hb dX4_raise_96 (lv_at hl 2 rfl) ?_
                refine gB S hi3 hK hH m_p2 e_p2 2 (by decide) f33 (v := .ref p1) rfl dX4_raise_98 ?_
                refine lv_aload hx hb dX4_raise_101 (lv_at hl 3 rfl) ?_
                refine lv_acmp_ne (rx := some p1) (ry := some p1) (tgt := 110) hx hb dX4_raise_103 (by decide) (fun hq => absurd rfl hq) (fun _ => ?_)
                refine lv_iconst (v := 1) hx hb dX4_raise_106 (by decide) ?_
                refine lv_goto (tgt := 111) hx hb dX4_raise_107 (by decide) ?_
                refine lv_aload hx hb dX4_raise_111 (lv_at hl 3 rfl) ?_
                refine gB S hi3 hK hH m_p1 e_p1 2 (by decide) f33 (v := .ref a) rfl dX4_raise_113 ?_
                refine lv_aload hx hb dX4_raise_116 (lv_at hl 4 rfl) ?_
                refine lv_acmp_ne (rx := some a) (ry := some a) (tgt := 125) hx hb dX4_raise_118 (by decide) (fun hq => absurd rfl hq) (fun _ => ?_)
                refine lv_iconst (v := 1) hx hb dX4_raise_121 (by decide) ?_
                refine lv_goto (tgt := 126) hx hb dX4_raise_122 (by decide) ?_
                refine lv_icmp_ne (tgt := 148) hx hb dX4_raise_126 (by decide) (fun h1 => absurd h1 (fun h => h rfl)) (fun _ => ?_)
                refine lv_aload_n hx hb dX4_raise_129 rfl (lv_at hl 7 rfl) ?_
                refine lv_aload hx hb dX4_raise_130 (lv_at hl 2 rfl) ?_
                refine lv_aload hx hb dX4_raise_132 (lv_at hl 3 rfl) ?_
                have k9_a : a ∉ [sa, p2, p1] := by
                  have q1 : a ≠ sa := (neBM e_a e_sa)
                  have q2 : a ≠ p2 := n1.2.1
                  have q3 : a ≠ p1 := n1.1
                  simp [q1, q2, q3]
                have k9_q : q ∉ [sa, p2, p1] := by
                  have q1 : q ≠ sa := (Ne.symm (neMQ e_sa e_q))
                  have q2 : q ≠ p2 := (Ne.symm (neBQ e_p2 e_q))
                  have q3 : q ≠ p1 := (Ne.symm (neBQ e_p1 e_q))
                  simp [q1, q2, q3]
                have rc9 := rec9 hK hH m_sa e_sa (q := (RX4, TX4, 2)) rfl
                refine cyV S (c_X4_turnL (sa := sa) (ta := ta) (tn := (tn + (X.length - (([] : Cx).length + 2)))) (up := p2) (own := p1) (b9 := (some a)) (c9 := (rt u1)) (y := (rt u2)) m_sa e_sa m_p2 e_p2 m_p1 e_p1 (Ne.symm n1.2.2)) (cwV 2 hts gX4_raise_X4_turn rfl rfl rfl (by decide +kernel) ⟨Nat.le_of_ble_eq_true rfl, Nat.le_of_ble_eq_true rfl⟩) hK hH hX rc9 hS rfl hl.1 rfl (by simp [cat_rf, Value.category]) dX4_raise_134 ⟨Nat.le_of_ble_eq_true rfl, Nat.le_of_ble_eq_true rfl⟩ (fun v Z1 H locs hpost hH hS => ?_)
                obtain ⟨rfl, E4, rfl, e_sa, e_p2, e_p1, hg9⟩ := hpost
                have e_a : E4 a = .inr (3, [.int (nI (zz a)), .int (nI (ee a)), va_rf (rt l'), va_rf (rt r')]) := (hg9.2 a m_a k9_a).trans e_a
                have e_q : E4 q = qE Γ (X.length + 1) f' := (hg9.2 q m_q k9_q).trans e_q
                have e_p2 : E4 p2 = .inr (3, [.int (nI (zz p2)), .int (nI (ee p2)), va_rf (rt u1), va_rf (rt u2)]) := e_p2
                have e_p1 : E4 p1 = .inr (3, [.int (nI (zz p1)), .int (nI (ee p1)), .ref a, .ref p2]) := e_p1
                have hg := hg.tr (hg9.wd (fun b hb9 => Or.inl (by simp only [List.mem_cons, List.not_mem_nil, or_false] at hb9 ⊢; rcases hb9 with h | h | h <;> simp [h])))
                refine lv_aload_n hx hb dX4_raise_137 rfl (lv_at hl 7 rfl) ?_
                refine lv_aload hx hb dX4_raise_138 (lv_at hl 3 rfl) ?_
                refine lv_aload hx hb dX4_raise_140 (lv_at hl 4 rfl) ?_
                have k9_p2 : p2 ∉ [sa, p1, a] := by
                  have q1 : p2 ≠ sa := (neBM e_p2 e_sa)
                  have q2 : p2 ≠ p1 := (Ne.symm n1.2.2)
                  have q3 : p2 ≠ a := (Ne.symm n1.2.1)
                  simp [q1, q2, q3]
                have k9_q : q ∉ [sa, p1, a] := by
                  have q1 : q ≠ sa := (Ne.symm (neMQ e_sa e_q))
                  have q2 : q ≠ p1 := (Ne.symm (neBQ e_p1 e_q))
                  have q3 : q ≠ a := (Ne.symm (neBQ e_a e_q))
                  simp [q1, q2, q3]
                have rc9 := rec9 hK hH m_sa e_sa (q := (RX4, TX4, 2)) rfl
                refine cyV S (c_X4_turnL (sa := sa) (ta := ta) (tn := ((tn + (X.length - (([] : Cx).length + 2))) + 1)) (up := p1) (own := a) (b9 := (rt l')) (c9 := (rt r')) (y := (some p2)) m_sa e_sa m_p1 e_p1 m_a e_a (Ne.symm n1.1)) (cwV 2 hts gX4_raise_X4_turn rfl rfl rfl (by decide +kernel) ⟨Nat.le_of_ble_eq_true rfl, Nat.le_of_ble_eq_true rfl⟩) hK hH hX rc9 hS rfl hl.1 rfl (by simp [cat_rf, Value.category]) dX4_raise_142 ⟨Nat.le_of_ble_eq_true rfl, Nat.le_of_ble_eq_true rfl⟩ (fun v Z1 H locs hpost hH hS => ?_)
                obtain ⟨rfl, E5, rfl, e_sa, e_p1, e_a, hg9⟩ := hpost
                have e_p2 : E5 p2 = .inr (3, [.int (nI (zz p2)), .int (nI (ee p2)), va_rf (rt u1), va_rf (rt u2)]) := (hg9.2 p2 m_p2 k9_p2).trans e_p2
                have e_q : E5 q = qE Γ (X.length + 1) f' := (hg9.2 q m_q k9_q).trans e_q
                have e_p1 : E5 p1 = .inr (3, [.int (nI (zz p1)), .int (nI (ee p1)), va_rf (rt r'), .ref p2]) := e_p1
                have e_a : E5 a = .inr (3, [.int (nI (zz a)), .int (nI (ee a)), va_rf (rt l'), .ref p1]) := e_a
                have hg := hg.tr (hg9.wd (fun b hb9 => Or.inl (by simp only [List.mem_cons, List.not_mem_nil, or_false] at hb9 ⊢; rcases hb9 with h | h | h <;> simp [h])))
                refine lv_goto (tgt := 191) hx hb dX4_raise_145 (by decide) ?_
                refine lv_aloadN hx hb dX4_raise_191 (lv_at hl 1 rfl) ?_
                refine lv_ifnullN hx hb dX4_raise_193 (tgt := 211) (by decide) ?_
                refine lv_aloadN hx hb dX4_raise_211 (lv_at hl 1 rfl) ?_
                refine lv_ifnullN hx hb dX4_raise_213 (tgt := 223) (by decide) ?_
                refine lv_iinc (v := nI (([] : Cx).length)) (lv' := [(4, .int (nI (([] : Cx).length))), (9, .int 0), (8, .null), (7, .ref p2), (6, .ref p1), (5, .ref a), (3, .ref q), (0, .ref sa)]) hx hb dX4_raise_223 hl (k := 5) rfl (nI_m2 (([] : Cx).length)) (by decide) rfl (fun ls hl => ?_)
                refine lv_aload_n hx hb dX4_raise_226 rfl (lv_at hl 6 rfl) ?_
                refine lv_iload hx hb dX4_raise_227 (lv_at hl 0 rfl) ?_
                refine lv_aload hx hb dX4_raise_229 (lv_at hl 5 rfl) ?_
                have n9_a : a ≠ q := (neBQ e_a e_q)
                have n9_p1 : p1 ≠ q := (neBQ e_p1 e_q)
                have n9_p2 : p2 ≠ q := (neBQ e_p2 e_q)
                have n9_sa : sa ≠ q := (neMQ e_sa e_q)
                refine pQ S hK hH hS m_q e_q (j := ([] : Cx).length) rfl (by omega) (by omega) (some a) (fun b h => by cases h; exact ⟨m_a, _, e_a⟩) rfl dX4_raise_231 (fun E6 H locs e_q ho hH hS => ?_)
                have e_a : E6 a = .inr (3, [.int (nI (zz a)), .int (nI (ee a)), va_rf (rt l'), .ref p1]) := (ho a n9_a).trans e_a
                have e_p1 : E6 p1 = .inr (3, [.int (nI (zz p1)), .int (nI (ee p1)), va_rf (rt r'), .ref p2]) := (ho p1 n9_p1).trans e_p1
                have e_p2 : E6 p2 = .inr (3, [.int (nI (zz p2)), .int (nI (ee p2)), va_rf (rt u1), va_rf (rt u2)]) := (ho p2 n9_p2).trans e_p2
                have e_sa : E6 sa = .inr (4, [.ref ta, .int (nI (((tn + (X.length - (([] : Cx).length + 2))) + 1) + 1))]) := (ho sa n9_sa).trans e_sa
                have hg := hg.put w_q ho
                refine lv_goto (tgt := 18) hx hb dX4_raise_232 (by decide) ?_
                obtain ⟨l2, r2, q1, q2, q3⟩ := sim2 (M' := (U1, E6)) hzz0 hn (fun _ h => h) e_a e_p1 e_p2 (fun _ _ _ _ h => by cases h) (fun b hb1 hb2 hb3 hb4 hb5 hb6 => by
                  obtain ⟨x9, h9⟩ := hb6
                  exact hg.2 b hb5 (by
                    have q4 : b ≠ sa := neBM h9 e_sa0
                    have q5 : b ≠ q := neBQ h9 e_q0
                    simp [hb1, hb2, hb3, q4, q5]))
                exact ih _ l2 r2 E6 _ hN2 q2 (by rw [q3]; exact hn) (q1.symm.trans hsp) (q3.trans htids) (by omega) (by rw [e_sa, show (tn + (X.length - (([] : Cx).length + 2))) + 1 + 1 = tn + (X.length - ([] : Cx).length) by omega] <;> rfl) e_q hup (Gr.tr2 hG hg (fun b hb9 => by
                  simp only [List.mem_cons, List.not_mem_nil, or_false] at hb9 ⊢
                  rcases hb9 with h | h | h | h | h
                  · exact Or.inl (Or.inl h)
                  · exact Or.inr (by rw [h]; exact fr9)
                  · exact Or.inl (Or.inr (by rw [h]; exact ha))
                  · exact Or.inl (Or.inr (by rw [h]; exact hpt.1))
                  · exact Or.inl (Or.inr (by rw [h]; exact hpt.2.1)))) H locs hH hS ls (lv_sub hl [5, 0, 6, 7] rfl)
              | cons f X4 =>
                obtain ⟨s3, p3, u3⟩ := f
                obtain ⟨⟨m_p3, e_p3⟩, hu3, hC4⟩ := hC3
                have hp3 : p3 ∈ cL ((s3, p3, u3) :: X4) ∨ p3 ∈ cR ((s3, p3, u3) :: X4) := parC_mem rfl
                have d3 : p3 ≠ a ∧ p3 ≠ p1 ∧ p3 ≠ p2 := by
                  refine ⟨?_, ?_, ?_⟩ <;> rintro rfl <;> rcases hp3 with h | h
                  · exact n3.1 h
                  · exact n3.2.1 h
                  · exact n3.2.2.1 h
                  · exact n3.2.2.2.1 h
                  · exact n3.2.2.2.2.1 h
                  · exact n3.2.2.2.2.2 h
                have hf3 : f' X4.length = some p3 := by rw [hf0 _ (by simp), anc_cons, List.getElem?_append_right (by simp [anc_len])]; simp [anc_len]
                have hlx : X4.length + 1 + 2 ≤ X.length := hlx
                cases s3 with
                | false =>
                  have hl : lv_has ls 10 [(5, .ref a), (4, .int (nI ((X4.length + 1) + 2))), (3, .ref q), (0, .ref sa)] := hl
                  have e_a : E' a = .inr (3, [.int (nI (zz a)), .int (nI (ee a)), va_rf (rt l'), va_rf (rt r')]) := e_a
                  have e_p1 : E' p1 = .inr (3, [.int (nI (zz p1)), .int (nI (ee p1)), .ref a, va_rf (rt u1)]) := e_p1
                  have e_p2 : E' p2 = .inr (3, [.int (nI (zz p2)), .int (nI (ee p2)), .ref p1, va_rf (rt u2)]) := e_p2
                  have e_p3 : E' p3 = .inr (3, [.int (nI (zz p3)), .int (nI (ee p3)), .ref p2, va_rf (rt u3)]) := e_p3
                  have e_sa : E' sa = .inr (4, [.ref ta, .int (nI (tn + (X.length - ((X4.length + 1) + 2))))]) := e_sa0
                  have hg : Gr (U1, E') (U1, E') [sa, q, a, p1, p2, p3] := Gr.rf _ _
                  have w_sa : sa ∈ [sa, q, a, p1, p2, p3] := by simp
                  have w_q : q ∈ [sa, q, a, p1, p2, p3] := by simp
                  have w_a : a ∈ [sa, q, a, p1, p2, p3] := by simp
                  have w_p1 : p1 ∈ [sa, q, a, p1, p2, p3] := by simp
                  have w_p2 : p2 ∈ [sa, q, a, p1, p2, p3] := by simp
                  have w_p3 : p3 ∈ [sa, q, a, p1, p2, p3] := by simp
                  refine lv_iload hx hb dX4_raise_18 (lv_at hl 1 rfl) ?_
                  refine lv_if_le (tgt := 235) hx hb dX4_raise_20 (by decide) (fun h1 => absurd h1 (nI_nle (by omega) (by omega))) (fun _ => ?_)
                  refine lv_aload_n hx hb dX4_raise_23 rfl (lv_at hl 2 rfl) ?_
                  refine lv_iload hx hb dX4_raise_24 (lv_at hl 1 rfl) ?_
                  refine lv_iconst (v := 1) hx hb dX4_raise_26 (by decide) ?_
                  refine lv_isub hx hb dX4_raise_27 ?_
                  refine gQ S hK hH m_q e_q (j := ((X4.length + 1) + 1)) (nI_pred ((X4.length + 1) + 1)) (by omega) (by omega) (r := (some p1)) hf1 dX4_raise_28 ?_
                  refine lv_astore (lv' := [(6, .ref p1), (5, .ref a), (4, .int (nI ((X4.length + 1) + 2))), (3, .ref q), (0, .ref sa)]) hx hb dX4_raise_29 hl (by decide) rfl (fun ls hl => ?_)
                  refine lv_iload hx hb dX4_raise_31 (lv_at hl 2 rfl) ?_
                  refine lv_iconst (v := 1) hx hb dX4_raise_33 (by decide) ?_
                  refine lv_icmp_ne (tgt := 48) hx hb dX4_raise_34 (by decide) (fun _ => ?_) (fun h1 => absurd h1 (fun e9 => by have := (nI_eq (b := 1) (by omega) (by omega)).mp e9; omega))
                  refine lv_aload_n hx hb dX4_raise_48 rfl (lv_at hl 3 rfl) ?_
                  refine lv_iload hx hb dX4_raise_49 (lv_at hl 2 rfl) ?_
                  refine lv_iconst (v := 2) hx hb dX4_raise_51 (by decide) ?_
                  refine lv_isub hx hb dX4_raise_52 ?_
                  refine gQ S hK hH m_q e_q (j := (X4.length + 1)) (nI_sub (X4.length + 1) 2) (by omega) (by omega) (r := (some p2)) hf2 dX4_raise_53 ?_
                  refine lv_astore (lv' := [(7, .ref p2), (6, .ref p1), (5, .ref a), (4, .int (nI ((X4.length + 1) + 2))), (3, .ref q), (0, .ref sa)]) hx hb dX4_raise_54 hl (by decide) rfl (fun ls hl => ?_)
                  refine lv_iload hx hb dX4_raise_56 (lv_at hl 3 rfl) ?_
                  refine lv_iconst (v := 2) hx hb dX4_raise_58 (by decide) ?_
                  refine lv_icmp_le (tgt := 71) hx hb dX4_raise_59 (by decide) (fun h1 => absurd h1 (fun e9 => by have := (nI_leI (b := 2) (by omega) (by omega)).mp e9; omega)) (fun _ => ?_)
                  refine lv_aload_n hx hb dX4_raise_62 rfl (lv_at hl 4 rfl) ?_
                  refine lv_iload hx hb dX4_raise_63 (lv_at hl 3 rfl) ?_
                  refine lv_iconst (v := 3) hx hb dX4_raise_65 (by decide) ?_
                  refine lv_isub hx hb dX4_raise_66 ?_
                  refine gQ S hK hH m_q e_q (j := X4.length) (nI_sub X4.length 3) (by omega) (by omega) (r := (some p3)) hf3 dX4_raise_67 ?_
                  refine lv_goto (tgt := 72) hx hb dX4_raise_68 (by decide) ?_
                  refine lv_astore (lv' := [(8, .ref p3), (7, .ref p2), (6, .ref p1), (5, .ref a), (4, .int (nI ((X4.length + 1) + 2))), (3, .ref q), (0, .ref sa)]) hx hb dX4_raise_72 hl (by decide) rfl (fun ls hl => ?_)
                  refine lv_aload hx hb dX4_raise_74 (lv_at hl 0 rfl) ?_
                  refine lv_ifnull hx hb dX4_raise_76 ?_
                  refine lv_aload hx hb dX4_raise_79 (lv_at hl 0 rfl) ?_
                  refine gB S hi3 hK hH m_p3 e_p3 2 (by decide) f33 (v := .ref p2) rfl dX4_raise_81 ?_
                  refine lv_aload hx hb dX4_raise_84 (lv_at hl 1 rfl) ?_
                  refine lv_acmp_ne (rx := some p2) (ry := some p2) (tgt := 93) hx hb dX4_raise_86 (by decide) (fun hq => absurd rfl hq) (fun _ => ?_)
                  refine lv_iconst (v := 1) hx hb dX4_raise_89 (by decide) ?_
                  refine lv_goto (tgt := 94) hx hb dX4_raise_90 (by decide) ?_
                  refine lv_istore (lv' := [(9, .int 1), (8, .ref p3), (7, .ref p2), (6, .ref p1), (5, .ref a), (4, .int (nI ((X4.length + 1) + 2))), (3, .ref q), (0, .ref sa)]) hx hb dX4_raise_94 hl (by decide) rfl (fun ls hl => ?_)
                  refine lv_aload hx hb dX4_raise_96 (lv_at hl 2 rfl) ?_
                  refine gB S hi3 hK hH m_p2 e_p2 2 (by decide) f33 (v := .ref p1) rfl dX4_raise_98 ?_
                  refine lv_aload hx hb dX4_raise_101 (lv_at hl 3 rfl) ?_
                  refine lv_acmp_ne (rx := some p1) (ry := some p1) (tgt := 110) hx hb dX4_raise_103 (by decide) (fun hq => absurd rfl hq) (fun _ => ?_)
                  refine lv_iconst (v := 1) hx hb dX4_raise_106 (by decide) ?_
                  refine lv_goto (tgt := 111) hx hb dX4_raise_107 (by decide) ?_
                  refine lv_aload hx hb dX4_raise_111 (lv_at hl 3 rfl) ?_
                  refine gB S hi3 hK hH m_p1 e_p1 2 (by decide) f33 (v := .ref a) rfl dX4_raise_113 ?_
                  refine lv_aload hx hb dX4_raise_116 (lv_at hl 4 rfl) ?_
                  refine lv_acmp_ne (rx := some a) (ry := some a) (tgt := 125) hx hb dX4_raise_118 (by decide) (fun hq => absurd rfl hq) (fun _ => ?_)
                  refine lv_iconst (v := 1) hx hb dX4_raise_121 (by decide) ?_
                  refine lv_goto (tgt := 126) hx hb dX4_raise_122 (by decide) ?_
                  refine lv_icmp_ne (tgt := 148) hx hb dX4_raise_126 (by decide) (fun h1 => absurd h1 (fun h => h rfl)) (fun _ => ?_)
                  refine lv_aload_n hx hb dX4_raise_129 rfl (lv_at hl 7 rfl) ?_
                  refine lv_aload hx hb dX4_raise_130 (lv_at hl 2 rfl) ?_
                  refine lv_aload hx hb dX4_raise_132 (lv_at hl 3 rfl) ?_
                  have k9_a : a ∉ [sa, p2, p1] := by
                    have q1 : a ≠ sa := (neBM e_a e_sa)
                    have q2 : a ≠ p2 := n1.2.1
                    have q3 : a ≠ p1 := n1.1
                    simp [q1, q2, q3]
                  have k9_p3 : p3 ∉ [sa, p2, p1] := by
                    have q1 : p3 ≠ sa := (neBM e_p3 e_sa)
                    have q2 : p3 ≠ p2 := d3.2.2
                    have q3 : p3 ≠ p1 := d3.2.1
                    simp [q1, q2, q3]
                  have k9_q : q ∉ [sa, p2, p1] := by
                    have q1 : q ≠ sa := (Ne.symm (neMQ e_sa e_q))
                    have q2 : q ≠ p2 := (Ne.symm (neBQ e_p2 e_q))
                    have q3 : q ≠ p1 := (Ne.symm (neBQ e_p1 e_q))
                    simp [q1, q2, q3]
                  have rc9 := rec9 hK hH m_sa e_sa (q := (RX4, TX4, 2)) rfl
                  refine cyV S (c_X4_turnL (sa := sa) (ta := ta) (tn := (tn + (X.length - ((X4.length + 1) + 2)))) (up := p2) (own := p1) (b9 := (some a)) (c9 := (rt u1)) (y := (rt u2)) m_sa e_sa m_p2 e_p2 m_p1 e_p1 (Ne.symm n1.2.2)) (cwV 2 hts gX4_raise_X4_turn rfl rfl rfl (by decide +kernel) ⟨Nat.le_of_ble_eq_true rfl, Nat.le_of_ble_eq_true rfl⟩) hK hH hX rc9 hS rfl hl.1 rfl (by simp [cat_rf, Value.category]) dX4_raise_134 ⟨Nat.le_of_ble_eq_true rfl, Nat.le_of_ble_eq_true rfl⟩ (fun v Z1 H locs hpost hH hS => ?_)
                  obtain ⟨rfl, E7, rfl, e_sa, e_p2, e_p1, hg9⟩ := hpost
                  have e_a : E7 a = .inr (3, [.int (nI (zz a)), .int (nI (ee a)), va_rf (rt l'), va_rf (rt r')]) := (hg9.2 a m_a k9_a).trans e_a
                  have e_p3 : E7 p3 = .inr (3, [.int (nI (zz p3)), .int (nI (ee p3)), .ref p2, va_rf (rt u3)]) := (hg9.2 p3 m_p3 k9_p3).trans e_p3
                  have e_q : E7 q = qE Γ (X.length + 1) f' := (hg9.2 q m_q k9_q).trans e_q
                  have e_p2 : E7 p2 = .inr (3, [.int (nI (zz p2)), .int (nI (ee p2)), va_rf (rt u1), va_rf (rt u2)]) := e_p2
                  have e_p1 : E7 p1 = .inr (3, [.int (nI (zz p1)), .int (nI (ee p1)), .ref a, .ref p2]) := e_p1
                  have hg := hg.tr (hg9.wd (fun b hb9 => Or.inl (by simp only [List.mem_cons, List.not_mem_nil, or_false] at hb9 ⊢; rcases hb9 with h | h | h <;> simp [h])))
                  refine lv_aload_n hx hb dX4_raise_137 rfl (lv_at hl 7 rfl) ?_
                  refine lv_aload hx hb dX4_raise_138 (lv_at hl 3 rfl) ?_
                  refine lv_aload hx hb dX4_raise_140 (lv_at hl 4 rfl) ?_
                  have k9_p2 : p2 ∉ [sa, p1, a] := by
                    have q1 : p2 ≠ sa := (neBM e_p2 e_sa)
                    have q2 : p2 ≠ p1 := (Ne.symm n1.2.2)
                    have q3 : p2 ≠ a := (Ne.symm n1.2.1)
                    simp [q1, q2, q3]
                  have k9_p3 : p3 ∉ [sa, p1, a] := by
                    have q1 : p3 ≠ sa := (neBM e_p3 e_sa)
                    have q2 : p3 ≠ p1 := d3.2.1
                    have q3 : p3 ≠ a := d3.1
                    simp [q1, q2, q3]
                  have k9_q : q ∉ [sa, p1, a] := by
                    have q1 : q ≠ sa := (Ne.symm (neMQ e_sa e_q))
                    have q2 : q ≠ p1 := (Ne.symm (neBQ e_p1 e_q))
                    have q3 : q ≠ a := (Ne.symm (neBQ e_a e_q))
                    simp [q1, q2, q3]
                  have rc9 := rec9 hK hH m_sa e_sa (q := (RX4, TX4, 2)) rfl
                  refine cyV S (c_X4_turnL (sa := sa) (ta := ta) (tn := ((tn + (X.length - ((X4.length + 1) + 2))) + 1)) (up := p1) (own := a) (b9 := (rt l')) (c9 := (rt r')) (y := (some p2)) m_sa e_sa m_p1 e_p1 m_a e_a (Ne.symm n1.1)) (cwV 2 hts gX4_raise_X4_turn rfl rfl rfl (by decide +kernel) ⟨Nat.le_of_ble_eq_true rfl, Nat.le_of_ble_eq_true rfl⟩) hK hH hX rc9 hS rfl hl.1 rfl (by simp [cat_rf, Value.category]) dX4_raise_142 ⟨Nat.le_of_ble_eq_true rfl, Nat.le_of_ble_eq_true rfl⟩ (fun v Z1 H locs hpost hH hS => ?_)
                  obtain ⟨rfl, E8, rfl, e_sa, e_p1, e_a, hg9⟩ := hpost
                  have e_p2 : E8 p2 = .inr (3, [.int (nI (zz p2)), .int (nI (ee p2)), va_rf (rt u1), va_rf (rt u2)]) := (hg9.2 p2 m_p2 k9_p2).trans e_p2
                  have e_p3 : E8 p3 = .inr (3, [.int (nI (zz p3)), .int (nI (ee p3)), .ref p2, va_rf (rt u3)]) := (hg9.2 p3 m_p3 k9_p3).trans e_p3
                  have e_q : E8 q = qE Γ (X.length + 1) f' := (hg9.2 q m_q k9_q).trans e_q
                  have e_p1 : E8 p1 = .inr (3, [.int (nI (zz p1)), .int (nI (ee p1)), va_rf (rt r'), .ref p2]) := e_p1
                  have e_a : E8 a = .inr (3, [.int (nI (zz a)), .int (nI (ee a)), va_rf (rt l'), .ref p1]) := e_a
                  have hg := hg.tr (hg9.wd (fun b hb9 => Or.inl (by simp only [List.mem_cons, List.not_mem_nil, or_false] at hb9 ⊢; rcases hb9 with h | h | h <;> simp [h])))
                  refine lv_goto (tgt := 191) hx hb dX4_raise_145 (by decide) ?_
                  refine lv_aload hx hb dX4_raise_191 (lv_at hl 1 rfl) ?_
                  refine lv_ifnull hx hb dX4_raise_193 ?_
                  refine lv_iload hx hb dX4_raise_196 (lv_at hl 0 rfl) ?_
                  refine lv_if_eq (tgt := 211) hx hb dX4_raise_198 (by decide) (fun h1 => absurd h1 (by decide)) (fun _ => ?_)
                  refine lv_aload hx hb dX4_raise_201 (lv_at hl 1 rfl) ?_
                  refine lv_aload hx hb dX4_raise_203 (lv_at hl 4 rfl) ?_
                  have n9_a : a ≠ p3 := (Ne.symm d3.1)
                  have n9_p1 : p1 ≠ p3 := (Ne.symm d3.2.1)
                  have n9_p2 : p2 ≠ p3 := (Ne.symm d3.2.2)
                  have n9_sa : sa ≠ p3 := (Ne.symm (neBM e_p3 e_sa))
                  have n9_q : q ≠ p3 := (Ne.symm (neBQ e_p3 e_q))
                  refine pBr S hi3 hK hH hS m_p3 e_p3 2 (by decide) f33 (some a) rfl dX4_raise_205 rfl (fun E9 H locs e_p3 ho hH hS => ?_)
                  have e_p3 : E9 p3 = .inr (3, [.int (nI (zz p3)), .int (nI (ee p3)), .ref a, va_rf (rt u3)]) := e_p3
                  have e_a : E9 a = .inr (3, [.int (nI (zz a)), .int (nI (ee a)), va_rf (rt l'), .ref p1]) := (ho a n9_a).trans e_a
                  have e_p1 : E9 p1 = .inr (3, [.int (nI (zz p1)), .int (nI (ee p1)), va_rf (rt r'), .ref p2]) := (ho p1 n9_p1).trans e_p1
                  have e_p2 : E9 p2 = .inr (3, [.int (nI (zz p2)), .int (nI (ee p2)), va_rf (rt u1), va_rf (rt u2)]) := (ho p2 n9_p2).trans e_p2
                  have e_sa : E9 sa = .inr (4, [.ref ta, .int (nI (((tn + (X.length - ((X4.length + 1) + 2))) + 1) + 1))]) := (ho sa n9_sa).trans e_sa
                  have e_q : E9 q = qE Γ (X.length + 1) f' := (ho q n9_q).trans e_q
                  have hg := hg.put w_p3 ho
                  refine lv_goto (tgt := 223) hx hb dX4_raise_208 (by decide) ?_
                  refine lv_iinc (v := nI (X4.length + 1)) (lv' := [(4, .int (nI (X4.length + 1))), (9, .int 1), (8, .ref p3), (7, .ref p2), (6, .ref p1), (5, .ref a), (3, .ref q), (0, .ref sa)]) hx hb dX4_raise_223 hl (k := 5) rfl (nI_m2 (X4.length + 1)) (by decide) rfl (fun ls hl => ?_)
                  refine lv_aload_n hx hb dX4_raise_226 rfl (lv_at hl 6 rfl) ?_
                  refine lv_iload hx hb dX4_raise_227 (lv_at hl 0 rfl) ?_
                  refine lv_aload hx hb dX4_raise_229 (lv_at hl 5 rfl) ?_
                  have n9_a : a ≠ q := (neBQ e_a e_q)
                  have n9_p1 : p1 ≠ q := (neBQ e_p1 e_q)
                  have n9_p2 : p2 ≠ q := (neBQ e_p2 e_q)
                  have n9_p3 : p3 ≠ q := (neBQ e_p3 e_q)
                  have n9_sa : sa ≠ q := (neMQ e_sa e_q)
                  refine pQ S hK hH hS m_q e_q (j := (X4.length + 1)) rfl (by omega) (by omega) (some a) (fun b h => by cases h; exact ⟨m_a, _, e_a⟩) rfl dX4_raise_231 (fun E10 H locs e_q ho hH hS => ?_)
                  have e_a : E10 a = .inr (3, [.int (nI (zz a)), .int (nI (ee a)), va_rf (rt l'), .ref p1]) := (ho a n9_a).trans e_a
                  have e_p1 : E10 p1 = .inr (3, [.int (nI (zz p1)), .int (nI (ee p1)), va_rf (rt r'), .ref p2]) := (ho p1 n9_p1).trans e_p1
                  have e_p2 : E10 p2 = .inr (3, [.int (nI (zz p2)), .int (nI (ee p2)), va_rf (rt u1), va_rf (rt u2)]) := (ho p2 n9_p2).trans e_p2
                  have e_p3 : E10 p3 = .inr (3, [.int (nI (zz p3)), .int (nI (ee p3)), .ref a, va_rf (rt u3)]) := (ho p3 n9_p3).trans e_p3
                  have e_sa : E10 sa = .inr (4, [.ref ta, .int (nI (((tn + (X.length - ((X4.length + 1) + 2))) + 1) + 1))]) := (ho sa n9_sa).trans e_sa
                  have hg := hg.put w_q ho
                  refine lv_goto (tgt := 18) hx hb dX4_raise_232 (by decide) ?_
                  obtain ⟨l2, r2, q1, q2, q3⟩ := sim2 (M' := (U1, E10)) hzz0 hn (fun _ h => h) e_a e_p1 e_p2 (fun _ _ _ _ h => by cases h; exact e_p3) (fun b hb1 hb2 hb3 hb4 hb5 hb6 => by
                    obtain ⟨x9, h9⟩ := hb6
                    exact hg.2 b hb5 (by
                      have q4 : b ≠ sa := neBM h9 e_sa0
                      have q5 : b ≠ q := neBQ h9 e_q0
                      have q6 : b ≠ p3 := fun e9 => hb4 (by rw [e9]; rfl)
                      simp [hb1, hb2, hb3, q4, q5, q6]))
                  exact ih _ l2 r2 E10 _ hN2 q2 (by rw [q3]; exact hn) (q1.symm.trans hsp) (q3.trans htids) (by omega) (by rw [e_sa, show (tn + (X.length - ((X4.length + 1) + 2))) + 1 + 1 = tn + (X.length - (X4.length + 1)) by omega] <;> rfl) e_q hup (Gr.tr2 hG hg (fun b hb9 => by
                    simp only [List.mem_cons, List.not_mem_nil, or_false] at hb9 ⊢
                    rcases hb9 with h | h | h | h | h | h
                    · exact Or.inl (Or.inl h)
                    · exact Or.inr (by rw [h]; exact fr9)
                    · exact Or.inl (Or.inr (by rw [h]; exact ha))
                    · exact Or.inl (Or.inr (by rw [h]; exact hpt.1))
                    · exact Or.inl (Or.inr (by rw [h]; exact hpt.2.1))
                    · exact Or.inl (Or.inr (by rw [h]; exact hpt.2.2 p3 hp3)))) H locs hH hS ls (lv_sub hl [5, 0, 6, 7] rfl)
                | true =>
                  have x32 : rt u3 ≠ some p2 := fun e9 => n3.2.2.2.2.1 (by simp [cL, rt_mem e9])
                  have hl : lv_has ls 10 [(5, .ref a), (4, .int (nI ((X4.length + 1) + 2))), (3, .ref q), (0, .ref sa)] := hl
                  have e_a : E' a = .inr (3, [.int (nI (zz a)), .int (nI (ee a)), va_rf (rt l'), va_rf (rt r')]) := e_a
                  have e_p1 : E' p1 = .inr (3, [.int (nI (zz p1)), .int (nI (ee p1)), .ref a, va_rf (rt u1)]) := e_p1
                  have e_p2 : E' p2 = .inr (3, [.int (nI (zz p2)), .int (nI (ee p2)), .ref p1, va_rf (rt u2)]) := e_p2
                  have e_p3 : E' p3 = .inr (3, [.int (nI (zz p3)), .int (nI (ee p3)), va_rf (rt u3), .ref p2]) := e_p3
                  have e_sa : E' sa = .inr (4, [.ref ta, .int (nI (tn + (X.length - ((X4.length + 1) + 2))))]) := e_sa0
                  have hg : Gr (U1, E') (U1, E') [sa, q, a, p1, p2, p3] := Gr.rf _ _
                  have w_sa : sa ∈ [sa, q, a, p1, p2, p3] := by simp
                  have w_q : q ∈ [sa, q, a, p1, p2, p3] := by simp
                  have w_a : a ∈ [sa, q, a, p1, p2, p3] := by simp
                  have w_p1 : p1 ∈ [sa, q, a, p1, p2, p3] := by simp
                  have w_p2 : p2 ∈ [sa, q, a, p1, p2, p3] := by simp
                  have w_p3 : p3 ∈ [sa, q, a, p1, p2, p3] := by simp
                  refine lv_iload hx hb dX4_raise_18 (lv_at hl 1 rfl) ?_
                  refine lv_if_le (tgt := 235) hx hb dX4_raise_20 (by decide) (fun h1 => absurd h1 (nI_nle (by omega) (by omega))) (fun _ => ?_)
                  refine lv_aload_n hx hb dX4_raise_23 rfl (lv_at hl 2 rfl) ?_
                  refine lv_iload hx hb dX4_raise_24 (lv_at hl 1 rfl) ?_
                  refine lv_iconst (v := 1) hx hb dX4_raise_26 (by decide) ?_
                  refine lv_isub hx hb dX4_raise_27 ?_
                  refine gQ S hK hH m_q e_q (j := ((X4.length + 1) + 1)) (nI_pred ((X4.length + 1) + 1)) (by omega) (by omega) (r := (some p1)) hf1 dX4_raise_28 ?_
                  refine lv_astore (lv' := [(6, .ref p1), (5, .ref a), (4, .int (nI ((X4.length + 1) + 2))), (3, .ref q), (0, .ref sa)]) hx hb dX4_raise_29 hl (by decide) rfl (fun ls hl => ?_)
                  refine lv_iload hx hb dX4_raise_31 (lv_at hl 2 rfl) ?_
                  refine lv_iconst (v := 1) hx hb dX4_raise_33 (by decide) ?_
                  refine lv_icmp_ne (tgt := 48) hx hb dX4_raise_34 (by decide) (fun _ => ?_) (fun h1 => absurd h1 (fun e9 => by have := (nI_eq (b := 1) (by omega) (by omega)).mp e9; omega))
                  refine lv_aload_n hx hb dX4_raise_48 rfl (lv_at hl 3 rfl) ?_
                  refine lv_iload hx hb dX4_raise_49 (lv_at hl 2 rfl) ?_
                  refine lv_iconst (v := 2) hx hb dX4_raise_51 (by decide) ?_
                  refine lv_isub hx hb dX4_raise_52 ?_
                  refine gQ S hK hH m_q e_q (j := (X4.length + 1)) (nI_sub (X4.length + 1) 2) (by omega) (by omega) (r := (some p2)) hf2 dX4_raise_53 ?_
                  refine lv_astore (lv' := [(7, .ref p2), (6, .ref p1), (5, .ref a), (4, .int (nI ((X4.length + 1) + 2))), (3, .ref q), (0, .ref sa)]) hx hb dX4_raise_54 hl (by decide) rfl (fun ls hl => ?_)
                  refine lv_iload hx hb dX4_raise_56 (lv_at hl 3 rfl) ?_
                  refine lv_iconst (v := 2) hx hb dX4_raise_58 (by decide) ?_
                  refine lv_icmp_le (tgt := 71) hx hb dX4_raise_59 (by decide) (fun h1 => absurd h1 (fun e9 => by have := (nI_leI (b := 2) (by omega) (by omega)).mp e9; omega)) (fun _ => ?_)
                  refine lv_aload_n hx hb dX4_raise_62 rfl (lv_at hl 4 rfl) ?_
                  refine lv_iload hx hb dX4_raise_63 (lv_at hl 3 rfl) ?_
                  refine lv_iconst (v := 3) hx hb dX4_raise_65 (by decide) ?_
                  refine lv_isub hx hb dX4_raise_66 ?_
                  refine gQ S hK hH m_q e_q (j := X4.length) (nI_sub X4.length 3) (by omega) (by omega) (r := (some p3)) hf3 dX4_raise_67 ?_
                  refine lv_goto (tgt := 72) hx hb dX4_raise_68 (by decide) ?_
                  refine lv_astore (lv' := [(8, .ref p3), (7, .ref p2), (6, .ref p1), (5, .ref a), (4, .int (nI ((X4.length + 1) + 2))), (3, .ref q), (0, .ref sa)]) hx hb dX4_raise_72 hl (by decide) rfl (fun ls hl => ?_)
                  refine lv_aload hx hb dX4_raise_74 (lv_at hl 0 rfl) ?_
                  refine lv_ifnull hx hb dX4_raise_76 ?_
                  refine lv_aload hx hb dX4_raise_79 (lv_at hl 0 rfl) ?_
                  refine gB S hi3 hK hH m_p3 e_p3 2 (by decide) f33 (v := va_rf (rt u3)) rfl dX4_raise_81 ?_
                  refine lv_aload hx hb dX4_raise_84 (lv_at hl 1 rfl) ?_
                  refine lv_acmp_ne (rx := rt u3) (ry := some p2) (tgt := 93) hx hb dX4_raise_86 (by decide) (fun _ => ?_) (fun hq => absurd hq x32)
                  refine lv_iconst (v := 0) hx hb dX4_raise_93 (by decide) ?_
                  refine lv_istore (lv' := [(9, .int 0), (8, .ref p3), (7, .ref p2), (6, .ref p1), (5, .ref a), (4, .int (nI ((X4.length + 1) + 2))), (3, .ref q), (0, .ref sa)]) hx hb dX4_raise_94 hl (by decide) rfl (fun ls hl => ?_)
                  refine lv_aload hx hb dX4_raise_96 (lv_at hl 2 rfl) ?_
                  refine gB S hi3 hK hH m_p2 e_p2 2 (by decide) f33 (v := .ref p1) rfl dX4_raise_98 ?_
                  refine lv_aload hx hb dX4_raise_101 (lv_at hl 3 rfl) ?_
                  refine lv_acmp_ne (rx := some p1) (ry := some p1) (tgt := 110) hx hb dX4_raise_103 (by decide) (fun hq => absurd rfl hq) (fun _ => ?_)
                  refine lv_iconst (v := 1) hx hb dX4_raise_106 (by decide) ?_
                  refine lv_goto (tgt := 111) hx hb dX4_raise_107 (by decide) ?_
                  refine lv_aload hx hb dX4_raise_111 (lv_at hl 3 rfl) ?_
                  refine gB S hi3 hK hH m_p1 e_p1 2 (by decide) f33 (v := .ref a) rfl dX4_raise_113 ?_
                  refine lv_aload hx hb dX4_raise_116 (lv_at hl 4 rfl) ?_
                  refine lv_acmp_ne (rx := some a) (ry := some a) (tgt := 125) hx hb dX4_raise_118 (by decide) (fun hq => absurd rfl hq) (fun _ => ?_)
                  refine lv_iconst (v := 1) hx hb dX4_raise_121 (by decide) ?_
                  refine lv_goto (tgt := 126) hx hb dX4_raise_122 (by decide) ?_
                  refine lv_icmp_ne (tgt := 148) hx hb dX4_raise_126 (by decide) (fun h1 => absurd h1 (fun h => h rfl)) (fun _ => ?_)
                  refine lv_aload_n hx hb dX4_raise_129 rfl (lv_at hl 7 rfl) ?_
                  refine lv_aload hx hb dX4_raise_130 (lv_at hl 2 rfl) ?_
                  refine lv_aload hx hb dX4_raise_132 (lv_at hl 3 rfl) ?_
                  have k9_a : a ∉ [sa, p2, p1] := by
                    have q1 : a ≠ sa := (neBM e_a e_sa)
                    have q2 : a ≠ p2 := n1.2.1
                    have q3 : a ≠ p1 := n1.1
                    simp [q1, q2, q3]
                  have k9_p3 : p3 ∉ [sa, p2, p1] := by
                    have q1 : p3 ≠ sa := (neBM e_p3 e_sa)
                    have q2 : p3 ≠ p2 := d3.2.2
                    have q3 : p3 ≠ p1 := d3.2.1
                    simp [q1, q2, q3]
                  have k9_q : q ∉ [sa, p2, p1] := by
                    have q1 : q ≠ sa := (Ne.symm (neMQ e_sa e_q))
                    have q2 : q ≠ p2 := (Ne.symm (neBQ e_p2 e_q))
                    have q3 : q ≠ p1 := (Ne.symm (neBQ e_p1 e_q))
                    simp [q1, q2, q3]
                  have rc9 := rec9 hK hH m_sa e_sa (q := (RX4, TX4, 2)) rfl
                  refine cyV S (c_X4_turnL (sa := sa) (ta := ta) (tn := (tn + (X.length - ((X4.length + 1) + 2)))) (up := p2) (own := p1) (b9 := (some a)) (c9 := (rt u1)) (y := (rt u2)) m_sa e_sa m_p2 e_p2 m_p1 e_p1 (Ne.symm n1.2.2)) (cwV 2 hts gX4_raise_X4_turn rfl rfl rfl (by decide +kernel) ⟨Nat.le_of_ble_eq_true rfl, Nat.le_of_ble_eq_true rfl⟩) hK hH hX rc9 hS rfl hl.1 rfl (by simp [cat_rf, Value.category]) dX4_raise_134 ⟨Nat.le_of_ble_eq_true rfl, Nat.le_of_ble_eq_true rfl⟩ (fun v Z1 H locs hpost hH hS => ?_)
                  obtain ⟨rfl, E11, rfl, e_sa, e_p2, e_p1, hg9⟩ := hpost
                  have e_a : E11 a = .inr (3, [.int (nI (zz a)), .int (nI (ee a)), va_rf (rt l'), va_rf (rt r')]) := (hg9.2 a m_a k9_a).trans e_a
                  have e_p3 : E11 p3 = .inr (3, [.int (nI (zz p3)), .int (nI (ee p3)), va_rf (rt u3), .ref p2]) := (hg9.2 p3 m_p3 k9_p3).trans e_p3
                  have e_q : E11 q = qE Γ (X.length + 1) f' := (hg9.2 q m_q k9_q).trans e_q
                  have e_p2 : E11 p2 = .inr (3, [.int (nI (zz p2)), .int (nI (ee p2)), va_rf (rt u1), va_rf (rt u2)]) := e_p2
                  have e_p1 : E11 p1 = .inr (3, [.int (nI (zz p1)), .int (nI (ee p1)), .ref a, .ref p2]) := e_p1
                  have hg := hg.tr (hg9.wd (fun b hb9 => Or.inl (by simp only [List.mem_cons, List.not_mem_nil, or_false] at hb9 ⊢; rcases hb9 with h | h | h <;> simp [h])))
                  refine lv_aload_n hx hb dX4_raise_137 rfl (lv_at hl 7 rfl) ?_
                  refine lv_aload hx hb dX4_raise_138 (lv_at hl 3 rfl) ?_
                  refine lv_aload hx hb dX4_raise_140 (lv_at hl 4 rfl) ?_
                  have k9_p2 : p2 ∉ [sa, p1, a] := by
                    have q1 : p2 ≠ sa := (neBM e_p2 e_sa)
                    have q2 : p2 ≠ p1 := (Ne.symm n1.2.2)
                    have q3 : p2 ≠ a := (Ne.symm n1.2.1)
                    simp [q1, q2, q3]
                  have k9_p3 : p3 ∉ [sa, p1, a] := by
                    have q1 : p3 ≠ sa := (neBM e_p3 e_sa)
                    have q2 : p3 ≠ p1 := d3.2.1
                    have q3 : p3 ≠ a := d3.1
                    simp [q1, q2, q3]
                  have k9_q : q ∉ [sa, p1, a] := by
                    have q1 : q ≠ sa := (Ne.symm (neMQ e_sa e_q))
                    have q2 : q ≠ p1 := (Ne.symm (neBQ e_p1 e_q))
                    have q3 : q ≠ a := (Ne.symm (neBQ e_a e_q))
                    simp [q1, q2, q3]
                  have rc9 := rec9 hK hH m_sa e_sa (q := (RX4, TX4, 2)) rfl
                  refine cyV S (c_X4_turnL (sa := sa) (ta := ta) (tn := ((tn + (X.length - ((X4.length + 1) + 2))) + 1)) (up := p1) (own := a) (b9 := (rt l')) (c9 := (rt r')) (y := (some p2)) m_sa e_sa m_p1 e_p1 m_a e_a (Ne.symm n1.1)) (cwV 2 hts gX4_raise_X4_turn rfl rfl rfl (by decide +kernel) ⟨Nat.le_of_ble_eq_true rfl, Nat.le_of_ble_eq_true rfl⟩) hK hH hX rc9 hS rfl hl.1 rfl (by simp [cat_rf, Value.category]) dX4_raise_142 ⟨Nat.le_of_ble_eq_true rfl, Nat.le_of_ble_eq_true rfl⟩ (fun v Z1 H locs hpost hH hS => ?_)
                  obtain ⟨rfl, E12, rfl, e_sa, e_p1, e_a, hg9⟩ := hpost
                  have e_p2 : E12 p2 = .inr (3, [.int (nI (zz p2)), .int (nI (ee p2)), va_rf (rt u1), va_rf (rt u2)]) := (hg9.2 p2 m_p2 k9_p2).trans e_p2
                  have e_p3 : E12 p3 = .inr (3, [.int (nI (zz p3)), .int (nI (ee p3)), va_rf (rt u3), .ref p2]) := (hg9.2 p3 m_p3 k9_p3).trans e_p3
                  have e_q : E12 q = qE Γ (X.length + 1) f' := (hg9.2 q m_q k9_q).trans e_q
                  have e_p1 : E12 p1 = .inr (3, [.int (nI (zz p1)), .int (nI (ee p1)), va_rf (rt r'), .ref p2]) := e_p1
                  have e_a : E12 a = .inr (3, [.int (nI (zz a)), .int (nI (ee a)), va_rf (rt l'), .ref p1]) := e_a
                  have hg := hg.tr (hg9.wd (fun b hb9 => Or.inl (by simp only [List.mem_cons, List.not_mem_nil, or_false] at hb9 ⊢; rcases hb9 with h | h | h <;> simp [h])))
                  refine lv_goto (tgt := 191) hx hb dX4_raise_145 (by decide) ?_
                  refine lv_aload hx hb dX4_raise_191 (lv_at hl 1 rfl) ?_
                  refine lv_ifnull hx hb dX4_raise_193 ?_
                  refine lv_iload hx hb dX4_raise_196 (lv_at hl 0 rfl) ?_
                  refine lv_if_eq (tgt := 211) hx hb dX4_raise_198 (by decide) (fun _ => ?_) (fun h1 => absurd (by decide) h1)
                  refine lv_aload hx hb dX4_raise_211 (lv_at hl 1 rfl) ?_
                  refine lv_ifnull hx hb dX4_raise_213 ?_
                  refine lv_aload hx hb dX4_raise_216 (lv_at hl 1 rfl) ?_
                  refine lv_aload hx hb dX4_raise_218 (lv_at hl 4 rfl) ?_
                  have n9_a : a ≠ p3 := (Ne.symm d3.1)
                  have n9_p1 : p1 ≠ p3 := (Ne.symm d3.2.1)
                  have n9_p2 : p2 ≠ p3 := (Ne.symm d3.2.2)
                  have n9_sa : sa ≠ p3 := (Ne.symm (neBM e_p3 e_sa))
                  have n9_q : q ≠ p3 := (Ne.symm (neBQ e_p3 e_q))
                  refine pBr S hi3 hK hH hS m_p3 e_p3 3 (by decide) f37 (some a) rfl dX4_raise_220 rfl (fun E13 H locs e_p3 ho hH hS => ?_)
                  have e_p3 : E13 p3 = .inr (3, [.int (nI (zz p3)), .int (nI (ee p3)), va_rf (rt u3), .ref a]) := e_p3
                  have e_a : E13 a = .inr (3, [.int (nI (zz a)), .int (nI (ee a)), va_rf (rt l'), .ref p1]) := (ho a n9_a).trans e_a
                  have e_p1 : E13 p1 = .inr (3, [.int (nI (zz p1)), .int (nI (ee p1)), va_rf (rt r'), .ref p2]) := (ho p1 n9_p1).trans e_p1
                  have e_p2 : E13 p2 = .inr (3, [.int (nI (zz p2)), .int (nI (ee p2)), va_rf (rt u1), va_rf (rt u2)]) := (ho p2 n9_p2).trans e_p2
                  have e_sa : E13 sa = .inr (4, [.ref ta, .int (nI (((tn + (X.length - ((X4.length + 1) + 2))) + 1) + 1))]) := (ho sa n9_sa).trans e_sa
                  have e_q : E13 q = qE Γ (X.length + 1) f' := (ho q n9_q).trans e_q
                  have hg := hg.put w_p3 ho
                  refine lv_iinc (v := nI (X4.length + 1)) (lv' := [(4, .int (nI (X4.length + 1))), (9, .int 0), (8, .ref p3), (7, .ref p2), (6, .ref p1), (5, .ref a), (3, .ref q), (0, .ref sa)]) hx hb dX4_raise_223 hl (k := 5) rfl (nI_m2 (X4.length + 1)) (by decide) rfl (fun ls hl => ?_)
                  refine lv_aload_n hx hb dX4_raise_226 rfl (lv_at hl 6 rfl) ?_
                  refine lv_iload hx hb dX4_raise_227 (lv_at hl 0 rfl) ?_
                  refine lv_aload hx hb dX4_raise_229 (lv_at hl 5 rfl) ?_
                  have n9_a : a ≠ q := (neBQ e_a e_q)
                  have n9_p1 : p1 ≠ q := (neBQ e_p1 e_q)
                  have n9_p2 : p2 ≠ q := (neBQ e_p2 e_q)
                  have n9_p3 : p3 ≠ q := (neBQ e_p3 e_q)
                  have n9_sa : sa ≠ q := (neMQ e_sa e_q)
                  refine pQ S hK hH hS m_q e_q (j := (X4.length + 1)) rfl (by omega) (by omega) (some a) (fun b h => by cases h; exact ⟨m_a, _, e_a⟩) rfl dX4_raise_231 (fun E14 H locs e_q ho hH hS => ?_)
                  have e_a : E14 a = .inr (3, [.int (nI (zz a)), .int (nI (ee a)), va_rf (rt l'), .ref p1]) := (ho a n9_a).trans e_a
                  have e_p1 : E14 p1 = .inr (3, [.int (nI (zz p1)), .int (nI (ee p1)), va_rf (rt r'), .ref p2]) := (ho p1 n9_p1).trans e_p1
                  have e_p2 : E14 p2 = .inr (3, [.int (nI (zz p2)), .int (nI (ee p2)), va_rf (rt u1), va_rf (rt u2)]) := (ho p2 n9_p2).trans e_p2
                  have e_p3 : E14 p3 = .inr (3, [.int (nI (zz p3)), .int (nI (ee p3)), va_rf (rt u3), .ref a]) := (ho p3 n9_p3).trans e_p3
                  have e_sa : E14 sa = .inr (4, [.ref ta, .int (nI (((tn + (X.length - ((X4.length + 1) + 2))) + 1) + 1))]) := (ho sa n9_sa).trans e_sa
                  have hg := hg.put w_q ho
                  refine lv_goto (tgt := 18) hx hb dX4_raise_232 (by decide) ?_
                  obtain ⟨l2, r2, q1, q2, q3⟩ := sim2 (M' := (U1, E14)) hzz0 hn (fun _ h => h) e_a e_p1 e_p2 (fun _ _ _ _ h => by cases h; exact e_p3) (fun b hb1 hb2 hb3 hb4 hb5 hb6 => by
                    obtain ⟨x9, h9⟩ := hb6
                    exact hg.2 b hb5 (by
                      have q4 : b ≠ sa := neBM h9 e_sa0
                      have q5 : b ≠ q := neBQ h9 e_q0
                      have q6 : b ≠ p3 := fun e9 => hb4 (by rw [e9]; rfl)
                      simp [hb1, hb2, hb3, q4, q5, q6]))
                  exact ih _ l2 r2 E14 _ hN2 q2 (by rw [q3]; exact hn) (q1.symm.trans hsp) (q3.trans htids) (by omega) (by rw [e_sa, show (tn + (X.length - ((X4.length + 1) + 2))) + 1 + 1 = tn + (X.length - (X4.length + 1)) by omega] <;> rfl) e_q hup (Gr.tr2 hG hg (fun b hb9 => by
                    simp only [List.mem_cons, List.not_mem_nil, or_false] at hb9 ⊢
                    rcases hb9 with h | h | h | h | h | h
                    · exact Or.inl (Or.inl h)
                    · exact Or.inr (by rw [h]; exact fr9)
                    · exact Or.inl (Or.inr (by rw [h]; exact ha))
                    · exact Or.inl (Or.inr (by rw [h]; exact hpt.1))
                    · exact Or.inl (Or.inr (by rw [h]; exact hpt.2.1))
                    · exact Or.inl (Or.inr (by rw [h]; exact hpt.2.2 p3 hp3)))) H locs hH hS ls (lv_sub hl [5, 0, 6, 7] rfl)
            | true =>
              cases X3 with
              | nil =>
                have hl : lv_has ls 10 [(5, .ref a), (4, .int (nI (([] : Cx).length + 2))), (3, .ref q), (0, .ref sa)] := hl
                have e_a : E' a = .inr (3, [.int (nI (zz a)), .int (nI (ee a)), va_rf (rt l'), va_rf (rt r')]) := e_a
                have e_p1 : E' p1 = .inr (3, [.int (nI (zz p1)), .int (nI (ee p1)), .ref a, va_rf (rt u1)]) := e_p1
                have e_p2 : E' p2 = .inr (3, [.int (nI (zz p2)), .int (nI (ee p2)), va_rf (rt u2), .ref p1]) := e_p2
                have e_sa : E' sa = .inr (4, [.ref ta, .int (nI (tn + (X.length - (([] : Cx).length + 2))))]) := e_sa0
                have hg : Gr (U1, E') (U1, E') [sa, q, a, p1, p2] := Gr.rf _ _
                have w_sa : sa ∈ [sa, q, a, p1, p2] := by simp
                have w_q : q ∈ [sa, q, a, p1, p2] := by simp
                have w_a : a ∈ [sa, q, a, p1, p2] := by simp
                have w_p1 : p1 ∈ [sa, q, a, p1, p2] := by simp
                have w_p2 : p2 ∈ [sa, q, a, p1, p2] := by simp
                refine lv_iload hx hb dX4_raise_18 (lv_at hl 1 rfl) ?_
                refine lv_if_le (tgt := 235) hx hb dX4_raise_20 (by decide) (fun h1 => absurd h1 (nI_nle (by omega) (by omega))) (fun _ => ?_)
                refine lv_aload_n hx hb dX4_raise_23 rfl (lv_at hl 2 rfl) ?_
                refine lv_iload hx hb dX4_raise_24 (lv_at hl 1 rfl) ?_
                refine lv_iconst (v := 1) hx hb dX4_raise_26 (by decide) ?_
                refine lv_isub hx hb dX4_raise_27 ?_
                refine gQ S hK hH m_q e_q (j := (([] : Cx).length + 1)) (nI_pred (([] : Cx).length + 1)) (by omega) (by omega) (r := (some p1)) hf1 dX4_raise_28 ?_
                refine lv_astore (lv' := [(6, .ref p1), (5, .ref a), (4, .int (nI (([] : Cx).length + 2))), (3, .ref q), (0, .ref sa)]) hx hb dX4_raise_29 hl (by decide) rfl (fun ls hl => ?_)
                refine lv_iload hx hb dX4_raise_31 (lv_at hl 2 rfl) ?_
                refine lv_iconst (v := 1) hx hb dX4_raise_33 (by decide) ?_
                refine lv_icmp_ne (tgt := 48) hx hb dX4_raise_34 (by decide) (fun _ => ?_) (fun h1 => absurd h1 (fun e9 => by have := (nI_eq (b := 1) (by omega) (by omega)).mp e9; omega))
                refine lv_aload_n hx hb dX4_raise_48 rfl (lv_at hl 3 rfl) ?_
                refine lv_iload hx hb dX4_raise_49 (lv_at hl 2 rfl) ?_
                refine lv_iconst (v := 2) hx hb dX4_raise_51 (by decide) ?_
                refine lv_isub hx hb dX4_raise_52 ?_
                refine gQ S hK hH m_q e_q (j := ([] : Cx).length) (nI_sub ([] : Cx).length 2) (by omega) (by omega) (r := (some p2)) hf2 dX4_raise_53 ?_
                refine lv_astore (lv' := [(7, .ref p2), (6, .ref p1), (5, .ref a), (4, .int (nI (([] : Cx).length + 2))), (3, .ref q), (0, .ref sa)]) hx hb dX4_raise_54 hl (by decide) rfl (fun ls hl => ?_)
                refine lv_iload hx hb dX4_raise_56 (lv_at hl 3 rfl) ?_
                refine lv_iconst (v := 2) hx hb dX4_raise_58 (by decide) ?_
                refine lv_icmp_le (tgt := 71) hx hb dX4_raise_59 (by decide) (fun _ => ?_) (fun h1 => absurd (by decide) h1)
                refine lv_null hx hb dX4_raise_71 ?_
                refine lv_astoreN (lv' := [(8, .null), (7, .ref p2), (6, .ref p1), (5, .ref a), (4, .int (nI (([] : Cx).length + 2))), (3, .ref q), (0, .ref sa)]) hx hb dX4_raise_72 hl (by decide) rfl (fun ls hl => ?_)
                refine lv_aloadN hx hb dX4_raise_74 (lv_at hl 0 rfl) ?_
                refine lv_ifnullN hx hb dX4_raise_76 (tgt := 93) (by decide) ?_
                refine lv_iconst (v := 0) hx hb dX4_raise_93 (by decide) ?_
                refine lv_istore (lv' := [(9, .int 0), (8, .null), (7, .ref p2), (6, .ref p1), (5, .ref a), (4, .int (nI (([] : Cx).length + 2))), (3, .ref q), (0, .ref sa)]) hx hb dX4_raise_94 hl (by decide) rfl (fun ls hl => ?_)
                refine lv_aload hx hb dX4_raise_96 (lv_at hl 2 rfl) ?_
                refine gB S hi3 hK hH m_p2 e_p2 2 (by decide) f33 (v := va_rf (rt u2)) rfl dX4_raise_98 ?_
                refine lv_aload hx hb dX4_raise_101 (lv_at hl 3 rfl) ?_
                refine lv_acmp_ne (rx := rt u2) (ry := some p1) (tgt := 110) hx hb dX4_raise_103 (by decide) (fun _ => ?_) (fun hq => absurd hq x21)
                refine lv_iconst (v := 0) hx hb dX4_raise_110 (by decide) ?_
                refine lv_aload hx hb dX4_raise_111 (lv_at hl 3 rfl) ?_
                refine gB S hi3 hK hH m_p1 e_p1 2 (by decide) f33 (v := .ref a) rfl dX4_raise_113 ?_
                refine lv_aload hx hb dX4_raise_116 (lv_at hl 4 rfl) ?_
                refine lv_acmp_ne (rx := some a) (ry := some a) (tgt := 125) hx hb dX4_raise_118 (by decide) (fun hq => absurd rfl hq) (fun _ => ?_)
                refine lv_iconst (v := 1) hx hb dX4_raise_121 (by decide) ?_
                refine lv_goto (tgt := 126) hx hb dX4_raise_122 (by decide) ?_
                refine lv_icmp_ne (tgt := 148) hx hb dX4_raise_126 (by decide) (fun _ => ?_) (fun h1 => absurd h1 (by decide))
                refine lv_aload_n hx hb dX4_raise_148 rfl (lv_at hl 7 rfl) ?_
                refine lv_aload hx hb dX4_raise_149 (lv_at hl 3 rfl) ?_
                refine lv_aload hx hb dX4_raise_151 (lv_at hl 4 rfl) ?_
                have k9_p2 : p2 ∉ [sa, p1, a] := by
                  have q1 : p2 ≠ sa := (neBM e_p2 e_sa)
                  have q2 : p2 ≠ p1 := (Ne.symm n1.2.2)
                  have q3 : p2 ≠ a := (Ne.symm n1.2.1)
                  simp [q1, q2, q3]
                have k9_q : q ∉ [sa, p1, a] := by
                  have q1 : q ≠ sa := (Ne.symm (neMQ e_sa e_q))
                  have q2 : q ≠ p1 := (Ne.symm (neBQ e_p1 e_q))
                  have q3 : q ≠ a := (Ne.symm (neBQ e_a e_q))
                  simp [q1, q2, q3]
                have rc9 := rec9 hK hH m_sa e_sa (q := (RX4, TX4, 2)) rfl
                refine cyV S (c_X4_turnL (sa := sa) (ta := ta) (tn := (tn + (X.length - (([] : Cx).length + 2)))) (up := p1) (own := a) (b9 := (rt l')) (c9 := (rt r')) (y := (rt u1)) m_sa e_sa m_p1 e_p1 m_a e_a (Ne.symm n1.1)) (cwV 2 hts gX4_raise_X4_turn rfl rfl rfl (by decide +kernel) ⟨Nat.le_of_ble_eq_true rfl, Nat.le_of_ble_eq_true rfl⟩) hK hH hX rc9 hS rfl hl.1 rfl (by simp [cat_rf, Value.category]) dX4_raise_153 ⟨Nat.le_of_ble_eq_true rfl, Nat.le_of_ble_eq_true rfl⟩ (fun v Z1 H locs hpost hH hS => ?_)
                obtain ⟨rfl, E15, rfl, e_sa, e_p1, e_a, hg9⟩ := hpost
                have e_p2 : E15 p2 = .inr (3, [.int (nI (zz p2)), .int (nI (ee p2)), va_rf (rt u2), .ref p1]) := (hg9.2 p2 m_p2 k9_p2).trans e_p2
                have e_q : E15 q = qE Γ (X.length + 1) f' := (hg9.2 q m_q k9_q).trans e_q
                have e_p1 : E15 p1 = .inr (3, [.int (nI (zz p1)), .int (nI (ee p1)), va_rf (rt r'), va_rf (rt u1)]) := e_p1
                have e_a : E15 a = .inr (3, [.int (nI (zz a)), .int (nI (ee a)), va_rf (rt l'), .ref p1]) := e_a
                have hg := hg.tr (hg9.wd (fun b hb9 => Or.inl (by simp only [List.mem_cons, List.not_mem_nil, or_false] at hb9 ⊢; rcases hb9 with h | h | h <;> simp [h])))
                refine lv_aload hx hb dX4_raise_156 (lv_at hl 2 rfl) ?_
                refine gB S hi3 hK hH m_p2 e_p2 2 (by decide) f33 (v := va_rf (rt u2)) rfl dX4_raise_158 ?_
                refine lv_aload hx hb dX4_raise_161 (lv_at hl 3 rfl) ?_
                refine lv_acmp_ne (rx := rt u2) (ry := some p1) (tgt := 176) hx hb dX4_raise_163 (by decide) (fun _ => ?_) (fun hq => absurd hq x21)
                refine lv_aload hx hb dX4_raise_176 (lv_at hl 2 rfl) ?_
                refine lv_aload hx hb dX4_raise_178 (lv_at hl 4 rfl) ?_
                have n9_a : a ≠ p2 := n1.2.1
                have n9_p1 : p1 ≠ p2 := n1.2.2
                have n9_sa : sa ≠ p2 := (Ne.symm (neBM e_p2 e_sa))
                have n9_q : q ≠ p2 := (Ne.symm (neBQ e_p2 e_q))
                refine pBr S hi3 hK hH hS m_p2 e_p2 3 (by decide) f37 (some a) rfl dX4_raise_180 rfl (fun E16 H locs e_p2 ho hH hS => ?_)
                have e_p2 : E16 p2 = .inr (3, [.int (nI (zz p2)), .int (nI (ee p2)), va_rf (rt u2), .ref a]) := e_p2
                have e_a : E16 a = .inr (3, [.int (nI (zz a)), .int (nI (ee a)), va_rf (rt l'), .ref p1]) := (ho a n9_a).trans e_a
                have e_p1 : E16 p1 = .inr (3, [.int (nI (zz p1)), .int (nI (ee p1)), va_rf (rt r'), va_rf (rt u1)]) := (ho p1 n9_p1).trans e_p1
                have e_sa : E16 sa = .inr (4, [.ref ta, .int (nI ((tn + (X.length - (([] : Cx).length + 2))) + 1))]) := (ho sa n9_sa).trans e_sa
                have e_q : E16 q = qE Γ (X.length + 1) f' := (ho q n9_q).trans e_q
                have hg := hg.put w_p2 ho
                refine lv_aload_n hx hb dX4_raise_183 rfl (lv_at hl 7 rfl) ?_
                refine lv_aload hx hb dX4_raise_184 (lv_at hl 2 rfl) ?_
                refine lv_aload hx hb dX4_raise_186 (lv_at hl 4 rfl) ?_
                have k9_p1 : p1 ∉ [sa, p2, a] := by
                  have q1 : p1 ≠ sa := (neBM e_p1 e_sa)
                  have q2 : p1 ≠ p2 := n1.2.2
                  have q3 : p1 ≠ a := (Ne.symm n1.1)
                  simp [q1, q2, q3]
                have k9_q : q ∉ [sa, p2, a] := by
                  have q1 : q ≠ sa := (Ne.symm (neMQ e_sa e_q))
                  have q2 : q ≠ p2 := (Ne.symm (neBQ e_p2 e_q))
                  have q3 : q ≠ a := (Ne.symm (neBQ e_a e_q))
                  simp [q1, q2, q3]
                have rc9 := rec9 hK hH m_sa e_sa (q := (RX4, TX4, 2)) rfl
                refine cyV S (c_X4_turnR (sa := sa) (ta := ta) (tn := ((tn + (X.length - (([] : Cx).length + 2))) + 1)) (up := p2) (own := a) (b9 := (rt l')) (c9 := (some p1)) (x := (rt u2)) (y := (some a)) x2a m_sa e_sa m_p2 e_p2 m_a e_a (Ne.symm n1.2.1)) (cwV 2 hts gX4_raise_X4_turn rfl rfl rfl (by decide +kernel) ⟨Nat.le_of_ble_eq_true rfl, Nat.le_of_ble_eq_true rfl⟩) hK hH hX rc9 hS rfl hl.1 rfl (by simp [cat_rf, Value.category]) dX4_raise_188 ⟨Nat.le_of_ble_eq_true rfl, Nat.le_of_ble_eq_true rfl⟩ (fun v Z1 H locs hpost hH hS => ?_)
                obtain ⟨rfl, E17, rfl, e_sa, e_p2, e_a, hg9⟩ := hpost
                have e_p1 : E17 p1 = .inr (3, [.int (nI (zz p1)), .int (nI (ee p1)), va_rf (rt r'), va_rf (rt u1)]) := (hg9.2 p1 m_p1 k9_p1).trans e_p1
                have e_q : E17 q = qE Γ (X.length + 1) f' := (hg9.2 q m_q k9_q).trans e_q
                have e_p2 : E17 p2 = .inr (3, [.int (nI (zz p2)), .int (nI (ee p2)), va_rf (rt u2), va_rf (rt l')]) := e_p2
                have e_a : E17 a = .inr (3, [.int (nI (zz a)), .int (nI (ee a)), .ref p2, .ref p1]) := e_a
                have hg := hg.tr (hg9.wd (fun b hb9 => Or.inl (by simp only [List.mem_cons, List.not_mem_nil, or_false] at hb9 ⊢; rcases hb9 with h | h | h <;> simp [h])))
                refine lv_aloadN hx hb dX4_raise_191 (lv_at hl 1 rfl) ?_
                refine lv_ifnullN hx hb dX4_raise_193 (tgt := 211) (by decide) ?_
                refine lv_aloadN hx hb dX4_raise_211 (lv_at hl 1 rfl) ?_
                refine lv_ifnullN hx hb dX4_raise_213 (tgt := 223) (by decide) ?_
                refine lv_iinc (v := nI (([] : Cx).length)) (lv' := [(4, .int (nI (([] : Cx).length))), (9, .int 0), (8, .null), (7, .ref p2), (6, .ref p1), (5, .ref a), (3, .ref q), (0, .ref sa)]) hx hb dX4_raise_223 hl (k := 5) rfl (nI_m2 (([] : Cx).length)) (by decide) rfl (fun ls hl => ?_)
                refine lv_aload_n hx hb dX4_raise_226 rfl (lv_at hl 6 rfl) ?_
                refine lv_iload hx hb dX4_raise_227 (lv_at hl 0 rfl) ?_
                refine lv_aload hx hb dX4_raise_229 (lv_at hl 5 rfl) ?_
                have n9_a : a ≠ q := (neBQ e_a e_q)
                have n9_p1 : p1 ≠ q := (neBQ e_p1 e_q)
                have n9_p2 : p2 ≠ q := (neBQ e_p2 e_q)
                have n9_sa : sa ≠ q := (neMQ e_sa e_q)
                refine pQ S hK hH hS m_q e_q (j := ([] : Cx).length) rfl (by omega) (by omega) (some a) (fun b h => by cases h; exact ⟨m_a, _, e_a⟩) rfl dX4_raise_231 (fun E18 H locs e_q ho hH hS => ?_)
                have e_a : E18 a = .inr (3, [.int (nI (zz a)), .int (nI (ee a)), .ref p2, .ref p1]) := (ho a n9_a).trans e_a
                have e_p1 : E18 p1 = .inr (3, [.int (nI (zz p1)), .int (nI (ee p1)), va_rf (rt r'), va_rf (rt u1)]) := (ho p1 n9_p1).trans e_p1
                have e_p2 : E18 p2 = .inr (3, [.int (nI (zz p2)), .int (nI (ee p2)), va_rf (rt u2), va_rf (rt l')]) := (ho p2 n9_p2).trans e_p2
                have e_sa : E18 sa = .inr (4, [.ref ta, .int (nI (((tn + (X.length - (([] : Cx).length + 2))) + 1) + 1))]) := (ho sa n9_sa).trans e_sa
                have hg := hg.put w_q ho
                refine lv_goto (tgt := 18) hx hb dX4_raise_232 (by decide) ?_
                obtain ⟨l2, r2, q1, q2, q3⟩ := sim3 (s := false) (M' := (U1, E18)) hzz0 hn (fun _ h => h) e_a e_p1 e_p2 (fun _ _ _ _ h => by cases h) (fun b hb1 hb2 hb3 hb4 hb5 hb6 => by
                  obtain ⟨x9, h9⟩ := hb6
                  exact hg.2 b hb5 (by
                    have q4 : b ≠ sa := neBM h9 e_sa0
                    have q5 : b ≠ q := neBQ h9 e_q0
                    simp [hb1, hb2, hb3, q4, q5]))
                exact ih _ l2 r2 E18 _ hN2 q2 (by rw [q3]; exact hn) (q1.symm.trans hsp) (q3.trans htids) (by omega) (by rw [e_sa, show (tn + (X.length - (([] : Cx).length + 2))) + 1 + 1 = tn + (X.length - ([] : Cx).length) by omega] <;> rfl) e_q hup (Gr.tr2 hG hg (fun b hb9 => by
                  simp only [List.mem_cons, List.not_mem_nil, or_false] at hb9 ⊢
                  rcases hb9 with h | h | h | h | h
                  · exact Or.inl (Or.inl h)
                  · exact Or.inr (by rw [h]; exact fr9)
                  · exact Or.inl (Or.inr (by rw [h]; exact ha))
                  · exact Or.inl (Or.inr (by rw [h]; exact hpt.1))
                  · exact Or.inl (Or.inr (by rw [h]; exact hpt.2.1)))) H locs hH hS ls (lv_sub hl [5, 0, 6, 7] rfl)
              | cons f X4 =>
                obtain ⟨s3, p3, u3⟩ := f
                obtain ⟨⟨m_p3, e_p3⟩, hu3, hC4⟩ := hC3
                have hp3 : p3 ∈ cL ((s3, p3, u3) :: X4) ∨ p3 ∈ cR ((s3, p3, u3) :: X4) := parC_mem rfl
                have d3 : p3 ≠ a ∧ p3 ≠ p1 ∧ p3 ≠ p2 := by
                  refine ⟨?_, ?_, ?_⟩ <;> rintro rfl <;> rcases hp3 with h | h
                  · exact n3.1 h
                  · exact n3.2.1 h
                  · exact n3.2.2.1 h
                  · exact n3.2.2.2.1 h
                  · exact n3.2.2.2.2.1 h
                  · exact n3.2.2.2.2.2 h
                have hf3 : f' X4.length = some p3 := by rw [hf0 _ (by simp), anc_cons, List.getElem?_append_right (by simp [anc_len])]; simp [anc_len]
                have hlx : X4.length + 1 + 2 ≤ X.length := hlx
                cases s3 with
                | false =>
                  have hl : lv_has ls 10 [(5, .ref a), (4, .int (nI ((X4.length + 1) + 2))), (3, .ref q), (0, .ref sa)] := hl
                  have e_a : E' a = .inr (3, [.int (nI (zz a)), .int (nI (ee a)), va_rf (rt l'), va_rf (rt r')]) := e_a
                  have e_p1 : E' p1 = .inr (3, [.int (nI (zz p1)), .int (nI (ee p1)), .ref a, va_rf (rt u1)]) := e_p1
                  have e_p2 : E' p2 = .inr (3, [.int (nI (zz p2)), .int (nI (ee p2)), va_rf (rt u2), .ref p1]) := e_p2
                  have e_p3 : E' p3 = .inr (3, [.int (nI (zz p3)), .int (nI (ee p3)), .ref p2, va_rf (rt u3)]) := e_p3
                  have e_sa : E' sa = .inr (4, [.ref ta, .int (nI (tn + (X.length - ((X4.length + 1) + 2))))]) := e_sa0
                  have hg : Gr (U1, E') (U1, E') [sa, q, a, p1, p2, p3] := Gr.rf _ _
                  have w_sa : sa ∈ [sa, q, a, p1, p2, p3] := by simp
                  have w_q : q ∈ [sa, q, a, p1, p2, p3] := by simp
                  have w_a : a ∈ [sa, q, a, p1, p2, p3] := by simp
                  have w_p1 : p1 ∈ [sa, q, a, p1, p2, p3] := by simp
                  have w_p2 : p2 ∈ [sa, q, a, p1, p2, p3] := by simp
                  have w_p3 : p3 ∈ [sa, q, a, p1, p2, p3] := by simp
                  refine lv_iload hx hb dX4_raise_18 (lv_at hl 1 rfl) ?_
                  refine lv_if_le (tgt := 235) hx hb dX4_raise_20 (by decide) (fun h1 => absurd h1 (nI_nle (by omega) (by omega))) (fun _ => ?_)
                  refine lv_aload_n hx hb dX4_raise_23 rfl (lv_at hl 2 rfl) ?_
                  refine lv_iload hx hb dX4_raise_24 (lv_at hl 1 rfl) ?_
                  refine lv_iconst (v := 1) hx hb dX4_raise_26 (by decide) ?_
                  refine lv_isub hx hb dX4_raise_27 ?_
                  refine gQ S hK hH m_q e_q (j := ((X4.length + 1) + 1)) (nI_pred ((X4.length + 1) + 1)) (by omega) (by omega) (r := (some p1)) hf1 dX4_raise_28 ?_
                  refine lv_astore (lv' := [(6, .ref p1), (5, .ref a), (4, .int (nI ((X4.length + 1) + 2))), (3, .ref q), (0, .ref sa)]) hx hb dX4_raise_29 hl (by decide) rfl (fun ls hl => ?_)
                  refine lv_iload hx hb dX4_raise_31 (lv_at hl 2 rfl) ?_
                  refine lv_iconst (v := 1) hx hb dX4_raise_33 (by decide) ?_
                  refine lv_icmp_ne (tgt := 48) hx hb dX4_raise_34 (by decide) (fun _ => ?_) (fun h1 => absurd h1 (fun e9 => by have := (nI_eq (b := 1) (by omega) (by omega)).mp e9; omega))
                  refine lv_aload_n hx hb dX4_raise_48 rfl (lv_at hl 3 rfl) ?_
                  refine lv_iload hx hb dX4_raise_49 (lv_at hl 2 rfl) ?_
                  refine lv_iconst (v := 2) hx hb dX4_raise_51 (by decide) ?_
                  refine lv_isub hx hb dX4_raise_52 ?_
                  refine gQ S hK hH m_q e_q (j := (X4.length + 1)) (nI_sub (X4.length + 1) 2) (by omega) (by omega) (r := (some p2)) hf2 dX4_raise_53 ?_
                  refine lv_astore (lv' := [(7, .ref p2), (6, .ref p1), (5, .ref a), (4, .int (nI ((X4.length + 1) + 2))), (3, .ref q), (0, .ref sa)]) hx hb dX4_raise_54 hl (by decide) rfl (fun ls hl => ?_)
                  refine lv_iload hx hb dX4_raise_56 (lv_at hl 3 rfl) ?_
                  refine lv_iconst (v := 2) hx hb dX4_raise_58 (by decide) ?_
                  refine lv_icmp_le (tgt := 71) hx hb dX4_raise_59 (by decide) (fun h1 => absurd h1 (fun e9 => by have := (nI_leI (b := 2) (by omega) (by omega)).mp e9; omega)) (fun _ => ?_)
                  refine lv_aload_n hx hb dX4_raise_62 rfl (lv_at hl 4 rfl) ?_
                  refine lv_iload hx hb dX4_raise_63 (lv_at hl 3 rfl) ?_
                  refine lv_iconst (v := 3) hx hb dX4_raise_65 (by decide) ?_
                  refine lv_isub hx hb dX4_raise_66 ?_
                  refine gQ S hK hH m_q e_q (j := X4.length) (nI_sub X4.length 3) (by omega) (by omega) (r := (some p3)) hf3 dX4_raise_67 ?_
                  refine lv_goto (tgt := 72) hx hb dX4_raise_68 (by decide) ?_
                  refine lv_astore (lv' := [(8, .ref p3), (7, .ref p2), (6, .ref p1), (5, .ref a), (4, .int (nI ((X4.length + 1) + 2))), (3, .ref q), (0, .ref sa)]) hx hb dX4_raise_72 hl (by decide) rfl (fun ls hl => ?_)
                  refine lv_aload hx hb dX4_raise_74 (lv_at hl 0 rfl) ?_
                  refine lv_ifnull hx hb dX4_raise_76 ?_
                  refine lv_aload hx hb dX4_raise_79 (lv_at hl 0 rfl) ?_
                  refine gB S hi3 hK hH m_p3 e_p3 2 (by decide) f33 (v := .ref p2) rfl dX4_raise_81 ?_
                  refine lv_aload hx hb dX4_raise_84 (lv_at hl 1 rfl) ?_
                  refine lv_acmp_ne (rx := some p2) (ry := some p2) (tgt := 93) hx hb dX4_raise_86 (by decide) (fun hq => absurd rfl hq) (fun _ => ?_)
                  refine lv_iconst (v := 1) hx hb dX4_raise_89 (by decide) ?_
                  refine lv_goto (tgt := 94) hx hb dX4_raise_90 (by decide) ?_
                  refine lv_istore (lv' := [(9, .int 1), (8, .ref p3), (7, .ref p2), (6, .ref p1), (5, .ref a), (4, .int (nI ((X4.length + 1) + 2))), (3, .ref q), (0, .ref sa)]) hx hb dX4_raise_94 hl (by decide) rfl (fun ls hl => ?_)
                  refine lv_aload hx hb dX4_raise_96 (lv_at hl 2 rfl) ?_
                  refine gB S hi3 hK hH m_p2 e_p2 2 (by decide) f33 (v := va_rf (rt u2)) rfl dX4_raise_98 ?_
                  refine lv_aload hx hb dX4_raise_101 (lv_at hl 3 rfl) ?_
                  refine lv_acmp_ne (rx := rt u2) (ry := some p1) (tgt := 110) hx hb dX4_raise_103 (by decide) (fun _ => ?_) (fun hq => absurd hq x21)
                  refine lv_iconst (v := 0) hx hb dX4_raise_110 (by decide) ?_
                  refine lv_aload hx hb dX4_raise_111 (lv_at hl 3 rfl) ?_
                  refine gB S hi3 hK hH m_p1 e_p1 2 (by decide) f33 (v := .ref a) rfl dX4_raise_113 ?_
                  refine lv_aload hx hb dX4_raise_116 (lv_at hl 4 rfl) ?_
                  refine lv_acmp_ne (rx := some a) (ry := some a) (tgt := 125) hx hb dX4_raise_118 (by decide) (fun hq => absurd rfl hq) (fun _ => ?_)
                  refine lv_iconst (v := 1) hx hb dX4_raise_121 (by decide) ?_
                  refine lv_goto (tgt := 126) hx hb dX4_raise_122 (by decide) ?_
                  refine lv_icmp_ne (tgt := 148) hx hb dX4_raise_126 (by decide) (fun _ => ?_) (fun h1 => absurd h1 (by decide))
                  refine lv_aload_n hx hb dX4_raise_148 rfl (lv_at hl 7 rfl) ?_
                  refine lv_aload hx hb dX4_raise_149 (lv_at hl 3 rfl) ?_
                  refine lv_aload hx hb dX4_raise_151 (lv_at hl 4 rfl) ?_
                  have k9_p2 : p2 ∉ [sa, p1, a] := by
                    have q1 : p2 ≠ sa := (neBM e_p2 e_sa)
                    have q2 : p2 ≠ p1 := (Ne.symm n1.2.2)
                    have q3 : p2 ≠ a := (Ne.symm n1.2.1)
                    simp [q1, q2, q3]
                  have k9_p3 : p3 ∉ [sa, p1, a] := by
                    have q1 : p3 ≠ sa := (neBM e_p3 e_sa)
                    have q2 : p3 ≠ p1 := d3.2.1
                    have q3 : p3 ≠ a := d3.1
                    simp [q1, q2, q3]
                  have k9_q : q ∉ [sa, p1, a] := by
                    have q1 : q ≠ sa := (Ne.symm (neMQ e_sa e_q))
                    have q2 : q ≠ p1 := (Ne.symm (neBQ e_p1 e_q))
                    have q3 : q ≠ a := (Ne.symm (neBQ e_a e_q))
                    simp [q1, q2, q3]
                  have rc9 := rec9 hK hH m_sa e_sa (q := (RX4, TX4, 2)) rfl
                  refine cyV S (c_X4_turnL (sa := sa) (ta := ta) (tn := (tn + (X.length - ((X4.length + 1) + 2)))) (up := p1) (own := a) (b9 := (rt l')) (c9 := (rt r')) (y := (rt u1)) m_sa e_sa m_p1 e_p1 m_a e_a (Ne.symm n1.1)) (cwV 2 hts gX4_raise_X4_turn rfl rfl rfl (by decide +kernel) ⟨Nat.le_of_ble_eq_true rfl, Nat.le_of_ble_eq_true rfl⟩) hK hH hX rc9 hS rfl hl.1 rfl (by simp [cat_rf, Value.category]) dX4_raise_153 ⟨Nat.le_of_ble_eq_true rfl, Nat.le_of_ble_eq_true rfl⟩ (fun v Z1 H locs hpost hH hS => ?_)
                  obtain ⟨rfl, E19, rfl, e_sa, e_p1, e_a, hg9⟩ := hpost
                  have e_p2 : E19 p2 = .inr (3, [.int (nI (zz p2)), .int (nI (ee p2)), va_rf (rt u2), .ref p1]) := (hg9.2 p2 m_p2 k9_p2).trans e_p2
                  have e_p3 : E19 p3 = .inr (3, [.int (nI (zz p3)), .int (nI (ee p3)), .ref p2, va_rf (rt u3)]) := (hg9.2 p3 m_p3 k9_p3).trans e_p3
                  have e_q : E19 q = qE Γ (X.length + 1) f' := (hg9.2 q m_q k9_q).trans e_q
                  have e_p1 : E19 p1 = .inr (3, [.int (nI (zz p1)), .int (nI (ee p1)), va_rf (rt r'), va_rf (rt u1)]) := e_p1
                  have e_a : E19 a = .inr (3, [.int (nI (zz a)), .int (nI (ee a)), va_rf (rt l'), .ref p1]) := e_a
                  have hg := hg.tr (hg9.wd (fun b hb9 => Or.inl (by simp only [List.mem_cons, List.not_mem_nil, or_false] at hb9 ⊢; rcases hb9 with h | h | h <;> simp [h])))
                  refine lv_aload hx hb dX4_raise_156 (lv_at hl 2 rfl) ?_
                  refine gB S hi3 hK hH m_p2 e_p2 2 (by decide) f33 (v := va_rf (rt u2)) rfl dX4_raise_158 ?_
                  refine lv_aload hx hb dX4_raise_161 (lv_at hl 3 rfl) ?_
                  refine lv_acmp_ne (rx := rt u2) (ry := some p1) (tgt := 176) hx hb dX4_raise_163 (by decide) (fun _ => ?_) (fun hq => absurd hq x21)
                  refine lv_aload hx hb dX4_raise_176 (lv_at hl 2 rfl) ?_
                  refine lv_aload hx hb dX4_raise_178 (lv_at hl 4 rfl) ?_
                  have n9_a : a ≠ p2 := n1.2.1
                  have n9_p1 : p1 ≠ p2 := n1.2.2
                  have n9_p3 : p3 ≠ p2 := d3.2.2
                  have n9_sa : sa ≠ p2 := (Ne.symm (neBM e_p2 e_sa))
                  have n9_q : q ≠ p2 := (Ne.symm (neBQ e_p2 e_q))
                  refine pBr S hi3 hK hH hS m_p2 e_p2 3 (by decide) f37 (some a) rfl dX4_raise_180 rfl (fun E20 H locs e_p2 ho hH hS => ?_)
                  have e_p2 : E20 p2 = .inr (3, [.int (nI (zz p2)), .int (nI (ee p2)), va_rf (rt u2), .ref a]) := e_p2
                  have e_a : E20 a = .inr (3, [.int (nI (zz a)), .int (nI (ee a)), va_rf (rt l'), .ref p1]) := (ho a n9_a).trans e_a
                  have e_p1 : E20 p1 = .inr (3, [.int (nI (zz p1)), .int (nI (ee p1)), va_rf (rt r'), va_rf (rt u1)]) := (ho p1 n9_p1).trans e_p1
                  have e_p3 : E20 p3 = .inr (3, [.int (nI (zz p3)), .int (nI (ee p3)), .ref p2, va_rf (rt u3)]) := (ho p3 n9_p3).trans e_p3
                  have e_sa : E20 sa = .inr (4, [.ref ta, .int (nI ((tn + (X.length - ((X4.length + 1) + 2))) + 1))]) := (ho sa n9_sa).trans e_sa
                  have e_q : E20 q = qE Γ (X.length + 1) f' := (ho q n9_q).trans e_q
                  have hg := hg.put w_p2 ho
                  refine lv_aload_n hx hb dX4_raise_183 rfl (lv_at hl 7 rfl) ?_
                  refine lv_aload hx hb dX4_raise_184 (lv_at hl 2 rfl) ?_
                  refine lv_aload hx hb dX4_raise_186 (lv_at hl 4 rfl) ?_
                  have k9_p1 : p1 ∉ [sa, p2, a] := by
                    have q1 : p1 ≠ sa := (neBM e_p1 e_sa)
                    have q2 : p1 ≠ p2 := n1.2.2
                    have q3 : p1 ≠ a := (Ne.symm n1.1)
                    simp [q1, q2, q3]
                  have k9_p3 : p3 ∉ [sa, p2, a] := by
                    have q1 : p3 ≠ sa := (neBM e_p3 e_sa)
                    have q2 : p3 ≠ p2 := d3.2.2
                    have q3 : p3 ≠ a := d3.1
                    simp [q1, q2, q3]
                  have k9_q : q ∉ [sa, p2, a] := by
                    have q1 : q ≠ sa := (Ne.symm (neMQ e_sa e_q))
                    have q2 : q ≠ p2 := (Ne.symm (neBQ e_p2 e_q))
                    have q3 : q ≠ a := (Ne.symm (neBQ e_a e_q))
                    simp [q1, q2, q3]
                  have rc9 := rec9 hK hH m_sa e_sa (q := (RX4, TX4, 2)) rfl
                  refine cyV S (c_X4_turnR (sa := sa) (ta := ta) (tn := ((tn + (X.length - ((X4.length + 1) + 2))) + 1)) (up := p2) (own := a) (b9 := (rt l')) (c9 := (some p1)) (x := (rt u2)) (y := (some a)) x2a m_sa e_sa m_p2 e_p2 m_a e_a (Ne.symm n1.2.1)) (cwV 2 hts gX4_raise_X4_turn rfl rfl rfl (by decide +kernel) ⟨Nat.le_of_ble_eq_true rfl, Nat.le_of_ble_eq_true rfl⟩) hK hH hX rc9 hS rfl hl.1 rfl (by simp [cat_rf, Value.category]) dX4_raise_188 ⟨Nat.le_of_ble_eq_true rfl, Nat.le_of_ble_eq_true rfl⟩ (fun v Z1 H locs hpost hH hS => ?_)
                  obtain ⟨rfl, E21, rfl, e_sa, e_p2, e_a, hg9⟩ := hpost
                  have e_p1 : E21 p1 = .inr (3, [.int (nI (zz p1)), .int (nI (ee p1)), va_rf (rt r'), va_rf (rt u1)]) := (hg9.2 p1 m_p1 k9_p1).trans e_p1
                  have e_p3 : E21 p3 = .inr (3, [.int (nI (zz p3)), .int (nI (ee p3)), .ref p2, va_rf (rt u3)]) := (hg9.2 p3 m_p3 k9_p3).trans e_p3
                  have e_q : E21 q = qE Γ (X.length + 1) f' := (hg9.2 q m_q k9_q).trans e_q
                  have e_p2 : E21 p2 = .inr (3, [.int (nI (zz p2)), .int (nI (ee p2)), va_rf (rt u2), va_rf (rt l')]) := e_p2
                  have e_a : E21 a = .inr (3, [.int (nI (zz a)), .int (nI (ee a)), .ref p2, .ref p1]) := e_a
                  have hg := hg.tr (hg9.wd (fun b hb9 => Or.inl (by simp only [List.mem_cons, List.not_mem_nil, or_false] at hb9 ⊢; rcases hb9 with h | h | h <;> simp [h])))
                  refine lv_aload hx hb dX4_raise_191 (lv_at hl 1 rfl) ?_
                  refine lv_ifnull hx hb dX4_raise_193 ?_
                  refine lv_iload hx hb dX4_raise_196 (lv_at hl 0 rfl) ?_
                  refine lv_if_eq (tgt := 211) hx hb dX4_raise_198 (by decide) (fun h1 => absurd h1 (by decide)) (fun _ => ?_)
                  refine lv_aload hx hb dX4_raise_201 (lv_at hl 1 rfl) ?_
                  refine lv_aload hx hb dX4_raise_203 (lv_at hl 4 rfl) ?_
                  have n9_a : a ≠ p3 := (Ne.symm d3.1)
                  have n9_p1 : p1 ≠ p3 := (Ne.symm d3.2.1)
                  have n9_p2 : p2 ≠ p3 := (Ne.symm d3.2.2)
                  have n9_sa : sa ≠ p3 := (Ne.symm (neBM e_p3 e_sa))
                  have n9_q : q ≠ p3 := (Ne.symm (neBQ e_p3 e_q))
                  refine pBr S hi3 hK hH hS m_p3 e_p3 2 (by decide) f33 (some a) rfl dX4_raise_205 rfl (fun E22 H locs e_p3 ho hH hS => ?_)
                  have e_p3 : E22 p3 = .inr (3, [.int (nI (zz p3)), .int (nI (ee p3)), .ref a, va_rf (rt u3)]) := e_p3
                  have e_a : E22 a = .inr (3, [.int (nI (zz a)), .int (nI (ee a)), .ref p2, .ref p1]) := (ho a n9_a).trans e_a
                  have e_p1 : E22 p1 = .inr (3, [.int (nI (zz p1)), .int (nI (ee p1)), va_rf (rt r'), va_rf (rt u1)]) := (ho p1 n9_p1).trans e_p1
                  have e_p2 : E22 p2 = .inr (3, [.int (nI (zz p2)), .int (nI (ee p2)), va_rf (rt u2), va_rf (rt l')]) := (ho p2 n9_p2).trans e_p2
                  have e_sa : E22 sa = .inr (4, [.ref ta, .int (nI (((tn + (X.length - ((X4.length + 1) + 2))) + 1) + 1))]) := (ho sa n9_sa).trans e_sa
                  have e_q : E22 q = qE Γ (X.length + 1) f' := (ho q n9_q).trans e_q
                  have hg := hg.put w_p3 ho
                  refine lv_goto (tgt := 223) hx hb dX4_raise_208 (by decide) ?_
                  refine lv_iinc (v := nI (X4.length + 1)) (lv' := [(4, .int (nI (X4.length + 1))), (9, .int 1), (8, .ref p3), (7, .ref p2), (6, .ref p1), (5, .ref a), (3, .ref q), (0, .ref sa)]) hx hb dX4_raise_223 hl (k := 5) rfl (nI_m2 (X4.length + 1)) (by decide) rfl (fun ls hl => ?_)
                  refine lv_aload_n hx hb dX4_raise_226 rfl (lv_at hl 6 rfl) ?_
                  refine lv_iload hx hb dX4_raise_227 (lv_at hl 0 rfl) ?_
                  refine lv_aload hx hb dX4_raise_229 (lv_at hl 5 rfl) ?_
                  have n9_a : a ≠ q := (neBQ e_a e_q)
                  have n9_p1 : p1 ≠ q := (neBQ e_p1 e_q)
                  have n9_p2 : p2 ≠ q := (neBQ e_p2 e_q)
                  have n9_p3 : p3 ≠ q := (neBQ e_p3 e_q)
                  have n9_sa : sa ≠ q := (neMQ e_sa e_q)
                  refine pQ S hK hH hS m_q e_q (j := (X4.length + 1)) rfl (by omega) (by omega) (some a) (fun b h => by cases h; exact ⟨m_a, _, e_a⟩) rfl dX4_raise_231 (fun E23 H locs e_q ho hH hS => ?_)
                  have e_a : E23 a = .inr (3, [.int (nI (zz a)), .int (nI (ee a)), .ref p2, .ref p1]) := (ho a n9_a).trans e_a
                  have e_p1 : E23 p1 = .inr (3, [.int (nI (zz p1)), .int (nI (ee p1)), va_rf (rt r'), va_rf (rt u1)]) := (ho p1 n9_p1).trans e_p1
                  have e_p2 : E23 p2 = .inr (3, [.int (nI (zz p2)), .int (nI (ee p2)), va_rf (rt u2), va_rf (rt l')]) := (ho p2 n9_p2).trans e_p2
                  have e_p3 : E23 p3 = .inr (3, [.int (nI (zz p3)), .int (nI (ee p3)), .ref a, va_rf (rt u3)]) := (ho p3 n9_p3).trans e_p3
                  have e_sa : E23 sa = .inr (4, [.ref ta, .int (nI (((tn + (X.length - ((X4.length + 1) + 2))) + 1) + 1))]) := (ho sa n9_sa).trans e_sa
                  have hg := hg.put w_q ho
                  refine lv_goto (tgt := 18) hx hb dX4_raise_232 (by decide) ?_
                  obtain ⟨l2, r2, q1, q2, q3⟩ := sim3 (s := false) (M' := (U1, E23)) hzz0 hn (fun _ h => h) e_a e_p1 e_p2 (fun _ _ _ _ h => by cases h; exact e_p3) (fun b hb1 hb2 hb3 hb4 hb5 hb6 => by
                    obtain ⟨x9, h9⟩ := hb6
                    exact hg.2 b hb5 (by
                      have q4 : b ≠ sa := neBM h9 e_sa0
                      have q5 : b ≠ q := neBQ h9 e_q0
                      have q6 : b ≠ p3 := fun e9 => hb4 (by rw [e9]; rfl)
                      simp [hb1, hb2, hb3, q4, q5, q6]))
                  exact ih _ l2 r2 E23 _ hN2 q2 (by rw [q3]; exact hn) (q1.symm.trans hsp) (q3.trans htids) (by omega) (by rw [e_sa, show (tn + (X.length - ((X4.length + 1) + 2))) + 1 + 1 = tn + (X.length - (X4.length + 1)) by omega] <;> rfl) e_q hup (Gr.tr2 hG hg (fun b hb9 => by
                    simp only [List.mem_cons, List.not_mem_nil, or_false] at hb9 ⊢
                    rcases hb9 with h | h | h | h | h | h
                    · exact Or.inl (Or.inl h)
                    · exact Or.inr (by rw [h]; exact fr9)
                    · exact Or.inl (Or.inr (by rw [h]; exact ha))
                    · exact Or.inl (Or.inr (by rw [h]; exact hpt.1))
                    · exact Or.inl (Or.inr (by rw [h]; exact hpt.2.1))
                    · exact Or.inl (Or.inr (by rw [h]; exact hpt.2.2 p3 hp3)))) H locs hH hS ls (lv_sub hl [5, 0, 6, 7] rfl)
                | true =>
                  have x32 : rt u3 ≠ some p2 := fun e9 => n3.2.2.2.2.1 (by simp [cL, rt_mem e9])
                  have hl : lv_has ls 10 [(5, .ref a), (4, .int (nI ((X4.length + 1) + 2))), (3, .ref q), (0, .ref sa)] := hl
                  have e_a : E' a = .inr (3, [.int (nI (zz a)), .int (nI (ee a)), va_rf (rt l'), va_rf (rt r')]) := e_a
                  have e_p1 : E' p1 = .inr (3, [.int (nI (zz p1)), .int (nI (ee p1)), .ref a, va_rf (rt u1)]) := e_p1
                  have e_p2 : E' p2 = .inr (3, [.int (nI (zz p2)), .int (nI (ee p2)), va_rf (rt u2), .ref p1]) := e_p2
                  have e_p3 : E' p3 = .inr (3, [.int (nI (zz p3)), .int (nI (ee p3)), va_rf (rt u3), .ref p2]) := e_p3
                  have e_sa : E' sa = .inr (4, [.ref ta, .int (nI (tn + (X.length - ((X4.length + 1) + 2))))]) := e_sa0
                  have hg : Gr (U1, E') (U1, E') [sa, q, a, p1, p2, p3] := Gr.rf _ _
                  have w_sa : sa ∈ [sa, q, a, p1, p2, p3] := by simp
                  have w_q : q ∈ [sa, q, a, p1, p2, p3] := by simp
                  have w_a : a ∈ [sa, q, a, p1, p2, p3] := by simp
                  have w_p1 : p1 ∈ [sa, q, a, p1, p2, p3] := by simp
                  have w_p2 : p2 ∈ [sa, q, a, p1, p2, p3] := by simp
                  have w_p3 : p3 ∈ [sa, q, a, p1, p2, p3] := by simp
                  refine lv_iload hx hb dX4_raise_18 (lv_at hl 1 rfl) ?_
                  refine lv_if_le (tgt := 235) hx hb dX4_raise_20 (by decide) (fun h1 => absurd h1 (nI_nle (by omega) (by omega))) (fun _ => ?_)
                  refine lv_aload_n hx hb dX4_raise_23 rfl (lv_at hl 2 rfl) ?_
                  refine lv_iload hx hb dX4_raise_24 (lv_at hl 1 rfl) ?_
                  refine lv_iconst (v := 1) hx hb dX4_raise_26 (by decide) ?_
                  refine lv_isub hx hb dX4_raise_27 ?_
                  refine gQ S hK hH m_q e_q (j := ((X4.length + 1) + 1)) (nI_pred ((X4.length + 1) + 1)) (by omega) (by omega) (r := (some p1)) hf1 dX4_raise_28 ?_
                  refine lv_astore (lv' := [(6, .ref p1), (5, .ref a), (4, .int (nI ((X4.length + 1) + 2))), (3, .ref q), (0, .ref sa)]) hx hb dX4_raise_29 hl (by decide) rfl (fun ls hl => ?_)
                  refine lv_iload hx hb dX4_raise_31 (lv_at hl 2 rfl) ?_
                  refine lv_iconst (v := 1) hx hb dX4_raise_33 (by decide) ?_
                  refine lv_icmp_ne (tgt := 48) hx hb dX4_raise_34 (by decide) (fun _ => ?_) (fun h1 => absurd h1 (fun e9 => by have := (nI_eq (b := 1) (by omega) (by omega)).mp e9; omega))
                  refine lv_aload_n hx hb dX4_raise_48 rfl (lv_at hl 3 rfl) ?_
                  refine lv_iload hx hb dX4_raise_49 (lv_at hl 2 rfl) ?_
                  refine lv_iconst (v := 2) hx hb dX4_raise_51 (by decide) ?_
                  refine lv_isub hx hb dX4_raise_52 ?_
                  refine gQ S hK hH m_q e_q (j := (X4.length + 1)) (nI_sub (X4.length + 1) 2) (by omega) (by omega) (r := (some p2)) hf2 dX4_raise_53 ?_
                  refine lv_astore (lv' := [(7, .ref p2), (6, .ref p1), (5, .ref a), (4, .int (nI ((X4.length + 1) + 2))), (3, .ref q), (0, .ref sa)]) hx hb dX4_raise_54 hl (by decide) rfl (fun ls hl => ?_)
                  refine lv_iload hx hb dX4_raise_56 (lv_at hl 3 rfl) ?_
                  refine lv_iconst (v := 2) hx hb dX4_raise_58 (by decide) ?_
                  refine lv_icmp_le (tgt := 71) hx hb dX4_raise_59 (by decide) (fun h1 => absurd h1 (fun e9 => by have := (nI_leI (b := 2) (by omega) (by omega)).mp e9; omega)) (fun _ => ?_)
                  refine lv_aload_n hx hb dX4_raise_62 rfl (lv_at hl 4 rfl) ?_
                  refine lv_iload hx hb dX4_raise_63 (lv_at hl 3 rfl) ?_
                  refine lv_iconst (v := 3) hx hb dX4_raise_65 (by decide) ?_
                  refine lv_isub hx hb dX4_raise_66 ?_
                  refine gQ S hK hH m_q e_q (j := X4.length) (nI_sub X4.length 3) (by omega) (by omega) (r := (some p3)) hf3 dX4_raise_67 ?_
                  refine lv_goto (tgt := 72) hx hb dX4_raise_68 (by decide) ?_
                  refine lv_astore (lv' := [(8, .ref p3), (7, .ref p2), (6, .ref p1), (5, .ref a), (4, .int (nI ((X4.length + 1) + 2))), (3, .ref q), (0, .ref sa)]) hx hb dX4_raise_72 hl (by decide) rfl (fun ls hl => ?_)
                  refine lv_aload hx hb dX4_raise_74 (lv_at hl 0 rfl) ?_
                  refine lv_ifnull hx hb dX4_raise_76 ?_
                  refine lv_aload hx hb dX4_raise_79 (lv_at hl 0 rfl) ?_
                  refine gB S hi3 hK hH m_p3 e_p3 2 (by decide) f33 (v := va_rf (rt u3)) rfl dX4_raise_81 ?_
                  refine lv_aload hx hb dX4_raise_84 (lv_at hl 1 rfl) ?_
                  refine lv_acmp_ne (rx := rt u3) (ry := some p2) (tgt := 93) hx hb dX4_raise_86 (by decide) (fun _ => ?_) (fun hq => absurd hq x32)
                  refine lv_iconst (v := 0) hx hb dX4_raise_93 (by decide) ?_
                  refine lv_istore (lv' := [(9, .int 0), (8, .ref p3), (7, .ref p2), (6, .ref p1), (5, .ref a), (4, .int (nI ((X4.length + 1) + 2))), (3, .ref q), (0, .ref sa)]) hx hb dX4_raise_94 hl (by decide) rfl (fun ls hl => ?_)
                  refine lv_aload hx hb dX4_raise_96 (lv_at hl 2 rfl) ?_
                  refine gB S hi3 hK hH m_p2 e_p2 2 (by decide) f33 (v := va_rf (rt u2)) rfl dX4_raise_98 ?_
                  refine lv_aload hx hb dX4_raise_101 (lv_at hl 3 rfl) ?_
                  refine lv_acmp_ne (rx := rt u2) (ry := some p1) (tgt := 110) hx hb dX4_raise_103 (by decide) (fun _ => ?_) (fun hq => absurd hq x21)
                  refine lv_iconst (v := 0) hx hb dX4_raise_110 (by decide) ?_
                  refine lv_aload hx hb dX4_raise_111 (lv_at hl 3 rfl) ?_
                  refine gB S hi3 hK hH m_p1 e_p1 2 (by decide) f33 (v := .ref a) rfl dX4_raise_113 ?_
                  refine lv_aload hx hb dX4_raise_116 (lv_at hl 4 rfl) ?_
                  refine lv_acmp_ne (rx := some a) (ry := some a) (tgt := 125) hx hb dX4_raise_118 (by decide) (fun hq => absurd rfl hq) (fun _ => ?_)
                  refine lv_iconst (v := 1) hx hb dX4_raise_121 (by decide) ?_
                  refine lv_goto (tgt := 126) hx hb dX4_raise_122 (by decide) ?_
                  refine lv_icmp_ne (tgt := 148) hx hb dX4_raise_126 (by decide) (fun _ => ?_) (fun h1 => absurd h1 (by decide))
                  refine lv_aload_n hx hb dX4_raise_148 rfl (lv_at hl 7 rfl) ?_
                  refine lv_aload hx hb dX4_raise_149 (lv_at hl 3 rfl) ?_
                  refine lv_aload hx hb dX4_raise_151 (lv_at hl 4 rfl) ?_
                  have k9_p2 : p2 ∉ [sa, p1, a] := by
                    have q1 : p2 ≠ sa := (neBM e_p2 e_sa)
                    have q2 : p2 ≠ p1 := (Ne.symm n1.2.2)
                    have q3 : p2 ≠ a := (Ne.symm n1.2.1)
                    simp [q1, q2, q3]
                  have k9_p3 : p3 ∉ [sa, p1, a] := by
                    have q1 : p3 ≠ sa := (neBM e_p3 e_sa)
                    have q2 : p3 ≠ p1 := d3.2.1
                    have q3 : p3 ≠ a := d3.1
                    simp [q1, q2, q3]
                  have k9_q : q ∉ [sa, p1, a] := by
                    have q1 : q ≠ sa := (Ne.symm (neMQ e_sa e_q))
                    have q2 : q ≠ p1 := (Ne.symm (neBQ e_p1 e_q))
                    have q3 : q ≠ a := (Ne.symm (neBQ e_a e_q))
                    simp [q1, q2, q3]
                  have rc9 := rec9 hK hH m_sa e_sa (q := (RX4, TX4, 2)) rfl
                  refine cyV S (c_X4_turnL (sa := sa) (ta := ta) (tn := (tn + (X.length - ((X4.length + 1) + 2)))) (up := p1) (own := a) (b9 := (rt l')) (c9 := (rt r')) (y := (rt u1)) m_sa e_sa m_p1 e_p1 m_a e_a (Ne.symm n1.1)) (cwV 2 hts gX4_raise_X4_turn rfl rfl rfl (by decide +kernel) ⟨Nat.le_of_ble_eq_true rfl, Nat.le_of_ble_eq_true rfl⟩) hK hH hX rc9 hS rfl hl.1 rfl (by simp [cat_rf, Value.category]) dX4_raise_153 ⟨Nat.le_of_ble_eq_true rfl, Nat.le_of_ble_eq_true rfl⟩ (fun v Z1 H locs hpost hH hS => ?_)
                  obtain ⟨rfl, E24, rfl, e_sa, e_p1, e_a, hg9⟩ := hpost
                  have e_p2 : E24 p2 = .inr (3, [.int (nI (zz p2)), .int (nI (ee p2)), va_rf (rt u2), .ref p1]) := (hg9.2 p2 m_p2 k9_p2).trans e_p2
                  have e_p3 : E24 p3 = .inr (3, [.int (nI (zz p3)), .int (nI (ee p3)), va_rf (rt u3), .ref p2]) := (hg9.2 p3 m_p3 k9_p3).trans e_p3
                  have e_q : E24 q = qE Γ (X.length + 1) f' := (hg9.2 q m_q k9_q).trans e_q
                  have e_p1 : E24 p1 = .inr (3, [.int (nI (zz p1)), .int (nI (ee p1)), va_rf (rt r'), va_rf (rt u1)]) := e_p1
                  have e_a : E24 a = .inr (3, [.int (nI (zz a)), .int (nI (ee a)), va_rf (rt l'), .ref p1]) := e_a
                  have hg := hg.tr (hg9.wd (fun b hb9 => Or.inl (by simp only [List.mem_cons, List.not_mem_nil, or_false] at hb9 ⊢; rcases hb9 with h | h | h <;> simp [h])))
                  refine lv_aload hx hb dX4_raise_156 (lv_at hl 2 rfl) ?_
                  refine gB S hi3 hK hH m_p2 e_p2 2 (by decide) f33 (v := va_rf (rt u2)) rfl dX4_raise_158 ?_
                  refine lv_aload hx hb dX4_raise_161 (lv_at hl 3 rfl) ?_
                  refine lv_acmp_ne (rx := rt u2) (ry := some p1) (tgt := 176) hx hb dX4_raise_163 (by decide) (fun _ => ?_) (fun hq => absurd hq x21)
                  refine lv_aload hx hb dX4_raise_176 (lv_at hl 2 rfl) ?_
                  refine lv_aload hx hb dX4_raise_178 (lv_at hl 4 rfl) ?_
                  have n9_a : a ≠ p2 := n1.2.1
                  have n9_p1 : p1 ≠ p2 := n1.2.2
                  have n9_p3 : p3 ≠ p2 := d3.2.2
                  have n9_sa : sa ≠ p2 := (Ne.symm (neBM e_p2 e_sa))
                  have n9_q : q ≠ p2 := (Ne.symm (neBQ e_p2 e_q))
                  refine pBr S hi3 hK hH hS m_p2 e_p2 3 (by decide) f37 (some a) rfl dX4_raise_180 rfl (fun E25 H locs e_p2 ho hH hS => ?_)
                  have e_p2 : E25 p2 = .inr (3, [.int (nI (zz p2)), .int (nI (ee p2)), va_rf (rt u2), .ref a]) := e_p2
                  have e_a : E25 a = .inr (3, [.int (nI (zz a)), .int (nI (ee a)), va_rf (rt l'), .ref p1]) := (ho a n9_a).trans e_a
                  have e_p1 : E25 p1 = .inr (3, [.int (nI (zz p1)), .int (nI (ee p1)), va_rf (rt r'), va_rf (rt u1)]) := (ho p1 n9_p1).trans e_p1
                  have e_p3 : E25 p3 = .inr (3, [.int (nI (zz p3)), .int (nI (ee p3)), va_rf (rt u3), .ref p2]) := (ho p3 n9_p3).trans e_p3
                  have e_sa : E25 sa = .inr (4, [.ref ta, .int (nI ((tn + (X.length - ((X4.length + 1) + 2))) + 1))]) := (ho sa n9_sa).trans e_sa
                  have e_q : E25 q = qE Γ (X.length + 1) f' := (ho q n9_q).trans e_q
                  have hg := hg.put w_p2 ho
                  refine lv_aload_n hx hb dX4_raise_183 rfl (lv_at hl 7 rfl) ?_
                  refine lv_aload hx hb dX4_raise_184 (lv_at hl 2 rfl) ?_
                  refine lv_aload hx hb dX4_raise_186 (lv_at hl 4 rfl) ?_
                  have k9_p1 : p1 ∉ [sa, p2, a] := by
                    have q1 : p1 ≠ sa := (neBM e_p1 e_sa)
                    have q2 : p1 ≠ p2 := n1.2.2
                    have q3 : p1 ≠ a := (Ne.symm n1.1)
                    simp [q1, q2, q3]
                  have k9_p3 : p3 ∉ [sa, p2, a] := by
                    have q1 : p3 ≠ sa := (neBM e_p3 e_sa)
                    have q2 : p3 ≠ p2 := d3.2.2
                    have q3 : p3 ≠ a := d3.1
                    simp [q1, q2, q3]
                  have k9_q : q ∉ [sa, p2, a] := by
                    have q1 : q ≠ sa := (Ne.symm (neMQ e_sa e_q))
                    have q2 : q ≠ p2 := (Ne.symm (neBQ e_p2 e_q))
                    have q3 : q ≠ a := (Ne.symm (neBQ e_a e_q))
                    simp [q1, q2, q3]
                  have rc9 := rec9 hK hH m_sa e_sa (q := (RX4, TX4, 2)) rfl
                  refine cyV S (c_X4_turnR (sa := sa) (ta := ta) (tn := ((tn + (X.length - ((X4.length + 1) + 2))) + 1)) (up := p2) (own := a) (b9 := (rt l')) (c9 := (some p1)) (x := (rt u2)) (y := (some a)) x2a m_sa e_sa m_p2 e_p2 m_a e_a (Ne.symm n1.2.1)) (cwV 2 hts gX4_raise_X4_turn rfl rfl rfl (by decide +kernel) ⟨Nat.le_of_ble_eq_true rfl, Nat.le_of_ble_eq_true rfl⟩) hK hH hX rc9 hS rfl hl.1 rfl (by simp [cat_rf, Value.category]) dX4_raise_188 ⟨Nat.le_of_ble_eq_true rfl, Nat.le_of_ble_eq_true rfl⟩ (fun v Z1 H locs hpost hH hS => ?_)
                  obtain ⟨rfl, E26, rfl, e_sa, e_p2, e_a, hg9⟩ := hpost
                  have e_p1 : E26 p1 = .inr (3, [.int (nI (zz p1)), .int (nI (ee p1)), va_rf (rt r'), va_rf (rt u1)]) := (hg9.2 p1 m_p1 k9_p1).trans e_p1
                  have e_p3 : E26 p3 = .inr (3, [.int (nI (zz p3)), .int (nI (ee p3)), va_rf (rt u3), .ref p2]) := (hg9.2 p3 m_p3 k9_p3).trans e_p3
                  have e_q : E26 q = qE Γ (X.length + 1) f' := (hg9.2 q m_q k9_q).trans e_q
                  have e_p2 : E26 p2 = .inr (3, [.int (nI (zz p2)), .int (nI (ee p2)), va_rf (rt u2), va_rf (rt l')]) := e_p2
                  have e_a : E26 a = .inr (3, [.int (nI (zz a)), .int (nI (ee a)), .ref p2, .ref p1]) := e_a
                  have hg := hg.tr (hg9.wd (fun b hb9 => Or.inl (by simp only [List.mem_cons, List.not_mem_nil, or_false] at hb9 ⊢; rcases hb9 with h | h | h <;> simp [h])))
                  refine lv_aload hx hb dX4_raise_191 (lv_at hl 1 rfl) ?_
                  refine lv_ifnull hx hb dX4_raise_193 ?_
                  refine lv_iload hx hb dX4_raise_196 (lv_at hl 0 rfl) ?_
                  refine lv_if_eq (tgt := 211) hx hb dX4_raise_198 (by decide) (fun _ => ?_) (fun h1 => absurd (by decide) h1)
                  refine lv_aload hx hb dX4_raise_211 (lv_at hl 1 rfl) ?_
                  refine lv_ifnull hx hb dX4_raise_213 ?_
                  refine lv_aload hx hb dX4_raise_216 (lv_at hl 1 rfl) ?_
                  refine lv_aload hx hb dX4_raise_218 (lv_at hl 4 rfl) ?_
                  have n9_a : a ≠ p3 := (Ne.symm d3.1)
                  have n9_p1 : p1 ≠ p3 := (Ne.symm d3.2.1)
                  have n9_p2 : p2 ≠ p3 := (Ne.symm d3.2.2)
                  have n9_sa : sa ≠ p3 := (Ne.symm (neBM e_p3 e_sa))
                  have n9_q : q ≠ p3 := (Ne.symm (neBQ e_p3 e_q))
                  refine pBr S hi3 hK hH hS m_p3 e_p3 3 (by decide) f37 (some a) rfl dX4_raise_220 rfl (fun E27 H locs e_p3 ho hH hS => ?_)
                  have e_p3 : E27 p3 = .inr (3, [.int (nI (zz p3)), .int (nI (ee p3)), va_rf (rt u3), .ref a]) := e_p3
                  have e_a : E27 a = .inr (3, [.int (nI (zz a)), .int (nI (ee a)), .ref p2, .ref p1]) := (ho a n9_a).trans e_a
                  have e_p1 : E27 p1 = .inr (3, [.int (nI (zz p1)), .int (nI (ee p1)), va_rf (rt r'), va_rf (rt u1)]) := (ho p1 n9_p1).trans e_p1
                  have e_p2 : E27 p2 = .inr (3, [.int (nI (zz p2)), .int (nI (ee p2)), va_rf (rt u2), va_rf (rt l')]) := (ho p2 n9_p2).trans e_p2
                  have e_sa : E27 sa = .inr (4, [.ref ta, .int (nI (((tn + (X.length - ((X4.length + 1) + 2))) + 1) + 1))]) := (ho sa n9_sa).trans e_sa
                  have e_q : E27 q = qE Γ (X.length + 1) f' := (ho q n9_q).trans e_q
                  have hg := hg.put w_p3 ho
                  refine lv_iinc (v := nI (X4.length + 1)) (lv' := [(4, .int (nI (X4.length + 1))), (9, .int 0), (8, .ref p3), (7, .ref p2), (6, .ref p1), (5, .ref a), (3, .ref q), (0, .ref sa)]) hx hb dX4_raise_223 hl (k := 5) rfl (nI_m2 (X4.length + 1)) (by decide) rfl (fun ls hl => ?_)
                  refine lv_aload_n hx hb dX4_raise_226 rfl (lv_at hl 6 rfl) ?_
                  refine lv_iload hx hb dX4_raise_227 (lv_at hl 0 rfl) ?_
                  refine lv_aload hx hb dX4_raise_229 (lv_at hl 5 rfl) ?_
                  have n9_a : a ≠ q := (neBQ e_a e_q)
                  have n9_p1 : p1 ≠ q := (neBQ e_p1 e_q)
                  have n9_p2 : p2 ≠ q := (neBQ e_p2 e_q)
                  have n9_p3 : p3 ≠ q := (neBQ e_p3 e_q)
                  have n9_sa : sa ≠ q := (neMQ e_sa e_q)
                  refine pQ S hK hH hS m_q e_q (j := (X4.length + 1)) rfl (by omega) (by omega) (some a) (fun b h => by cases h; exact ⟨m_a, _, e_a⟩) rfl dX4_raise_231 (fun E28 H locs e_q ho hH hS => ?_)
                  have e_a : E28 a = .inr (3, [.int (nI (zz a)), .int (nI (ee a)), .ref p2, .ref p1]) := (ho a n9_a).trans e_a
                  have e_p1 : E28 p1 = .inr (3, [.int (nI (zz p1)), .int (nI (ee p1)), va_rf (rt r'), va_rf (rt u1)]) := (ho p1 n9_p1).trans e_p1
                  have e_p2 : E28 p2 = .inr (3, [.int (nI (zz p2)), .int (nI (ee p2)), va_rf (rt u2), va_rf (rt l')]) := (ho p2 n9_p2).trans e_p2
                  have e_p3 : E28 p3 = .inr (3, [.int (nI (zz p3)), .int (nI (ee p3)), va_rf (rt u3), .ref a]) := (ho p3 n9_p3).trans e_p3
                  have e_sa : E28 sa = .inr (4, [.ref ta, .int (nI (((tn + (X.length - ((X4.length + 1) + 2))) + 1) + 1))]) := (ho sa n9_sa).trans e_sa
                  have hg := hg.put w_q ho
                  refine lv_goto (tgt := 18) hx hb dX4_raise_232 (by decide) ?_
                  obtain ⟨l2, r2, q1, q2, q3⟩ := sim3 (s := false) (M' := (U1, E28)) hzz0 hn (fun _ h => h) e_a e_p1 e_p2 (fun _ _ _ _ h => by cases h; exact e_p3) (fun b hb1 hb2 hb3 hb4 hb5 hb6 => by
                    obtain ⟨x9, h9⟩ := hb6
                    exact hg.2 b hb5 (by
                      have q4 : b ≠ sa := neBM h9 e_sa0
                      have q5 : b ≠ q := neBQ h9 e_q0
                      have q6 : b ≠ p3 := fun e9 => hb4 (by rw [e9]; rfl)
                      simp [hb1, hb2, hb3, q4, q5, q6]))
                  exact ih _ l2 r2 E28 _ hN2 q2 (by rw [q3]; exact hn) (q1.symm.trans hsp) (q3.trans htids) (by omega) (by rw [e_sa, show (tn + (X.length - ((X4.length + 1) + 2))) + 1 + 1 = tn + (X.length - (X4.length + 1)) by omega] <;> rfl) e_q hup (Gr.tr2 hG hg (fun b hb9 => by
                    simp only [List.mem_cons, List.not_mem_nil, or_false] at hb9 ⊢
                    rcases hb9 with h | h | h | h | h | h
                    · exact Or.inl (Or.inl h)
                    · exact Or.inr (by rw [h]; exact fr9)
                    · exact Or.inl (Or.inr (by rw [h]; exact ha))
                    · exact Or.inl (Or.inr (by rw [h]; exact hpt.1))
                    · exact Or.inl (Or.inr (by rw [h]; exact hpt.2.1))
                    · exact Or.inl (Or.inr (by rw [h]; exact hpt.2.2 p3 hp3)))) H locs hH hS ls (lv_sub hl [5, 0, 6, 7] rfl)
          | true =>
            cases s2 with
            | false =>
              cases X3 with
              | nil =>
                have hl : lv_has ls 10 [(5, .ref a), (4, .int (nI (([] : Cx).length + 2))), (3, .ref q), (0, .ref sa)] := hl
                have e_a : E' a = .inr (3, [.int (nI (zz a)), .int (nI (ee a)), va_rf (rt l'), va_rf (rt r')]) := e_a
                have e_p1 : E' p1 = .inr (3, [.int (nI (zz p1)), .int (nI (ee p1)), va_rf (rt u1), .ref a]) := e_p1
                have e_p2 : E' p2 = .inr (3, [.int (nI (zz p2)), .int (nI (ee p2)), .ref p1, va_rf (rt u2)]) := e_p2
                have e_sa : E' sa = .inr (4, [.ref ta, .int (nI (tn + (X.length - (([] : Cx).length + 2))))]) := e_sa0
                have hg : Gr (U1, E') (U1, E') [sa, q, a, p1, p2] := Gr.rf _ _
                have w_sa : sa ∈ [sa, q, a, p1, p2] := by simp
                have w_q : q ∈ [sa, q, a, p1, p2] := by simp
                have w_a : a ∈ [sa, q, a, p1, p2] := by simp
                have w_p1 : p1 ∈ [sa, q, a, p1, p2] := by simp
                have w_p2 : p2 ∈ [sa, q, a, p1, p2] := by simp
                refine lv_iload hx hb dX4_raise_18 (lv_at hl 1 rfl) ?_
                refine lv_if_le (tgt := 235) hx hb dX4_raise_20 (by decide) (fun h1 => absurd h1 (nI_nle (by omega) (by omega))) (fun _ => ?_)
                refine lv_aload_n hx hb dX4_raise_23 rfl (lv_at hl 2 rfl) ?_
                refine lv_iload hx hb dX4_raise_24 (lv_at hl 1 rfl) ?_
                refine lv_iconst (v := 1) hx hb dX4_raise_26 (by decide) ?_
                refine lv_isub hx hb dX4_raise_27 ?_
                refine gQ S hK hH m_q e_q (j := (([] : Cx).length + 1)) (nI_pred (([] : Cx).length + 1)) (by omega) (by omega) (r := (some p1)) hf1 dX4_raise_28 ?_
                refine lv_astore (lv' := [(6, .ref p1), (5, .ref a), (4, .int (nI (([] : Cx).length + 2))), (3, .ref q), (0, .ref sa)]) hx hb dX4_raise_29 hl (by decide) rfl (fun ls hl => ?_)
                refine lv_iload hx hb dX4_raise_31 (lv_at hl 2 rfl) ?_
                refine lv_iconst (v := 1) hx hb dX4_raise_33 (by decide) ?_
                refine lv_icmp_ne (tgt := 48) hx hb dX4_raise_34 (by decide) (fun _ => ?_) (fun h1 => absurd h1 (fun e9 => by have := (nI_eq (b := 1) (by omega) (by omega)).mp e9; omega))
                refine lv_aload_n hx hb dX4_raise_48 rfl (lv_at hl 3 rfl) ?_
                refine lv_iload hx hb dX4_raise_49 (lv_at hl 2 rfl) ?_
                refine lv_iconst (v := 2) hx hb dX4_raise_51 (by decide) ?_
                refine lv_isub hx hb dX4_raise_52 ?_
                refine gQ S hK hH m_q e_q (j := ([] : Cx).length) (nI_sub ([] : Cx).length 2) (by omega) (by omega) (r := (some p2)) hf2 dX4_raise_53 ?_
                refine lv_astore (lv' := [(7, .ref p2), (6, .ref p1), (5, .ref a), (4, .int (nI (([] : Cx).length + 2))), (3, .ref q), (0, .ref sa)]) hx hb dX4_raise_54 hl (by decide) rfl (fun ls hl => ?_)
                refine lv_iload hx hb dX4_raise_56 (lv_at hl 3 rfl) ?_
                refine lv_iconst (v := 2) hx hb dX4_raise_58 (by decide) ?_
                refine lv_icmp_le (tgt := 71) hx hb dX4_raise_59 (by decide) (fun _ => ?_) (fun h1 => absurd (by decide) h1)
                refine lv_null hx hb dX4_raise_71 ?_
                refine lv_astoreN (lv' := [(8, .null), (7, .ref p2), (6, .ref p1), (5, .ref a), (4, .int (nI (([] : Cx).length + 2))), (3, .ref q), (0, .ref sa)]) hx hb dX4_raise_72 hl (by decide) rfl (fun ls hl => ?_)
                refine lv_aloadN hx hb dX4_raise_74 (lv_at hl 0 rfl) ?_
                refine lv_ifnullN hx hb dX4_raise_76 (tgt := 93) (by decide) ?_
                refine lv_iconst (v := 0) hx hb dX4_raise_93 (by decide) ?_
                refine lv_istore (lv' := [(9, .int 0), (8, .null), (7, .ref p2), (6, .ref p1), (5, .ref a), (4, .int (nI (([] : Cx).length + 2))), (3, .ref q), (0, .ref sa)]) hx hb dX4_raise_94 hl (by decide) rfl (fun ls hl => ?_)
                refine lv_aload hx hb dX4_raise_96 (lv_at hl 2 rfl) ?_
                refine gB S hi3 hK hH m_p2 e_p2 2 (by decide) f33 (v := .ref p1) rfl dX4_raise_98 ?_
                refine lv_aload hx hb dX4_raise_101 (lv_at hl 3 rfl) ?_
                refine lv_acmp_ne (rx := some p1) (ry := some p1) (tgt := 110) hx hb dX4_raise_103 (by decide) (fun hq => absurd rfl hq) (fun _ => ?_)
                refine lv_iconst (v := 1) hx hb dX4_raise_106 (by decide) ?_
                refine lv_goto (tgt := 111) hx hb dX4_raise_107 (by decide) ?_
                refine lv_aload hx hb dX4_raise_111 (lv_at hl 3 rfl) ?_
                refine gB S hi3 hK hH m_p1 e_p1 2 (by decide) f33 (v := va_rf (rt u1)) rfl dX4_raise_113 ?_
                refine lv_aload hx hb dX4_raise_116 (lv_at hl 4 rfl) ?_
                refine lv_acmp_ne (rx := rt u1) (ry := some a) (tgt := 125) hx hb dX4_raise_118 (by decide) (fun _ => ?_) (fun hq => absurd hq x1a)
                refine lv_iconst (v := 0) hx hb dX4_raise_125 (by decide) ?_
                refine lv_icmp_ne (tgt := 148) hx hb dX4_raise_126 (by decide) (fun _ => ?_) (fun h1 => absurd h1 (by decide))
                refine lv_aload_n hx hb dX4_raise_148 rfl (lv_at hl 7 rfl) ?_
                refine lv_aload hx hb dX4_raise_149 (lv_at hl 3 rfl) ?_
                refine lv_aload hx hb dX4_raise_151 (lv_at hl 4 rfl) ?_
                have k9_p2 : p2 ∉ [sa, p1, a] := by
                  have q1 : p2 ≠ sa := (neBM e_p2 e_sa)
                  have q2 : p2 ≠ p1 := (Ne.symm n1.2.2)
                  have q3 : p2 ≠ a := (Ne.symm n1.2.1)
                  simp [q1, q2, q3]
                have k9_q : q ∉ [sa, p1, a] := by
                  have q1 : q ≠ sa := (Ne.symm (neMQ e_sa e_q))
                  have q2 : q ≠ p1 := (Ne.symm (neBQ e_p1 e_q))
                  have q3 : q ≠ a := (Ne.symm (neBQ e_a e_q))
                  simp [q1, q2, q3]
                have rc9 := rec9 hK hH m_sa e_sa (q := (RX4, TX4, 2)) rfl
                refine cyV S (c_X4_turnR (sa := sa) (ta := ta) (tn := (tn + (X.length - (([] : Cx).length + 2)))) (up := p1) (own := a) (b9 := (rt l')) (c9 := (rt r')) (x := (rt u1)) (y := (some a)) x1a m_sa e_sa m_p1 e_p1 m_a e_a (Ne.symm n1.1)) (cwV 2 hts gX4_raise_X4_turn rfl rfl rfl (by decide +kernel) ⟨Nat.le_of_ble_eq_true rfl, Nat.le_of_ble_eq_true rfl⟩) hK hH hX rc9 hS rfl hl.1 rfl (by simp [cat_rf, Value.category]) dX4_raise_153 ⟨Nat.le_of_ble_eq_true rfl, Nat.le_of_ble_eq_true rfl⟩ (fun v Z1 H locs hpost hH hS => ?_)
                obtain ⟨rfl, E29, rfl, e_sa, e_p1, e_a, hg9⟩ := hpost
                have e_p2 : E29 p2 = .inr (3, [.int (nI (zz p2)), .int (nI (ee p2)), .ref p1, va_rf (rt u2)]) := (hg9.2 p2 m_p2 k9_p2).trans e_p2
                have e_q : E29 q = qE Γ (X.length + 1) f' := (hg9.2 q m_q k9_q).trans e_q
                have e_p1 : E29 p1 = .inr (3, [.int (nI (zz p1)), .int (nI (ee p1)), va_rf (rt u1), va_rf (rt l')]) := e_p1
                have e_a : E29 a = .inr (3, [.int (nI (zz a)), .int (nI (ee a)), .ref p1, va_rf (rt r')]) := e_a
                have hg := hg.tr (hg9.wd (fun b hb9 => Or.inl (by simp only [List.mem_cons, List.not_mem_nil, or_false] at hb9 ⊢; rcases hb9 with h | h | h <;> simp [h])))
                refine lv_aload hx hb dX4_raise_156 (lv_at hl 2 rfl) ?_
                refine gB S hi3 hK hH m_p2 e_p2 2 (by decide) f33 (v := .ref p1) rfl dX4_raise_158 ?_
                refine lv_aload hx hb dX4_raise_161 (lv_at hl 3 rfl) ?_
                refine lv_acmp_ne (rx := some p1) (ry := some p1) (tgt := 176) hx hb dX4_raise_163 (by decide) (fun hq => absurd rfl hq) (fun _ => ?_)
                refine lv_aload hx hb dX4_raise_166 (lv_at hl 2 rfl) ?_
                refine lv_aload hx hb dX4_raise_168 (lv_at hl 4 rfl) ?_
                have n9_a : a ≠ p2 := n1.2.1
                have n9_p1 : p1 ≠ p2 := n1.2.2
                have n9_sa : sa ≠ p2 := (Ne.symm (neBM e_p2 e_sa))
                have n9_q : q ≠ p2 := (Ne.symm (neBQ e_p2 e_q))
                refine pBr S hi3 hK hH hS m_p2 e_p2 2 (by decide) f33 (some a) rfl dX4_raise_170 rfl (fun E30 H locs e_p2 ho hH hS => ?_)
                have e_p2 : E30 p2 = .inr (3, [.int (nI (zz p2)), .int (nI (ee p2)), .ref a, va_rf (rt u2)]) := e_p2
                have e_a : E30 a = .inr (3, [.int (nI (zz a)), .int (nI (ee a)), .ref p1, va_rf (rt r')]) := (ho a n9_a).trans e_a
                have e_p1 : E30 p1 = .inr (3, [.int (nI (zz p1)), .int (nI (ee p1)), va_rf (rt u1), va_rf (rt l')]) := (ho p1 n9_p1).trans e_p1
                have e_sa : E30 sa = .inr (4, [.ref ta, .int (nI ((tn + (X.length - (([] : Cx).length + 2))) + 1))]) := (ho sa n9_sa).trans e_sa
                have e_q : E30 q = qE Γ (X.length + 1) f' := (ho q n9_q).trans e_q
                have hg := hg.put w_p2 ho
                refine lv_goto (tgt := 183) hx hb dX4_raise_173 (by decide) ?_
                refine lv_aload_n hx hb dX4_raise_183 rfl (lv_at hl 7 rfl) ?_
                refine lv_aload hx hb dX4_raise_184 (lv_at hl 2 rfl) ?_
                refine lv_aload hx hb dX4_raise_186 (lv_at hl 4 rfl) ?_
                have k9_p1 : p1 ∉ [sa, p2, a] := by
                  have q1 : p1 ≠ sa := (neBM e_p1 e_sa)
                  have q2 : p1 ≠ p2 := n1.2.2
                  have q3 : p1 ≠ a := (Ne.symm n1.1)
                  simp [q1, q2, q3]
                have k9_q : q ∉ [sa, p2, a] := by
                  have q1 : q ≠ sa := (Ne.symm (neMQ e_sa e_q))
                  have q2 : q ≠ p2 := (Ne.symm (neBQ e_p2 e_q))
                  have q3 : q ≠ a := (Ne.symm (neBQ e_a e_q))
                  simp [q1, q2, q3]
                have rc9 := rec9 hK hH m_sa e_sa (q := (RX4, TX4, 2)) rfl
                refine cyV S (c_X4_turnL (sa := sa) (ta := ta) (tn := ((tn + (X.length - (([] : Cx).length + 2))) + 1)) (up := p2) (own := a) (b9 := (some p1)) (c9 := (rt r')) (y := (rt u2)) m_sa e_sa m_p2 e_p2 m_a e_a (Ne.symm n1.2.1)) (cwV 2 hts gX4_raise_X4_turn rfl rfl rfl (by decide +kernel) ⟨Nat.le_of_ble_eq_true rfl, Nat.le_of_ble_eq_true rfl⟩) hK hH hX rc9 hS rfl hl.1 rfl (by simp [cat_rf, Value.category]) dX4_raise_188 ⟨Nat.le_of_ble_eq_true rfl, Nat.le_of_ble_eq_true rfl⟩ (fun v Z1 H locs hpost hH hS => ?_)
                obtain ⟨rfl, E31, rfl, e_sa, e_p2, e_a, hg9⟩ := hpost
                have e_p1 : E31 p1 = .inr (3, [.int (nI (zz p1)), .int (nI (ee p1)), va_rf (rt u1), va_rf (rt l')]) := (hg9.2 p1 m_p1 k9_p1).trans e_p1
                have e_q : E31 q = qE Γ (X.length + 1) f' := (hg9.2 q m_q k9_q).trans e_q
                have e_p2 : E31 p2 = .inr (3, [.int (nI (zz p2)), .int (nI (ee p2)), va_rf (rt r'), va_rf (rt u2)]) := e_p2
                have e_a : E31 a = .inr (3, [.int (nI (zz a)), .int (nI (ee a)), .ref p1, .ref p2]) := e_a
                have hg := hg.tr (hg9.wd (fun b hb9 => Or.inl (by simp only [List.mem_cons, List.not_mem_nil, or_false] at hb9 ⊢; rcases hb9 with h | h | h <;> simp [h])))
                refine lv_aloadN hx hb dX4_raise_191 (lv_at hl 1 rfl) ?_
                refine lv_ifnullN hx hb dX4_raise_193 (tgt := 211) (by decide) ?_
                refine lv_aloadN hx hb dX4_raise_211 (lv_at hl 1 rfl) ?_
                refine lv_ifnullN hx hb dX4_raise_213 (tgt := 223) (by decide) ?_
                refine lv_iinc (v := nI (([] : Cx).length)) (lv' := [(4, .int (nI (([] : Cx).length))), (9, .int 0), (8, .null), (7, .ref p2), (6, .ref p1), (5, .ref a), (3, .ref q), (0, .ref sa)]) hx hb dX4_raise_223 hl (k := 5) rfl (nI_m2 (([] : Cx).length)) (by decide) rfl (fun ls hl => ?_)
                refine lv_aload_n hx hb dX4_raise_226 rfl (lv_at hl 6 rfl) ?_
                refine lv_iload hx hb dX4_raise_227 (lv_at hl 0 rfl) ?_
                refine lv_aload hx hb dX4_raise_229 (lv_at hl 5 rfl) ?_
                have n9_a : a ≠ q := (neBQ e_a e_q)
                have n9_p1 : p1 ≠ q := (neBQ e_p1 e_q)
                have n9_p2 : p2 ≠ q := (neBQ e_p2 e_q)
                have n9_sa : sa ≠ q := (neMQ e_sa e_q)
                refine pQ S hK hH hS m_q e_q (j := ([] : Cx).length) rfl (by omega) (by omega) (some a) (fun b h => by cases h; exact ⟨m_a, _, e_a⟩) rfl dX4_raise_231 (fun E32 H locs e_q ho hH hS => ?_)
                have e_a : E32 a = .inr (3, [.int (nI (zz a)), .int (nI (ee a)), .ref p1, .ref p2]) := (ho a n9_a).trans e_a
                have e_p1 : E32 p1 = .inr (3, [.int (nI (zz p1)), .int (nI (ee p1)), va_rf (rt u1), va_rf (rt l')]) := (ho p1 n9_p1).trans e_p1
                have e_p2 : E32 p2 = .inr (3, [.int (nI (zz p2)), .int (nI (ee p2)), va_rf (rt r'), va_rf (rt u2)]) := (ho p2 n9_p2).trans e_p2
                have e_sa : E32 sa = .inr (4, [.ref ta, .int (nI (((tn + (X.length - (([] : Cx).length + 2))) + 1) + 1))]) := (ho sa n9_sa).trans e_sa
                have hg := hg.put w_q ho
                refine lv_goto (tgt := 18) hx hb dX4_raise_232 (by decide) ?_
                obtain ⟨l2, r2, q1, q2, q3⟩ := sim3 (s := true) (M' := (U1, E32)) hzz0 hn (fun _ h => h) e_a e_p1 e_p2 (fun _ _ _ _ h => by cases h) (fun b hb1 hb2 hb3 hb4 hb5 hb6 => by
                  obtain ⟨x9, h9⟩ := hb6
                  exact hg.2 b hb5 (by
                    have q4 : b ≠ sa := neBM h9 e_sa0
                    have q5 : b ≠ q := neBQ h9 e_q0
                    simp [hb1, hb2, hb3, q4, q5]))
                exact ih _ l2 r2 E32 _ hN2 q2 (by rw [q3]; exact hn) (q1.symm.trans hsp) (q3.trans htids) (by omega) (by rw [e_sa, show (tn + (X.length - (([] : Cx).length + 2))) + 1 + 1 = tn + (X.length - ([] : Cx).length) by omega] <;> rfl) e_q hup (Gr.tr2 hG hg (fun b hb9 => by
                  simp only [List.mem_cons, List.not_mem_nil, or_false] at hb9 ⊢
                  rcases hb9 with h | h | h | h | h
                  · exact Or.inl (Or.inl h)
                  · exact Or.inr (by rw [h]; exact fr9)
                  · exact Or.inl (Or.inr (by rw [h]; exact ha))
                  · exact Or.inl (Or.inr (by rw [h]; exact hpt.1))
                  · exact Or.inl (Or.inr (by rw [h]; exact hpt.2.1)))) H locs hH hS ls (lv_sub hl [5, 0, 6, 7] rfl)
              | cons f X4 =>
                obtain ⟨s3, p3, u3⟩ := f
                obtain ⟨⟨m_p3, e_p3⟩, hu3, hC4⟩ := hC3
                have hp3 : p3 ∈ cL ((s3, p3, u3) :: X4) ∨ p3 ∈ cR ((s3, p3, u3) :: X4) := parC_mem rfl
                have d3 : p3 ≠ a ∧ p3 ≠ p1 ∧ p3 ≠ p2 := by
                  refine ⟨?_, ?_, ?_⟩ <;> rintro rfl <;> rcases hp3 with h | h
                  · exact n3.1 h
                  · exact n3.2.1 h
                  · exact n3.2.2.1 h
                  · exact n3.2.2.2.1 h
                  · exact n3.2.2.2.2.1 h
                  · exact n3.2.2.2.2.2 h
                have hf3 : f' X4.length = some p3 := by rw [hf0 _ (by simp), anc_cons, List.getElem?_append_right (by simp [anc_len])]; simp [anc_len]
                have hlx : X4.length + 1 + 2 ≤ X.length := hlx
                cases s3 with
                | false =>
                  have hl : lv_has ls 10 [(5, .ref a), (4, .int (nI ((X4.length + 1) + 2))), (3, .ref q), (0, .ref sa)] := hl
                  have e_a : E' a = .inr (3, [.int (nI (zz a)), .int (nI (ee a)), va_rf (rt l'), va_rf (rt r')]) := e_a
                  have e_p1 : E' p1 = .inr (3, [.int (nI (zz p1)), .int (nI (ee p1)), va_rf (rt u1), .ref a]) := e_p1
                  have e_p2 : E' p2 = .inr (3, [.int (nI (zz p2)), .int (nI (ee p2)), .ref p1, va_rf (rt u2)]) := e_p2
                  have e_p3 : E' p3 = .inr (3, [.int (nI (zz p3)), .int (nI (ee p3)), .ref p2, va_rf (rt u3)]) := e_p3
                  have e_sa : E' sa = .inr (4, [.ref ta, .int (nI (tn + (X.length - ((X4.length + 1) + 2))))]) := e_sa0
                  have hg : Gr (U1, E') (U1, E') [sa, q, a, p1, p2, p3] := Gr.rf _ _
                  have w_sa : sa ∈ [sa, q, a, p1, p2, p3] := by simp
                  have w_q : q ∈ [sa, q, a, p1, p2, p3] := by simp
                  have w_a : a ∈ [sa, q, a, p1, p2, p3] := by simp
                  have w_p1 : p1 ∈ [sa, q, a, p1, p2, p3] := by simp
                  have w_p2 : p2 ∈ [sa, q, a, p1, p2, p3] := by simp
                  have w_p3 : p3 ∈ [sa, q, a, p1, p2, p3] := by simp
                  refine lv_iload hx hb dX4_raise_18 (lv_at hl 1 rfl) ?_
                  refine lv_if_le (tgt := 235) hx hb dX4_raise_20 (by decide) (fun h1 => absurd h1 (nI_nle (by omega) (by omega))) (fun _ => ?_)
                  refine lv_aload_n hx hb dX4_raise_23 rfl (lv_at hl 2 rfl) ?_
                  refine lv_iload hx hb dX4_raise_24 (lv_at hl 1 rfl) ?_
                  refine lv_iconst (v := 1) hx hb dX4_raise_26 (by decide) ?_
                  refine lv_isub hx hb dX4_raise_27 ?_
                  refine gQ S hK hH m_q e_q (j := ((X4.length + 1) + 1)) (nI_pred ((X4.length + 1) + 1)) (by omega) (by omega) (r := (some p1)) hf1 dX4_raise_28 ?_
                  refine lv_astore (lv' := [(6, .ref p1), (5, .ref a), (4, .int (nI ((X4.length + 1) + 2))), (3, .ref q), (0, .ref sa)]) hx hb dX4_raise_29 hl (by decide) rfl (fun ls hl => ?_)
                  refine lv_iload hx hb dX4_raise_31 (lv_at hl 2 rfl) ?_
                  refine lv_iconst (v := 1) hx hb dX4_raise_33 (by decide) ?_
                  refine lv_icmp_ne (tgt := 48) hx hb dX4_raise_34 (by decide) (fun _ => ?_) (fun h1 => absurd h1 (fun e9 => by have := (nI_eq (b := 1) (by omega) (by omega)).mp e9; omega))
                  refine lv_aload_n hx hb dX4_raise_48 rfl (lv_at hl 3 rfl) ?_
                  refine lv_iload hx hb dX4_raise_49 (lv_at hl 2 rfl) ?_
                  refine lv_iconst (v := 2) hx hb dX4_raise_51 (by decide) ?_
                  refine lv_isub hx hb dX4_raise_52 ?_
                  refine gQ S hK hH m_q e_q (j := (X4.length + 1)) (nI_sub (X4.length + 1) 2) (by omega) (by omega) (r := (some p2)) hf2 dX4_raise_53 ?_
                  refine lv_astore (lv' := [(7, .ref p2), (6, .ref p1), (5, .ref a), (4, .int (nI ((X4.length + 1) + 2))), (3, .ref q), (0, .ref sa)]) hx hb dX4_raise_54 hl (by decide) rfl (fun ls hl => ?_)
                  refine lv_iload hx hb dX4_raise_56 (lv_at hl 3 rfl) ?_
                  refine lv_iconst (v := 2) hx hb dX4_raise_58 (by decide) ?_
                  refine lv_icmp_le (tgt := 71) hx hb dX4_raise_59 (by decide) (fun h1 => absurd h1 (fun e9 => by have := (nI_leI (b := 2) (by omega) (by omega)).mp e9; omega)) (fun _ => ?_)
                  refine lv_aload_n hx hb dX4_raise_62 rfl (lv_at hl 4 rfl) ?_
                  refine lv_iload hx hb dX4_raise_63 (lv_at hl 3 rfl) ?_
                  refine lv_iconst (v := 3) hx hb dX4_raise_65 (by decide) ?_
                  refine lv_isub hx hb dX4_raise_66 ?_
                  refine gQ S hK hH m_q e_q (j := X4.length) (nI_sub X4.length 3) (by omega) (by omega) (r := (some p3)) hf3 dX4_raise_67 ?_
                  refine lv_goto (tgt := 72) hx hb dX4_raise_68 (by decide) ?_
                  refine lv_astore (lv' := [(8, .ref p3), (7, .ref p2), (6, .ref p1), (5, .ref a), (4, .int (nI ((X4.length + 1) + 2))), (3, .ref q), (0, .ref sa)]) hx hb dX4_raise_72 hl (by decide) rfl (fun ls hl => ?_)
                  refine lv_aload hx hb dX4_raise_74 (lv_at hl 0 rfl) ?_
                  refine lv_ifnull hx hb dX4_raise_76 ?_
                  refine lv_aload hx hb dX4_raise_79 (lv_at hl 0 rfl) ?_
                  refine gB S hi3 hK hH m_p3 e_p3 2 (by decide) f33 (v := .ref p2) rfl dX4_raise_81 ?_
                  refine lv_aload hx hb dX4_raise_84 (lv_at hl 1 rfl) ?_
                  refine lv_acmp_ne (rx := some p2) (ry := some p2) (tgt := 93) hx hb dX4_raise_86 (by decide) (fun hq => absurd rfl hq) (fun _ => ?_)
                  refine lv_iconst (v := 1) hx hb dX4_raise_89 (by decide) ?_
                  refine lv_goto (tgt := 94) hx hb dX4_raise_90 (by decide) ?_
                  refine lv_istore (lv' := [(9, .int 1), (8, .ref p3), (7, .ref p2), (6, .ref p1), (5, .ref a), (4, .int (nI ((X4.length + 1) + 2))), (3, .ref q), (0, .ref sa)]) hx hb dX4_raise_94 hl (by decide) rfl (fun ls hl => ?_)
                  refine lv_aload hx hb dX4_raise_96 (lv_at hl 2 rfl) ?_
                  refine gB S hi3 hK hH m_p2 e_p2 2 (by decide) f33 (v := .ref p1) rfl dX4_raise_98 ?_
                  refine lv_aload hx hb dX4_raise_101 (lv_at hl 3 rfl) ?_
                  refine lv_acmp_ne (rx := some p1) (ry := some p1) (tgt := 110) hx hb dX4_raise_103 (by decide) (fun hq => absurd rfl hq) (fun _ => ?_)
                  refine lv_iconst (v := 1) hx hb dX4_raise_106 (by decide) ?_
                  refine lv_goto (tgt := 111) hx hb dX4_raise_107 (by decide) ?_
                  refine lv_aload hx hb dX4_raise_111 (lv_at hl 3 rfl) ?_
                  refine gB S hi3 hK hH m_p1 e_p1 2 (by decide) f33 (v := va_rf (rt u1)) rfl dX4_raise_113 ?_
                  refine lv_aload hx hb dX4_raise_116 (lv_at hl 4 rfl) ?_
                  refine lv_acmp_ne (rx := rt u1) (ry := some a) (tgt := 125) hx hb dX4_raise_118 (by decide) (fun _ => ?_) (fun hq => absurd hq x1a)
                  refine lv_iconst (v := 0) hx hb dX4_raise_125 (by decide) ?_
                  refine lv_icmp_ne (tgt := 148) hx hb dX4_raise_126 (by decide) (fun _ => ?_) (fun h1 => absurd h1 (by decide))
                  refine lv_aload_n hx hb dX4_raise_148 rfl (lv_at hl 7 rfl) ?_
                  refine lv_aload hx hb dX4_raise_149 (lv_at hl 3 rfl) ?_
                  refine lv_aload hx hb dX4_raise_151 (lv_at hl 4 rfl) ?_
                  have k9_p2 : p2 ∉ [sa, p1, a] := by
                    have q1 : p2 ≠ sa := (neBM e_p2 e_sa)
                    have q2 : p2 ≠ p1 := (Ne.symm n1.2.2)
                    have q3 : p2 ≠ a := (Ne.symm n1.2.1)
                    simp [q1, q2, q3]
                  have k9_p3 : p3 ∉ [sa, p1, a] := by
                    have q1 : p3 ≠ sa := (neBM e_p3 e_sa)
                    have q2 : p3 ≠ p1 := d3.2.1
                    have q3 : p3 ≠ a := d3.1
                    simp [q1, q2, q3]
                  have k9_q : q ∉ [sa, p1, a] := by
                    have q1 : q ≠ sa := (Ne.symm (neMQ e_sa e_q))
                    have q2 : q ≠ p1 := (Ne.symm (neBQ e_p1 e_q))
                    have q3 : q ≠ a := (Ne.symm (neBQ e_a e_q))
                    simp [q1, q2, q3]
                  have rc9 := rec9 hK hH m_sa e_sa (q := (RX4, TX4, 2)) rfl
                  refine cyV S (c_X4_turnR (sa := sa) (ta := ta) (tn := (tn + (X.length - ((X4.length + 1) + 2)))) (up := p1) (own := a) (b9 := (rt l')) (c9 := (rt r')) (x := (rt u1)) (y := (some a)) x1a m_sa e_sa m_p1 e_p1 m_a e_a (Ne.symm n1.1)) (cwV 2 hts gX4_raise_X4_turn rfl rfl rfl (by decide +kernel) ⟨Nat.le_of_ble_eq_true rfl, Nat.le_of_ble_eq_true rfl⟩) hK hH hX rc9 hS rfl hl.1 rfl (by simp [cat_rf, Value.category]) dX4_raise_153 ⟨Nat.le_of_ble_eq_true rfl, Nat.le_of_ble_eq_true rfl⟩ (fun v Z1 H locs hpost hH hS => ?_)
                  obtain ⟨rfl, E33, rfl, e_sa, e_p1, e_a, hg9⟩ := hpost
                  have e_p2 : E33 p2 = .inr (3, [.int (nI (zz p2)), .int (nI (ee p2)), .ref p1, va_rf (rt u2)]) := (hg9.2 p2 m_p2 k9_p2).trans e_p2
                  have e_p3 : E33 p3 = .inr (3, [.int (nI (zz p3)), .int (nI (ee p3)), .ref p2, va_rf (rt u3)]) := (hg9.2 p3 m_p3 k9_p3).trans e_p3
                  have e_q : E33 q = qE Γ (X.length + 1) f' := (hg9.2 q m_q k9_q).trans e_q
                  have e_p1 : E33 p1 = .inr (3, [.int (nI (zz p1)), .int (nI (ee p1)), va_rf (rt u1), va_rf (rt l')]) := e_p1
                  have e_a : E33 a = .inr (3, [.int (nI (zz a)), .int (nI (ee a)), .ref p1, va_rf (rt r')]) := e_a
                  have hg := hg.tr (hg9.wd (fun b hb9 => Or.inl (by simp only [List.mem_cons, List.not_mem_nil, or_false] at hb9 ⊢; rcases hb9 with h | h | h <;> simp [h])))
                  refine lv_aload hx hb dX4_raise_156 (lv_at hl 2 rfl) ?_
                  refine gB S hi3 hK hH m_p2 e_p2 2 (by decide) f33 (v := .ref p1) rfl dX4_raise_158 ?_
                  refine lv_aload hx hb dX4_raise_161 (lv_at hl 3 rfl) ?_
                  refine lv_acmp_ne (rx := some p1) (ry := some p1) (tgt := 176) hx hb dX4_raise_163 (by decide) (fun hq => absurd rfl hq) (fun _ => ?_)
                  refine lv_aload hx hb dX4_raise_166 (lv_at hl 2 rfl) ?_
                  refine lv_aload hx hb dX4_raise_168 (lv_at hl 4 rfl) ?_
                  have n9_a : a ≠ p2 := n1.2.1
                  have n9_p1 : p1 ≠ p2 := n1.2.2
                  have n9_p3 : p3 ≠ p2 := d3.2.2
                  have n9_sa : sa ≠ p2 := (Ne.symm (neBM e_p2 e_sa))
                  have n9_q : q ≠ p2 := (Ne.symm (neBQ e_p2 e_q))
                  refine pBr S hi3 hK hH hS m_p2 e_p2 2 (by decide) f33 (some a) rfl dX4_raise_170 rfl (fun E34 H locs e_p2 ho hH hS => ?_)
                  have e_p2 : E34 p2 = .inr (3, [.int (nI (zz p2)), .int (nI (ee p2)), .ref a, va_rf (rt u2)]) := e_p2
                  have e_a : E34 a = .inr (3, [.int (nI (zz a)), .int (nI (ee a)), .ref p1, va_rf (rt r')]) := (ho a n9_a).trans e_a
                  have e_p1 : E34 p1 = .inr (3, [.int (nI (zz p1)), .int (nI (ee p1)), va_rf (rt u1), va_rf (rt l')]) := (ho p1 n9_p1).trans e_p1
                  have e_p3 : E34 p3 = .inr (3, [.int (nI (zz p3)), .int (nI (ee p3)), .ref p2, va_rf (rt u3)]) := (ho p3 n9_p3).trans e_p3
                  have e_sa : E34 sa = .inr (4, [.ref ta, .int (nI ((tn + (X.length - ((X4.length + 1) + 2))) + 1))]) := (ho sa n9_sa).trans e_sa
                  have e_q : E34 q = qE Γ (X.length + 1) f' := (ho q n9_q).trans e_q
                  have hg := hg.put w_p2 ho
                  refine lv_goto (tgt := 183) hx hb dX4_raise_173 (by decide) ?_
                  refine lv_aload_n hx hb dX4_raise_183 rfl (lv_at hl 7 rfl) ?_
                  refine lv_aload hx hb dX4_raise_184 (lv_at hl 2 rfl) ?_
                  refine lv_aload hx hb dX4_raise_186 (lv_at hl 4 rfl) ?_
                  have k9_p1 : p1 ∉ [sa, p2, a] := by
                    have q1 : p1 ≠ sa := (neBM e_p1 e_sa)
                    have q2 : p1 ≠ p2 := n1.2.2
                    have q3 : p1 ≠ a := (Ne.symm n1.1)
                    simp [q1, q2, q3]
                  have k9_p3 : p3 ∉ [sa, p2, a] := by
                    have q1 : p3 ≠ sa := (neBM e_p3 e_sa)
                    have q2 : p3 ≠ p2 := d3.2.2
                    have q3 : p3 ≠ a := d3.1
                    simp [q1, q2, q3]
                  have k9_q : q ∉ [sa, p2, a] := by
                    have q1 : q ≠ sa := (Ne.symm (neMQ e_sa e_q))
                    have q2 : q ≠ p2 := (Ne.symm (neBQ e_p2 e_q))
                    have q3 : q ≠ a := (Ne.symm (neBQ e_a e_q))
                    simp [q1, q2, q3]
                  have rc9 := rec9 hK hH m_sa e_sa (q := (RX4, TX4, 2)) rfl
                  refine cyV S (c_X4_turnL (sa := sa) (ta := ta) (tn := ((tn + (X.length - ((X4.length + 1) + 2))) + 1)) (up := p2) (own := a) (b9 := (some p1)) (c9 := (rt r')) (y := (rt u2)) m_sa e_sa m_p2 e_p2 m_a e_a (Ne.symm n1.2.1)) (cwV 2 hts gX4_raise_X4_turn rfl rfl rfl (by decide +kernel) ⟨Nat.le_of_ble_eq_true rfl, Nat.le_of_ble_eq_true rfl⟩) hK hH hX rc9 hS rfl hl.1 rfl (by simp [cat_rf, Value.category]) dX4_raise_188 ⟨Nat.le_of_ble_eq_true rfl, Nat.le_of_ble_eq_true rfl⟩ (fun v Z1 H locs hpost hH hS => ?_)
                  obtain ⟨rfl, E35, rfl, e_sa, e_p2, e_a, hg9⟩ := hpost
                  have e_p1 : E35 p1 = .inr (3, [.int (nI (zz p1)), .int (nI (ee p1)), va_rf (rt u1), va_rf (rt l')]) := (hg9.2 p1 m_p1 k9_p1).trans e_p1
                  have e_p3 : E35 p3 = .inr (3, [.int (nI (zz p3)), .int (nI (ee p3)), .ref p2, va_rf (rt u3)]) := (hg9.2 p3 m_p3 k9_p3).trans e_p3
                  have e_q : E35 q = qE Γ (X.length + 1) f' := (hg9.2 q m_q k9_q).trans e_q
                  have e_p2 : E35 p2 = .inr (3, [.int (nI (zz p2)), .int (nI (ee p2)), va_rf (rt r'), va_rf (rt u2)]) := e_p2
                  have e_a : E35 a = .inr (3, [.int (nI (zz a)), .int (nI (ee a)), .ref p1, .ref p2]) := e_a
                  have hg := hg.tr (hg9.wd (fun b hb9 => Or.inl (by simp only [List.mem_cons, List.not_mem_nil, or_false] at hb9 ⊢; rcases hb9 with h | h | h <;> simp [h])))
                  refine lv_aload hx hb dX4_raise_191 (lv_at hl 1 rfl) ?_
                  refine lv_ifnull hx hb dX4_raise_193 ?_
                  refine lv_iload hx hb dX4_raise_196 (lv_at hl 0 rfl) ?_
                  refine lv_if_eq (tgt := 211) hx hb dX4_raise_198 (by decide) (fun h1 => absurd h1 (by decide)) (fun _ => ?_)
                  refine lv_aload hx hb dX4_raise_201 (lv_at hl 1 rfl) ?_
                  refine lv_aload hx hb dX4_raise_203 (lv_at hl 4 rfl) ?_
                  have n9_a : a ≠ p3 := (Ne.symm d3.1)
                  have n9_p1 : p1 ≠ p3 := (Ne.symm d3.2.1)
                  have n9_p2 : p2 ≠ p3 := (Ne.symm d3.2.2)
                  have n9_sa : sa ≠ p3 := (Ne.symm (neBM e_p3 e_sa))
                  have n9_q : q ≠ p3 := (Ne.symm (neBQ e_p3 e_q))
                  refine pBr S hi3 hK hH hS m_p3 e_p3 2 (by decide) f33 (some a) rfl dX4_raise_205 rfl (fun E36 H locs e_p3 ho hH hS => ?_)
                  have e_p3 : E36 p3 = .inr (3, [.int (nI (zz p3)), .int (nI (ee p3)), .ref a, va_rf (rt u3)]) := e_p3
                  have e_a : E36 a = .inr (3, [.int (nI (zz a)), .int (nI (ee a)), .ref p1, .ref p2]) := (ho a n9_a).trans e_a
                  have e_p1 : E36 p1 = .inr (3, [.int (nI (zz p1)), .int (nI (ee p1)), va_rf (rt u1), va_rf (rt l')]) := (ho p1 n9_p1).trans e_p1
                  have e_p2 : E36 p2 = .inr (3, [.int (nI (zz p2)), .int (nI (ee p2)), va_rf (rt r'), va_rf (rt u2)]) := (ho p2 n9_p2).trans e_p2
                  have e_sa : E36 sa = .inr (4, [.ref ta, .int (nI (((tn + (X.length - ((X4.length + 1) + 2))) + 1) + 1))]) := (ho sa n9_sa).trans e_sa
                  have e_q : E36 q = qE Γ (X.length + 1) f' := (ho q n9_q).trans e_q
                  have hg := hg.put w_p3 ho
                  refine lv_goto (tgt := 223) hx hb dX4_raise_208 (by decide) ?_
                  refine lv_iinc (v := nI (X4.length + 1)) (lv' := [(4, .int (nI (X4.length + 1))), (9, .int 1), (8, .ref p3), (7, .ref p2), (6, .ref p1), (5, .ref a), (3, .ref q), (0, .ref sa)]) hx hb dX4_raise_223 hl (k := 5) rfl (nI_m2 (X4.length + 1)) (by decide) rfl (fun ls hl => ?_)
                  refine lv_aload_n hx hb dX4_raise_226 rfl (lv_at hl 6 rfl) ?_
                  refine lv_iload hx hb dX4_raise_227 (lv_at hl 0 rfl) ?_
                  refine lv_aload hx hb dX4_raise_229 (lv_at hl 5 rfl) ?_
                  have n9_a : a ≠ q := (neBQ e_a e_q)
                  have n9_p1 : p1 ≠ q := (neBQ e_p1 e_q)
                  have n9_p2 : p2 ≠ q := (neBQ e_p2 e_q)
                  have n9_p3 : p3 ≠ q := (neBQ e_p3 e_q)
                  have n9_sa : sa ≠ q := (neMQ e_sa e_q)
                  refine pQ S hK hH hS m_q e_q (j := (X4.length + 1)) rfl (by omega) (by omega) (some a) (fun b h => by cases h; exact ⟨m_a, _, e_a⟩) rfl dX4_raise_231 (fun E37 H locs e_q ho hH hS => ?_)
                  have e_a : E37 a = .inr (3, [.int (nI (zz a)), .int (nI (ee a)), .ref p1, .ref p2]) := (ho a n9_a).trans e_a
                  have e_p1 : E37 p1 = .inr (3, [.int (nI (zz p1)), .int (nI (ee p1)), va_rf (rt u1), va_rf (rt l')]) := (ho p1 n9_p1).trans e_p1
                  have e_p2 : E37 p2 = .inr (3, [.int (nI (zz p2)), .int (nI (ee p2)), va_rf (rt r'), va_rf (rt u2)]) := (ho p2 n9_p2).trans e_p2
                  have e_p3 : E37 p3 = .inr (3, [.int (nI (zz p3)), .int (nI (ee p3)), .ref a, va_rf (rt u3)]) := (ho p3 n9_p3).trans e_p3
                  have e_sa : E37 sa = .inr (4, [.ref ta, .int (nI (((tn + (X.length - ((X4.length + 1) + 2))) + 1) + 1))]) := (ho sa n9_sa).trans e_sa
                  have hg := hg.put w_q ho
                  refine lv_goto (tgt := 18) hx hb dX4_raise_232 (by decide) ?_
                  obtain ⟨l2, r2, q1, q2, q3⟩ := sim3 (s := true) (M' := (U1, E37)) hzz0 hn (fun _ h => h) e_a e_p1 e_p2 (fun _ _ _ _ h => by cases h; exact e_p3) (fun b hb1 hb2 hb3 hb4 hb5 hb6 => by
                    obtain ⟨x9, h9⟩ := hb6
                    exact hg.2 b hb5 (by
                      have q4 : b ≠ sa := neBM h9 e_sa0
                      have q5 : b ≠ q := neBQ h9 e_q0
                      have q6 : b ≠ p3 := fun e9 => hb4 (by rw [e9]; rfl)
                      simp [hb1, hb2, hb3, q4, q5, q6]))
                  exact ih _ l2 r2 E37 _ hN2 q2 (by rw [q3]; exact hn) (q1.symm.trans hsp) (q3.trans htids) (by omega) (by rw [e_sa, show (tn + (X.length - ((X4.length + 1) + 2))) + 1 + 1 = tn + (X.length - (X4.length + 1)) by omega] <;> rfl) e_q hup (Gr.tr2 hG hg (fun b hb9 => by
                    simp only [List.mem_cons, List.not_mem_nil, or_false] at hb9 ⊢
                    rcases hb9 with h | h | h | h | h | h
                    · exact Or.inl (Or.inl h)
                    · exact Or.inr (by rw [h]; exact fr9)
                    · exact Or.inl (Or.inr (by rw [h]; exact ha))
                    · exact Or.inl (Or.inr (by rw [h]; exact hpt.1))
                    · exact Or.inl (Or.inr (by rw [h]; exact hpt.2.1))
                    · exact Or.inl (Or.inr (by rw [h]; exact hpt.2.2 p3 hp3)))) H locs hH hS ls (lv_sub hl [5, 0, 6, 7] rfl)
                | true =>
                  have x32 : rt u3 ≠ some p2 := fun e9 => n3.2.2.2.2.1 (by simp [cL, rt_mem e9])
                  have hl : lv_has ls 10 [(5, .ref a), (4, .int (nI ((X4.length + 1) + 2))), (3, .ref q), (0, .ref sa)] := hl
                  have e_a : E' a = .inr (3, [.int (nI (zz a)), .int (nI (ee a)), va_rf (rt l'), va_rf (rt r')]) := e_a
                  have e_p1 : E' p1 = .inr (3, [.int (nI (zz p1)), .int (nI (ee p1)), va_rf (rt u1), .ref a]) := e_p1
                  have e_p2 : E' p2 = .inr (3, [.int (nI (zz p2)), .int (nI (ee p2)), .ref p1, va_rf (rt u2)]) := e_p2
                  have e_p3 : E' p3 = .inr (3, [.int (nI (zz p3)), .int (nI (ee p3)), va_rf (rt u3), .ref p2]) := e_p3
                  have e_sa : E' sa = .inr (4, [.ref ta, .int (nI (tn + (X.length - ((X4.length + 1) + 2))))]) := e_sa0
                  have hg : Gr (U1, E') (U1, E') [sa, q, a, p1, p2, p3] := Gr.rf _ _
                  have w_sa : sa ∈ [sa, q, a, p1, p2, p3] := by simp
                  have w_q : q ∈ [sa, q, a, p1, p2, p3] := by simp
                  have w_a : a ∈ [sa, q, a, p1, p2, p3] := by simp
                  have w_p1 : p1 ∈ [sa, q, a, p1, p2, p3] := by simp
                  have w_p2 : p2 ∈ [sa, q, a, p1, p2, p3] := by simp
                  have w_p3 : p3 ∈ [sa, q, a, p1, p2, p3] := by simp
                  refine lv_iload hx hb dX4_raise_18 (lv_at hl 1 rfl) ?_
                  refine lv_if_le (tgt := 235) hx hb dX4_raise_20 (by decide) (fun h1 => absurd h1 (nI_nle (by omega) (by omega))) (fun _ => ?_)
                  refine lv_aload_n hx hb dX4_raise_23 rfl (lv_at hl 2 rfl) ?_
                  refine lv_iload hx hb dX4_raise_24 (lv_at hl 1 rfl) ?_
                  refine lv_iconst (v := 1) hx hb dX4_raise_26 (by decide) ?_
                  refine lv_isub hx hb dX4_raise_27 ?_
                  refine gQ S hK hH m_q e_q (j := ((X4.length + 1) + 1)) (nI_pred ((X4.length + 1) + 1)) (by omega) (by omega) (r := (some p1)) hf1 dX4_raise_28 ?_
                  refine lv_astore (lv' := [(6, .ref p1), (5, .ref a), (4, .int (nI ((X4.length + 1) + 2))), (3, .ref q), (0, .ref sa)]) hx hb dX4_raise_29 hl (by decide) rfl (fun ls hl => ?_)
                  refine lv_iload hx hb dX4_raise_31 (lv_at hl 2 rfl) ?_
                  refine lv_iconst (v := 1) hx hb dX4_raise_33 (by decide) ?_
                  refine lv_icmp_ne (tgt := 48) hx hb dX4_raise_34 (by decide) (fun _ => ?_) (fun h1 => absurd h1 (fun e9 => by have := (nI_eq (b := 1) (by omega) (by omega)).mp e9; omega))
                  refine lv_aload_n hx hb dX4_raise_48 rfl (lv_at hl 3 rfl) ?_
                  refine lv_iload hx hb dX4_raise_49 (lv_at hl 2 rfl) ?_
                  refine lv_iconst (v := 2) hx hb dX4_raise_51 (by decide) ?_
                  refine lv_isub hx hb dX4_raise_52 ?_
                  refine gQ S hK hH m_q e_q (j := (X4.length + 1)) (nI_sub (X4.length + 1) 2) (by omega) (by omega) (r := (some p2)) hf2 dX4_raise_53 ?_
                  refine lv_astore (lv' := [(7, .ref p2), (6, .ref p1), (5, .ref a), (4, .int (nI ((X4.length + 1) + 2))), (3, .ref q), (0, .ref sa)]) hx hb dX4_raise_54 hl (by decide) rfl (fun ls hl => ?_)
                  refine lv_iload hx hb dX4_raise_56 (lv_at hl 3 rfl) ?_
                  refine lv_iconst (v := 2) hx hb dX4_raise_58 (by decide) ?_
                  refine lv_icmp_le (tgt := 71) hx hb dX4_raise_59 (by decide) (fun h1 => absurd h1 (fun e9 => by have := (nI_leI (b := 2) (by omega) (by omega)).mp e9; omega)) (fun _ => ?_)
                  refine lv_aload_n hx hb dX4_raise_62 rfl (lv_at hl 4 rfl) ?_
                  refine lv_iload hx hb dX4_raise_63 (lv_at hl 3 rfl) ?_
                  refine lv_iconst (v := 3) hx hb dX4_raise_65 (by decide) ?_
                  refine lv_isub hx hb dX4_raise_66 ?_
                  refine gQ S hK hH m_q e_q (j := X4.length) (nI_sub X4.length 3) (by omega) (by omega) (r := (some p3)) hf3 dX4_raise_67 ?_
                  refine lv_goto (tgt := 72) hx hb dX4_raise_68 (by decide) ?_
                  refine lv_astore (lv' := [(8, .ref p3), (7, .ref p2), (6, .ref p1), (5, .ref a), (4, .int (nI ((X4.length + 1) + 2))), (3, .ref q), (0, .ref sa)]) hx hb dX4_raise_72 hl (by decide) rfl (fun ls hl => ?_)
                  refine lv_aload hx hb dX4_raise_74 (lv_at hl 0 rfl) ?_
                  refine lv_ifnull hx hb dX4_raise_76 ?_
                  refine lv_aload hx hb dX4_raise_79 (lv_at hl 0 rfl) ?_
                  refine gB S hi3 hK hH m_p3 e_p3 2 (by decide) f33 (v := va_rf (rt u3)) rfl dX4_raise_81 ?_
                  refine lv_aload hx hb dX4_raise_84 (lv_at hl 1 rfl) ?_
                  refine lv_acmp_ne (rx := rt u3) (ry := some p2) (tgt := 93) hx hb dX4_raise_86 (by decide) (fun _ => ?_) (fun hq => absurd hq x32)
                  refine lv_iconst (v := 0) hx hb dX4_raise_93 (by decide) ?_
                  refine lv_istore (lv' := [(9, .int 0), (8, .ref p3), (7, .ref p2), (6, .ref p1), (5, .ref a), (4, .int (nI ((X4.length + 1) + 2))), (3, .ref q), (0, .ref sa)]) hx hb dX4_raise_94 hl (by decide) rfl (fun ls hl => ?_)
                  refine lv_aload hx hb dX4_raise_96 (lv_at hl 2 rfl) ?_
                  refine gB S hi3 hK hH m_p2 e_p2 2 (by decide) f33 (v := .ref p1) rfl dX4_raise_98 ?_
                  refine lv_aload hx hb dX4_raise_101 (lv_at hl 3 rfl) ?_
                  refine lv_acmp_ne (rx := some p1) (ry := some p1) (tgt := 110) hx hb dX4_raise_103 (by decide) (fun hq => absurd rfl hq) (fun _ => ?_)
                  refine lv_iconst (v := 1) hx hb dX4_raise_106 (by decide) ?_
                  refine lv_goto (tgt := 111) hx hb dX4_raise_107 (by decide) ?_
                  refine lv_aload hx hb dX4_raise_111 (lv_at hl 3 rfl) ?_
                  refine gB S hi3 hK hH m_p1 e_p1 2 (by decide) f33 (v := va_rf (rt u1)) rfl dX4_raise_113 ?_
                  refine lv_aload hx hb dX4_raise_116 (lv_at hl 4 rfl) ?_
                  refine lv_acmp_ne (rx := rt u1) (ry := some a) (tgt := 125) hx hb dX4_raise_118 (by decide) (fun _ => ?_) (fun hq => absurd hq x1a)
                  refine lv_iconst (v := 0) hx hb dX4_raise_125 (by decide) ?_
                  refine lv_icmp_ne (tgt := 148) hx hb dX4_raise_126 (by decide) (fun _ => ?_) (fun h1 => absurd h1 (by decide))
                  refine lv_aload_n hx hb dX4_raise_148 rfl (lv_at hl 7 rfl) ?_
                  refine lv_aload hx hb dX4_raise_149 (lv_at hl 3 rfl) ?_
                  refine lv_aload hx hb dX4_raise_151 (lv_at hl 4 rfl) ?_
                  have k9_p2 : p2 ∉ [sa, p1, a] := by
                    have q1 : p2 ≠ sa := (neBM e_p2 e_sa)
                    have q2 : p2 ≠ p1 := (Ne.symm n1.2.2)
                    have q3 : p2 ≠ a := (Ne.symm n1.2.1)
                    simp [q1, q2, q3]
                  have k9_p3 : p3 ∉ [sa, p1, a] := by
                    have q1 : p3 ≠ sa := (neBM e_p3 e_sa)
                    have q2 : p3 ≠ p1 := d3.2.1
                    have q3 : p3 ≠ a := d3.1
                    simp [q1, q2, q3]
                  have k9_q : q ∉ [sa, p1, a] := by
                    have q1 : q ≠ sa := (Ne.symm (neMQ e_sa e_q))
                    have q2 : q ≠ p1 := (Ne.symm (neBQ e_p1 e_q))
                    have q3 : q ≠ a := (Ne.symm (neBQ e_a e_q))
                    simp [q1, q2, q3]
                  have rc9 := rec9 hK hH m_sa e_sa (q := (RX4, TX4, 2)) rfl
                  refine cyV S (c_X4_turnR (sa := sa) (ta := ta) (tn := (tn + (X.length - ((X4.length + 1) + 2)))) (up := p1) (own := a) (b9 := (rt l')) (c9 := (rt r')) (x := (rt u1)) (y := (some a)) x1a m_sa e_sa m_p1 e_p1 m_a e_a (Ne.symm n1.1)) (cwV 2 hts gX4_raise_X4_turn rfl rfl rfl (by decide +kernel) ⟨Nat.le_of_ble_eq_true rfl, Nat.le_of_ble_eq_true rfl⟩) hK hH hX rc9 hS rfl hl.1 rfl (by simp [cat_rf, Value.category]) dX4_raise_153 ⟨Nat.le_of_ble_eq_true rfl, Nat.le_of_ble_eq_true rfl⟩ (fun v Z1 H locs hpost hH hS => ?_)
                  obtain ⟨rfl, E38, rfl, e_sa, e_p1, e_a, hg9⟩ := hpost
                  have e_p2 : E38 p2 = .inr (3, [.int (nI (zz p2)), .int (nI (ee p2)), .ref p1, va_rf (rt u2)]) := (hg9.2 p2 m_p2 k9_p2).trans e_p2
                  have e_p3 : E38 p3 = .inr (3, [.int (nI (zz p3)), .int (nI (ee p3)), va_rf (rt u3), .ref p2]) := (hg9.2 p3 m_p3 k9_p3).trans e_p3
                  have e_q : E38 q = qE Γ (X.length + 1) f' := (hg9.2 q m_q k9_q).trans e_q
                  have e_p1 : E38 p1 = .inr (3, [.int (nI (zz p1)), .int (nI (ee p1)), va_rf (rt u1), va_rf (rt l')]) := e_p1
                  have e_a : E38 a = .inr (3, [.int (nI (zz a)), .int (nI (ee a)), .ref p1, va_rf (rt r')]) := e_a
                  have hg := hg.tr (hg9.wd (fun b hb9 => Or.inl (by simp only [List.mem_cons, List.not_mem_nil, or_false] at hb9 ⊢; rcases hb9 with h | h | h <;> simp [h])))
                  refine lv_aload hx hb dX4_raise_156 (lv_at hl 2 rfl) ?_
                  refine gB S hi3 hK hH m_p2 e_p2 2 (by decide) f33 (v := .ref p1) rfl dX4_raise_158 ?_
                  refine lv_aload hx hb dX4_raise_161 (lv_at hl 3 rfl) ?_
                  refine lv_acmp_ne (rx := some p1) (ry := some p1) (tgt := 176) hx hb dX4_raise_163 (by decide) (fun hq => absurd rfl hq) (fun _ => ?_)
                  refine lv_aload hx hb dX4_raise_166 (lv_at hl 2 rfl) ?_
                  refine lv_aload hx hb dX4_raise_168 (lv_at hl 4 rfl) ?_
                  have n9_a : a ≠ p2 := n1.2.1
                  have n9_p1 : p1 ≠ p2 := n1.2.2
                  have n9_p3 : p3 ≠ p2 := d3.2.2
                  have n9_sa : sa ≠ p2 := (Ne.symm (neBM e_p2 e_sa))
                  have n9_q : q ≠ p2 := (Ne.symm (neBQ e_p2 e_q))
                  refine pBr S hi3 hK hH hS m_p2 e_p2 2 (by decide) f33 (some a) rfl dX4_raise_170 rfl (fun E39 H locs e_p2 ho hH hS => ?_)
                  have e_p2 : E39 p2 = .inr (3, [.int (nI (zz p2)), .int (nI (ee p2)), .ref a, va_rf (rt u2)]) := e_p2
                  have e_a : E39 a = .inr (3, [.int (nI (zz a)), .int (nI (ee a)), .ref p1, va_rf (rt r')]) := (ho a n9_a).trans e_a
                  have e_p1 : E39 p1 = .inr (3, [.int (nI (zz p1)), .int (nI (ee p1)), va_rf (rt u1), va_rf (rt l')]) := (ho p1 n9_p1).trans e_p1
                  have e_p3 : E39 p3 = .inr (3, [.int (nI (zz p3)), .int (nI (ee p3)), va_rf (rt u3), .ref p2]) := (ho p3 n9_p3).trans e_p3
                  have e_sa : E39 sa = .inr (4, [.ref ta, .int (nI ((tn + (X.length - ((X4.length + 1) + 2))) + 1))]) := (ho sa n9_sa).trans e_sa
                  have e_q : E39 q = qE Γ (X.length + 1) f' := (ho q n9_q).trans e_q
                  have hg := hg.put w_p2 ho
                  refine lv_goto (tgt := 183) hx hb dX4_raise_173 (by decide) ?_
                  refine lv_aload_n hx hb dX4_raise_183 rfl (lv_at hl 7 rfl) ?_
                  refine lv_aload hx hb dX4_raise_184 (lv_at hl 2 rfl) ?_
                  refine lv_aload hx hb dX4_raise_186 (lv_at hl 4 rfl) ?_
                  have k9_p1 : p1 ∉ [sa, p2, a] := by
                    have q1 : p1 ≠ sa := (neBM e_p1 e_sa)
                    have q2 : p1 ≠ p2 := n1.2.2
                    have q3 : p1 ≠ a := (Ne.symm n1.1)
                    simp [q1, q2, q3]
                  have k9_p3 : p3 ∉ [sa, p2, a] := by
                    have q1 : p3 ≠ sa := (neBM e_p3 e_sa)
                    have q2 : p3 ≠ p2 := d3.2.2
                    have q3 : p3 ≠ a := d3.1
                    simp [q1, q2, q3]
                  have k9_q : q ∉ [sa, p2, a] := by
                    have q1 : q ≠ sa := (Ne.symm (neMQ e_sa e_q))
                    have q2 : q ≠ p2 := (Ne.symm (neBQ e_p2 e_q))
                    have q3 : q ≠ a := (Ne.symm (neBQ e_a e_q))
                    simp [q1, q2, q3]
                  have rc9 := rec9 hK hH m_sa e_sa (q := (RX4, TX4, 2)) rfl
                  refine cyV S (c_X4_turnL (sa := sa) (ta := ta) (tn := ((tn + (X.length - ((X4.length + 1) + 2))) + 1)) (up := p2) (own := a) (b9 := (some p1)) (c9 := (rt r')) (y := (rt u2)) m_sa e_sa m_p2 e_p2 m_a e_a (Ne.symm n1.2.1)) (cwV 2 hts gX4_raise_X4_turn rfl rfl rfl (by decide +kernel) ⟨Nat.le_of_ble_eq_true rfl, Nat.le_of_ble_eq_true rfl⟩) hK hH hX rc9 hS rfl hl.1 rfl (by simp [cat_rf, Value.category]) dX4_raise_188 ⟨Nat.le_of_ble_eq_true rfl, Nat.le_of_ble_eq_true rfl⟩ (fun v Z1 H locs hpost hH hS => ?_)
                  obtain ⟨rfl, E40, rfl, e_sa, e_p2, e_a, hg9⟩ := hpost
                  have e_p1 : E40 p1 = .inr (3, [.int (nI (zz p1)), .int (nI (ee p1)), va_rf (rt u1), va_rf (rt l')]) := (hg9.2 p1 m_p1 k9_p1).trans e_p1
                  have e_p3 : E40 p3 = .inr (3, [.int (nI (zz p3)), .int (nI (ee p3)), va_rf (rt u3), .ref p2]) := (hg9.2 p3 m_p3 k9_p3).trans e_p3
                  have e_q : E40 q = qE Γ (X.length + 1) f' := (hg9.2 q m_q k9_q).trans e_q
                  have e_p2 : E40 p2 = .inr (3, [.int (nI (zz p2)), .int (nI (ee p2)), va_rf (rt r'), va_rf (rt u2)]) := e_p2
                  have e_a : E40 a = .inr (3, [.int (nI (zz a)), .int (nI (ee a)), .ref p1, .ref p2]) := e_a
                  have hg := hg.tr (hg9.wd (fun b hb9 => Or.inl (by simp only [List.mem_cons, List.not_mem_nil, or_false] at hb9 ⊢; rcases hb9 with h | h | h <;> simp [h])))
                  refine lv_aload hx hb dX4_raise_191 (lv_at hl 1 rfl) ?_
                  refine lv_ifnull hx hb dX4_raise_193 ?_
                  refine lv_iload hx hb dX4_raise_196 (lv_at hl 0 rfl) ?_
                  refine lv_if_eq (tgt := 211) hx hb dX4_raise_198 (by decide) (fun _ => ?_) (fun h1 => absurd (by decide) h1)
                  refine lv_aload hx hb dX4_raise_211 (lv_at hl 1 rfl) ?_
                  refine lv_ifnull hx hb dX4_raise_213 ?_
                  refine lv_aload hx hb dX4_raise_216 (lv_at hl 1 rfl) ?_
                  refine lv_aload hx hb dX4_raise_218 (lv_at hl 4 rfl) ?_
                  have n9_a : a ≠ p3 := (Ne.symm d3.1)
                  have n9_p1 : p1 ≠ p3 := (Ne.symm d3.2.1)
                  have n9_p2 : p2 ≠ p3 := (Ne.symm d3.2.2)
                  have n9_sa : sa ≠ p3 := (Ne.symm (neBM e_p3 e_sa))
                  have n9_q : q ≠ p3 := (Ne.symm (neBQ e_p3 e_q))
                  refine pBr S hi3 hK hH hS m_p3 e_p3 3 (by decide) f37 (some a) rfl dX4_raise_220 rfl (fun E41 H locs e_p3 ho hH hS => ?_)
                  have e_p3 : E41 p3 = .inr (3, [.int (nI (zz p3)), .int (nI (ee p3)), va_rf (rt u3), .ref a]) := e_p3
                  have e_a : E41 a = .inr (3, [.int (nI (zz a)), .int (nI (ee a)), .ref p1, .ref p2]) := (ho a n9_a).trans e_a
                  have e_p1 : E41 p1 = .inr (3, [.int (nI (zz p1)), .int (nI (ee p1)), va_rf (rt u1), va_rf (rt l')]) := (ho p1 n9_p1).trans e_p1
                  have e_p2 : E41 p2 = .inr (3, [.int (nI (zz p2)), .int (nI (ee p2)), va_rf (rt r'), va_rf (rt u2)]) := (ho p2 n9_p2).trans e_p2
                  have e_sa : E41 sa = .inr (4, [.ref ta, .int (nI (((tn + (X.length - ((X4.length + 1) + 2))) + 1) + 1))]) := (ho sa n9_sa).trans e_sa
                  have e_q : E41 q = qE Γ (X.length + 1) f' := (ho q n9_q).trans e_q
                  have hg := hg.put w_p3 ho
                  refine lv_iinc (v := nI (X4.length + 1)) (lv' := [(4, .int (nI (X4.length + 1))), (9, .int 0), (8, .ref p3), (7, .ref p2), (6, .ref p1), (5, .ref a), (3, .ref q), (0, .ref sa)]) hx hb dX4_raise_223 hl (k := 5) rfl (nI_m2 (X4.length + 1)) (by decide) rfl (fun ls hl => ?_)
                  refine lv_aload_n hx hb dX4_raise_226 rfl (lv_at hl 6 rfl) ?_
                  refine lv_iload hx hb dX4_raise_227 (lv_at hl 0 rfl) ?_
                  refine lv_aload hx hb dX4_raise_229 (lv_at hl 5 rfl) ?_
                  have n9_a : a ≠ q := (neBQ e_a e_q)
                  have n9_p1 : p1 ≠ q := (neBQ e_p1 e_q)
                  have n9_p2 : p2 ≠ q := (neBQ e_p2 e_q)
                  have n9_p3 : p3 ≠ q := (neBQ e_p3 e_q)
                  have n9_sa : sa ≠ q := (neMQ e_sa e_q)
                  refine pQ S hK hH hS m_q e_q (j := (X4.length + 1)) rfl (by omega) (by omega) (some a) (fun b h => by cases h; exact ⟨m_a, _, e_a⟩) rfl dX4_raise_231 (fun E42 H locs e_q ho hH hS => ?_)
                  have e_a : E42 a = .inr (3, [.int (nI (zz a)), .int (nI (ee a)), .ref p1, .ref p2]) := (ho a n9_a).trans e_a
                  have e_p1 : E42 p1 = .inr (3, [.int (nI (zz p1)), .int (nI (ee p1)), va_rf (rt u1), va_rf (rt l')]) := (ho p1 n9_p1).trans e_p1
                  have e_p2 : E42 p2 = .inr (3, [.int (nI (zz p2)), .int (nI (ee p2)), va_rf (rt r'), va_rf (rt u2)]) := (ho p2 n9_p2).trans e_p2
                  have e_p3 : E42 p3 = .inr (3, [.int (nI (zz p3)), .int (nI (ee p3)), va_rf (rt u3), .ref a]) := (ho p3 n9_p3).trans e_p3
                  have e_sa : E42 sa = .inr (4, [.ref ta, .int (nI (((tn + (X.length - ((X4.length + 1) + 2))) + 1) + 1))]) := (ho sa n9_sa).trans e_sa
                  have hg := hg.put w_q ho
                  refine lv_goto (tgt := 18) hx hb dX4_raise_232 (by decide) ?_
                  obtain ⟨l2, r2, q1, q2, q3⟩ := sim3 (s := true) (M' := (U1, E42)) hzz0 hn (fun _ h => h) e_a e_p1 e_p2 (fun _ _ _ _ h => by cases h; exact e_p3) (fun b hb1 hb2 hb3 hb4 hb5 hb6 => by
                    obtain ⟨x9, h9⟩ := hb6
                    exact hg.2 b hb5 (by
                      have q4 : b ≠ sa := neBM h9 e_sa0
                      have q5 : b ≠ q := neBQ h9 e_q0
                      have q6 : b ≠ p3 := fun e9 => hb4 (by rw [e9]; rfl)
                      simp [hb1, hb2, hb3, q4, q5, q6]))
                  exact ih _ l2 r2 E42 _ hN2 q2 (by rw [q3]; exact hn) (q1.symm.trans hsp) (q3.trans htids) (by omega) (by rw [e_sa, show (tn + (X.length - ((X4.length + 1) + 2))) + 1 + 1 = tn + (X.length - (X4.length + 1)) by omega] <;> rfl) e_q hup (Gr.tr2 hG hg (fun b hb9 => by
                    simp only [List.mem_cons, List.not_mem_nil, or_false] at hb9 ⊢
                    rcases hb9 with h | h | h | h | h | h
                    · exact Or.inl (Or.inl h)
                    · exact Or.inr (by rw [h]; exact fr9)
                    · exact Or.inl (Or.inr (by rw [h]; exact ha))
                    · exact Or.inl (Or.inr (by rw [h]; exact hpt.1))
                    · exact Or.inl (Or.inr (by rw [h]; exact hpt.2.1))
                    · exact Or.inl (Or.inr (by rw [h]; exact hpt.2.2 p3 hp3)))) H locs hH hS ls (lv_sub hl [5, 0, 6, 7] rfl)
            | true =>
              cases X3 with
              | nil =>
                have hl : lv_has ls 10 [(5, .ref a), (4, .int (nI (([] : Cx).length + 2))), (3, .ref q), (0, .ref sa)] := hl
                have e_a : E' a = .inr (3, [.int (nI (zz a)), .int (nI (ee a)), va_rf (rt l'), va_rf (rt r')]) := e_a
                have e_p1 : E' p1 = .inr (3, [.int (nI (zz p1)), .int (nI (ee p1)), va_rf (rt u1), .ref a]) := e_p1
                have e_p2 : E' p2 = .inr (3, [.int (nI (zz p2)), .int (nI (ee p2)), va_rf (rt u2), .ref p1]) := e_p2
                have e_sa : E' sa = .inr (4, [.ref ta, .int (nI (tn + (X.length - (([] : Cx).length + 2))))]) := e_sa0
                have hg : Gr (U1, E') (U1, E') [sa, q, a, p1, p2] := Gr.rf _ _
                have w_sa : sa ∈ [sa, q, a, p1, p2] := by simp
                have w_q : q ∈ [sa, q, a, p1, p2] := by simp
                have w_a : a ∈ [sa, q, a, p1, p2] := by simp
                have w_p1 : p1 ∈ [sa, q, a, p1, p2] := by simp
                have w_p2 : p2 ∈ [sa, q, a, p1, p2] := by simp
                refine lv_iload hx hb dX4_raise_18 (lv_at hl 1 rfl) ?_
                refine lv_if_le (tgt := 235) hx hb dX4_raise_20 (by decide) (fun h1 => absurd h1 (nI_nle (by omega) (by omega))) (fun _ => ?_)
                refine lv_aload_n hx hb dX4_raise_23 rfl (lv_at hl 2 rfl) ?_
                refine lv_iload hx hb dX4_raise_24 (lv_at hl 1 rfl) ?_
                refine lv_iconst (v := 1) hx hb dX4_raise_26 (by decide) ?_
                refine lv_isub hx hb dX4_raise_27 ?_
                refine gQ S hK hH m_q e_q (j := (([] : Cx).length + 1)) (nI_pred (([] : Cx).length + 1)) (by omega) (by omega) (r := (some p1)) hf1 dX4_raise_28 ?_
                refine lv_astore (lv' := [(6, .ref p1), (5, .ref a), (4, .int (nI (([] : Cx).length + 2))), (3, .ref q), (0, .ref sa)]) hx hb dX4_raise_29 hl (by decide) rfl (fun ls hl => ?_)
                refine lv_iload hx hb dX4_raise_31 (lv_at hl 2 rfl) ?_
                refine lv_iconst (v := 1) hx hb dX4_raise_33 (by decide) ?_
                refine lv_icmp_ne (tgt := 48) hx hb dX4_raise_34 (by decide) (fun _ => ?_) (fun h1 => absurd h1 (fun e9 => by have := (nI_eq (b := 1) (by omega) (by omega)).mp e9; omega))
                refine lv_aload_n hx hb dX4_raise_48 rfl (lv_at hl 3 rfl) ?_
                refine lv_iload hx hb dX4_raise_49 (lv_at hl 2 rfl) ?_
                refine lv_iconst (v := 2) hx hb dX4_raise_51 (by decide) ?_
                refine lv_isub hx hb dX4_raise_52 ?_
                refine gQ S hK hH m_q e_q (j := ([] : Cx).length) (nI_sub ([] : Cx).length 2) (by omega) (by omega) (r := (some p2)) hf2 dX4_raise_53 ?_
                refine lv_astore (lv' := [(7, .ref p2), (6, .ref p1), (5, .ref a), (4, .int (nI (([] : Cx).length + 2))), (3, .ref q), (0, .ref sa)]) hx hb dX4_raise_54 hl (by decide) rfl (fun ls hl => ?_)
                refine lv_iload hx hb dX4_raise_56 (lv_at hl 3 rfl) ?_
                refine lv_iconst (v := 2) hx hb dX4_raise_58 (by decide) ?_
                refine lv_icmp_le (tgt := 71) hx hb dX4_raise_59 (by decide) (fun _ => ?_) (fun h1 => absurd (by decide) h1)
                refine lv_null hx hb dX4_raise_71 ?_
                refine lv_astoreN (lv' := [(8, .null), (7, .ref p2), (6, .ref p1), (5, .ref a), (4, .int (nI (([] : Cx).length + 2))), (3, .ref q), (0, .ref sa)]) hx hb dX4_raise_72 hl (by decide) rfl (fun ls hl => ?_)
                refine lv_aloadN hx hb dX4_raise_74 (lv_at hl 0 rfl) ?_
                refine lv_ifnullN hx hb dX4_raise_76 (tgt := 93) (by decide) ?_
                refine lv_iconst (v := 0) hx hb dX4_raise_93 (by decide) ?_
                refine lv_istore (lv' := [(9, .int 0), (8, .null), (7, .ref p2), (6, .ref p1), (5, .ref a), (4, .int (nI (([] : Cx).length + 2))), (3, .ref q), (0, .ref sa)]) hx hb dX4_raise_94 hl (by decide) rfl (fun ls hl => ?_)
                refine lv_aload hx hb dX4_raise_96 (lv_at hl 2 rfl) ?_
                refine gB S hi3 hK hH m_p2 e_p2 2 (by decide) f33 (v := va_rf (rt u2)) rfl dX4_raise_98 ?_
                refine lv_aload hx hb dX4_raise_101 (lv_at hl 3 rfl) ?_
                refine lv_acmp_ne (rx := rt u2) (ry := some p1) (tgt := 110) hx hb dX4_raise_103 (by decide) (fun _ => ?_) (fun hq => absurd hq x21)
                refine lv_iconst (v := 0) hx hb dX4_raise_110 (by decide) ?_
                refine lv_aload hx hb dX4_raise_111 (lv_at hl 3 rfl) ?_
                refine gB S hi3 hK hH m_p1 e_p1 2 (by decide) f33 (v := va_rf (rt u1)) rfl dX4_raise_113 ?_
                refine lv_aload hx hb dX4_raise_116 (lv_at hl 4 rfl) ?_
                refine lv_acmp_ne (rx := rt u1) (ry := some a) (tgt := 125) hx hb dX4_raise_118 (by decide) (fun _ => ?_) (fun hq => absurd hq x1a)
                refine lv_iconst (v := 0) hx hb dX4_raise_125 (by decide) ?_
                refine lv_icmp_ne (tgt := 148) hx hb dX4_raise_126 (by decide) (fun h1 => absurd h1 (fun h => h rfl)) (fun _ => ?_)
                refine lv_aload_n hx hb dX4_raise_129 rfl (lv_at hl 7 rfl) ?_
                refine lv_aload hx hb dX4_raise_130 (lv_at hl 2 rfl) ?_
                refine lv_aload hx hb dX4_raise_132 (lv_at hl 3 rfl) ?_
                have k9_a : a ∉ [sa, p2, p1] := by
                  have q1 : a ≠ sa := (neBM e_a e_sa)
                  have q2 : a ≠ p2 := n1.2.1
                  have q3 : a ≠ p1 := n1.1
                  simp [q1, q2, q3]
                have k9_q : q ∉ [sa, p2, p1] := by
                  have q1 : q ≠ sa := (Ne.symm (neMQ e_sa e_q))
                  have q2 : q ≠ p2 := (Ne.symm (neBQ e_p2 e_q))
                  have q3 : q ≠ p1 := (Ne.symm (neBQ e_p1 e_q))
                  simp [q1, q2, q3]
                have rc9 := rec9 hK hH m_sa e_sa (q := (RX4, TX4, 2)) rfl
                refine cyV S (c_X4_turnR (sa := sa) (ta := ta) (tn := (tn + (X.length - (([] : Cx).length + 2)))) (up := p2) (own := p1) (b9 := (rt u1)) (c9 := (some a)) (x := (rt u2)) (y := (some p1)) x21 m_sa e_sa m_p2 e_p2 m_p1 e_p1 (Ne.symm n1.2.2)) (cwV 2 hts gX4_raise_X4_turn rfl rfl rfl (by decide +kernel) ⟨Nat.le_of_ble_eq_true rfl, Nat.le_of_ble_eq_true rfl⟩) hK hH hX rc9 hS rfl hl.1 rfl (by simp [cat_rf, Value.category]) dX4_raise_134 ⟨Nat.le_of_ble_eq_true rfl, Nat.le_of_ble_eq_true rfl⟩ (fun v Z1 H locs hpost hH hS => ?_)
                obtain ⟨rfl, E43, rfl, e_sa, e_p2, e_p1, hg9⟩ := hpost
                have e_a : E43 a = .inr (3, [.int (nI (zz a)), .int (nI (ee a)), va_rf (rt l'), va_rf (rt r')]) := (hg9.2 a m_a k9_a).trans e_a
                have e_q : E43 q = qE Γ (X.length + 1) f' := (hg9.2 q m_q k9_q).trans e_q
                have e_p2 : E43 p2 = .inr (3, [.int (nI (zz p2)), .int (nI (ee p2)), va_rf (rt u2), va_rf (rt u1)]) := e_p2
                have e_p1 : E43 p1 = .inr (3, [.int (nI (zz p1)), .int (nI (ee p1)), .ref p2, .ref a]) := e_p1
                have hg := hg.tr (hg9.wd (fun b hb9 => Or.inl (by simp only [List.mem_cons, List.not_mem_nil, or_false] at hb9 ⊢; rcases hb9 with h | h | h <;> simp [h])))
                refine lv_aload_n hx hb dX4_raise_137 rfl (lv_at hl 7 rfl) ?_
                refine lv_aload hx hb dX4_raise_138 (lv_at hl 3 rfl) ?_
                refine lv_aload hx hb dX4_raise_140 (lv_at hl 4 rfl) ?_
                have k9_p2 : p2 ∉ [sa, p1, a] := by
                  have q1 : p2 ≠ sa := (neBM e_p2 e_sa)
                  have q2 : p2 ≠ p1 := (Ne.symm n1.2.2)
                  have q3 : p2 ≠ a := (Ne.symm n1.2.1)
                  simp [q1, q2, q3]
                have k9_q : q ∉ [sa, p1, a] := by
                  have q1 : q ≠ sa := (Ne.symm (neMQ e_sa e_q))
                  have q2 : q ≠ p1 := (Ne.symm (neBQ e_p1 e_q))
                  have q3 : q ≠ a := (Ne.symm (neBQ e_a e_q))
                  simp [q1, q2, q3]
                have rc9 := rec9 hK hH m_sa e_sa (q := (RX4, TX4, 2)) rfl
                refine cyV S (c_X4_turnR (sa := sa) (ta := ta) (tn := ((tn + (X.length - (([] : Cx).length + 2))) + 1)) (up := p1) (own := a) (b9 := (rt l')) (c9 := (rt r')) (x := (some p2)) (y := (some a)) (fun e9 => (Ne.symm n1.2.1) (Option.some.inj e9)) m_sa e_sa m_p1 e_p1 m_a e_a (Ne.symm n1.1)) (cwV 2 hts gX4_raise_X4_turn rfl rfl rfl (by decide +kernel) ⟨Nat.le_of_ble_eq_true rfl, Nat.le_of_ble_eq_true rfl⟩) hK hH hX rc9 hS rfl hl.1 rfl (by simp [cat_rf, Value.category]) dX4_raise_142 ⟨Nat.le_of_ble_eq_true rfl, Nat.le_of_ble_eq_true rfl⟩ (fun v Z1 H locs hpost hH hS => ?_)
                obtain ⟨rfl, E44, rfl, e_sa, e_p1, e_a, hg9⟩ := hpost
                have e_p2 : E44 p2 = .inr (3, [.int (nI (zz p2)), .int (nI (ee p2)), va_rf (rt u2), va_rf (rt u1)]) := (hg9.2 p2 m_p2 k9_p2).trans e_p2
                have e_q : E44 q = qE Γ (X.length + 1) f' := (hg9.2 q m_q k9_q).trans e_q
                have e_p1 : E44 p1 = .inr (3, [.int (nI (zz p1)), .int (nI (ee p1)), .ref p2, va_rf (rt l')]) := e_p1
                have e_a : E44 a = .inr (3, [.int (nI (zz a)), .int (nI (ee a)), .ref p1, va_rf (rt r')]) := e_a
                have hg := hg.tr (hg9.wd (fun b hb9 => Or.inl (by simp only [List.mem_cons, List.not_mem_nil, or_false] at hb9 ⊢; rcases hb9 with h | h | h <;> simp [h])))
                refine lv_goto (tgt := 191) hx hb dX4_raise_145 (by decide) ?_
                refine lv_aloadN hx hb dX4_raise_191 (lv_at hl 1 rfl) ?_
                refine lv_ifnullN hx hb dX4_raise_193 (tgt := 211) (by decide) ?_
                refine lv_aloadN hx hb dX4_raise_211 (lv_at hl 1 rfl) ?_
                refine lv_ifnullN hx hb dX4_raise_213 (tgt := 223) (by decide) ?_
                refine lv_iinc (v := nI (([] : Cx).length)) (lv' := [(4, .int (nI (([] : Cx).length))), (9, .int 0), (8, .null), (7, .ref p2), (6, .ref p1), (5, .ref a), (3, .ref q), (0, .ref sa)]) hx hb dX4_raise_223 hl (k := 5) rfl (nI_m2 (([] : Cx).length)) (by decide) rfl (fun ls hl => ?_)
                refine lv_aload_n hx hb dX4_raise_226 rfl (lv_at hl 6 rfl) ?_
                refine lv_iload hx hb dX4_raise_227 (lv_at hl 0 rfl) ?_
                refine lv_aload hx hb dX4_raise_229 (lv_at hl 5 rfl) ?_
                have n9_a : a ≠ q := (neBQ e_a e_q)
                have n9_p1 : p1 ≠ q := (neBQ e_p1 e_q)
                have n9_p2 : p2 ≠ q := (neBQ e_p2 e_q)
                have n9_sa : sa ≠ q := (neMQ e_sa e_q)
                refine pQ S hK hH hS m_q e_q (j := ([] : Cx).length) rfl (by omega) (by omega) (some a) (fun b h => by cases h; exact ⟨m_a, _, e_a⟩) rfl dX4_raise_231 (fun E45 H locs e_q ho hH hS => ?_)
                have e_a : E45 a = .inr (3, [.int (nI (zz a)), .int (nI (ee a)), .ref p1, va_rf (rt r')]) := (ho a n9_a).trans e_a
                have e_p1 : E45 p1 = .inr (3, [.int (nI (zz p1)), .int (nI (ee p1)), .ref p2, va_rf (rt l')]) := (ho p1 n9_p1).trans e_p1
                have e_p2 : E45 p2 = .inr (3, [.int (nI (zz p2)), .int (nI (ee p2)), va_rf (rt u2), va_rf (rt u1)]) := (ho p2 n9_p2).trans e_p2
                have e_sa : E45 sa = .inr (4, [.ref ta, .int (nI (((tn + (X.length - (([] : Cx).length + 2))) + 1) + 1))]) := (ho sa n9_sa).trans e_sa
                have hg := hg.put w_q ho
                refine lv_goto (tgt := 18) hx hb dX4_raise_232 (by decide) ?_
                obtain ⟨l2, r2, q1, q2, q3⟩ := sim2 (M' := (U1, E45)) hzz0 hn (fun _ h => h) e_a e_p1 e_p2 (fun _ _ _ _ h => by cases h) (fun b hb1 hb2 hb3 hb4 hb5 hb6 => by
                  obtain ⟨x9, h9⟩ := hb6
                  exact hg.2 b hb5 (by
                    have q4 : b ≠ sa := neBM h9 e_sa0
                    have q5 : b ≠ q := neBQ h9 e_q0
                    simp [hb1, hb2, hb3, q4, q5]))
                exact ih _ l2 r2 E45 _ hN2 q2 (by rw [q3]; exact hn) (q1.symm.trans hsp) (q3.trans htids) (by omega) (by rw [e_sa, show (tn + (X.length - (([] : Cx).length + 2))) + 1 + 1 = tn + (X.length - ([] : Cx).length) by omega] <;> rfl) e_q hup (Gr.tr2 hG hg (fun b hb9 => by
                  simp only [List.mem_cons, List.not_mem_nil, or_false] at hb9 ⊢
                  rcases hb9 with h | h | h | h | h
                  · exact Or.inl (Or.inl h)
                  · exact Or.inr (by rw [h]; exact fr9)
                  · exact Or.inl (Or.inr (by rw [h]; exact ha))
                  · exact Or.inl (Or.inr (by rw [h]; exact hpt.1))
                  · exact Or.inl (Or.inr (by rw [h]; exact hpt.2.1)))) H locs hH hS ls (lv_sub hl [5, 0, 6, 7] rfl)
              | cons f X4 =>
                obtain ⟨s3, p3, u3⟩ := f
                obtain ⟨⟨m_p3, e_p3⟩, hu3, hC4⟩ := hC3
                have hp3 : p3 ∈ cL ((s3, p3, u3) :: X4) ∨ p3 ∈ cR ((s3, p3, u3) :: X4) := parC_mem rfl
                have d3 : p3 ≠ a ∧ p3 ≠ p1 ∧ p3 ≠ p2 := by
                  refine ⟨?_, ?_, ?_⟩ <;> rintro rfl <;> rcases hp3 with h | h
                  · exact n3.1 h
                  · exact n3.2.1 h
                  · exact n3.2.2.1 h
                  · exact n3.2.2.2.1 h
                  · exact n3.2.2.2.2.1 h
                  · exact n3.2.2.2.2.2 h
                have hf3 : f' X4.length = some p3 := by rw [hf0 _ (by simp), anc_cons, List.getElem?_append_right (by simp [anc_len])]; simp [anc_len]
                have hlx : X4.length + 1 + 2 ≤ X.length := hlx
                cases s3 with
                | false =>
                  have hl : lv_has ls 10 [(5, .ref a), (4, .int (nI ((X4.length + 1) + 2))), (3, .ref q), (0, .ref sa)] := hl
                  have e_a : E' a = .inr (3, [.int (nI (zz a)), .int (nI (ee a)), va_rf (rt l'), va_rf (rt r')]) := e_a
                  have e_p1 : E' p1 = .inr (3, [.int (nI (zz p1)), .int (nI (ee p1)), va_rf (rt u1), .ref a]) := e_p1
                  have e_p2 : E' p2 = .inr (3, [.int (nI (zz p2)), .int (nI (ee p2)), va_rf (rt u2), .ref p1]) := e_p2
                  have e_p3 : E' p3 = .inr (3, [.int (nI (zz p3)), .int (nI (ee p3)), .ref p2, va_rf (rt u3)]) := e_p3
                  have e_sa : E' sa = .inr (4, [.ref ta, .int (nI (tn + (X.length - ((X4.length + 1) + 2))))]) := e_sa0
                  have hg : Gr (U1, E') (U1, E') [sa, q, a, p1, p2, p3] := Gr.rf _ _
                  have w_sa : sa ∈ [sa, q, a, p1, p2, p3] := by simp
                  have w_q : q ∈ [sa, q, a, p1, p2, p3] := by simp
                  have w_a : a ∈ [sa, q, a, p1, p2, p3] := by simp
                  have w_p1 : p1 ∈ [sa, q, a, p1, p2, p3] := by simp
                  have w_p2 : p2 ∈ [sa, q, a, p1, p2, p3] := by simp
                  have w_p3 : p3 ∈ [sa, q, a, p1, p2, p3] := by simp
                  refine lv_iload hx hb dX4_raise_18 (lv_at hl 1 rfl) ?_
                  refine lv_if_le (tgt := 235) hx hb dX4_raise_20 (by decide) (fun h1 => absurd h1 (nI_nle (by omega) (by omega))) (fun _ => ?_)
                  refine lv_aload_n hx hb dX4_raise_23 rfl (lv_at hl 2 rfl) ?_
                  refine lv_iload hx hb dX4_raise_24 (lv_at hl 1 rfl) ?_
                  refine lv_iconst (v := 1) hx hb dX4_raise_26 (by decide) ?_
                  refine lv_isub hx hb dX4_raise_27 ?_
                  refine gQ S hK hH m_q e_q (j := ((X4.length + 1) + 1)) (nI_pred ((X4.length + 1) + 1)) (by omega) (by omega) (r := (some p1)) hf1 dX4_raise_28 ?_
                  refine lv_astore (lv' := [(6, .ref p1), (5, .ref a), (4, .int (nI ((X4.length + 1) + 2))), (3, .ref q), (0, .ref sa)]) hx hb dX4_raise_29 hl (by decide) rfl (fun ls hl => ?_)
                  refine lv_iload hx hb dX4_raise_31 (lv_at hl 2 rfl) ?_
                  refine lv_iconst (v := 1) hx hb dX4_raise_33 (by decide) ?_
                  refine lv_icmp_ne (tgt := 48) hx hb dX4_raise_34 (by decide) (fun _ => ?_) (fun h1 => absurd h1 (fun e9 => by have := (nI_eq (b := 1) (by omega) (by omega)).mp e9; omega))
                  refine lv_aload_n hx hb dX4_raise_48 rfl (lv_at hl 3 rfl) ?_
                  refine lv_iload hx hb dX4_raise_49 (lv_at hl 2 rfl) ?_
                  refine lv_iconst (v := 2) hx hb dX4_raise_51 (by decide) ?_
                  refine lv_isub hx hb dX4_raise_52 ?_
                  refine gQ S hK hH m_q e_q (j := (X4.length + 1)) (nI_sub (X4.length + 1) 2) (by omega) (by omega) (r := (some p2)) hf2 dX4_raise_53 ?_
                  refine lv_astore (lv' := [(7, .ref p2), (6, .ref p1), (5, .ref a), (4, .int (nI ((X4.length + 1) + 2))), (3, .ref q), (0, .ref sa)]) hx hb dX4_raise_54 hl (by decide) rfl (fun ls hl => ?_)
                  refine lv_iload hx hb dX4_raise_56 (lv_at hl 3 rfl) ?_
                  refine lv_iconst (v := 2) hx hb dX4_raise_58 (by decide) ?_
                  refine lv_icmp_le (tgt := 71) hx hb dX4_raise_59 (by decide) (fun h1 => absurd h1 (fun e9 => by have := (nI_leI (b := 2) (by omega) (by omega)).mp e9; omega)) (fun _ => ?_)
                  refine lv_aload_n hx hb dX4_raise_62 rfl (lv_at hl 4 rfl) ?_
                  refine lv_iload hx hb dX4_raise_63 (lv_at hl 3 rfl) ?_
                  refine lv_iconst (v := 3) hx hb dX4_raise_65 (by decide) ?_
                  refine lv_isub hx hb dX4_raise_66 ?_
                  refine gQ S hK hH m_q e_q (j := X4.length) (nI_sub X4.length 3) (by omega) (by omega) (r := (some p3)) hf3 dX4_raise_67 ?_
                  refine lv_goto (tgt := 72) hx hb dX4_raise_68 (by decide) ?_
                  refine lv_astore (lv' := [(8, .ref p3), (7, .ref p2), (6, .ref p1), (5, .ref a), (4, .int (nI ((X4.length + 1) + 2))), (3, .ref q), (0, .ref sa)]) hx hb dX4_raise_72 hl (by decide) rfl (fun ls hl => ?_)
                  refine lv_aload hx hb dX4_raise_74 (lv_at hl 0 rfl) ?_
                  refine lv_ifnull hx hb dX4_raise_76 ?_
                  refine lv_aload hx hb dX4_raise_79 (lv_at hl 0 rfl) ?_
                  refine gB S hi3 hK hH m_p3 e_p3 2 (by decide) f33 (v := .ref p2) rfl dX4_raise_81 ?_
                  refine lv_aload hx hb dX4_raise_84 (lv_at hl 1 rfl) ?_
                  refine lv_acmp_ne (rx := some p2) (ry := some p2) (tgt := 93) hx hb dX4_raise_86 (by decide) (fun hq => absurd rfl hq) (fun _ => ?_)
                  refine lv_iconst (v := 1) hx hb dX4_raise_89 (by decide) ?_
                  refine lv_goto (tgt := 94) hx hb dX4_raise_90 (by decide) ?_
                  refine lv_istore (lv' := [(9, .int 1), (8, .ref p3), (7, .ref p2), (6, .ref p1), (5, .ref a), (4, .int (nI ((X4.length + 1) + 2))), (3, .ref q), (0, .ref sa)]) hx hb dX4_raise_94 hl (by decide) rfl (fun ls hl => ?_)
                  refine lv_aload hx hb dX4_raise_96 (lv_at hl 2 rfl) ?_
                  refine gB S hi3 hK hH m_p2 e_p2 2 (by decide) f33 (v := va_rf (rt u2)) rfl dX4_raise_98 ?_
                  refine lv_aload hx hb dX4_raise_101 (lv_at hl 3 rfl) ?_
                  refine lv_acmp_ne (rx := rt u2) (ry := some p1) (tgt := 110) hx hb dX4_raise_103 (by decide) (fun _ => ?_) (fun hq => absurd hq x21)
                  refine lv_iconst (v := 0) hx hb dX4_raise_110 (by decide) ?_
                  refine lv_aload hx hb dX4_raise_111 (lv_at hl 3 rfl) ?_
                  refine gB S hi3 hK hH m_p1 e_p1 2 (by decide) f33 (v := va_rf (rt u1)) rfl dX4_raise_113 ?_
                  refine lv_aload hx hb dX4_raise_116 (lv_at hl 4 rfl) ?_
                  refine lv_acmp_ne (rx := rt u1) (ry := some a) (tgt := 125) hx hb dX4_raise_118 (by decide) (fun _ => ?_) (fun hq => absurd hq x1a)
                  refine lv_iconst (v := 0) hx hb dX4_raise_125 (by decide) ?_
                  refine lv_icmp_ne (tgt := 148) hx hb dX4_raise_126 (by decide) (fun h1 => absurd h1 (fun h => h rfl)) (fun _ => ?_)
                  refine lv_aload_n hx hb dX4_raise_129 rfl (lv_at hl 7 rfl) ?_
                  refine lv_aload hx hb dX4_raise_130 (lv_at hl 2 rfl) ?_
                  refine lv_aload hx hb dX4_raise_132 (lv_at hl 3 rfl) ?_
                  have k9_a : a ∉ [sa, p2, p1] := by
                    have q1 : a ≠ sa := (neBM e_a e_sa)
                    have q2 : a ≠ p2 := n1.2.1
                    have q3 : a ≠ p1 := n1.1
                    simp [q1, q2, q3]
                  have k9_p3 : p3 ∉ [sa, p2, p1] := by
                    have q1 : p3 ≠ sa := (neBM e_p3 e_sa)
                    have q2 : p3 ≠ p2 := d3.2.2
                    have q3 : p3 ≠ p1 := d3.2.1
                    simp [q1, q2, q3]
                  have k9_q : q ∉ [sa, p2, p1] := by
                    have q1 : q ≠ sa := (Ne.symm (neMQ e_sa e_q))
                    have q2 : q ≠ p2 := (Ne.symm (neBQ e_p2 e_q))
                    have q3 : q ≠ p1 := (Ne.symm (neBQ e_p1 e_q))
                    simp [q1, q2, q3]
                  have rc9 := rec9 hK hH m_sa e_sa (q := (RX4, TX4, 2)) rfl
                  refine cyV S (c_X4_turnR (sa := sa) (ta := ta) (tn := (tn + (X.length - ((X4.length + 1) + 2)))) (up := p2) (own := p1) (b9 := (rt u1)) (c9 := (some a)) (x := (rt u2)) (y := (some p1)) x21 m_sa e_sa m_p2 e_p2 m_p1 e_p1 (Ne.symm n1.2.2)) (cwV 2 hts gX4_raise_X4_turn rfl rfl rfl (by decide +kernel) ⟨Nat.le_of_ble_eq_true rfl, Nat.le_of_ble_eq_true rfl⟩) hK hH hX rc9 hS rfl hl.1 rfl (by simp [cat_rf, Value.category]) dX4_raise_134 ⟨Nat.le_of_ble_eq_true rfl, Nat.le_of_ble_eq_true rfl⟩ (fun v Z1 H locs hpost hH hS => ?_)
                  obtain ⟨rfl, E46, rfl, e_sa, e_p2, e_p1, hg9⟩ := hpost
                  have e_a : E46 a = .inr (3, [.int (nI (zz a)), .int (nI (ee a)), va_rf (rt l'), va_rf (rt r')]) := (hg9.2 a m_a k9_a).trans e_a
                  have e_p3 : E46 p3 = .inr (3, [.int (nI (zz p3)), .int (nI (ee p3)), .ref p2, va_rf (rt u3)]) := (hg9.2 p3 m_p3 k9_p3).trans e_p3
                  have e_q : E46 q = qE Γ (X.length + 1) f' := (hg9.2 q m_q k9_q).trans e_q
                  have e_p2 : E46 p2 = .inr (3, [.int (nI (zz p2)), .int (nI (ee p2)), va_rf (rt u2), va_rf (rt u1)]) := e_p2
                  have e_p1 : E46 p1 = .inr (3, [.int (nI (zz p1)), .int (nI (ee p1)), .ref p2, .ref a]) := e_p1
                  have hg := hg.tr (hg9.wd (fun b hb9 => Or.inl (by simp only [List.mem_cons, List.not_mem_nil, or_false] at hb9 ⊢; rcases hb9 with h | h | h <;> simp [h])))
                  refine lv_aload_n hx hb dX4_raise_137 rfl (lv_at hl 7 rfl) ?_
                  refine lv_aload hx hb dX4_raise_138 (lv_at hl 3 rfl) ?_
                  refine lv_aload hx hb dX4_raise_140 (lv_at hl 4 rfl) ?_
                  have k9_p2 : p2 ∉ [sa, p1, a] := by
                    have q1 : p2 ≠ sa := (neBM e_p2 e_sa)
                    have q2 : p2 ≠ p1 := (Ne.symm n1.2.2)
                    have q3 : p2 ≠ a := (Ne.symm n1.2.1)
                    simp [q1, q2, q3]
                  have k9_p3 : p3 ∉ [sa, p1, a] := by
                    have q1 : p3 ≠ sa := (neBM e_p3 e_sa)
                    have q2 : p3 ≠ p1 := d3.2.1
                    have q3 : p3 ≠ a := d3.1
                    simp [q1, q2, q3]
                  have k9_q : q ∉ [sa, p1, a] := by
                    have q1 : q ≠ sa := (Ne.symm (neMQ e_sa e_q))
                    have q2 : q ≠ p1 := (Ne.symm (neBQ e_p1 e_q))
                    have q3 : q ≠ a := (Ne.symm (neBQ e_a e_q))
                    simp [q1, q2, q3]
                  have rc9 := rec9 hK hH m_sa e_sa (q := (RX4, TX4, 2)) rfl
                  refine cyV S (c_X4_turnR (sa := sa) (ta := ta) (tn := ((tn + (X.length - ((X4.length + 1) + 2))) + 1)) (up := p1) (own := a) (b9 := (rt l')) (c9 := (rt r')) (x := (some p2)) (y := (some a)) (fun e9 => (Ne.symm n1.2.1) (Option.some.inj e9)) m_sa e_sa m_p1 e_p1 m_a e_a (Ne.symm n1.1)) (cwV 2 hts gX4_raise_X4_turn rfl rfl rfl (by decide +kernel) ⟨Nat.le_of_ble_eq_true rfl, Nat.le_of_ble_eq_true rfl⟩) hK hH hX rc9 hS rfl hl.1 rfl (by simp [cat_rf, Value.category]) dX4_raise_142 ⟨Nat.le_of_ble_eq_true rfl, Nat.le_of_ble_eq_true rfl⟩ (fun v Z1 H locs hpost hH hS => ?_)
                  obtain ⟨rfl, E47, rfl, e_sa, e_p1, e_a, hg9⟩ := hpost
                  have e_p2 : E47 p2 = .inr (3, [.int (nI (zz p2)), .int (nI (ee p2)), va_rf (rt u2), va_rf (rt u1)]) := (hg9.2 p2 m_p2 k9_p2).trans e_p2
                  have e_p3 : E47 p3 = .inr (3, [.int (nI (zz p3)), .int (nI (ee p3)), .ref p2, va_rf (rt u3)]) := (hg9.2 p3 m_p3 k9_p3).trans e_p3
                  have e_q : E47 q = qE Γ (X.length + 1) f' := (hg9.2 q m_q k9_q).trans e_q
                  have e_p1 : E47 p1 = .inr (3, [.int (nI (zz p1)), .int (nI (ee p1)), .ref p2, va_rf (rt l')]) := e_p1
                  have e_a : E47 a = .inr (3, [.int (nI (zz a)), .int (nI (ee a)), .ref p1, va_rf (rt r')]) := e_a
                  have hg := hg.tr (hg9.wd (fun b hb9 => Or.inl (by simp only [List.mem_cons, List.not_mem_nil, or_false] at hb9 ⊢; rcases hb9 with h | h | h <;> simp [h])))
                  refine lv_goto (tgt := 191) hx hb dX4_raise_145 (by decide) ?_
                  refine lv_aload hx hb dX4_raise_191 (lv_at hl 1 rfl) ?_
                  refine lv_ifnull hx hb dX4_raise_193 ?_
                  refine lv_iload hx hb dX4_raise_196 (lv_at hl 0 rfl) ?_
                  refine lv_if_eq (tgt := 211) hx hb dX4_raise_198 (by decide) (fun h1 => absurd h1 (by decide)) (fun _ => ?_)
                  refine lv_aload hx hb dX4_raise_201 (lv_at hl 1 rfl) ?_
                  refine lv_aload hx hb dX4_raise_203 (lv_at hl 4 rfl) ?_
                  have n9_a : a ≠ p3 := (Ne.symm d3.1)
                  have n9_p1 : p1 ≠ p3 := (Ne.symm d3.2.1)
                  have n9_p2 : p2 ≠ p3 := (Ne.symm d3.2.2)
                  have n9_sa : sa ≠ p3 := (Ne.symm (neBM e_p3 e_sa))
                  have n9_q : q ≠ p3 := (Ne.symm (neBQ e_p3 e_q))
                  refine pBr S hi3 hK hH hS m_p3 e_p3 2 (by decide) f33 (some a) rfl dX4_raise_205 rfl (fun E48 H locs e_p3 ho hH hS => ?_)
                  have e_p3 : E48 p3 = .inr (3, [.int (nI (zz p3)), .int (nI (ee p3)), .ref a, va_rf (rt u3)]) := e_p3
                  have e_a : E48 a = .inr (3, [.int (nI (zz a)), .int (nI (ee a)), .ref p1, va_rf (rt r')]) := (ho a n9_a).trans e_a
                  have e_p1 : E48 p1 = .inr (3, [.int (nI (zz p1)), .int (nI (ee p1)), .ref p2, va_rf (rt l')]) := (ho p1 n9_p1).trans e_p1
                  have e_p2 : E48 p2 = .inr (3, [.int (nI (zz p2)), .int (nI (ee p2)), va_rf (rt u2), va_rf (rt u1)]) := (ho p2 n9_p2).trans e_p2
                  have e_sa : E48 sa = .inr (4, [.ref ta, .int (nI (((tn + (X.length - ((X4.length + 1) + 2))) + 1) + 1))]) := (ho sa n9_sa).trans e_sa
                  have e_q : E48 q = qE Γ (X.length + 1) f' := (ho q n9_q).trans e_q
                  have hg := hg.put w_p3 ho
                  refine lv_goto (tgt := 223) hx hb dX4_raise_208 (by decide) ?_
                  refine lv_iinc (v := nI (X4.length + 1)) (lv' := [(4, .int (nI (X4.length + 1))), (9, .int 1), (8, .ref p3), (7, .ref p2), (6, .ref p1), (5, .ref a), (3, .ref q), (0, .ref sa)]) hx hb dX4_raise_223 hl (k := 5) rfl (nI_m2 (X4.length + 1)) (by decide) rfl (fun ls hl => ?_)
                  refine lv_aload_n hx hb dX4_raise_226 rfl (lv_at hl 6 rfl) ?_
                  refine lv_iload hx hb dX4_raise_227 (lv_at hl 0 rfl) ?_
                  refine lv_aload hx hb dX4_raise_229 (lv_at hl 5 rfl) ?_
                  have n9_a : a ≠ q := (neBQ e_a e_q)
                  have n9_p1 : p1 ≠ q := (neBQ e_p1 e_q)
                  have n9_p2 : p2 ≠ q := (neBQ e_p2 e_q)
                  have n9_p3 : p3 ≠ q := (neBQ e_p3 e_q)
                  have n9_sa : sa ≠ q := (neMQ e_sa e_q)
                  refine pQ S hK hH hS m_q e_q (j := (X4.length + 1)) rfl (by omega) (by omega) (some a) (fun b h => by cases h; exact ⟨m_a, _, e_a⟩) rfl dX4_raise_231 (fun E49 H locs e_q ho hH hS => ?_)
                  have e_a : E49 a = .inr (3, [.int (nI (zz a)), .int (nI (ee a)), .ref p1, va_rf (rt r')]) := (ho a n9_a).trans e_a
                  have e_p1 : E49 p1 = .inr (3, [.int (nI (zz p1)), .int (nI (ee p1)), .ref p2, va_rf (rt l')]) := (ho p1 n9_p1).trans e_p1
                  have e_p2 : E49 p2 = .inr (3, [.int (nI (zz p2)), .int (nI (ee p2)), va_rf (rt u2), va_rf (rt u1)]) := (ho p2 n9_p2).trans e_p2
                  have e_p3 : E49 p3 = .inr (3, [.int (nI (zz p3)), .int (nI (ee p3)), .ref a, va_rf (rt u3)]) := (ho p3 n9_p3).trans e_p3
                  have e_sa : E49 sa = .inr (4, [.ref ta, .int (nI (((tn + (X.length - ((X4.length + 1) + 2))) + 1) + 1))]) := (ho sa n9_sa).trans e_sa
                  have hg := hg.put w_q ho
                  refine lv_goto (tgt := 18) hx hb dX4_raise_232 (by decide) ?_
                  obtain ⟨l2, r2, q1, q2, q3⟩ := sim2 (M' := (U1, E49)) hzz0 hn (fun _ h => h) e_a e_p1 e_p2 (fun _ _ _ _ h => by cases h; exact e_p3) (fun b hb1 hb2 hb3 hb4 hb5 hb6 => by
                    obtain ⟨x9, h9⟩ := hb6
                    exact hg.2 b hb5 (by
                      have q4 : b ≠ sa := neBM h9 e_sa0
                      have q5 : b ≠ q := neBQ h9 e_q0
                      have q6 : b ≠ p3 := fun e9 => hb4 (by rw [e9]; rfl)
                      simp [hb1, hb2, hb3, q4, q5, q6]))
                  exact ih _ l2 r2 E49 _ hN2 q2 (by rw [q3]; exact hn) (q1.symm.trans hsp) (q3.trans htids) (by omega) (by rw [e_sa, show (tn + (X.length - ((X4.length + 1) + 2))) + 1 + 1 = tn + (X.length - (X4.length + 1)) by omega] <;> rfl) e_q hup (Gr.tr2 hG hg (fun b hb9 => by
                    simp only [List.mem_cons, List.not_mem_nil, or_false] at hb9 ⊢
                    rcases hb9 with h | h | h | h | h | h
                    · exact Or.inl (Or.inl h)
                    · exact Or.inr (by rw [h]; exact fr9)
                    · exact Or.inl (Or.inr (by rw [h]; exact ha))
                    · exact Or.inl (Or.inr (by rw [h]; exact hpt.1))
                    · exact Or.inl (Or.inr (by rw [h]; exact hpt.2.1))
                    · exact Or.inl (Or.inr (by rw [h]; exact hpt.2.2 p3 hp3)))) H locs hH hS ls (lv_sub hl [5, 0, 6, 7] rfl)
                | true =>
                  have x32 : rt u3 ≠ some p2 := fun e9 => n3.2.2.2.2.1 (by simp [cL, rt_mem e9])
                  have hl : lv_has ls 10 [(5, .ref a), (4, .int (nI ((X4.length + 1) + 2))), (3, .ref q), (0, .ref sa)] := hl
                  have e_a : E' a = .inr (3, [.int (nI (zz a)), .int (nI (ee a)), va_rf (rt l'), va_rf (rt r')]) := e_a
                  have e_p1 : E' p1 = .inr (3, [.int (nI (zz p1)), .int (nI (ee p1)), va_rf (rt u1), .ref a]) := e_p1
                  have e_p2 : E' p2 = .inr (3, [.int (nI (zz p2)), .int (nI (ee p2)), va_rf (rt u2), .ref p1]) := e_p2
                  have e_p3 : E' p3 = .inr (3, [.int (nI (zz p3)), .int (nI (ee p3)), va_rf (rt u3), .ref p2]) := e_p3
                  have e_sa : E' sa = .inr (4, [.ref ta, .int (nI (tn + (X.length - ((X4.length + 1) + 2))))]) := e_sa0
                  have hg : Gr (U1, E') (U1, E') [sa, q, a, p1, p2, p3] := Gr.rf _ _
                  have w_sa : sa ∈ [sa, q, a, p1, p2, p3] := by simp
                  have w_q : q ∈ [sa, q, a, p1, p2, p3] := by simp
                  have w_a : a ∈ [sa, q, a, p1, p2, p3] := by simp
                  have w_p1 : p1 ∈ [sa, q, a, p1, p2, p3] := by simp
                  have w_p2 : p2 ∈ [sa, q, a, p1, p2, p3] := by simp
                  have w_p3 : p3 ∈ [sa, q, a, p1, p2, p3] := by simp
                  refine lv_iload hx hb dX4_raise_18 (lv_at hl 1 rfl) ?_
                  refine lv_if_le (tgt := 235) hx hb dX4_raise_20 (by decide) (fun h1 => absurd h1 (nI_nle (by omega) (by omega))) (fun _ => ?_)
                  refine lv_aload_n hx hb dX4_raise_23 rfl (lv_at hl 2 rfl) ?_
                  refine lv_iload hx hb dX4_raise_24 (lv_at hl 1 rfl) ?_
                  refine lv_iconst (v := 1) hx hb dX4_raise_26 (by decide) ?_
                  refine lv_isub hx hb dX4_raise_27 ?_
                  refine gQ S hK hH m_q e_q (j := ((X4.length + 1) + 1)) (nI_pred ((X4.length + 1) + 1)) (by omega) (by omega) (r := (some p1)) hf1 dX4_raise_28 ?_
                  refine lv_astore (lv' := [(6, .ref p1), (5, .ref a), (4, .int (nI ((X4.length + 1) + 2))), (3, .ref q), (0, .ref sa)]) hx hb dX4_raise_29 hl (by decide) rfl (fun ls hl => ?_)
                  refine lv_iload hx hb dX4_raise_31 (lv_at hl 2 rfl) ?_
                  refine lv_iconst (v := 1) hx hb dX4_raise_33 (by decide) ?_
                  refine lv_icmp_ne (tgt := 48) hx hb dX4_raise_34 (by decide) (fun _ => ?_) (fun h1 => absurd h1 (fun e9 => by have := (nI_eq (b := 1) (by omega) (by omega)).mp e9; omega))
                  refine lv_aload_n hx hb dX4_raise_48 rfl (lv_at hl 3 rfl) ?_
                  refine lv_iload hx hb dX4_raise_49 (lv_at hl 2 rfl) ?_
                  refine lv_iconst (v := 2) hx hb dX4_raise_51 (by decide) ?_
                  refine lv_isub hx hb dX4_raise_52 ?_
                  refine gQ S hK hH m_q e_q (j := (X4.length + 1)) (nI_sub (X4.length + 1) 2) (by omega) (by omega) (r := (some p2)) hf2 dX4_raise_53 ?_
                  refine lv_astore (lv' := [(7, .ref p2), (6, .ref p1), (5, .ref a), (4, .int (nI ((X4.length + 1) + 2))), (3, .ref q), (0, .ref sa)]) hx hb dX4_raise_54 hl (by decide) rfl (fun ls hl => ?_)
                  refine lv_iload hx hb dX4_raise_56 (lv_at hl 3 rfl) ?_
                  refine lv_iconst (v := 2) hx hb dX4_raise_58 (by decide) ?_
                  refine lv_icmp_le (tgt := 71) hx hb dX4_raise_59 (by decide) (fun h1 => absurd h1 (fun e9 => by have := (nI_leI (b := 2) (by omega) (by omega)).mp e9; omega)) (fun _ => ?_)
                  refine lv_aload_n hx hb dX4_raise_62 rfl (lv_at hl 4 rfl) ?_
                  refine lv_iload hx hb dX4_raise_63 (lv_at hl 3 rfl) ?_
                  refine lv_iconst (v := 3) hx hb dX4_raise_65 (by decide) ?_
                  refine lv_isub hx hb dX4_raise_66 ?_
                  refine gQ S hK hH m_q e_q (j := X4.length) (nI_sub X4.length 3) (by omega) (by omega) (r := (some p3)) hf3 dX4_raise_67 ?_
                  refine lv_goto (tgt := 72) hx hb dX4_raise_68 (by decide) ?_
                  refine lv_astore (lv' := [(8, .ref p3), (7, .ref p2), (6, .ref p1), (5, .ref a), (4, .int (nI ((X4.length + 1) + 2))), (3, .ref q), (0, .ref sa)]) hx hb dX4_raise_72 hl (by decide) rfl (fun ls hl => ?_)
                  refine lv_aload hx hb dX4_raise_74 (lv_at hl 0 rfl) ?_
                  refine lv_ifnull hx hb dX4_raise_76 ?_
                  refine lv_aload hx hb dX4_raise_79 (lv_at hl 0 rfl) ?_
                  refine gB S hi3 hK hH m_p3 e_p3 2 (by decide) f33 (v := va_rf (rt u3)) rfl dX4_raise_81 ?_
                  refine lv_aload hx hb dX4_raise_84 (lv_at hl 1 rfl) ?_
                  refine lv_acmp_ne (rx := rt u3) (ry := some p2) (tgt := 93) hx hb dX4_raise_86 (by decide) (fun _ => ?_) (fun hq => absurd hq x32)
                  refine lv_iconst (v := 0) hx hb dX4_raise_93 (by decide) ?_
                  refine lv_istore (lv' := [(9, .int 0), (8, .ref p3), (7, .ref p2), (6, .ref p1), (5, .ref a), (4, .int (nI ((X4.length + 1) + 2))), (3, .ref q), (0, .ref sa)]) hx hb dX4_raise_94 hl (by decide) rfl (fun ls hl => ?_)
                  refine lv_aload hx hb dX4_raise_96 (lv_at hl 2 rfl) ?_
                  refine gB S hi3 hK hH m_p2 e_p2 2 (by decide) f33 (v := va_rf (rt u2)) rfl dX4_raise_98 ?_
                  refine lv_aload hx hb dX4_raise_101 (lv_at hl 3 rfl) ?_
                  refine lv_acmp_ne (rx := rt u2) (ry := some p1) (tgt := 110) hx hb dX4_raise_103 (by decide) (fun _ => ?_) (fun hq => absurd hq x21)
                  refine lv_iconst (v := 0) hx hb dX4_raise_110 (by decide) ?_
                  refine lv_aload hx hb dX4_raise_111 (lv_at hl 3 rfl) ?_
                  refine gB S hi3 hK hH m_p1 e_p1 2 (by decide) f33 (v := va_rf (rt u1)) rfl dX4_raise_113 ?_
                  refine lv_aload hx hb dX4_raise_116 (lv_at hl 4 rfl) ?_
                  refine lv_acmp_ne (rx := rt u1) (ry := some a) (tgt := 125) hx hb dX4_raise_118 (by decide) (fun _ => ?_) (fun hq => absurd hq x1a)
                  refine lv_iconst (v := 0) hx hb dX4_raise_125 (by decide) ?_
                  refine lv_icmp_ne (tgt := 148) hx hb dX4_raise_126 (by decide) (fun h1 => absurd h1 (fun h => h rfl)) (fun _ => ?_)
                  refine lv_aload_n hx hb dX4_raise_129 rfl (lv_at hl 7 rfl) ?_
                  refine lv_aload hx hb dX4_raise_130 (lv_at hl 2 rfl) ?_
                  refine lv_aload hx hb dX4_raise_132 (lv_at hl 3 rfl) ?_
                  have k9_a : a ∉ [sa, p2, p1] := by
                    have q1 : a ≠ sa := (neBM e_a e_sa)
                    have q2 : a ≠ p2 := n1.2.1
                    have q3 : a ≠ p1 := n1.1
                    simp [q1, q2, q3]
                  have k9_p3 : p3 ∉ [sa, p2, p1] := by
                    have q1 : p3 ≠ sa := (neBM e_p3 e_sa)
                    have q2 : p3 ≠ p2 := d3.2.2
                    have q3 : p3 ≠ p1 := d3.2.1
                    simp [q1, q2, q3]
                  have k9_q : q ∉ [sa, p2, p1] := by
                    have q1 : q ≠ sa := (Ne.symm (neMQ e_sa e_q))
                    have q2 : q ≠ p2 := (Ne.symm (neBQ e_p2 e_q))
                    have q3 : q ≠ p1 := (Ne.symm (neBQ e_p1 e_q))
                    simp [q1, q2, q3]
                  have rc9 := rec9 hK hH m_sa e_sa (q := (RX4, TX4, 2)) rfl
                  refine cyV S (c_X4_turnR (sa := sa) (ta := ta) (tn := (tn + (X.length - ((X4.length + 1) + 2)))) (up := p2) (own := p1) (b9 := (rt u1)) (c9 := (some a)) (x := (rt u2)) (y := (some p1)) x21 m_sa e_sa m_p2 e_p2 m_p1 e_p1 (Ne.symm n1.2.2)) (cwV 2 hts gX4_raise_X4_turn rfl rfl rfl (by decide +kernel) ⟨Nat.le_of_ble_eq_true rfl, Nat.le_of_ble_eq_true rfl⟩) hK hH hX rc9 hS rfl hl.1 rfl (by simp [cat_rf, Value.category]) dX4_raise_134 ⟨Nat.le_of_ble_eq_true rfl, Nat.le_of_ble_eq_true rfl⟩ (fun v Z1 H locs hpost hH hS => ?_)
                  obtain ⟨rfl, E50, rfl, e_sa, e_p2, e_p1, hg9⟩ := hpost
                  have e_a : E50 a = .inr (3, [.int (nI (zz a)), .int (nI (ee a)), va_rf (rt l'), va_rf (rt r')]) := (hg9.2 a m_a k9_a).trans e_a
                  have e_p3 : E50 p3 = .inr (3, [.int (nI (zz p3)), .int (nI (ee p3)), va_rf (rt u3), .ref p2]) := (hg9.2 p3 m_p3 k9_p3).trans e_p3
                  have e_q : E50 q = qE Γ (X.length + 1) f' := (hg9.2 q m_q k9_q).trans e_q
                  have e_p2 : E50 p2 = .inr (3, [.int (nI (zz p2)), .int (nI (ee p2)), va_rf (rt u2), va_rf (rt u1)]) := e_p2
                  have e_p1 : E50 p1 = .inr (3, [.int (nI (zz p1)), .int (nI (ee p1)), .ref p2, .ref a]) := e_p1
                  have hg := hg.tr (hg9.wd (fun b hb9 => Or.inl (by simp only [List.mem_cons, List.not_mem_nil, or_false] at hb9 ⊢; rcases hb9 with h | h | h <;> simp [h])))
                  refine lv_aload_n hx hb dX4_raise_137 rfl (lv_at hl 7 rfl) ?_
                  refine lv_aload hx hb dX4_raise_138 (lv_at hl 3 rfl) ?_
                  refine lv_aload hx hb dX4_raise_140 (lv_at hl 4 rfl) ?_
                  have k9_p2 : p2 ∉ [sa, p1, a] := by
                    have q1 : p2 ≠ sa := (neBM e_p2 e_sa)
                    have q2 : p2 ≠ p1 := (Ne.symm n1.2.2)
                    have q3 : p2 ≠ a := (Ne.symm n1.2.1)
                    simp [q1, q2, q3]
                  have k9_p3 : p3 ∉ [sa, p1, a] := by
                    have q1 : p3 ≠ sa := (neBM e_p3 e_sa)
                    have q2 : p3 ≠ p1 := d3.2.1
                    have q3 : p3 ≠ a := d3.1
                    simp [q1, q2, q3]
                  have k9_q : q ∉ [sa, p1, a] := by
                    have q1 : q ≠ sa := (Ne.symm (neMQ e_sa e_q))
                    have q2 : q ≠ p1 := (Ne.symm (neBQ e_p1 e_q))
                    have q3 : q ≠ a := (Ne.symm (neBQ e_a e_q))
                    simp [q1, q2, q3]
                  have rc9 := rec9 hK hH m_sa e_sa (q := (RX4, TX4, 2)) rfl
                  refine cyV S (c_X4_turnR (sa := sa) (ta := ta) (tn := ((tn + (X.length - ((X4.length + 1) + 2))) + 1)) (up := p1) (own := a) (b9 := (rt l')) (c9 := (rt r')) (x := (some p2)) (y := (some a)) (fun e9 => (Ne.symm n1.2.1) (Option.some.inj e9)) m_sa e_sa m_p1 e_p1 m_a e_a (Ne.symm n1.1)) (cwV 2 hts gX4_raise_X4_turn rfl rfl rfl (by decide +kernel) ⟨Nat.le_of_ble_eq_true rfl, Nat.le_of_ble_eq_true rfl⟩) hK hH hX rc9 hS rfl hl.1 rfl (by simp [cat_rf, Value.category]) dX4_raise_142 ⟨Nat.le_of_ble_eq_true rfl, Nat.le_of_ble_eq_true rfl⟩ (fun v Z1 H locs hpost hH hS => ?_)
                  obtain ⟨rfl, E51, rfl, e_sa, e_p1, e_a, hg9⟩ := hpost
                  have e_p2 : E51 p2 = .inr (3, [.int (nI (zz p2)), .int (nI (ee p2)), va_rf (rt u2), va_rf (rt u1)]) := (hg9.2 p2 m_p2 k9_p2).trans e_p2
                  have e_p3 : E51 p3 = .inr (3, [.int (nI (zz p3)), .int (nI (ee p3)), va_rf (rt u3), .ref p2]) := (hg9.2 p3 m_p3 k9_p3).trans e_p3
                  have e_q : E51 q = qE Γ (X.length + 1) f' := (hg9.2 q m_q k9_q).trans e_q
                  have e_p1 : E51 p1 = .inr (3, [.int (nI (zz p1)), .int (nI (ee p1)), .ref p2, va_rf (rt l')]) := e_p1
                  have e_a : E51 a = .inr (3, [.int (nI (zz a)), .int (nI (ee a)), .ref p1, va_rf (rt r')]) := e_a
                  have hg := hg.tr (hg9.wd (fun b hb9 => Or.inl (by simp only [List.mem_cons, List.not_mem_nil, or_false] at hb9 ⊢; rcases hb9 with h | h | h <;> simp [h])))
                  refine lv_goto (tgt := 191) hx hb dX4_raise_145 (by decide) ?_
                  refine lv_aload hx hb dX4_raise_191 (lv_at hl 1 rfl) ?_
                  refine lv_ifnull hx hb dX4_raise_193 ?_
                  refine lv_iload hx hb dX4_raise_196 (lv_at hl 0 rfl) ?_
                  refine lv_if_eq (tgt := 211) hx hb dX4_raise_198 (by decide) (fun _ => ?_) (fun h1 => absurd (by decide) h1)
                  refine lv_aload hx hb dX4_raise_211 (lv_at hl 1 rfl) ?_
                  refine lv_ifnull hx hb dX4_raise_213 ?_
                  refine lv_aload hx hb dX4_raise_216 (lv_at hl 1 rfl) ?_
                  refine lv_aload hx hb dX4_raise_218 (lv_at hl 4 rfl) ?_
                  have n9_a : a ≠ p3 := (Ne.symm d3.1)
                  have n9_p1 : p1 ≠ p3 := (Ne.symm d3.2.1)
                  have n9_p2 : p2 ≠ p3 := (Ne.symm d3.2.2)
                  have n9_sa : sa ≠ p3 := (Ne.symm (neBM e_p3 e_sa))
                  have n9_q : q ≠ p3 := (Ne.symm (neBQ e_p3 e_q))
                  refine pBr S hi3 hK hH hS m_p3 e_p3 3 (by decide) f37 (some a) rfl dX4_raise_220 rfl (fun E52 H locs e_p3 ho hH hS => ?_)
                  have e_p3 : E52 p3 = .inr (3, [.int (nI (zz p3)), .int (nI (ee p3)), va_rf (rt u3), .ref a]) := e_p3
                  have e_a : E52 a = .inr (3, [.int (nI (zz a)), .int (nI (ee a)), .ref p1, va_rf (rt r')]) := (ho a n9_a).trans e_a
                  have e_p1 : E52 p1 = .inr (3, [.int (nI (zz p1)), .int (nI (ee p1)), .ref p2, va_rf (rt l')]) := (ho p1 n9_p1).trans e_p1
                  have e_p2 : E52 p2 = .inr (3, [.int (nI (zz p2)), .int (nI (ee p2)), va_rf (rt u2), va_rf (rt u1)]) := (ho p2 n9_p2).trans e_p2
                  have e_sa : E52 sa = .inr (4, [.ref ta, .int (nI (((tn + (X.length - ((X4.length + 1) + 2))) + 1) + 1))]) := (ho sa n9_sa).trans e_sa
                  have e_q : E52 q = qE Γ (X.length + 1) f' := (ho q n9_q).trans e_q
                  have hg := hg.put w_p3 ho
                  refine lv_iinc (v := nI (X4.length + 1)) (lv' := [(4, .int (nI (X4.length + 1))), (9, .int 0), (8, .ref p3), (7, .ref p2), (6, .ref p1), (5, .ref a), (3, .ref q), (0, .ref sa)]) hx hb dX4_raise_223 hl (k := 5) rfl (nI_m2 (X4.length + 1)) (by decide) rfl (fun ls hl => ?_)
                  refine lv_aload_n hx hb dX4_raise_226 rfl (lv_at hl 6 rfl) ?_
                  refine lv_iload hx hb dX4_raise_227 (lv_at hl 0 rfl) ?_
                  refine lv_aload hx hb dX4_raise_229 (lv_at hl 5 rfl) ?_
                  have n9_a : a ≠ q := (neBQ e_a e_q)
                  have n9_p1 : p1 ≠ q := (neBQ e_p1 e_q)
                  have n9_p2 : p2 ≠ q := (neBQ e_p2 e_q)
                  have n9_p3 : p3 ≠ q := (neBQ e_p3 e_q)
                  have n9_sa : sa ≠ q := (neMQ e_sa e_q)
                  refine pQ S hK hH hS m_q e_q (j := (X4.length + 1)) rfl (by omega) (by omega) (some a) (fun b h => by cases h; exact ⟨m_a, _, e_a⟩) rfl dX4_raise_231 (fun E53 H locs e_q ho hH hS => ?_)
                  have e_a : E53 a = .inr (3, [.int (nI (zz a)), .int (nI (ee a)), .ref p1, va_rf (rt r')]) := (ho a n9_a).trans e_a
                  have e_p1 : E53 p1 = .inr (3, [.int (nI (zz p1)), .int (nI (ee p1)), .ref p2, va_rf (rt l')]) := (ho p1 n9_p1).trans e_p1
                  have e_p2 : E53 p2 = .inr (3, [.int (nI (zz p2)), .int (nI (ee p2)), va_rf (rt u2), va_rf (rt u1)]) := (ho p2 n9_p2).trans e_p2
                  have e_p3 : E53 p3 = .inr (3, [.int (nI (zz p3)), .int (nI (ee p3)), va_rf (rt u3), .ref a]) := (ho p3 n9_p3).trans e_p3
                  have e_sa : E53 sa = .inr (4, [.ref ta, .int (nI (((tn + (X.length - ((X4.length + 1) + 2))) + 1) + 1))]) := (ho sa n9_sa).trans e_sa
                  have hg := hg.put w_q ho
                  refine lv_goto (tgt := 18) hx hb dX4_raise_232 (by decide) ?_
                  obtain ⟨l2, r2, q1, q2, q3⟩ := sim2 (M' := (U1, E53)) hzz0 hn (fun _ h => h) e_a e_p1 e_p2 (fun _ _ _ _ h => by cases h; exact e_p3) (fun b hb1 hb2 hb3 hb4 hb5 hb6 => by
                    obtain ⟨x9, h9⟩ := hb6
                    exact hg.2 b hb5 (by
                      have q4 : b ≠ sa := neBM h9 e_sa0
                      have q5 : b ≠ q := neBQ h9 e_q0
                      have q6 : b ≠ p3 := fun e9 => hb4 (by rw [e9]; rfl)
                      simp [hb1, hb2, hb3, q4, q5, q6]))
                  exact ih _ l2 r2 E53 _ hN2 q2 (by rw [q3]; exact hn) (q1.symm.trans hsp) (q3.trans htids) (by omega) (by rw [e_sa, show (tn + (X.length - ((X4.length + 1) + 2))) + 1 + 1 = tn + (X.length - (X4.length + 1)) by omega] <;> rfl) e_q hup (Gr.tr2 hG hg (fun b hb9 => by
                    simp only [List.mem_cons, List.not_mem_nil, or_false] at hb9 ⊢
                    rcases hb9 with h | h | h | h | h | h
                    · exact Or.inl (Or.inl h)
                    · exact Or.inr (by rw [h]; exact fr9)
                    · exact Or.inl (Or.inr (by rw [h]; exact ha))
                    · exact Or.inl (Or.inr (by rw [h]; exact hpt.1))
                    · exact Or.inl (Or.inr (by rw [h]; exact hpt.2.1))
                    · exact Or.inl (Or.inr (by rw [h]; exact hpt.2.2 p3 hp3)))) H locs hH hS ls (lv_sub hl [5, 0, 6, 7] rfl)
  exact loop X.length X tl tr E1 _ (Nat.le_refl _) hz1 (by rw [hplug]; exact hnd) rfl (by rw [hplug]) (Nat.le_refl _) (by rw [Nat.sub_self]; exact e_sa) e_q (fun i hi => List.getElem?_append_left (by rw [anc_len]; exact hi)) hg H _ hH hS ls (lv_sub hl [0, 1, 2, 3] rfl)
end MSim4
