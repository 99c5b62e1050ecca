/-! METHODS of SplayOrchard$Tree -/
/-- a tree's object, and the tree that it holds -/
def TR (L : List Nat) (K sz : Nat → Nat) (P : PF) (t0 : Nat) (T : Tr) : Prop := t0 ∈ L ∧ K t0 = 1 ∧ P 3 t0 = rt T ∧ rep P none T ∧ (tids T).Nodup ∧ ∀ a ∈ tids T, okA L K a ∧ sz a < 1000
def stp (P : PF) (t0 : Nat) (r : Option Nat) : PF := match r with
  | none => sP P 3 t0 none
  | some c => sP (sP P 3 t0 (some c)) 2 c none
def nrs (sz : Nat → Nat) (z : Int) (T : Tr) (C : Cx) : Option Nat := match fnd sz z T with
  | some a => some a
  | none => parC (inc sz z T C)
theorem nrs_branch {sz : Nat → Nat} {z : Int} {k : Nat} {l r : Tr} {C : Cx} : nrs sz z (.branch k l r) C = if z = (sz k : Int) then some k else if z < (sz k : Int) then nrs sz z l ((false, k, r) :: C) else nrs sz z r ((true, k, l) :: C) := by
  unfold nrs
  rw [fnd, inc]
  by_cases h1 : z = (sz k : Int)
  · rw [if_pos h1, if_pos h1]
  · rw [if_neg h1, if_neg h1]
    by_cases h2 : z < (sz k : Int)
    · rw [if_pos h2, if_pos h2, if_pos h2]
    · rw [if_neg h2, if_neg h2, if_neg h2]
theorem inc_par {sz : Nat → Nat} {z : Int} : ∀ (T : Tr) (C : Cx) (b : Nat), parC (inc sz z T C) = some b → b ∈ tids T ∨ parC C = some b := by
  intro T
  induction T with
  | leaf u => intro C b h; exact Or.inr h
  | branch k l r ihl ihr =>
    intro C b h
    unfold inc at h
    split at h
    · rcases ihl _ b h with h1 | h1
      · exact Or.inl (by simp [tids, h1])
      · cases h1; exact Or.inl (by simp [tids])
    · rcases ihr _ b h with h1 | h1
      · exact Or.inl (by simp [tids, h1])
      · cases h1; exact Or.inl (by simp [tids])
theorem nrs_mem {sz : Nat → Nat} {z : Int} {T : Tr} {b : Nat} (h : nrs sz z T [] = some b) : b ∈ tids T := by
  unfold nrs at h
  split at h
  · rename_i a ha
    cases h
    exact (fnd_mem T _ ha).1
  · rcases inc_par T [] b h with h1 | h1
    · exact h1
    · cases h1
theorem nrs_fnd0 {sz : Nat → Nat} {z : Int} {T : Tr} (h : nrs sz z T [] = none) : fnd sz z T = none := by
  unfold nrs at h
  split at h
  · cases h
  · assumption
theorem nrs_ne {sz : Nat → Nat} {z : Int} {T : Tr} {b : Nat} (h : nrs sz z T [] = some b) (hz : ¬ z = (sz b : Int)) : fnd sz z T = none := by
  unfold nrs at h
  split at h
  · rename_i a ha
    cases h
    exact absurd (fnd_mem T _ ha).2 hz
  · assumption
theorem inc_ne {sz : Nat → Nat} {z : Int} : ∀ (T : Tr) (C : Cx), fnd sz z T = none → (∀ b, parC C = some b → ¬ z = (sz b : Int)) → ∀ b, parC (inc sz z T C) = some b → ¬ z = (sz b : Int) := by
  intro T
  induction T with
  | leaf u => intro C _ h b hb; exact h b hb
  | branch k l r ihl ihr =>
    intro C hf h b hb
    unfold fnd at hf
    unfold inc at hb
    split at hf
    · cases hf
    · rename_i hne
      split at hf
      · rename_i hlt
        rw [if_pos hlt] at hb
        exact ihl _ hf (fun x hx => by cases hx; exact hne) b hb
      · rename_i hlt
        rw [if_neg hlt] at hb
        exact ihr _ hf (fun x hx => by cases hx; exact hne) b hb
theorem nrs_eq {sz : Nat → Nat} {z : Int} {T : Tr} {b : Nat} (h : nrs sz z T [] = some b) (hz : z = (sz b : Int)) : fnd sz z T = some b := by
  unfold nrs at h
  split at h
  · rename_i a ha
    cases h
    exact ha
  · rename_i hf
    exact absurd hz (inc_ne T [] hf (fun x hx => by cases hx) b h)
section MTree
variable {l : Launch} {D : va_G} {lo : Nat} {Γ : GT} {L : List Nat} {K : Nat → Nat} {sz : Nat → Nat} {si : Nat → Option Nat} {P : PF} {bi : Nat → Nat} {tu : Nat} {M : MW} {V : Int64 × UInt64}
/-- next, by the list of a tree's nodes -/
theorem c_X0_nextL {T : Tr} {pre post : List Nat} {b : Nat} (ok_b : okA L K b) (hrep : rep P none T) (hn : (tids T).Nodup) (h : tids T = pre ++ b :: post) : Md l yX0_next wsX0_next (rmL 2 0 0) D lo Γ [.ref b] ((L, K, sz, si, P, bi, tu), M, V) (some (va_rf post.head?)) ((L, K, sz, si, P, bi, tu), M, V) := by
  obtain ⟨l9, r9, C, hm⟩ := zs_mem (C := []) (show b ∈ tids T by rw [h]; simp)
  have hT : plug (.branch b l9 r9) C = T := zs_plug T [] _ hm
  have h3 : tids T = (cL C ++ tids l9) ++ b :: (tids r9 ++ cR C) := by rw [← hT]; exact tids_zip b l9 r9 C
  have h4 := split_uniq (by rw [← h]; exact hn) (h.symm.trans h3)
  rw [h4.2]
  exact c_X0_next ok_b ((Zp_plug C _).mpr (by rw [hT]; exact hrep)) (by rw [hT]; exact hn)
theorem c_X0_nextZ {T : Tr} {pre post : List Zi} {z : Zi} (ok_b : okA L K z.1) (hrep : rep P none T) (hn : (tids T).Nodup) (h : zs T [] = pre ++ z :: post) : Md l yX0_next wsX0_next (rmL 2 0 0) D lo Γ [.ref z.1] ((L, K, sz, si, P, bi, tu), M, V) (some (va_rf (post.map (fun z => z.1)).head?)) ((L, K, sz, si, P, bi, tu), M, V) :=
  c_X0_nextL (pre := pre.map (fun z => z.1)) ok_b hrep hn (by rw [← zs_ids T [], h]; simp)
theorem c_X0_depthZ {T : Tr} {z : Zi} (ok_b : okA L K z.1) (hrep : rep P none T) (h : z ∈ zs T []) : Md l yX0_depth wsX0_depth (rmL 1 0 0) D lo Γ [.ref z.1] ((L, K, sz, si, P, bi, tu), M, V) (some (.int (nI z.2.2.2.length))) ((L, K, sz, si, P, bi, tu), M, V) := by
  have hT := zs_plug T [] z h
  have hz := (Zp_plug z.2.2.2 (.branch z.1 z.2.1 z.2.2.1)).mpr (by rw [hT]; exact hrep)
  refine c_X0_depth ok_b ?_
  rw [show P 2 z.1 = parC z.2.2.2 from hz.1.1]
  exact UC_of _ _ hz.2
set_option maxRecDepth 100000 in
set_option maxHeartbeats 4000000 in
/-- how many are below a -/
theorem c_X0_countUnder {a : Nat} {lt r9 : Tr} {C : Cx} (ok_a : okA L K a) (hz : Zp P (.branch a lt r9) C) (hn : (tids (plug (.branch a lt r9) C)).Nodup) (hok : ∀ b ∈ tids (.branch a lt r9), okA L K b) : Md l yX0_countUnder wsX0_countUnder (rmL 3 0 0) D lo Γ [.ref a] ((L, K, sz, si, P, bi, tu), M, V) (some (.int (nI ((tids lt).length + (tids r9).length)))) ((L, K, sz, si, P, bi, tu), M, V) := by
  refine Mz_of (cc := cX0_countUnder) (maxL := 4) (ret := (some .int)) (by decide) rfl (Nat.le_of_ble_eq_true rfl) ?_
  intro p e s m args below meth c ls S hr hlocks hK hH hS hl
  have hx := S.1
  have hb := S.2.1
  have hts := S.2.2.2.2
  have hl : lv_has ls 4 [(0, .ref a)] := hl
  have t_rep : rep P none (plug (.branch a lt r9) C) := (Zp_plug C _).mp hz
  have t_nd := hn
  obtain ⟨g, hg⟩ : ∃ g, (tids (.branch a lt r9)).getLast? = some g := by
    cases hq : (tids (.branch a lt r9)).getLast? with
    | none => have := List.getLast?_eq_none_iff.mp hq; simp [tids] at this
    | some g => exact ⟨g, rfl⟩
  refine lv_aload_n hx hb dX0_countUnder_0 rfl (lv_at hl 0 rfl) ?_
  refine cV S (c_X0_greatestUnder (l := l) (D := D) (lo := lo) (Γ := Γ) (sz := sz) (si := si) (P := P) (bi := bi) (tu := tu) (M := M) (V := V) ok_a (t := .branch a lt r9) rfl hz.1) (cwV 0 hts gX0_countUnder_X0_greatestUnder rfl rfl rfl (by decide +kernel) ⟨Nat.le_of_ble_eq_true rfl, Nat.le_of_ble_eq_true rfl⟩) hK hH (Hp_recv hK hH ok_a.1 ok_a.2 rfl) hS rfl hl.1 rfl (Nat.le_of_ble_eq_true rfl) dX0_countUnder_1 ⟨Nat.le_of_ble_eq_true rfl, Nat.le_of_ble_eq_true rfl⟩ (fun v Z1 H locs hpost hH hS => ?_)
  obtain ⟨rfl, rfl⟩ := hpost
  refine lq_astore_n (lv' := [(0, .ref a)]) S dX0_countUnder_4 rfl hl (by decide) rfl (fun ls hl => ?_)
  refine lv_iconst (v := 0) hx hb dX0_countUnder_5 (by decide) ?_
  refine lv_istore_n (lv' := [(2, .int 0), (1, va_rf ((tids (.branch a lt r9)).getLast?)), (0, .ref a)]) hx hb dX0_countUnder_6 rfl hl (by decide) (by simp [cat_rf]) (fun ls hl => ?_)
  refine lv_aload_n hx hb dX0_countUnder_7 rfl (lv_at hl 2 rfl) ?_
  refine cV S (c_X0_leastUnder (l := l) (D := D) (lo := lo) (Γ := Γ) (sz := sz) (si := si) (P := P) (bi := bi) (tu := tu) (M := M) (V := V) ok_a (t := .branch a lt r9) rfl hz.1) (cwV 0 hts gX0_countUnder_X0_leastUnder rfl rfl rfl (by decide +kernel) ⟨Nat.le_of_ble_eq_true rfl, Nat.le_of_ble_eq_true rfl⟩) hK hH (Hp_recv hK hH ok_a.1 ok_a.2 rfl) hS rfl hl.1 rfl (Nat.le_of_ble_eq_true rfl) dX0_countUnder_8 ⟨Nat.le_of_ble_eq_true rfl, Nat.le_of_ble_eq_true rfl⟩ (fun v Z1 H locs hpost hH hS => ?_)
  obtain ⟨rfl, rfl⟩ := hpost
  refine lq_astore_n (lv' := [(2, .int 0), (1, va_rf ((tids (.branch a lt r9)).getLast?)), (0, .ref a)]) S dX0_countUnder_11 rfl hl (by decide) rfl (fun ls hl => ?_)
  have loop : ∀ (post pre : List Nat) (b : Nat), tids (.branch a lt r9) = pre ++ b :: post → ∀ H locs, Hp D lo Γ ((L, K, sz, si, P, bi, tu), M, V) H → va_S (lA lo) s.heap H locs → ∀ ls, lv_has ls 4 [(3, .ref b), (2, .int (nI pre.length)), (1, .ref g)] → W p l e (rmL 3 0 0) s m args below meth c H locs 0 0 (MQ below (Qz D lo Γ (fun v Z' => v = (some (.int (nI ((tids lt).length + (tids r9).length)))) ∧ Z' = ((L, K, sz, si, P, bi, tu), M, V))) args s ((rmL 3 0 0) : Room).cells ((rmL 3 0 0) : Room).slots (lA lo)) (F0 m 12 ls []) := by
    intro post
    induction post with
    | nil =>
      intro pre b hx2 H locs hH hS ls hl
      have hbg : b = g := by rw [hx2] at hg; simpa using hg
      subst hbg
      have ok_b := hok b (by rw [hx2]; simp)
      refine lv_aload_n hx hb dX0_countUnder_12 rfl (lv_at hl 0 rfl) ?_
      refine lv_ifnull hx hb dX0_countUnder_13 ?_
      refine lv_aload_n hx hb dX0_countUnder_16 rfl (lv_at hl 0 rfl) ?_
      refine lv_aload_n hx hb dX0_countUnder_17 rfl (lv_at hl 2 rfl) ?_
      refine lv_acmp_eq (rx := some b) (ry := some b) (tgt := 32) hx hb dX0_countUnder_18 (by decide) (fun hq3 => ?_) (fun hq3 => ?_)
      · skip
        refine lv_iload_n hx hb dX0_countUnder_32 rfl (lv_at hl 1 rfl) ?_
        exact eI S hr hlocks hH hS ⟨by have := congrArg List.length hx2; simp [tids] at this; rw [show pre.length = (tids lt).length + (tids r9).length by omega], rfl⟩ dX0_countUnder_33
      · skip
        exact absurd rfl hq3
    | cons b2 post ih =>
      intro pre b hx2 H locs hH hS ls hl
      have ok_b := hok b (by rw [hx2]; simp)
      have hT2 : tids (plug (.branch a lt r9) C) = (cL C ++ pre) ++ b :: (b2 :: (post ++ cR C)) := by rw [tids_plug, hx2]; simp
      have hbg : b ≠ g := by
        intro e
        subst e
        have h1 : b ∈ b2 :: post := by
          have h2 := List.mem_of_getLast? hg
          have h3 : (pre ++ b :: (b2 :: post)).getLast? = some b := by rw [← hx2]; exact hg
          rw [la_app (by simp)] at h3
          exact List.mem_of_getLast? h3
        have h4 := hn
        rw [hT2] at h4
        have h5 := (List.nodup_append.mp h4).2.1
        exact (List.nodup_cons.mp h5).1 (by
          rcases List.mem_cons.mp h1 with h | h
          · rw [h]; simp
          · simp [h])
      refine lv_aload_n hx hb dX0_countUnder_12 rfl (lv_at hl 0 rfl) ?_
      refine lv_ifnull hx hb dX0_countUnder_13 ?_
      refine lv_aload_n hx hb dX0_countUnder_16 rfl (lv_at hl 0 rfl) ?_
      refine lv_aload_n hx hb dX0_countUnder_17 rfl (lv_at hl 2 rfl) ?_
      refine lv_acmp_eq (rx := some b) (ry := some g) (tgt := 32) hx hb dX0_countUnder_18 (by decide) (fun hq3 => ?_) (fun hq3 => ?_)
      · skip
        exact absurd (Option.some.inj hq3) hbg
      · skip
        refine lv_iinc (v := nI (pre.length + 1)) (lv' := [(2, .int (nI (pre.length + 1))), (3, .ref b), (1, .ref g)]) hx hb dX0_countUnder_21 hl (k := 1) rfl (nI_1 pre.length) (by decide) rfl (fun ls hl => ?_)
        refine lv_aload_n hx hb dX0_countUnder_24 rfl (lv_at hl 1 rfl) ?_
        refine cV S (c_X0_nextL (l := l) (D := D) (lo := lo) (Γ := Γ) (sz := sz) (si := si) (P := P) (bi := bi) (tu := tu) (M := M) (V := V) ok_b t_rep t_nd hT2) (cwV 0 hts gX0_countUnder_X0_next rfl rfl rfl (by decide +kernel) ⟨Nat.le_of_ble_eq_true rfl, Nat.le_of_ble_eq_true rfl⟩) hK hH (Hp_recv hK hH ok_b.1 ok_b.2 rfl) hS rfl hl.1 rfl (Nat.le_of_ble_eq_true rfl) dX0_countUnder_25 ⟨Nat.le_of_ble_eq_true rfl, Nat.le_of_ble_eq_true rfl⟩ (fun v Z1 H locs hpost hH hS => ?_)
        obtain ⟨rfl, rfl⟩ := hpost
        refine lv_astore_n (lv' := [(3, .ref b2), (2, .int (nI (pre.length + 1))), (1, .ref g)]) hx hb dX0_countUnder_28 rfl hl (by decide) rfl (fun ls hl => ?_)
        refine lv_goto (tgt := 12) hx hb dX0_countUnder_29 (by decide) ?_
        exact ih (pre ++ [b]) b2 (by rw [hx2]; simp) H locs hH hS ls (by rw [show (pre ++ [b]).length = pre.length + 1 by simp]; exact lv_sub hl [0, 1, 2] rfl)
  rw [hg] at hl
  cases hq : tids (.branch a lt r9) with
  | nil => simp [tids] at hq
  | cons b post =>
    rw [hq] at hl
    exact loop post [] b hq H locs hH hS ls (lv_sub hl [0, 1, 2] rfl)

set_option maxRecDepth 100000 in
set_option maxHeartbeats 4000000 in
theorem c_X1_setTop {t0 : Nat} {r : Option Nat} (ok_t0 : t0 ∈ L ∧ K t0 = 1) (okq_r : ∀ b, r = some b → okA L K b) : Md l yX1_setTop wsX1_setTop (rmL 1 0 0) D lo Γ [.ref t0, va_rf r] ((L, K, sz, si, P, bi, tu), M, V) none ((L, K, sz, si, (stp P t0 r), bi, tu), M, V) := by
  refine Mz_of (cc := cX1_setTop) (maxL := 2) (ret := none) (by decide) rfl (by cases r <;> exact Nat.le_of_ble_eq_true rfl) ?_
  intro p e s m args below meth c ls S hr hlocks hK hH hS hl
  have hx := S.1
  have hb := S.2.1
  have hts := S.2.2.2.2
  have f7 : (Cond.fieldLink RX1 7 (TX1 0).1 (TX1 0).2.1 (TX1 0).2.2.1).before args s = true := hts _ (List.mem_of_getElem? (i := 1) rfl)
  have f13 : (Cond.fieldLink RX1 13 (TX0 2).1 (TX0 2).2.1 (TX0 2).2.2.1).before args s = true := hts _ (List.mem_of_getElem? (i := 2) rfl)
  have hi0 : ∀ w ∈ wsX00, w ∈ wsX1_setTop := by decide +kernel
  have hi1 : ∀ w ∈ wsX10, w ∈ wsX1_setTop := by decide +kernel
  have hl : lv_has ls 2 [(0, .ref t0), (1, va_rf r)] := hl
  refine lv_aload_n hx hb dX1_setTop_0 rfl (lv_at hl 0 rfl) ?_
  refine lq_aload_n S dX1_setTop_1 rfl (lv_at hl 1 rfl) ?_
  refine pT S hi1 hK hH hS ok_t0.1 ok_t0.2 r okq_r f7 rfl dX1_setTop_2 (fun H locs hH hS => ?_)
  refine lq_aload_n S dX1_setTop_5 rfl (lv_at hl 1 rfl) ?_
  refine lq_ifnull S dX1_setTop_6 (tgt := 14) (by decide) (fun hq => ?_) (fun x hq => ?_)
  · skip
    subst hq
    exact eV S hr hlocks hH hS ⟨rfl, rfl⟩ dX1_setTop_14
  · skip
    subst hq
    have ok_x := okq_r x rfl
    refine lv_aload_n hx hb dX1_setTop_9 rfl (lv_at hl 1 rfl) ?_
    refine lv_null hx hb dX1_setTop_10 ?_
    refine pA S hi0 hK hH hS ok_x 2 none (fun b h => by cases h) 2 (by decide) (by decide) f13 rfl dX1_setTop_11 (fun H locs hH hS => ?_)
    exact eV S hr hlocks hH hS ⟨rfl, rfl⟩ dX1_setTop_14

set_option maxRecDepth 100000 in
set_option maxHeartbeats 4000000 in
theorem c_X1_first {t0 : Nat} {T : Tr} (h : TR L K sz P t0 T) : Md l yX1_first wsX1_first (rmL 2 0 0) D lo Γ [.ref t0] ((L, K, sz, si, P, bi, tu), M, V) (some (va_rf (tids T).head?)) ((L, K, sz, si, P, bi, tu), M, V) := by
  refine Mz_of (cc := cX1_first) (maxL := 1) (ret := (some (.object "SplayOrchard$Apple"))) (by decide) rfl (Nat.le_of_ble_eq_true rfl) ?_
  intro p e s m args below meth c ls S hr hlocks hK hH hS hl
  have hx := S.1
  have hb := S.2.1
  have hts := S.2.2.2.2
  have f7 : (Cond.fieldLink RX1 7 (TX1 0).1 (TX1 0).2.1 (TX1 0).2.2.1).before args s = true := hts _ (List.mem_of_getElem? (i := 1) rfl)
  have hi1 : ∀ w ∈ wsX10, w ∈ wsX1_first := by decide +kernel
  have hl : lv_has ls 1 [(0, .ref t0)] := hl
  have hT := h
  obtain ⟨t_in, t_k, t_top, t_rep, t_nd, t_ok⟩ := h
  have ok_t0 : t0 ∈ L ∧ K t0 = 1 := ⟨t_in, t_k⟩
  rcases hq : P 3 t0 with _ | k
  · skip
    refine lv_aload_n hx hb dX1_first_0 rfl (lv_at hl 0 rfl) ?_
    refine gTp S hi1 hK hH ok_t0.1 ok_t0.2 f7 (v := .null) (by rw [hq]; rfl) dX1_first_1 ?_
    refine lv_ifnonnullN hx hb dX1_first_4 ?_
    refine lv_null hx hb dX1_first_7 ?_
    refine lv_goto (tgt := 18) hx hb dX1_first_8 (by decide) ?_
    have hE := rt_none (t_top.symm.trans hq)
    exact eA S hr hlocks none rfl hH hS ⟨by rw [hE]; rfl, rfl⟩ dX1_first_18
  · skip
    refine lv_aload_n hx hb dX1_first_0 rfl (lv_at hl 0 rfl) ?_
    refine gTp S hi1 hK hH ok_t0.1 ok_t0.2 f7 (v := .ref k) (by rw [hq]; rfl) dX1_first_1 ?_
    refine lv_ifnonnull hx hb dX1_first_4 (tgt := 11) (by decide) ?_
    refine lv_aload_n hx hb dX1_first_11 rfl (lv_at hl 0 rfl) ?_
    refine gTp S hi1 hK hH ok_t0.1 ok_t0.2 f7 (v := .ref k) (by rw [hq]; rfl) dX1_first_12 ?_
    have hrt : rt T = some k := t_top.symm.trans hq
    have ok_k := (t_ok k (rt_mem hrt)).1
    refine cV S (c_X0_leastUnder (l := l) (D := D) (lo := lo) (Γ := Γ) (sz := sz) (si := si) (P := P) (bi := bi) (tu := tu) (M := M) (V := V) ok_k (t := T) hrt t_rep) (cwV 0 hts gX1_first_X0_leastUnder rfl rfl rfl (by decide +kernel) ⟨Nat.le_of_ble_eq_true rfl, Nat.le_of_ble_eq_true rfl⟩) hK hH (Hp_recv hK hH ok_k.1 ok_k.2 rfl) hS rfl hl.1 rfl (Nat.le_of_ble_eq_true rfl) dX1_first_15 ⟨Nat.le_of_ble_eq_true rfl, Nat.le_of_ble_eq_true rfl⟩ (fun v Z1 H locs hpost hH hS => ?_)
    obtain ⟨rfl, rfl⟩ := hpost
    exact eA S hr hlocks _ rfl hH hS ⟨rfl, rfl⟩ dX1_first_18

set_option maxRecDepth 100000 in
set_option maxHeartbeats 4000000 in
theorem c_X1_last {t0 : Nat} {T : Tr} (h : TR L K sz P t0 T) : Md l yX1_last wsX1_last (rmL 2 0 0) D lo Γ [.ref t0] ((L, K, sz, si, P, bi, tu), M, V) (some (va_rf (tids T).getLast?)) ((L, K, sz, si, P, bi, tu), M, V) := by
  refine Mz_of (cc := cX1_last) (maxL := 1) (ret := (some (.object "SplayOrchard$Apple"))) (by decide) rfl (Nat.le_of_ble_eq_true rfl) ?_
  intro p e s m args below meth c ls S hr hlocks hK hH hS hl
  have hx := S.1
  have hb := S.2.1
  have hts := S.2.2.2.2
  have f7 : (Cond.fieldLink RX1 7 (TX1 0).1 (TX1 0).2.1 (TX1 0).2.2.1).before args s = true := hts _ (List.mem_of_getElem? (i := 1) rfl)
  have hi1 : ∀ w ∈ wsX10, w ∈ wsX1_last := by decide +kernel
  have hl : lv_has ls 1 [(0, .ref t0)] := hl
  have hT := h
  obtain ⟨t_in, t_k, t_top, t_rep, t_nd, t_ok⟩ := h
  have ok_t0 : t0 ∈ L ∧ K t0 = 1 := ⟨t_in, t_k⟩
  rcases hq : P 3 t0 with _ | k
  · skip
    refine lv_aload_n hx hb dX1_last_0 rfl (lv_at hl 0 rfl) ?_
    refine gTp S hi1 hK hH ok_t0.1 ok_t0.2 f7 (v := .null) (by rw [hq]; rfl) dX1_last_1 ?_
    refine lv_ifnonnullN hx hb dX1_last_4 ?_
    refine lv_null hx hb dX1_last_7 ?_
    refine lv_goto (tgt := 18) hx hb dX1_last_8 (by decide) ?_
    have hE := rt_none (t_top.symm.trans hq)
    exact eA S hr hlocks none rfl hH hS ⟨by rw [hE]; rfl, rfl⟩ dX1_last_18
  · skip
    refine lv_aload_n hx hb dX1_last_0 rfl (lv_at hl 0 rfl) ?_
    refine gTp S hi1 hK hH ok_t0.1 ok_t0.2 f7 (v := .ref k) (by rw [hq]; rfl) dX1_last_1 ?_
    refine lv_ifnonnull hx hb dX1_last_4 (tgt := 11) (by decide) ?_
    refine lv_aload_n hx hb dX1_last_11 rfl (lv_at hl 0 rfl) ?_
    refine gTp S hi1 hK hH ok_t0.1 ok_t0.2 f7 (v := .ref k) (by rw [hq]; rfl) dX1_last_12 ?_
    have hrt : rt T = some k := t_top.symm.trans hq
    have ok_k := (t_ok k (rt_mem hrt)).1
    refine cV S (c_X0_greatestUnder (l := l) (D := D) (lo := lo) (Γ := Γ) (sz := sz) (si := si) (P := P) (bi := bi) (tu := tu) (M := M) (V := V) ok_k (t := T) hrt t_rep) (cwV 0 hts gX1_last_X0_greatestUnder rfl rfl rfl (by decide +kernel) ⟨Nat.le_of_ble_eq_true rfl, Nat.le_of_ble_eq_true rfl⟩) hK hH (Hp_recv hK hH ok_k.1 ok_k.2 rfl) hS rfl hl.1 rfl (Nat.le_of_ble_eq_true rfl) dX1_last_15 ⟨Nat.le_of_ble_eq_true rfl, Nat.le_of_ble_eq_true rfl⟩ (fun v Z1 H locs hpost hH hS => ?_)
    obtain ⟨rfl, rfl⟩ := hpost
    exact eA S hr hlocks _ rfl hH hS ⟨rfl, rfl⟩ dX1_last_18

set_option maxRecDepth 100000 in
set_option maxHeartbeats 4000000 in
theorem c_X1_count {t0 : Nat} {T : Tr} (h : TR L K sz P t0 T) : Md l yX1_count wsX1_count (rmL 4 0 0) D lo Γ [.ref t0] ((L, K, sz, si, P, bi, tu), M, V) (some (.int (nI (tids T).length))) ((L, K, sz, si, P, bi, tu), M, V) := by
  refine Mz_of (cc := cX1_count) (maxL := 1) (ret := (some .int)) (by decide) rfl (Nat.le_of_ble_eq_true rfl) ?_
  intro p e s m args below meth c ls S hr hlocks hK hH hS hl
  have hx := S.1
  have hb := S.2.1
  have hts := S.2.2.2.2
  have f7 : (Cond.fieldLink RX1 7 (TX1 0).1 (TX1 0).2.1 (TX1 0).2.2.1).before args s = true := hts _ (List.mem_of_getElem? (i := 1) rfl)
  have hi1 : ∀ w ∈ wsX10, w ∈ wsX1_count := by decide +kernel
  have hl : lv_has ls 1 [(0, .ref t0)] := hl
  have hT := h
  obtain ⟨t_in, t_k, t_top, t_rep, t_nd, t_ok⟩ := h
  have ok_t0 : t0 ∈ L ∧ K t0 = 1 := ⟨t_in, t_k⟩
  rcases hq : P 3 t0 with _ | k
  · skip
    refine lv_aload_n hx hb dX1_count_0 rfl (lv_at hl 0 rfl) ?_
    refine gTp S hi1 hK hH ok_t0.1 ok_t0.2 f7 (v := .null) (by rw [hq]; rfl) dX1_count_1 ?_
    refine lv_ifnonnullN hx hb dX1_count_4 ?_
    refine lv_iconst (v := 0) hx hb dX1_count_7 (by decide) ?_
    refine lv_goto (tgt := 20) hx hb dX1_count_8 (by decide) ?_
    have hE := rt_none (t_top.symm.trans hq)
    exact eI S hr hlocks hH hS ⟨by rw [hE]; rfl, rfl⟩ dX1_count_20
  · skip
    refine lv_aload_n hx hb dX1_count_0 rfl (lv_at hl 0 rfl) ?_
    refine gTp S hi1 hK hH ok_t0.1 ok_t0.2 f7 (v := .ref k) (by rw [hq]; rfl) dX1_count_1 ?_
    refine lv_ifnonnull hx hb dX1_count_4 (tgt := 11) (by decide) ?_
    refine lv_aload_n hx hb dX1_count_11 rfl (lv_at hl 0 rfl) ?_
    refine gTp S hi1 hK hH ok_t0.1 ok_t0.2 f7 (v := .ref k) (by rw [hq]; rfl) dX1_count_12 ?_
    have hrt : rt T = some k := t_top.symm.trans hq
    have ok_k := (t_ok k (rt_mem hrt)).1
    obtain ⟨lt, r9, hTe⟩ := rt_some hrt
    refine cV S (c_X0_countUnder (l := l) (D := D) (lo := lo) (Γ := Γ) (sz := sz) (si := si) (P := P) (bi := bi) (tu := tu) (M := M) (V := V) (lt := lt) (r9 := r9) (C := []) ok_k ((Zp_plug [] _).mpr (by rw [← hTe]; exact t_rep)) (by rw [← hTe]; exact t_nd) (fun b hb9 => (t_ok b (by rw [hTe]; exact hb9)).1)) (cwV 0 hts gX1_count_X0_countUnder rfl rfl rfl (by decide +kernel) ⟨Nat.le_of_ble_eq_true rfl, Nat.le_of_ble_eq_true rfl⟩) hK hH (Hp_recv hK hH ok_k.1 ok_k.2 rfl) hS rfl hl.1 rfl (Nat.le_of_ble_eq_true rfl) dX1_count_15 ⟨Nat.le_of_ble_eq_true rfl, Nat.le_of_ble_eq_true rfl⟩ (fun v Z1 H locs hpost hH hS => ?_)
    obtain ⟨rfl, rfl⟩ := hpost
    refine lv_iconst (v := 1) hx hb dX1_count_18 (by decide) ?_
    refine lv_iadd hx hb dX1_count_19 ?_
    exact eI S hr hlocks hH hS ⟨by rw [hTe]; simp only [tids, List.length_append, List.length_cons]; rw [nI_1, Nat.add_assoc], rfl⟩ dX1_count_20

set_option maxRecDepth 100000 in
set_option maxHeartbeats 4000000 in
theorem c_X1_nearest {t0 : Nat} {T : Tr} {x : Int32} (h : TR L K sz P t0 T) : Md l yX1_nearest wsX1_nearest (rmL 2 0 0) D lo Γ [.ref t0, .int x] ((L, K, sz, si, P, bi, tu), M, V) (some (va_rf (nrs sz x.toInt T []))) ((L, K, sz, si, P, bi, tu), M, V) := by
  refine Mz_of (cc := cX1_nearest) (maxL := 4) (ret := (some (.object "SplayOrchard$Apple"))) (by decide) rfl (Nat.le_of_ble_eq_true rfl) ?_
  intro p e s m args below meth c ls S hr hlocks hK hH hS hl
  have hx := S.1
  have hb := S.2.1
  have hts := S.2.2.2.2
  have f7 : (Cond.fieldLink RX1 7 (TX1 0).1 (TX1 0).2.1 (TX1 0).2.2.1).before args s = true := hts _ (List.mem_of_getElem? (i := 1) rfl)
  have hi1 : ∀ w ∈ wsX10, w ∈ wsX1_nearest := by decide +kernel
  have hl : lv_has ls 4 [(0, .ref t0), (1, .int x)] := hl
  have hT := h
  obtain ⟨t_in, t_k, t_top, t_rep, t_nd, t_ok⟩ := h
  have ok_t0 : t0 ∈ L ∧ K t0 = 1 := ⟨t_in, t_k⟩
  have okq_top : ∀ b, P 3 t0 = some b → okA L K b := hH.2.2.2.2.2 t0 t_in t_k
  refine lv_null hx hb dX1_nearest_0 ?_
  refine lv_astore_nN (lv' := [(2, .null), (0, .ref t0), (1, .int x)]) hx hb dX1_nearest_1 rfl hl (by decide) rfl (fun ls hl => ?_)
  refine lv_aload_n hx hb dX1_nearest_2 rfl (lv_at hl 1 rfl) ?_
  refine gTp S hi1 hK hH ok_t0.1 ok_t0.2 f7 (v := va_rf (P 3 t0)) rfl dX1_nearest_3 ?_
  refine lq_astore_n (lv' := [(2, .null), (0, .ref t0), (1, .int x)]) S dX1_nearest_6 rfl hl (by decide) rfl (fun ls hl => ?_)
  have loop0 : ∀ {k : Nat}, some k = nrs sz x.toInt T [] → ∀ H locs, Hp D lo Γ ((L, K, sz, si, P, bi, tu), M, V) H → va_S (lA lo) s.heap H locs → ∀ ls, lv_has ls 4 [(3, va_rf none), (2, .ref k), (0, .ref t0), (1, .int x)] → W p l e (rmL 2 0 0) s m args below meth c H locs 0 0 (MQ below (Qz D lo Γ (fun v Z' => v = (some (va_rf (nrs sz x.toInt T []))) ∧ Z' = ((L, K, sz, si, P, bi, tu), M, V))) args s ((rmL 2 0 0) : Room).cells ((rmL 2 0 0) : Room).slots (lA lo)) (F0 m 7 ls []) := by
    intro k h3 H locs hH hS ls hl
    refine lv_aload_nN hx hb dX1_nearest_7 rfl (lv_at hl 0 rfl) ?_
    refine lv_ifnullN hx hb dX1_nearest_8 (tgt := 22) (by decide) ?_
    refine lv_aload_n hx hb dX1_nearest_22 rfl (lv_at hl 1 rfl) ?_
    exact eA S hr hlocks (some k) rfl hH hS ⟨by rw [← h3], rfl⟩ dX1_nearest_23
  have loop : ∀ (T' : Tr) (C : Cx) (par : Option Nat), rep P par T' → (∀ b ∈ tids T', okA L K b ∧ sz b < 1000) → nrs sz x.toInt T' C = nrs sz x.toInt T [] → ∀ H locs, Hp D lo Γ ((L, K, sz, si, P, bi, tu), M, V) H → va_S (lA lo) s.heap H locs → ∀ ls, lv_has ls 4 [(3, va_rf (rt T')), (2, va_rf (parC C)), (0, .ref t0), (1, .int x)] → W p l e (rmL 2 0 0) s m args below meth c H locs 0 0 (MQ below (Qz D lo Γ (fun v Z' => v = (some (va_rf (nrs sz x.toInt T []))) ∧ Z' = ((L, K, sz, si, P, bi, tu), M, V))) args s ((rmL 2 0 0) : Room).cells ((rmL 2 0 0) : Room).slots (lA lo)) (F0 m 7 ls []) := by
    intro T'
    induction T' with
    | leaf u =>
      intro C par hrep hok h3 H locs hH hS ls hl
      refine lv_aload_nN hx hb dX1_nearest_7 rfl (lv_at hl 0 rfl) ?_
      refine lv_ifnullN hx hb dX1_nearest_8 (tgt := 22) (by decide) ?_
      refine lq_aload_n S dX1_nearest_22 rfl (lv_at hl 1 rfl) ?_
      exact eA S hr hlocks _ rfl hH hS ⟨by rw [← h3]; rfl, rfl⟩ dX1_nearest_23
    | branch k lt r9 ihl ihr =>
      intro C par hrep hok h3 H locs hH hS ls hl
      obtain ⟨g2, g0, g1, gl, gr⟩ := hrep
      have ok_k := (hok k (by simp [tids])).1
      have hk9 : (nI (sz k)).toInt = (sz k : Int) := nI_toInt (by have := (hok k (by simp [tids])).2; omega)
      refine lv_aload_n hx hb dX1_nearest_7 rfl (lv_at hl 0 rfl) ?_
      refine lv_ifnull hx hb dX1_nearest_8 ?_
      refine lv_aload_n hx hb dX1_nearest_11 rfl (lv_at hl 0 rfl) ?_
      refine lv_astore_n (lv' := [(2, .ref k), (3, .ref k), (0, .ref t0), (1, .int x)]) hx hb dX1_nearest_12 rfl hl (by decide) rfl (fun ls hl => ?_)
      refine lv_aload_n hx hb dX1_nearest_13 rfl (lv_at hl 1 rfl) ?_
      refine lv_iload_n hx hb dX1_nearest_14 rfl (lv_at hl 3 rfl) ?_
      refine cV S (c_X0_towards (l := l) (D := D) (lo := lo) (Γ := Γ) (sz := sz) (si := si) (P := P) (bi := bi) (tu := tu) (M := M) (V := V) (x := x) ok_k) (cwV 1 hts gX1_nearest_X0_towards rfl rfl rfl (by decide +kernel) ⟨Nat.le_of_ble_eq_true rfl, Nat.le_of_ble_eq_true rfl⟩) hK hH (Hp_recv hK hH ok_k.1 ok_k.2 rfl) hS rfl hl.1 rfl (Nat.le_of_ble_eq_true rfl) dX1_nearest_15 ⟨Nat.le_of_ble_eq_true rfl, Nat.le_of_ble_eq_true rfl⟩ (fun v Z1 H locs hpost hH hS => ?_)
      obtain ⟨rfl, rfl⟩ := hpost
      refine lq_astore_n (lv' := [(2, .ref k), (0, .ref t0), (1, .int x)]) S dX1_nearest_18 rfl hl (by decide) rfl (fun ls hl => ?_)
      refine lv_goto (tgt := 7) hx hb dX1_nearest_19 (by decide) ?_
      rw [nrs_branch] at h3
      by_cases hxe : x = nI (sz k)
      · have e1 : twd P sz x k = none := by rw [twd, if_pos hxe]
        rw [e1] at hl
        have hz : x.toInt = (sz k : Int) := by rw [hxe, hk9]
        rw [if_pos hz] at h3
        exact loop0 h3 H locs hH hS ls hl
      · have hz : ¬ x.toInt = (sz k : Int) := fun q => hxe (Int32.toInt_inj.mp (q.trans hk9.symm))
        rw [if_neg hz] at h3
        by_cases hlt : x < nI (sz k)
        · have e1 : twd P sz x k = rt lt := by rw [twd, if_neg hxe, if_pos hlt, g0]
          rw [e1] at hl
          have hz2 : x.toInt < (sz k : Int) := by rw [← hk9]; exact Int32.lt_iff_toInt_lt.mp hlt
          rw [if_pos hz2] at h3
          exact ihl ((false, k, r9) :: C) (some k) gl (fun b hb9 => hok b (by simp [tids, hb9])) h3 H locs hH hS ls (lv_sub hl [0, 1, 2, 3] rfl)
        · have e1 : twd P sz x k = rt r9 := by rw [twd, if_neg hxe, if_neg hlt, g1]
          rw [e1] at hl
          have hz2 : ¬ x.toInt < (sz k : Int) := by rw [← hk9]; exact fun q => hlt (Int32.lt_iff_toInt_lt.mpr q)
          rw [if_neg hz2] at h3
          exact ihr ((true, k, lt) :: C) (some k) gr (fun b hb9 => hok b (by simp [tids, hb9])) h3 H locs hH hS ls (lv_sub hl [0, 1, 2, 3] rfl)
  rw [t_top] at hl
  exact loop T [] none t_rep t_ok rfl s.heap [] hH hS ls (lv_sub hl [0, 1, 2, 3] rfl)

set_option maxRecDepth 100000 in
set_option maxHeartbeats 4000000 in
theorem c_X1_find {t0 : Nat} {T : Tr} {x : Int32} (h : TR L K sz P t0 T) : Md l yX1_find wsX1_find (rmL 3 0 0) D lo Γ [.ref t0, .int x] ((L, K, sz, si, P, bi, tu), M, V) (some (va_rf (fnd sz x.toInt T))) ((L, K, sz, si, P, bi, tu), M, V) := by
  refine Mz_of (cc := cX1_find) (maxL := 3) (ret := (some (.object "SplayOrchard$Apple"))) (by decide) rfl (Nat.le_of_ble_eq_true rfl) ?_
  intro p e s m args below meth c ls S hr hlocks hK hH hS hl
  have hx := S.1
  have hb := S.2.1
  have hts := S.2.2.2.2
  have f32 : (Cond.fieldLink RX1 32 (TX0 0).1 (TX0 0).2.1 (TX0 0).2.2.1).before args s = true := hts _ (List.mem_of_getElem? (i := 1) rfl)
  have hi0 : ∀ w ∈ wsX00, w ∈ wsX1_find := by decide +kernel
  have hl : lv_has ls 3 [(0, .ref t0), (1, .int x)] := hl
  have hT := h
  obtain ⟨t_in, t_k, t_top, t_rep, t_nd, t_ok⟩ := h
  have ok_t0 : t0 ∈ L ∧ K t0 = 1 := ⟨t_in, t_k⟩
  refine lv_aload_n hx hb dX1_find_0 rfl (lv_at hl 0 rfl) ?_
  refine lv_iload_n hx hb dX1_find_1 rfl (lv_at hl 1 rfl) ?_
  refine cV S (c_X1_nearest (l := l) (D := D) (lo := lo) (Γ := Γ) (sz := sz) (si := si) (P := P) (bi := bi) (tu := tu) (M := M) (V := V) (x := x) hT) (cwV 1 hts gX1_find_X1_nearest rfl rfl rfl (by decide +kernel) ⟨Nat.le_of_ble_eq_true rfl, Nat.le_of_ble_eq_true rfl⟩) hK hH (Hp_recv hK hH ok_t0.1 ok_t0.2 rfl) hS rfl hl.1 rfl (Nat.le_of_ble_eq_true rfl) dX1_find_2 ⟨Nat.le_of_ble_eq_true rfl, Nat.le_of_ble_eq_true rfl⟩ (fun v Z1 H locs hpost hH hS => ?_)
  obtain ⟨rfl, rfl⟩ := hpost
  refine lq_astore_n (lv' := [(0, .ref t0), (1, .int x)]) S dX1_find_5 rfl hl (by decide) rfl (fun ls hl => ?_)
  refine lq_aload_n S dX1_find_6 rfl (lv_at hl 0 rfl) ?_
  refine lq_ifnull S dX1_find_7 (tgt := 22) (by decide) (fun hq => ?_) (fun b hq => ?_)
  · skip
    refine lv_null hx hb dX1_find_22 ?_
    exact eA S hr hlocks none rfl hH hS ⟨by rw [nrs_fnd0 hq], rfl⟩ dX1_find_23
  · skip
    have hbT := nrs_mem hq
    have ok_b := (t_ok b hbT).1
    have hk9 : (nI (sz b)).toInt = (sz b : Int) := nI_toInt (by have := (t_ok b hbT).2; omega)
    rw [hq] at hl
    refine lv_aload_n hx hb dX1_find_10 rfl (lv_at hl 0 rfl) ?_
    refine gA S hi0 hK hH ok_b 0 (by decide) f32 (v := .int (nI (sz b))) rfl dX1_find_11 ?_
    refine lv_iload_n hx hb dX1_find_14 rfl (lv_at hl 2 rfl) ?_
    refine lv_icmp_ne (tgt := 22) hx hb dX1_find_15 (by decide) (fun h1 => ?_) (fun h1 => ?_)
    · skip
      refine lv_null hx hb dX1_find_22 ?_
      exact eA S hr hlocks none rfl hH hS ⟨by rw [nrs_ne hq (fun q => h1 (Int32.toInt_inj.mp (hk9.trans q.symm)))], rfl⟩ dX1_find_23
    · skip
      refine lv_aload_n hx hb dX1_find_18 rfl (lv_at hl 0 rfl) ?_
      refine lv_goto (tgt := 23) hx hb dX1_find_19 (by decide) ?_
      exact eA S hr hlocks (some b) rfl hH hS ⟨by rw [nrs_eq hq (by rw [← h1, hk9])], rfl⟩ dX1_find_23
end MTree
