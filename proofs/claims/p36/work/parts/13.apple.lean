/-! METHODS of SplayOrchard$Apple -/
def iol (P : PF) (a : Nat) : Bool := match P 2 a with
  | none => false
  | some u => decide (P 0 u = some a)
def twd (P : PF) (sz : Nat → Nat) (x : Int32) (a : Nat) : Option Nat := if x = nI (sz a) then none else if x < nI (sz a) then P 0 a else P 1 a
theorem cat_rf (r : Option Nat) : (va_rf r).category = 1 := by cases r <;> rfl
theorem hd_app {x y : List Nat} (h : x ≠ []) : (x ++ y).head? = x.head? := by cases x with
  | nil => exact absurd rfl h
  | cons a x => rfl
theorem la_app {x y : List Nat} {k : Nat} (h : y ≠ []) : (x ++ k :: y).getLast? = y.getLast? := by
  rw [show x ++ k :: y = (x ++ [k]) ++ y by simp, List.getLast?_append]
  cases hy : y.getLast? with
  | none => exact absurd (List.getLast?_eq_none_iff.mp hy) h
  | some z => rfl
section MApple
variable {l : Launch} {D : va_G} {lo : Nat} {Γ : GT} {L : List Nat} {K : Nat → Nat} {sz : Nat → Nat} {si : Nat → Option Nat} {P : PF} {bi : Nat → Nat} {tu : Nat} {M : MW} {V : Int64 × UInt64}
set_option maxRecDepth 100000 in
set_option maxHeartbeats 4000000 in
/-- below a, on this side, and a above it -/
theorem c_X0_hangLeft {a : Nat} {r : Option Nat} (ok_a : okA L K a) (okq_r : ∀ b, r = some b → okA L K b) : Md l yX0_hangLeft wsX0_hangLeft (rmL 1 0 0) D lo Γ [.ref a, va_rf r] ((L, K, sz, si, P, bi, tu), M, V) none ((L, K, sz, si, (hng P r (some a) 0), bi, tu), M, V) := by
  refine Mz_of (cc := cX0_hangLeft) (maxL := 2) (ret := none) (by decide) rfl (by cases r <;> exact Nat.le_of_ble_eq_true rfl) ?_
  intro p e s m args below meth c ls S hr hlocks hK hH hS hl
  have hx := S.1
  have hb := S.2.1
  have hts := S.2.2.2.2
  have f17 : (Cond.fieldLink RX0 17 (TX0 3).1 (TX0 3).2.1 (TX0 3).2.2.1).before args s = true := hts _ (List.mem_of_getElem? (i := 1) rfl)
  have f20 : (Cond.fieldLink RX0 20 (TX0 2).1 (TX0 2).2.1 (TX0 2).2.2.1).before args s = true := hts _ (List.mem_of_getElem? (i := 2) rfl)
  have hi0 : ∀ w ∈ wsX00, w ∈ wsX0_hangLeft := by decide +kernel
  have hl : lv_has ls 2 [(0, .ref a), (1, va_rf r)] := hl
  refine lv_aload_n hx hb dX0_hangLeft_0 rfl (lv_at hl 0 rfl) ?_
  refine lq_aload_n S dX0_hangLeft_1 rfl (lv_at hl 1 rfl) ?_
  refine pA S hi0 hK hH hS ok_a 0 r okq_r 3 (by decide) (by decide) f17 rfl dX0_hangLeft_2 (fun H locs hH hS => ?_)
  refine lq_aload_n S dX0_hangLeft_5 rfl (lv_at hl 1 rfl) ?_
  refine lq_ifnull S dX0_hangLeft_6 (tgt := 14) (by decide) (fun hq => ?_) (fun x hq => ?_)
  · skip
    subst hq
    exact eV S hr hlocks hH hS ⟨rfl, rfl⟩ dX0_hangLeft_14
  · skip
    subst hq
    have ok_x := okq_r x rfl
    refine lv_aload_n hx hb dX0_hangLeft_9 rfl (lv_at hl 1 rfl) ?_
    refine lv_aload_n hx hb dX0_hangLeft_10 rfl (lv_at hl 0 rfl) ?_
    refine pA S hi0 hK hH hS ok_x 2 (some a) (fun b h => by cases h; exact ok_a) 2 (by decide) (by decide) f20 rfl dX0_hangLeft_11 (fun H locs hH hS => ?_)
    exact eV S hr hlocks hH hS ⟨rfl, rfl⟩ dX0_hangLeft_14

set_option maxRecDepth 100000 in
set_option maxHeartbeats 4000000 in
/-- below a, on this side, and a above it -/
theorem c_X0_hangRight {a : Nat} {r : Option Nat} (ok_a : okA L K a) (okq_r : ∀ b, r = some b → okA L K b) : Md l yX0_hangRight wsX0_hangRight (rmL 1 0 0) D lo Γ [.ref a, va_rf r] ((L, K, sz, si, P, bi, tu), M, V) none ((L, K, sz, si, (hng P r (some a) 1), bi, tu), M, V) := by
  refine Mz_of (cc := cX0_hangRight) (maxL := 2) (ret := none) (by decide) rfl (by cases r <;> exact Nat.le_of_ble_eq_true rfl) ?_
  intro p e s m args below meth c ls S hr hlocks hK hH hS hl
  have hx := S.1
  have hb := S.2.1
  have hts := S.2.2.2.2
  have f23 : (Cond.fieldLink RX0 23 (TX0 4).1 (TX0 4).2.1 (TX0 4).2.2.1).before args s = true := hts _ (List.mem_of_getElem? (i := 1) rfl)
  have f20 : (Cond.fieldLink RX0 20 (TX0 2).1 (TX0 2).2.1 (TX0 2).2.2.1).before args s = true := hts _ (List.mem_of_getElem? (i := 2) rfl)
  have hi0 : ∀ w ∈ wsX00, w ∈ wsX0_hangRight := by decide +kernel
  have hl : lv_has ls 2 [(0, .ref a), (1, va_rf r)] := hl
  refine lv_aload_n hx hb dX0_hangRight_0 rfl (lv_at hl 0 rfl) ?_
  refine lq_aload_n S dX0_hangRight_1 rfl (lv_at hl 1 rfl) ?_
  refine pA S hi0 hK hH hS ok_a 1 r okq_r 4 (by decide) (by decide) f23 rfl dX0_hangRight_2 (fun H locs hH hS => ?_)
  refine lq_aload_n S dX0_hangRight_5 rfl (lv_at hl 1 rfl) ?_
  refine lq_ifnull S dX0_hangRight_6 (tgt := 14) (by decide) (fun hq => ?_) (fun x hq => ?_)
  · skip
    subst hq
    exact eV S hr hlocks hH hS ⟨rfl, rfl⟩ dX0_hangRight_14
  · skip
    subst hq
    have ok_x := okq_r x rfl
    refine lv_aload_n hx hb dX0_hangRight_9 rfl (lv_at hl 1 rfl) ?_
    refine lv_aload_n hx hb dX0_hangRight_10 rfl (lv_at hl 0 rfl) ?_
    refine pA S hi0 hK hH hS ok_x 2 (some a) (fun b h => by cases h; exact ok_a) 2 (by decide) (by decide) f20 rfl dX0_hangRight_11 (fun H locs hH hS => ?_)
    exact eV S hr hlocks hH hS ⟨rfl, rfl⟩ dX0_hangRight_14

set_option maxRecDepth 100000 in
set_option maxHeartbeats 4000000 in
/-- is a to the left of the one above it -/
theorem c_X0_isOnTheLeft {a : Nat} (ok_a : okA L K a) : Md l yX0_isOnTheLeft wsX0_isOnTheLeft (rmL 1 0 0) D lo Γ [.ref a] ((L, K, sz, si, P, bi, tu), M, V) (some (.int (if iol P a then 1 else 0))) ((L, K, sz, si, P, bi, tu), M, V) := by
  refine Mz_of (cc := cX0_isOnTheLeft) (maxL := 1) (ret := (some .boolean)) (by decide) rfl (Nat.le_of_ble_eq_true rfl) ?_
  intro p e s m args below meth c ls S hr hlocks hK hH hS hl
  have hx := S.1
  have hb := S.2.1
  have hts := S.2.2.2.2
  have f20 : (Cond.fieldLink RX0 20 (TX0 2).1 (TX0 2).2.1 (TX0 2).2.2.1).before args s = true := hts _ (List.mem_of_getElem? (i := 1) rfl)
  have f17 : (Cond.fieldLink RX0 17 (TX0 3).1 (TX0 3).2.1 (TX0 3).2.2.1).before args s = true := hts _ (List.mem_of_getElem? (i := 2) rfl)
  have hi0 : ∀ w ∈ wsX00, w ∈ wsX0_isOnTheLeft := by decide +kernel
  have hl : lv_has ls 1 [(0, .ref a)] := hl
  rcases hq : P 2 a with _ | u
  · skip
    refine lv_aload_n hx hb dX0_isOnTheLeft_0 rfl (lv_at hl 0 rfl) ?_
    refine gA S hi0 hK hH ok_a 2 (by decide) f20 (v := .null) (by show some (va_rf (P 2 a)) = _; rw [hq]; rfl) dX0_isOnTheLeft_1 ?_
    refine lv_ifnullN hx hb dX0_isOnTheLeft_4 (tgt := 22) (by decide) ?_
    refine lv_iconst (v := 0) hx hb dX0_isOnTheLeft_22 (by decide) ?_
    exact eZ S hr hlocks (Or.inl rfl) hH hS ⟨by simp [iol, hq], rfl⟩ dX0_isOnTheLeft_23
  · skip
    have ok_u := hH.2.2.2.1 a ok_a 2 (by decide) u hq
    refine lv_aload_n hx hb dX0_isOnTheLeft_0 rfl (lv_at hl 0 rfl) ?_
    refine gA S hi0 hK hH ok_a 2 (by decide) f20 (v := .ref u) (by show some (va_rf (P 2 a)) = _; rw [hq]; rfl) dX0_isOnTheLeft_1 ?_
    refine lv_ifnull hx hb dX0_isOnTheLeft_4 ?_
    refine lv_aload_n hx hb dX0_isOnTheLeft_7 rfl (lv_at hl 0 rfl) ?_
    refine gA S hi0 hK hH ok_a 2 (by decide) f20 (v := .ref u) (by show some (va_rf (P 2 a)) = _; rw [hq]; rfl) dX0_isOnTheLeft_8 ?_
    refine gA S hi0 hK hH ok_u 3 (by decide) f17 (v := va_rf (P 0 u)) rfl dX0_isOnTheLeft_11 ?_
    refine lv_aload_n hx hb dX0_isOnTheLeft_14 rfl (lv_at hl 0 rfl) ?_
    refine lv_acmp_ne (rx := P 0 u) (ry := some a) (tgt := 22) hx hb dX0_isOnTheLeft_15 (by decide) (fun hq2 => ?_) (fun hq2 => ?_)
    · skip
      refine lv_iconst (v := 0) hx hb dX0_isOnTheLeft_22 (by decide) ?_
      exact eZ S hr hlocks (Or.inl rfl) hH hS ⟨by simp [iol, hq, hq2], rfl⟩ dX0_isOnTheLeft_23
    · skip
      refine lv_iconst (v := 1) hx hb dX0_isOnTheLeft_18 (by decide) ?_
      refine lv_goto (tgt := 23) hx hb dX0_isOnTheLeft_19 (by decide) ?_
      exact eZ S hr hlocks (Or.inr rfl) hH hS ⟨by simp [iol, hq, hq2], rfl⟩ dX0_isOnTheLeft_23

set_option maxRecDepth 100000 in
set_option maxHeartbeats 4000000 in
/-- how deep a hangs -/
theorem c_X0_depth {a d : Nat} (ok_a : okA L K a) (hu : UC P d (P 2 a)) : Md l yX0_depth wsX0_depth (rmL 1 0 0) D lo Γ [.ref a] ((L, K, sz, si, P, bi, tu), M, V) (some (.int (nI d))) ((L, K, sz, si, P, bi, tu), M, V) := by
  refine Mz_of (cc := cX0_depth) (maxL := 3) (ret := (some .int)) (by decide) rfl (Nat.le_of_ble_eq_true rfl) ?_
  intro p e s m args below meth c ls S hr hlocks hK hH hS hl
  have hx := S.1
  have hb := S.2.1
  have hts := S.2.2.2.2
  have f20 : (Cond.fieldLink RX0 20 (TX0 2).1 (TX0 2).2.1 (TX0 2).2.2.1).before args s = true := hts _ (List.mem_of_getElem? (i := 1) rfl)
  have hi0 : ∀ w ∈ wsX00, w ∈ wsX0_depth := by decide +kernel
  have hl : lv_has ls 3 [(0, .ref a)] := hl
  refine lv_iconst (v := 0) hx hb dX0_depth_0 (by decide) ?_
  refine lv_istore_n (lv' := [(1, .int 0), (0, .ref a)]) hx hb dX0_depth_1 rfl hl (by decide) rfl (fun ls hl => ?_)
  refine lv_aload_n hx hb dX0_depth_2 rfl (lv_at hl 1 rfl) ?_
  refine gA S hi0 hK hH ok_a 2 (by decide) f20 (v := va_rf (P 2 a)) rfl dX0_depth_3 ?_
  refine lq_astore_n (lv' := [(1, .int 0), (0, .ref a)]) S dX0_depth_6 rfl hl (by decide) rfl (fun ls hl => ?_)
  have loop : ∀ (d' : Nat) (r : Option Nat) (i : Nat), UC P d' r → (∀ b, r = some b → okA L K b) → i + d' = d → ∀ ls, lv_has ls 3 [(2, va_rf r), (1, .int (nI i))] → W p l e (rmL 1 0 0) s m args below meth c s.heap [] 0 0 (MQ below (Qz D lo Γ (fun v Z' => v = (some (.int (nI d))) ∧ Z' = ((L, K, sz, si, P, bi, tu), M, V))) args s ((rmL 1 0 0) : Room).cells ((rmL 1 0 0) : Room).slots (lA lo)) (F0 m 7 ls []) := by
    intro d'
    induction d' with
    | zero =>
      intro r i hr0 _ hi ls hl
      have hr0 : r = none := hr0
      subst hr0
      refine lv_aload_nN hx hb dX0_depth_7 rfl (lv_at hl 0 rfl) ?_
      refine lv_ifnullN hx hb dX0_depth_8 (tgt := 22) (by decide) ?_
      refine lv_iload_n hx hb dX0_depth_22 rfl (lv_at hl 1 rfl) ?_
      have hid : i = d := by omega
      subst hid
      exact eI S hr hlocks hH hS ⟨rfl, rfl⟩ dX0_depth_23
    | succ d' ih =>
      intro r i hr0 okq hi ls hl
      obtain ⟨u, rfl, hu'⟩ := hr0
      have ok_u := okq u rfl
      refine lv_aload_n hx hb dX0_depth_7 rfl (lv_at hl 0 rfl) ?_
      refine lv_ifnull hx hb dX0_depth_8 ?_
      refine lv_iinc (v := nI (i + 1)) (lv' := [(1, .int (nI (i + 1))), (2, .ref u)]) hx hb dX0_depth_11 hl (k := 1) rfl (nI_1 i) (by decide) rfl (fun ls hl => ?_)
      refine lv_aload_n hx hb dX0_depth_14 rfl (lv_at hl 1 rfl) ?_
      refine gA S hi0 hK hH ok_u 2 (by decide) f20 (v := va_rf (P 2 u)) rfl dX0_depth_15 ?_
      refine lq_astore_n (lv' := [(1, .int (nI (i + 1)))]) S dX0_depth_18 rfl hl (by decide) rfl (fun ls hl => ?_)
      refine lv_goto (tgt := 7) hx hb dX0_depth_19 (by decide) ?_
      exact ih (P 2 u) (i + 1) hu' (fun b h => hH.2.2.2.1 u ok_u 2 (by decide) b h) (by omega) ls (lv_sub hl [0, 1] rfl)
  exact loop d (P 2 a) 0 hu (fun b h => hH.2.2.2.1 a ok_a 2 (by decide) b h) (by omega) ls (lv_sub hl [0, 1] rfl)

set_option maxRecDepth 100000 in
set_option maxHeartbeats 4000000 in
/-- the way to a size -/
theorem c_X0_towards {a : Nat} {x : Int32} (ok_a : okA L K a) : Md l yX0_towards wsX0_towards (rmL 1 0 0) D lo Γ [.ref a, .int x] ((L, K, sz, si, P, bi, tu), M, V) (some (va_rf (twd P sz x a))) ((L, K, sz, si, P, bi, tu), M, V) := by
  refine Mz_of (cc := cX0_towards) (maxL := 2) (ret := (some (.object "SplayOrchard$Apple"))) (by decide) rfl (Nat.le_of_ble_eq_true rfl) ?_
  intro p e s m args below meth c ls S hr hlocks hK hH hS hl
  have hx := S.1
  have hb := S.2.1
  have hts := S.2.2.2.2
  have f7 : (Cond.fieldLink RX0 7 (TX0 0).1 (TX0 0).2.1 (TX0 0).2.2.1).before args s = true := hts _ (List.mem_of_getElem? (i := 1) rfl)
  have f17 : (Cond.fieldLink RX0 17 (TX0 3).1 (TX0 3).2.1 (TX0 3).2.2.1).before args s = true := hts _ (List.mem_of_getElem? (i := 2) rfl)
  have f23 : (Cond.fieldLink RX0 23 (TX0 4).1 (TX0 4).2.1 (TX0 4).2.2.1).before args s = true := hts _ (List.mem_of_getElem? (i := 3) rfl)
  have hi0 : ∀ w ∈ wsX00, w ∈ wsX0_towards := by decide +kernel
  have hl : lv_has ls 2 [(0, .ref a), (1, .int x)] := hl
  refine lv_iload_n hx hb dX0_towards_0 rfl (lv_at hl 1 rfl) ?_
  refine lv_aload_n hx hb dX0_towards_1 rfl (lv_at hl 0 rfl) ?_
  refine gA S hi0 hK hH ok_a 0 (by decide) f7 (v := .int (nI (sz a))) rfl dX0_towards_2 ?_
  refine lv_icmp_ne (tgt := 10) hx hb dX0_towards_5 (by decide) (fun h1 => ?_) (fun h1 => ?_)
  · skip
    refine lv_iload_n hx hb dX0_towards_10 rfl (lv_at hl 1 rfl) ?_
    refine lv_aload_n hx hb dX0_towards_11 rfl (lv_at hl 0 rfl) ?_
    refine gA S hi0 hK hH ok_a 0 (by decide) f7 (v := .int (nI (sz a))) rfl dX0_towards_12 ?_
    refine lv_icmp_ge (tgt := 25) hx hb dX0_towards_15 (by decide) (fun h2 => ?_) (fun h2 => ?_)
    · skip
      refine lv_aload_n hx hb dX0_towards_25 rfl (lv_at hl 0 rfl) ?_
      refine gA S hi0 hK hH ok_a 4 (by decide) f23 (v := va_rf (P 1 a)) rfl dX0_towards_26 ?_
      exact eA S hr hlocks (P 1 a) rfl hH hS ⟨by rw [twd, if_neg h1, if_neg (by simpa using h2)], rfl⟩ dX0_towards_29
    · skip
      refine lv_aload_n hx hb dX0_towards_18 rfl (lv_at hl 0 rfl) ?_
      refine gA S hi0 hK hH ok_a 3 (by decide) f17 (v := va_rf (P 0 a)) rfl dX0_towards_19 ?_
      refine lv_goto (tgt := 29) hx hb dX0_towards_22 (by decide) ?_
      exact eA S hr hlocks (P 0 a) rfl hH hS ⟨by rw [twd, if_neg h1, if_pos (by simpa using h2)], rfl⟩ dX0_towards_29
  · skip
    refine lv_null hx hb dX0_towards_8 ?_
    exact eA S hr hlocks none rfl hH hS ⟨by rw [twd, if_pos h1], rfl⟩ dX0_towards_9

set_option maxRecDepth 100000 in
set_option maxHeartbeats 4000000 in
/-- the end of what is below a, on this side -/
theorem c_X0_leastUnder {a : Nat} {t : Tr} {par : Option Nat} (ok_a : okA L K a) (hrt : rt t = some a) (hrep : rep P par t) : Md l yX0_leastUnder wsX0_leastUnder (rmL 1 0 0) D lo Γ [.ref a] ((L, K, sz, si, P, bi, tu), M, V) (some (va_rf (tids t).head?)) ((L, K, sz, si, P, bi, tu), M, V) := by
  refine Mz_of (cc := cX0_leastUnder) (maxL := 2) (ret := (some (.object "SplayOrchard$Apple"))) (by decide) rfl (Nat.le_of_ble_eq_true rfl) ?_
  intro p e s m args below meth c ls S hr hlocks hK hH hS hl
  have hx := S.1
  have hb := S.2.1
  have hts := S.2.2.2.2
  have f17 : (Cond.fieldLink RX0 17 (TX0 3).1 (TX0 3).2.1 (TX0 3).2.2.1).before args s = true := hts _ (List.mem_of_getElem? (i := 1) rfl)
  have hi0 : ∀ w ∈ wsX00, w ∈ wsX0_leastUnder := by decide +kernel
  have hl : lv_has ls 2 [(0, .ref a)] := hl
  refine lv_aload_n hx hb dX0_leastUnder_0 rfl (lv_at hl 0 rfl) ?_
  refine lv_astore_n (lv' := [(1, .ref a), (0, .ref a)]) hx hb dX0_leastUnder_1 rfl hl (by decide) rfl (fun ls hl => ?_)
  have loop : ∀ (t' : Tr) (par' : Option Nat) (b : Nat), rt t' = some b → rep P par' t' → okA L K b → (tids t').head? = (tids t).head? → ∀ ls, lv_has ls 2 [(1, .ref b)] → W p l e (rmL 1 0 0) s m args below meth c s.heap [] 0 0 (MQ below (Qz D lo Γ (fun v Z' => v = (some (va_rf (tids t).head?)) ∧ Z' = ((L, K, sz, si, P, bi, tu), M, V))) args s ((rmL 1 0 0) : Room).cells ((rmL 1 0 0) : Room).slots (lA lo)) (F0 m 2 ls []) := by
    intro t'
    induction t' with
    | leaf u => intro par' b h; cases h
    | branch k l r ihl ihr =>
      intro par' b h1 h2 ok_b h3 ls hl
      cases h1
      obtain ⟨g2, g0, g1, gl, gr⟩ := h2
      rcases hq : P 0 k with _ | u
      · skip
        refine lv_aload_n hx hb dX0_leastUnder_2 rfl (lv_at hl 0 rfl) ?_
        refine gA S hi0 hK hH ok_b 3 (by decide) f17 (v := .null) (by show some (va_rf (P 0 k)) = _; rw [hq]; rfl) dX0_leastUnder_3 ?_
        refine lv_ifnullN hx hb dX0_leastUnder_6 (tgt := 17) (by decide) ?_
        refine lv_aload_n hx hb dX0_leastUnder_17 rfl (lv_at hl 0 rfl) ?_
        have he : (tids (.branch k l r)).head? = some k := by rw [rt_none (t := l) (by rw [← g0, hq])]; simp [tids]
        exact eA S hr hlocks (some k) rfl hH hS ⟨by rw [← h3, he], rfl⟩ dX0_leastUnder_18
      · skip
        have ok_u := hH.2.2.2.1 k ok_b 0 (by decide) u hq
        refine lv_aload_n hx hb dX0_leastUnder_2 rfl (lv_at hl 0 rfl) ?_
        refine gA S hi0 hK hH ok_b 3 (by decide) f17 (v := .ref u) (by show some (va_rf (P 0 k)) = _; rw [hq]; rfl) dX0_leastUnder_3 ?_
        refine lv_ifnull hx hb dX0_leastUnder_6 ?_
        refine lv_aload_n hx hb dX0_leastUnder_9 rfl (lv_at hl 0 rfl) ?_
        refine gA S hi0 hK hH ok_b 3 (by decide) f17 (v := .ref u) (by show some (va_rf (P 0 k)) = _; rw [hq]; rfl) dX0_leastUnder_10 ?_
        refine lv_astore_n (lv' := [(1, .ref u)]) hx hb dX0_leastUnder_13 rfl hl (by decide) rfl (fun ls hl => ?_)
        refine lv_goto (tgt := 2) hx hb dX0_leastUnder_14 (by decide) ?_
        have hru : rt l = some u := by rw [← g0, hq]
        refine ihl (some k) u hru gl ok_u ?_ ls (lv_sub hl [0] rfl)
        rw [← h3, tids_branch]
        have hne : tids l ≠ [] := fun h0 => by have := rt_mem hru; rw [h0] at this; cases this
        exact (hd_app hne).symm
  exact loop t par a hrt hrep ok_a rfl ls (lv_sub hl [0] rfl)

set_option maxRecDepth 100000 in
set_option maxHeartbeats 4000000 in
/-- the end of what is below a, on this side -/
theorem c_X0_greatestUnder {a : Nat} {t : Tr} {par : Option Nat} (ok_a : okA L K a) (hrt : rt t = some a) (hrep : rep P par t) : Md l yX0_greatestUnder wsX0_greatestUnder (rmL 1 0 0) D lo Γ [.ref a] ((L, K, sz, si, P, bi, tu), M, V) (some (va_rf (tids t).getLast?)) ((L, K, sz, si, P, bi, tu), M, V) := by
  refine Mz_of (cc := cX0_greatestUnder) (maxL := 2) (ret := (some (.object "SplayOrchard$Apple"))) (by decide) rfl (Nat.le_of_ble_eq_true rfl) ?_
  intro p e s m args below meth c ls S hr hlocks hK hH hS hl
  have hx := S.1
  have hb := S.2.1
  have hts := S.2.2.2.2
  have f23 : (Cond.fieldLink RX0 23 (TX0 4).1 (TX0 4).2.1 (TX0 4).2.2.1).before args s = true := hts _ (List.mem_of_getElem? (i := 1) rfl)
  have hi0 : ∀ w ∈ wsX00, w ∈ wsX0_greatestUnder := by decide +kernel
  have hl : lv_has ls 2 [(0, .ref a)] := hl
  refine lv_aload_n hx hb dX0_greatestUnder_0 rfl (lv_at hl 0 rfl) ?_
  refine lv_astore_n (lv' := [(1, .ref a), (0, .ref a)]) hx hb dX0_greatestUnder_1 rfl hl (by decide) rfl (fun ls hl => ?_)
  have loop : ∀ (t' : Tr) (par' : Option Nat) (b : Nat), rt t' = some b → rep P par' t' → okA L K b → (tids t').getLast? = (tids t).getLast? → ∀ ls, lv_has ls 2 [(1, .ref b)] → W p l e (rmL 1 0 0) s m args below meth c s.heap [] 0 0 (MQ below (Qz D lo Γ (fun v Z' => v = (some (va_rf (tids t).getLast?)) ∧ Z' = ((L, K, sz, si, P, bi, tu), M, V))) args s ((rmL 1 0 0) : Room).cells ((rmL 1 0 0) : Room).slots (lA lo)) (F0 m 2 ls []) := by
    intro t'
    induction t' with
    | leaf u => intro par' b h; cases h
    | branch k l r ihl ihr =>
      intro par' b h1 h2 ok_b h3 ls hl
      cases h1
      obtain ⟨g2, g0, g1, gl, gr⟩ := h2
      rcases hq : P 1 k with _ | u
      · skip
        refine lv_aload_n hx hb dX0_greatestUnder_2 rfl (lv_at hl 0 rfl) ?_
        refine gA S hi0 hK hH ok_b 4 (by decide) f23 (v := .null) (by show some (va_rf (P 1 k)) = _; rw [hq]; rfl) dX0_greatestUnder_3 ?_
        refine lv_ifnullN hx hb dX0_greatestUnder_6 (tgt := 17) (by decide) ?_
        refine lv_aload_n hx hb dX0_greatestUnder_17 rfl (lv_at hl 0 rfl) ?_
        have he : (tids (.branch k l r)).getLast? = some k := by rw [rt_none (t := r) (by rw [← g1, hq])]; simp [tids]
        exact eA S hr hlocks (some k) rfl hH hS ⟨by rw [← h3, he], rfl⟩ dX0_greatestUnder_18
      · skip
        have ok_u := hH.2.2.2.1 k ok_b 1 (by decide) u hq
        refine lv_aload_n hx hb dX0_greatestUnder_2 rfl (lv_at hl 0 rfl) ?_
        refine gA S hi0 hK hH ok_b 4 (by decide) f23 (v := .ref u) (by show some (va_rf (P 1 k)) = _; rw [hq]; rfl) dX0_greatestUnder_3 ?_
        refine lv_ifnull hx hb dX0_greatestUnder_6 ?_
        refine lv_aload_n hx hb dX0_greatestUnder_9 rfl (lv_at hl 0 rfl) ?_
        refine gA S hi0 hK hH ok_b 4 (by decide) f23 (v := .ref u) (by show some (va_rf (P 1 k)) = _; rw [hq]; rfl) dX0_greatestUnder_10 ?_
        refine lv_astore_n (lv' := [(1, .ref u)]) hx hb dX0_greatestUnder_13 rfl hl (by decide) rfl (fun ls hl => ?_)
        refine lv_goto (tgt := 2) hx hb dX0_greatestUnder_14 (by decide) ?_
        have hru : rt r = some u := by rw [← g1, hq]
        refine ihr (some k) u hru gr ok_u ?_ ls (lv_sub hl [0] rfl)
        rw [← h3, tids_branch]
        have hne : tids r ≠ [] := fun h0 => by have := rt_mem hru; rw [h0] at this; cases this
        exact (la_app hne).symm
  exact loop t par a hrt hrep ok_a rfl ls (lv_sub hl [0] rfl)
end MApple
