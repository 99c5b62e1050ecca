/-! METHODS of the reference that go down the trees -/
theorem nI_sb {a b : Nat} (h : b ≤ a) : nI a - nI b = nI (a - b) := by
  have h1 : nI (a - b) + nI b = nI a := by rw [nI_add]; congr 1; omega
  rw [← h1, Int32.add_sub_cancel]
theorem nI_inj9 {a b : Nat} (ha : a < 2 ^ 31) (hb : b < 2 ^ 31) (h : nI a = nI b) : a = b := by
  have h1 : (nI a).toInt = (a : Int) := nI_toInt ha
  have h2 : (nI b).toInt = (b : Int) := nI_toInt hb
  rw [h, h2] at h1
  omega
theorem hgt_tids : ∀ t : Tr, hgt t ≤ (tids t).length := by
  intro t
  induction t with
  | leaf u => exact Nat.le_refl _
  | branch k l r ihl ihr => rw [hgt, tids_branch, List.length_append, List.length_cons]; omega
section MMod3
variable {l : Launch} {D : va_G} {lo : Nat} {Γ : GT} {C : CW} {V : Int64 × UInt64} {th mn tm kt : Nat} {Q : PF} {zs : Nat → Option Nat} {be : Nat → Nat} {kp : Nat → Int32}
set_option maxRecDepth 100000 in
set_option maxHeartbeats 4000000 in
theorem c_X3_count  : ∀ (t : Tr) (n : Nat) (par : Option Nat) , hgt t < n → rep Q par t → (∀ a ∈ tids t, a < 40) → Md l yX3_count wsX3_count (rmL n 0 0) D lo Γ [.ref (gxa Γ 3), .int (er (rt t))] (C, (th, mn, tm, kt, Q, zs, be, kp), V) (some (.int (nI (tids t).length))) (C, (th, mn, tm, kt, Q, zs, be, kp), V) := by
  intro t
  induction t with
  | leaf u =>
    intro n par  hlt h2 h40 
    obtain ⟨n, rfl⟩ : ∃ k, n = k + 1 := ⟨n - 1, by omega⟩
    refine Mz_of (cc := cX3_count) (maxL := 2) (ret := (some .int)) (by decide) rfl (Nat.le_of_ble_eq_true rfl) ?_
    intro p e s m args below meth c ls S hr hlocks hK hH hS hl
    have hx := S.1
    have hb := S.2.1
    have hts := S.2.2.2.2
    have f9 : (Cond.fieldLink RX3 9 (TX3 3).1 (TX3 3).2.1 (TX3 3).2.2.1).before args s = true := hts _ (List.mem_of_getElem? (i := 1) rfl)
    have hi3 : ∀ w ∈ wsX30, w ∈ wsX3_count := by decide +kernel
    have hl : lv_has ls 2 [(0, .ref (gxa Γ 3)), (1, .int (-1))] := hl
    refine lv_iload_n hx hb dX3_count_0 rfl (lv_at hl 1 rfl) ?_
    refine lv_iconst (v := -1) hx hb dX3_count_1 (by decide) ?_
    refine lv_icmp_ne (tgt := 9) hx hb dX3_count_2 (by decide) (fun h1 => absurd rfl h1) (fun _ => ?_)
    refine lv_iconst (v := 0) hx hb dX3_count_5 (by decide) ?_
    refine lv_goto (tgt := 38) hx hb dX3_count_6 (by decide) ?_
    exact eI S hr hlocks hH hS ⟨rfl, rfl⟩ dX3_count_38
  | branch k lt9 r9 ihl ihr =>
    intro n par  hlt h2 h40 
    obtain ⟨n, rfl⟩ : ∃ k, n = k + 1 := ⟨n - 1, by omega⟩
    obtain ⟨g2, g0, g1, gl, gr⟩ := h2
    have lt_k : k < 40 := h40 k (by simp [tids])
    have okl : ∀ a ∈ tids lt9, a < 40 := fun a ha => h40 a (by simp [tids, ha])
    have okr : ∀ a ∈ tids r9, a < 40 := fun a ha => h40 a (by simp [tids, ha])
    have hlt2 : hgt lt9 < n ∧ hgt r9 < n := by rw [hgt] at hlt; omega
    refine Mz_of (cc := cX3_count) (maxL := 2) (ret := (some .int)) (by decide) rfl (Nat.le_of_ble_eq_true rfl) ?_
    intro p e s m args below meth c ls S hr hlocks hK hH hS hl
    have hx := S.1
    have hb := S.2.1
    have hts := S.2.2.2.2
    have f9 : (Cond.fieldLink RX3 9 (TX3 3).1 (TX3 3).2.1 (TX3 3).2.2.1).before args s = true := hts _ (List.mem_of_getElem? (i := 1) rfl)
    have hi3 : ∀ w ∈ wsX30, w ∈ wsX3_count := by decide +kernel
    have hl : lv_has ls 2 [(0, .ref (gxa Γ 3)), (1, .int (nI k))] := hl
    refine lv_iload_n hx hb dX3_count_0 rfl (lv_at hl 1 rfl) ?_
    refine lv_iconst (v := -1) hx hb dX3_count_1 (by decide) ?_
    refine lv_icmp_ne (tgt := 9) hx hb dX3_count_2 (by decide) (fun _ => ?_) (fun h1 => absurd h1 (nI_nm1 (Nat.lt_trans lt_k (by decide))))
    refine lv_iconst (v := 1) hx hb dX3_count_9 (by decide) ?_
    refine lv_aload_n hx hb dX3_count_10 rfl (lv_at hl 0 rfl) ?_
    refine lv_aload_n hx hb dX3_count_11 rfl (lv_at hl 0 rfl) ?_
    refine gM S hi3 hK hH 3 (by decide) f9 (v := .ref (gna Γ)) rfl dX3_count_12 ?_
    refine lv_bipush (v := 40) hx hb dX3_count_15 (by decide +kernel) ?_
    refine lv_iload_n hx hb dX3_count_17 rfl (lv_at hl 1 rfl) ?_
    refine lv_iadd hx hb dX3_count_18 ?_
    refine gN S hK hH (n := 40 * (0 + 1) + k) (x := er (rt lt9)) (nI_ofadd rfl) (by have := lt_k; omega) ((enc_sd (by decide) lt_k).trans (congrArg er g0)) dX3_count_19 ?_
    refine cV S (ihl n (some k) hlt2.1 gl okl) (cwV 1 hts gX3_count_X3_count rfl rfl rfl (by decide +kernel) ⟨(by show n + 1 ≤ n + 1; omega), (by show 8 + (2 + 11) + 40 * n ≤ 40 * (n + 1); omega)⟩) hK hH (Hp_recv hK hH (gmo hH (j := 3) (by simp)).1 (gmo hH (j := 3) (by simp)).2.1 rfl) hS rfl hl.1 rfl (Nat.le_of_ble_eq_true rfl) dX3_count_20 ⟨Nat.le_of_ble_eq_true rfl, Nat.le_of_ble_eq_true rfl⟩ (fun v Z1 H locs hpost hH hS => ?_)
    obtain ⟨rfl, rfl⟩ := hpost
    refine lv_iadd hx hb dX3_count_23 ?_
    refine lv_aload_n hx hb dX3_count_24 rfl (lv_at hl 0 rfl) ?_
    refine lv_aload_n hx hb dX3_count_25 rfl (lv_at hl 0 rfl) ?_
    refine gM S hi3 hK hH 3 (by decide) f9 (v := .ref (gna Γ)) rfl dX3_count_26 ?_
    refine lv_bipush (v := 80) hx hb dX3_count_29 (by decide +kernel) ?_
    refine lv_iload_n hx hb dX3_count_31 rfl (lv_at hl 1 rfl) ?_
    refine lv_iadd hx hb dX3_count_32 ?_
    refine gN S hK hH (n := 40 * (1 + 1) + k) (x := er (rt r9)) (nI_ofadd rfl) (by have := lt_k; omega) ((enc_sd (by decide) lt_k).trans (congrArg er g1)) dX3_count_33 ?_
    refine cV S (ihr n (some k) hlt2.2 gr okr) (cwV 1 hts gX3_count_X3_count rfl rfl rfl (by decide +kernel) ⟨(by show n + 1 ≤ n + 1; omega), (by show 8 + (2 + 11) + 40 * n ≤ 40 * (n + 1); omega)⟩) hK hH (Hp_recv hK hH (gmo hH (j := 3) (by simp)).1 (gmo hH (j := 3) (by simp)).2.1 rfl) hS rfl hl.1 rfl (Nat.le_of_ble_eq_true rfl) dX3_count_34 ⟨Nat.le_of_ble_eq_true rfl, Nat.le_of_ble_eq_true rfl⟩ (fun v Z1 H locs hpost hH hS => ?_)
    obtain ⟨rfl, rfl⟩ := hpost
    refine lv_iadd hx hb dX3_count_37 ?_
    exact eI S hr hlocks hH hS ⟨by show some (Value.int (nI 1 + nI _ + nI _)) = _; rw [nI_add, nI_add, tids_branch, List.length_append, List.length_cons]; exact congrArg (fun z => some (Value.int (nI z))) (by omega), rfl⟩ dX3_count_38

set_option maxRecDepth 100000 in
set_option maxHeartbeats 4000000 in
theorem c_X3_high  : ∀ (t : Tr) (n : Nat) (par : Option Nat) , hgt t < n → rep Q par t → (∀ a ∈ tids t, a < 40) → hgt t < 2 ^ 31 → Md l yX3_high wsX3_high (rmL n 0 0) D lo Γ [.ref (gxa Γ 3), .int (er (rt t))] (C, (th, mn, tm, kt, Q, zs, be, kp), V) (some (.int (nI (hgt t)))) (C, (th, mn, tm, kt, Q, zs, be, kp), V) := by
  intro t
  induction t with
  | leaf u =>
    intro n par  hlt h2 h40 hn9
    obtain ⟨n, rfl⟩ : ∃ k, n = k + 1 := ⟨n - 1, by omega⟩
    refine Mz_of (cc := cX3_high) (maxL := 2) (ret := (some .int)) (by decide) rfl (Nat.le_of_ble_eq_true rfl) ?_
    intro p e s m args below meth c ls S hr hlocks hK hH hS hl
    have hx := S.1
    have hb := S.2.1
    have hts := S.2.2.2.2
    have f9 : (Cond.fieldLink RX3 9 (TX3 3).1 (TX3 3).2.1 (TX3 3).2.2.1).before args s = true := hts _ (List.mem_of_getElem? (i := 1) rfl)
    have hi3 : ∀ w ∈ wsX30, w ∈ wsX3_high := by decide +kernel
    have hl : lv_has ls 2 [(0, .ref (gxa Γ 3)), (1, .int (-1))] := hl
    refine lv_iload_n hx hb dX3_high_0 rfl (lv_at hl 1 rfl) ?_
    refine lv_iconst (v := -1) hx hb dX3_high_1 (by decide) ?_
    refine lv_icmp_ne (tgt := 9) hx hb dX3_high_2 (by decide) (fun h1 => absurd rfl h1) (fun _ => ?_)
    refine lv_iconst (v := 0) hx hb dX3_high_5 (by decide) ?_
    refine lv_goto (tgt := 40) hx hb dX3_high_6 (by decide) ?_
    exact eI S hr hlocks hH hS ⟨rfl, rfl⟩ dX3_high_40
  | branch k lt9 r9 ihl ihr =>
    intro n par  hlt h2 h40 hn9
    obtain ⟨n, rfl⟩ : ∃ k, n = k + 1 := ⟨n - 1, by omega⟩
    obtain ⟨g2, g0, g1, gl, gr⟩ := h2
    have lt_k : k < 40 := h40 k (by simp [tids])
    have okl : ∀ a ∈ tids lt9, a < 40 := fun a ha => h40 a (by simp [tids, ha])
    have okr : ∀ a ∈ tids r9, a < 40 := fun a ha => h40 a (by simp [tids, ha])
    have hlt2 : hgt lt9 < n ∧ hgt r9 < n := by rw [hgt] at hlt; omega
    refine Mz_of (cc := cX3_high) (maxL := 2) (ret := (some .int)) (by decide) rfl (Nat.le_of_ble_eq_true rfl) ?_
    intro p e s m args below meth c ls S hr hlocks hK hH hS hl
    have hx := S.1
    have hb := S.2.1
    have hts := S.2.2.2.2
    have f9 : (Cond.fieldLink RX3 9 (TX3 3).1 (TX3 3).2.1 (TX3 3).2.2.1).before args s = true := hts _ (List.mem_of_getElem? (i := 1) rfl)
    have hi3 : ∀ w ∈ wsX30, w ∈ wsX3_high := by decide +kernel
    have hl : lv_has ls 2 [(0, .ref (gxa Γ 3)), (1, .int (nI k))] := hl
    have w1 : (Cond.methodLink RX3 56 Lib.Math.max.name).before args s = true := hts _ (List.mem_of_getElem? (i := 2) rfl)
    have w2 : (Cond.static Lib.Math.max.name).before args s = true := hts _ (List.mem_of_getElem? (i := 3) rfl)
    have w3 : (Cond.initialized "java/lang/Math").before args s = true := hts _ (List.mem_of_getElem? (i := 4) rfl)
    have w4 : (Cond.code Lib.Math.max.name Lib.Math.max.code 2 (some .int)).before args s = true := hts _ (List.mem_of_getElem? (i := 5) rfl)
    have hgb : hgt lt9 < 2 ^ 31 ∧ hgt r9 < 2 ^ 31 := by rw [hgt] at hn9; omega
    refine lv_iload_n hx hb dX3_high_0 rfl (lv_at hl 1 rfl) ?_
    refine lv_iconst (v := -1) hx hb dX3_high_1 (by decide) ?_
    refine lv_icmp_ne (tgt := 9) hx hb dX3_high_2 (by decide) (fun _ => ?_) (fun h1 => absurd h1 (nI_nm1 (Nat.lt_trans lt_k (by decide))))
    refine lv_iconst (v := 1) hx hb dX3_high_9 (by decide) ?_
    refine lv_aload_n hx hb dX3_high_10 rfl (lv_at hl 0 rfl) ?_
    refine lv_aload_n hx hb dX3_high_11 rfl (lv_at hl 0 rfl) ?_
    refine gM S hi3 hK hH 3 (by decide) f9 (v := .ref (gna Γ)) rfl dX3_high_12 ?_
    refine lv_bipush (v := 40) hx hb dX3_high_15 (by decide +kernel) ?_
    refine lv_iload_n hx hb dX3_high_17 rfl (lv_at hl 1 rfl) ?_
    refine lv_iadd hx hb dX3_high_18 ?_
    refine gN S hK hH (n := 40 * (0 + 1) + k) (x := er (rt lt9)) (nI_ofadd rfl) (by have := lt_k; omega) ((enc_sd (by decide) lt_k).trans (congrArg er g0)) dX3_high_19 ?_
    refine cV S (ihl n (some k) hlt2.1 gl okl (by omega)) (cwV 1 hts gX3_high_X3_high rfl rfl rfl (by decide +kernel) ⟨(by show n + 1 ≤ n + 1; omega), (by show 8 + (2 + 11) + 40 * n ≤ 40 * (n + 1); omega)⟩) hK hH (Hp_recv hK hH (gmo hH (j := 3) (by simp)).1 (gmo hH (j := 3) (by simp)).2.1 rfl) hS rfl hl.1 rfl (Nat.le_of_ble_eq_true rfl) dX3_high_20 ⟨Nat.le_of_ble_eq_true rfl, Nat.le_of_ble_eq_true rfl⟩ (fun v Z1 H locs hpost hH hS => ?_)
    obtain ⟨rfl, rfl⟩ := hpost
    refine lv_aload_n hx hb dX3_high_23 rfl (lv_at hl 0 rfl) ?_
    refine lv_aload_n hx hb dX3_high_24 rfl (lv_at hl 0 rfl) ?_
    refine gM S hi3 hK hH 3 (by decide) f9 (v := .ref (gna Γ)) rfl dX3_high_25 ?_
    refine lv_bipush (v := 80) hx hb dX3_high_28 (by decide +kernel) ?_
    refine lv_iload_n hx hb dX3_high_30 rfl (lv_at hl 1 rfl) ?_
    refine lv_iadd hx hb dX3_high_31 ?_
    refine gN S hK hH (n := 40 * (1 + 1) + k) (x := er (rt r9)) (nI_ofadd rfl) (by have := lt_k; omega) ((enc_sd (by decide) lt_k).trans (congrArg er g1)) dX3_high_32 ?_
    refine cV S (ihr n (some k) hlt2.2 gr okr (by omega)) (cwV 1 hts gX3_high_X3_high rfl rfl rfl (by decide +kernel) ⟨(by show n + 1 ≤ n + 1; omega), (by show 8 + (2 + 11) + 40 * n ≤ 40 * (n + 1); omega)⟩) hK hH (Hp_recv hK hH (gmo hH (j := 3) (by simp)).1 (gmo hH (j := 3) (by simp)).2.1 rfl) hS rfl hl.1 rfl (Nat.le_of_ble_eq_true rfl) dX3_high_33 ⟨Nat.le_of_ble_eq_true rfl, Nat.le_of_ble_eq_true rfl⟩ (fun v Z1 H locs hpost hH hS => ?_)
    obtain ⟨rfl, rfl⟩ := hpost
    refine va_mmax hx hb (S.2.2.1.trans hl.1.symm) S.2.2.2.1 w1 w2 w3 w4 (Nat.le_add_left 1 n) (by show 1 + 13 ≤ 40 * (n + 1); omega) (Nat.le_refl _) (Nat.le_refl _) dX3_high_36 ?_
    rw [nI_max hgb.1 hgb.2]
    refine lv_iadd hx hb dX3_high_39 ?_
    exact eI S hr hlocks hH hS ⟨by show some (Value.int (nI 1 + nI _)) = _; rw [nI_add, hgt], rfl⟩ dX3_high_40

set_option maxRecDepth 100000 in
set_option maxHeartbeats 4000000 in
theorem c_X3_depthsOf  : ∀ (t : Tr) (n : Nat) (par : Option Nat) (d : Nat), hgt t < n → rep Q par t → (∀ a ∈ tids t, a < 40) → Md l yX3_depthsOf wsX3_depthsOf (rmL n 0 0) D lo Γ [.ref (gxa Γ 3), .int (er (rt t)), .int (nI d)] (C, (th, mn, tm, kt, Q, zs, be, kp), V) (some (.int (nI (dsm t d)))) (C, (th, mn, tm, kt, Q, zs, be, kp), V) := by
  intro t
  induction t with
  | leaf u =>
    intro n par d hlt h2 h40 
    obtain ⟨n, rfl⟩ : ∃ k, n = k + 1 := ⟨n - 1, by omega⟩
    refine Mz_of (cc := cX3_depthsOf) (maxL := 3) (ret := (some .int)) (by decide) rfl (Nat.le_of_ble_eq_true rfl) ?_
    intro p e s m args below meth c ls S hr hlocks hK hH hS hl
    have hx := S.1
    have hb := S.2.1
    have hts := S.2.2.2.2
    have f9 : (Cond.fieldLink RX3 9 (TX3 3).1 (TX3 3).2.1 (TX3 3).2.2.1).before args s = true := hts _ (List.mem_of_getElem? (i := 1) rfl)
    have hi3 : ∀ w ∈ wsX30, w ∈ wsX3_depthsOf := by decide +kernel
    have hl : lv_has ls 3 [(0, .ref (gxa Γ 3)), (1, .int (-1)), (2, .int (nI d))] := hl
    refine lv_iload_n hx hb dX3_depthsOf_0 rfl (lv_at hl 1 rfl) ?_
    refine lv_iconst (v := -1) hx hb dX3_depthsOf_1 (by decide) ?_
    refine lv_icmp_ne (tgt := 9) hx hb dX3_depthsOf_2 (by decide) (fun h1 => absurd rfl h1) (fun _ => ?_)
    refine lv_iconst (v := 0) hx hb dX3_depthsOf_5 (by decide) ?_
    refine lv_goto (tgt := 44) hx hb dX3_depthsOf_6 (by decide) ?_
    exact eI S hr hlocks hH hS ⟨rfl, rfl⟩ dX3_depthsOf_44
  | branch k lt9 r9 ihl ihr =>
    intro n par d hlt h2 h40 
    obtain ⟨n, rfl⟩ : ∃ k, n = k + 1 := ⟨n - 1, by omega⟩
    obtain ⟨g2, g0, g1, gl, gr⟩ := h2
    have lt_k : k < 40 := h40 k (by simp [tids])
    have okl : ∀ a ∈ tids lt9, a < 40 := fun a ha => h40 a (by simp [tids, ha])
    have okr : ∀ a ∈ tids r9, a < 40 := fun a ha => h40 a (by simp [tids, ha])
    have hlt2 : hgt lt9 < n ∧ hgt r9 < n := by rw [hgt] at hlt; omega
    refine Mz_of (cc := cX3_depthsOf) (maxL := 3) (ret := (some .int)) (by decide) rfl (Nat.le_of_ble_eq_true rfl) ?_
    intro p e s m args below meth c ls S hr hlocks hK hH hS hl
    have hx := S.1
    have hb := S.2.1
    have hts := S.2.2.2.2
    have f9 : (Cond.fieldLink RX3 9 (TX3 3).1 (TX3 3).2.1 (TX3 3).2.2.1).before args s = true := hts _ (List.mem_of_getElem? (i := 1) rfl)
    have hi3 : ∀ w ∈ wsX30, w ∈ wsX3_depthsOf := by decide +kernel
    have hl : lv_has ls 3 [(0, .ref (gxa Γ 3)), (1, .int (nI k)), (2, .int (nI d))] := hl
    refine lv_iload_n hx hb dX3_depthsOf_0 rfl (lv_at hl 1 rfl) ?_
    refine lv_iconst (v := -1) hx hb dX3_depthsOf_1 (by decide) ?_
    refine lv_icmp_ne (tgt := 9) hx hb dX3_depthsOf_2 (by decide) (fun _ => ?_) (fun h1 => absurd h1 (nI_nm1 (Nat.lt_trans lt_k (by decide))))
    refine lv_iload_n hx hb dX3_depthsOf_9 rfl (lv_at hl 2 rfl) ?_
    refine lv_aload_n hx hb dX3_depthsOf_10 rfl (lv_at hl 0 rfl) ?_
    refine lv_aload_n hx hb dX3_depthsOf_11 rfl (lv_at hl 0 rfl) ?_
    refine gM S hi3 hK hH 3 (by decide) f9 (v := .ref (gna Γ)) rfl dX3_depthsOf_12 ?_
    refine lv_bipush (v := 40) hx hb dX3_depthsOf_15 (by decide +kernel) ?_
    refine lv_iload_n hx hb dX3_depthsOf_17 rfl (lv_at hl 1 rfl) ?_
    refine lv_iadd hx hb dX3_depthsOf_18 ?_
    refine gN S hK hH (n := 40 * (0 + 1) + k) (x := er (rt lt9)) (nI_ofadd rfl) (by have := lt_k; omega) ((enc_sd (by decide) lt_k).trans (congrArg er g0)) dX3_depthsOf_19 ?_
    refine lv_iload_n hx hb dX3_depthsOf_20 rfl (lv_at hl 2 rfl) ?_
    refine lv_iconst (v := 1) hx hb dX3_depthsOf_21 (by decide) ?_
    refine lv_iadd hx hb dX3_depthsOf_22 ?_
    rw [nI_1 d]
    refine cV S (ihl n (some k) (d + 1) hlt2.1 gl okl) (cwV 2 hts gX3_depthsOf_X3_depthsOf rfl rfl rfl (by decide +kernel) ⟨(by show n + 1 ≤ n + 1; omega), (by show 8 + (3 + 11) + 40 * n ≤ 40 * (n + 1); omega)⟩) hK hH (Hp_recv hK hH (gmo hH (j := 3) (by simp)).1 (gmo hH (j := 3) (by simp)).2.1 rfl) hS rfl hl.1 rfl (Nat.le_of_ble_eq_true rfl) dX3_depthsOf_23 ⟨Nat.le_of_ble_eq_true rfl, Nat.le_of_ble_eq_true rfl⟩ (fun v Z1 H locs hpost hH hS => ?_)
    obtain ⟨rfl, rfl⟩ := hpost
    refine lv_iadd hx hb dX3_depthsOf_26 ?_
    refine lv_aload_n hx hb dX3_depthsOf_27 rfl (lv_at hl 0 rfl) ?_
    refine lv_aload_n hx hb dX3_depthsOf_28 rfl (lv_at hl 0 rfl) ?_
    refine gM S hi3 hK hH 3 (by decide) f9 (v := .ref (gna Γ)) rfl dX3_depthsOf_29 ?_
    refine lv_bipush (v := 80) hx hb dX3_depthsOf_32 (by decide +kernel) ?_
    refine lv_iload_n hx hb dX3_depthsOf_34 rfl (lv_at hl 1 rfl) ?_
    refine lv_iadd hx hb dX3_depthsOf_35 ?_
    refine gN S hK hH (n := 40 * (1 + 1) + k) (x := er (rt r9)) (nI_ofadd rfl) (by have := lt_k; omega) ((enc_sd (by decide) lt_k).trans (congrArg er g1)) dX3_depthsOf_36 ?_
    refine lv_iload_n hx hb dX3_depthsOf_37 rfl (lv_at hl 2 rfl) ?_
    refine lv_iconst (v := 1) hx hb dX3_depthsOf_38 (by decide) ?_
    refine lv_iadd hx hb dX3_depthsOf_39 ?_
    rw [nI_1 d]
    refine cV S (ihr n (some k) (d + 1) hlt2.2 gr okr) (cwV 2 hts gX3_depthsOf_X3_depthsOf rfl rfl rfl (by decide +kernel) ⟨(by show n + 1 ≤ n + 1; omega), (by show 8 + (3 + 11) + 40 * n ≤ 40 * (n + 1); omega)⟩) hK hH (Hp_recv hK hH (gmo hH (j := 3) (by simp)).1 (gmo hH (j := 3) (by simp)).2.1 rfl) hS rfl hl.1 rfl (Nat.le_of_ble_eq_true rfl) dX3_depthsOf_40 ⟨Nat.le_of_ble_eq_true rfl, Nat.le_of_ble_eq_true rfl⟩ (fun v Z1 H locs hpost hH hS => ?_)
    obtain ⟨rfl, rfl⟩ := hpost
    refine lv_iadd hx hb dX3_depthsOf_43 ?_
    exact eI S hr hlocks hH hS ⟨by rw [nI_add, nI_add, dsm], rfl⟩ dX3_depthsOf_44

set_option maxRecDepth 100000 in
set_option maxHeartbeats 4000000 in
theorem c_X3_ends  : ∀ (t : Tr) (n : Nat) (par : Option Nat) , hgt t < n → rep Q par t → (∀ a ∈ tids t, a < 40) → Md l yX3_ends wsX3_ends (rmL n 0 0) D lo Γ [.ref (gxa Γ 3), .int (er (rt t))] (C, (th, mn, tm, kt, Q, zs, be, kp), V) (some (.int (nI (lvs t)))) (C, (th, mn, tm, kt, Q, zs, be, kp), V) := by
  intro t
  induction t with
  | leaf u =>
    intro n par  hlt h2 h40 
    obtain ⟨n, rfl⟩ : ∃ k, n = k + 1 := ⟨n - 1, by omega⟩
    refine Mz_of (cc := cX3_ends) (maxL := 2) (ret := (some .int)) (by decide) rfl (Nat.le_of_ble_eq_true rfl) ?_
    intro p e s m args below meth c ls S hr hlocks hK hH hS hl
    have hx := S.1
    have hb := S.2.1
    have hts := S.2.2.2.2
    have f9 : (Cond.fieldLink RX3 9 (TX3 3).1 (TX3 3).2.1 (TX3 3).2.2.1).before args s = true := hts _ (List.mem_of_getElem? (i := 1) rfl)
    have hi3 : ∀ w ∈ wsX30, w ∈ wsX3_ends := by decide +kernel
    have hl : lv_has ls 2 [(0, .ref (gxa Γ 3)), (1, .int (-1))] := hl
    refine lv_iload_n hx hb dX3_ends_0 rfl (lv_at hl 1 rfl) ?_
    refine lv_iconst (v := -1) hx hb dX3_ends_1 (by decide) ?_
    refine lv_icmp_ne (tgt := 7) hx hb dX3_ends_2 (by decide) (fun h1 => absurd rfl h1) (fun _ => ?_)
    refine lv_iconst (v := 0) hx hb dX3_ends_5 (by decide) ?_
    exact eI S hr hlocks hH hS ⟨rfl, rfl⟩ dX3_ends_6
  | branch k lt9 r9 ihl ihr =>
    intro n par  hlt h2 h40 
    obtain ⟨n, rfl⟩ : ∃ k, n = k + 1 := ⟨n - 1, by omega⟩
    obtain ⟨g2, g0, g1, gl, gr⟩ := h2
    have lt_k : k < 40 := h40 k (by simp [tids])
    have okl : ∀ a ∈ tids lt9, a < 40 := fun a ha => h40 a (by simp [tids, ha])
    have okr : ∀ a ∈ tids r9, a < 40 := fun a ha => h40 a (by simp [tids, ha])
    have hlt2 : hgt lt9 < n ∧ hgt r9 < n := by rw [hgt] at hlt; omega
    refine Mz_of (cc := cX3_ends) (maxL := 2) (ret := (some .int)) (by decide) rfl (Nat.le_of_ble_eq_true rfl) ?_
    intro p e s m args below meth c ls S hr hlocks hK hH hS hl
    have hx := S.1
    have hb := S.2.1
    have hts := S.2.2.2.2
    have f9 : (Cond.fieldLink RX3 9 (TX3 3).1 (TX3 3).2.1 (TX3 3).2.2.1).before args s = true := hts _ (List.mem_of_getElem? (i := 1) rfl)
    have hi3 : ∀ w ∈ wsX30, w ∈ wsX3_ends := by decide +kernel
    have hl : lv_has ls 2 [(0, .ref (gxa Γ 3)), (1, .int (nI k))] := hl
    refine lv_iload_n hx hb dX3_ends_0 rfl (lv_at hl 1 rfl) ?_
    refine lv_iconst (v := -1) hx hb dX3_ends_1 (by decide) ?_
    refine lv_icmp_ne (tgt := 7) hx hb dX3_ends_2 (by decide) (fun _ => ?_) (fun h1 => absurd h1 (nI_nm1 (Nat.lt_trans lt_k (by decide))))
    cases hql : lt9 with
    | leaf u =>
      rw [← hql]
      have g00 : Q 0 k = none := by rw [g0, hql]; rfl
      cases hqr : r9 with
      | leaf u2 =>
        rw [← hqr]
        have g11 : Q 1 k = none := by rw [g1, hqr]; rfl
        refine lv_aload_n hx hb dX3_ends_7 rfl (lv_at hl 0 rfl) ?_
        refine gM S hi3 hK hH 3 (by decide) f9 (v := .ref (gna Γ)) rfl dX3_ends_8 ?_
        refine lv_bipush (v := 40) hx hb dX3_ends_11 (by decide +kernel) ?_
        refine lv_iload_n hx hb dX3_ends_13 rfl (lv_at hl 1 rfl) ?_
        refine lv_iadd hx hb dX3_ends_14 ?_
        refine gN S hK hH (n := 40 * (0 + 1) + k) (x := -1) (nI_ofadd rfl) (by have := lt_k; omega) ((enc_sd (by decide) lt_k).trans (congrArg er g00)) dX3_ends_15 ?_
        refine lv_iconst (v := -1) hx hb dX3_ends_16 (by decide) ?_
        refine lv_icmp_ne (tgt := 37) hx hb dX3_ends_17 (by decide) (fun h1 => absurd rfl h1) (fun _ => ?_)
        refine lv_aload_n hx hb dX3_ends_20 rfl (lv_at hl 0 rfl) ?_
        refine gM S hi3 hK hH 3 (by decide) f9 (v := .ref (gna Γ)) rfl dX3_ends_21 ?_
        refine lv_bipush (v := 80) hx hb dX3_ends_24 (by decide +kernel) ?_
        refine lv_iload_n hx hb dX3_ends_26 rfl (lv_at hl 1 rfl) ?_
        refine lv_iadd hx hb dX3_ends_27 ?_
        refine gN S hK hH (n := 40 * (1 + 1) + k) (x := -1) (nI_ofadd rfl) (by have := lt_k; omega) ((enc_sd (by decide) lt_k).trans (congrArg er g11)) dX3_ends_28 ?_
        refine lv_iconst (v := -1) hx hb dX3_ends_29 (by decide) ?_
        refine lv_icmp_ne (tgt := 37) hx hb dX3_ends_30 (by decide) (fun h1 => absurd rfl h1) (fun _ => ?_)
        refine lv_iconst (v := 1) hx hb dX3_ends_33 (by decide) ?_
        refine lv_goto (tgt := 64) hx hb dX3_ends_34 (by decide) ?_
        exact eI S hr hlocks hH hS ⟨by rw [lvs, if_pos (by rw [hql, hqr]; rfl)]; rfl, rfl⟩ dX3_ends_64
      | branch k2 l2 r2 =>
        rw [← hqr]
        have g11 : Q 1 k = some k2 := by rw [g1, hqr]; rfl
        have lt_k2 : k2 < 40 := okr k2 (by rw [hqr]; simp [tids])
        refine lv_aload_n hx hb dX3_ends_7 rfl (lv_at hl 0 rfl) ?_
        refine gM S hi3 hK hH 3 (by decide) f9 (v := .ref (gna Γ)) rfl dX3_ends_8 ?_
        refine lv_bipush (v := 40) hx hb dX3_ends_11 (by decide +kernel) ?_
        refine lv_iload_n hx hb dX3_ends_13 rfl (lv_at hl 1 rfl) ?_
        refine lv_iadd hx hb dX3_ends_14 ?_
        refine gN S hK hH (n := 40 * (0 + 1) + k) (x := -1) (nI_ofadd rfl) (by have := lt_k; omega) ((enc_sd (by decide) lt_k).trans (congrArg er g00)) dX3_ends_15 ?_
        refine lv_iconst (v := -1) hx hb dX3_ends_16 (by decide) ?_
        refine lv_icmp_ne (tgt := 37) hx hb dX3_ends_17 (by decide) (fun h1 => absurd rfl h1) (fun _ => ?_)
        refine lv_aload_n hx hb dX3_ends_20 rfl (lv_at hl 0 rfl) ?_
        refine gM S hi3 hK hH 3 (by decide) f9 (v := .ref (gna Γ)) rfl dX3_ends_21 ?_
        refine lv_bipush (v := 80) hx hb dX3_ends_24 (by decide +kernel) ?_
        refine lv_iload_n hx hb dX3_ends_26 rfl (lv_at hl 1 rfl) ?_
        refine lv_iadd hx hb dX3_ends_27 ?_
        refine gN S hK hH (n := 40 * (1 + 1) + k) (x := nI k2) (nI_ofadd rfl) (by have := lt_k; omega) ((enc_sd (by decide) lt_k).trans (congrArg er g11)) dX3_ends_28 ?_
        refine lv_iconst (v := -1) hx hb dX3_ends_29 (by decide) ?_
        refine lv_icmp_ne (tgt := 37) hx hb dX3_ends_30 (by decide) (fun _ => ?_) (fun h1 => absurd h1 (nI_nm1 (Nat.lt_trans lt_k2 (by decide))))
        refine lv_aload_n hx hb dX3_ends_37 rfl (lv_at hl 0 rfl) ?_
        refine lv_aload_n hx hb dX3_ends_38 rfl (lv_at hl 0 rfl) ?_
        refine gM S hi3 hK hH 3 (by decide) f9 (v := .ref (gna Γ)) rfl dX3_ends_39 ?_
        refine lv_bipush (v := 40) hx hb dX3_ends_42 (by decide +kernel) ?_
        refine lv_iload_n hx hb dX3_ends_44 rfl (lv_at hl 1 rfl) ?_
        refine lv_iadd hx hb dX3_ends_45 ?_
        refine gN S hK hH (n := 40 * (0 + 1) + k) (x := er (rt lt9)) (nI_ofadd rfl) (by have := lt_k; omega) ((enc_sd (by decide) lt_k).trans (congrArg er g0)) dX3_ends_46 ?_
        refine cV S (ihl n (some k) hlt2.1 gl okl) (cwV 1 hts gX3_ends_X3_ends rfl rfl rfl (by decide +kernel) ⟨(by show n + 1 ≤ n + 1; omega), (by show 8 + (2 + 11) + 40 * n ≤ 40 * (n + 1); omega)⟩) hK hH (Hp_recv hK hH (gmo hH (j := 3) (by simp)).1 (gmo hH (j := 3) (by simp)).2.1 rfl) hS rfl hl.1 rfl (Nat.le_of_ble_eq_true rfl) dX3_ends_47 ⟨Nat.le_of_ble_eq_true rfl, Nat.le_of_ble_eq_true rfl⟩ (fun v Z1 H locs hpost hH hS => ?_)
        obtain ⟨rfl, rfl⟩ := hpost
        refine lv_aload_n hx hb dX3_ends_50 rfl (lv_at hl 0 rfl) ?_
        refine lv_aload_n hx hb dX3_ends_51 rfl (lv_at hl 0 rfl) ?_
        refine gM S hi3 hK hH 3 (by decide) f9 (v := .ref (gna Γ)) rfl dX3_ends_52 ?_
        refine lv_bipush (v := 80) hx hb dX3_ends_55 (by decide +kernel) ?_
        refine lv_iload_n hx hb dX3_ends_57 rfl (lv_at hl 1 rfl) ?_
        refine lv_iadd hx hb dX3_ends_58 ?_
        refine gN S hK hH (n := 40 * (1 + 1) + k) (x := er (rt r9)) (nI_ofadd rfl) (by have := lt_k; omega) ((enc_sd (by decide) lt_k).trans (congrArg er g1)) dX3_ends_59 ?_
        refine cV S (ihr n (some k) hlt2.2 gr okr) (cwV 1 hts gX3_ends_X3_ends rfl rfl rfl (by decide +kernel) ⟨(by show n + 1 ≤ n + 1; omega), (by show 8 + (2 + 11) + 40 * n ≤ 40 * (n + 1); omega)⟩) hK hH (Hp_recv hK hH (gmo hH (j := 3) (by simp)).1 (gmo hH (j := 3) (by simp)).2.1 rfl) hS rfl hl.1 rfl (Nat.le_of_ble_eq_true rfl) dX3_ends_60 ⟨Nat.le_of_ble_eq_true rfl, Nat.le_of_ble_eq_true rfl⟩ (fun v Z1 H locs hpost hH hS => ?_)
        obtain ⟨rfl, rfl⟩ := hpost
        refine lv_iadd hx hb dX3_ends_63 ?_
        exact eI S hr hlocks hH hS ⟨by rw [nI_add, lvs, if_neg (by rw [hqr]; simp [isE])], rfl⟩ dX3_ends_64
    | branch k2 l2 r2 =>
      rw [← hql]
      have g00 : Q 0 k = some k2 := by rw [g0, hql]; rfl
      have lt_k2 : k2 < 40 := okl k2 (by rw [hql]; simp [tids])
      refine lv_aload_n hx hb dX3_ends_7 rfl (lv_at hl 0 rfl) ?_
      refine gM S hi3 hK hH 3 (by decide) f9 (v := .ref (gna Γ)) rfl dX3_ends_8 ?_
      refine lv_bipush (v := 40) hx hb dX3_ends_11 (by decide +kernel) ?_
      refine lv_iload_n hx hb dX3_ends_13 rfl (lv_at hl 1 rfl) ?_
      refine lv_iadd hx hb dX3_ends_14 ?_
      refine gN S hK hH (n := 40 * (0 + 1) + k) (x := nI k2) (nI_ofadd rfl) (by have := lt_k; omega) ((enc_sd (by decide) lt_k).trans (congrArg er g00)) dX3_ends_15 ?_
      refine lv_iconst (v := -1) hx hb dX3_ends_16 (by decide) ?_
      refine lv_icmp_ne (tgt := 37) hx hb dX3_ends_17 (by decide) (fun _ => ?_) (fun h1 => absurd h1 (nI_nm1 (Nat.lt_trans lt_k2 (by decide))))
      refine lv_aload_n hx hb dX3_ends_37 rfl (lv_at hl 0 rfl) ?_
      refine lv_aload_n hx hb dX3_ends_38 rfl (lv_at hl 0 rfl) ?_
      refine gM S hi3 hK hH 3 (by decide) f9 (v := .ref (gna Γ)) rfl dX3_ends_39 ?_
      refine lv_bipush (v := 40) hx hb dX3_ends_42 (by decide +kernel) ?_
      refine lv_iload_n hx hb dX3_ends_44 rfl (lv_at hl 1 rfl) ?_
      refine lv_iadd hx hb dX3_ends_45 ?_
      refine gN S hK hH (n := 40 * (0 + 1) + k) (x := er (rt lt9)) (nI_ofadd rfl) (by have := lt_k; omega) ((enc_sd (by decide) lt_k).trans (congrArg er g0)) dX3_ends_46 ?_
      refine cV S (ihl n (some k) hlt2.1 gl okl) (cwV 1 hts gX3_ends_X3_ends rfl rfl rfl (by decide +kernel) ⟨(by show n + 1 ≤ n + 1; omega), (by show 8 + (2 + 11) + 40 * n ≤ 40 * (n + 1); omega)⟩) hK hH (Hp_recv hK hH (gmo hH (j := 3) (by simp)).1 (gmo hH (j := 3) (by simp)).2.1 rfl) hS rfl hl.1 rfl (Nat.le_of_ble_eq_true rfl) dX3_ends_47 ⟨Nat.le_of_ble_eq_true rfl, Nat.le_of_ble_eq_true rfl⟩ (fun v Z1 H locs hpost hH hS => ?_)
      obtain ⟨rfl, rfl⟩ := hpost
      refine lv_aload_n hx hb dX3_ends_50 rfl (lv_at hl 0 rfl) ?_
      refine lv_aload_n hx hb dX3_ends_51 rfl (lv_at hl 0 rfl) ?_
      refine gM S hi3 hK hH 3 (by decide) f9 (v := .ref (gna Γ)) rfl dX3_ends_52 ?_
      refine lv_bipush (v := 80) hx hb dX3_ends_55 (by decide +kernel) ?_
      refine lv_iload_n hx hb dX3_ends_57 rfl (lv_at hl 1 rfl) ?_
      refine lv_iadd hx hb dX3_ends_58 ?_
      refine gN S hK hH (n := 40 * (1 + 1) + k) (x := er (rt r9)) (nI_ofadd rfl) (by have := lt_k; omega) ((enc_sd (by decide) lt_k).trans (congrArg er g1)) dX3_ends_59 ?_
      refine cV S (ihr n (some k) hlt2.2 gr okr) (cwV 1 hts gX3_ends_X3_ends rfl rfl rfl (by decide +kernel) ⟨(by show n + 1 ≤ n + 1; omega), (by show 8 + (2 + 11) + 40 * n ≤ 40 * (n + 1); omega)⟩) hK hH (Hp_recv hK hH (gmo hH (j := 3) (by simp)).1 (gmo hH (j := 3) (by simp)).2.1 rfl) hS rfl hl.1 rfl (Nat.le_of_ble_eq_true rfl) dX3_ends_60 ⟨Nat.le_of_ble_eq_true rfl, Nat.le_of_ble_eq_true rfl⟩ (fun v Z1 H locs hpost hH hS => ?_)
      obtain ⟨rfl, rfl⟩ := hpost
      refine lv_iadd hx hb dX3_ends_63 ?_
      exact eI S hr hlocks hH hS ⟨by rw [nI_add, lvs, if_neg (by rw [hql]; simp [isE])], rfl⟩ dX3_ends_64

set_option maxRecDepth 100000 in
set_option maxHeartbeats 4000000 in
theorem c_X3_under {x : Int32} : ∀ (t : Tr) (n : Nat) (par : Option Nat) , hgt t + 1 < n → rep Q par t → (∀ a ∈ tids t, a < 40) → (∀ a ∈ tids t, zs a = some (zn zs a) ∧ zn zs a < 1000) → srt (zn zs) t → Md l yX3_under wsX3_under (rmL n 0 0) D lo Γ [.ref (gxa Γ 3), .int (er (rt t)), .int x] (C, (th, mn, tm, kt, Q, zs, be, kp), V) (some (.int (nI (blw (zn zs) x.toInt t).length))) (C, (th, mn, tm, kt, Q, zs, be, kp), V) := by
  intro t
  induction t with
  | leaf u =>
    intro n par  hlt h2 h40 hzz hs
    obtain ⟨n, rfl⟩ : ∃ k, n = k + 1 := ⟨n - 1, by omega⟩
    refine Mz_of (cc := cX3_under) (maxL := 3) (ret := (some .int)) (by decide) rfl (Nat.le_of_ble_eq_true rfl) ?_
    intro p e s m args below meth c ls S hr hlocks hK hH hS hl
    have hx := S.1
    have hb := S.2.1
    have hts := S.2.2.2.2
    have f9 : (Cond.fieldLink RX3 9 (TX3 3).1 (TX3 3).2.1 (TX3 3).2.2.1).before args s = true := hts _ (List.mem_of_getElem? (i := 1) rfl)
    have hi3 : ∀ w ∈ wsX30, w ∈ wsX3_under := by decide +kernel
    have hl : lv_has ls 3 [(0, .ref (gxa Γ 3)), (1, .int (-1)), (2, .int x)] := hl
    refine lv_iload_n hx hb dX3_under_0 rfl (lv_at hl 1 rfl) ?_
    refine lv_iconst (v := -1) hx hb dX3_under_1 (by decide) ?_
    refine lv_icmp_ne (tgt := 7) hx hb dX3_under_2 (by decide) (fun h1 => absurd rfl h1) (fun _ => ?_)
    refine lv_iconst (v := 0) hx hb dX3_under_5 (by decide) ?_
    exact eI S hr hlocks hH hS ⟨rfl, rfl⟩ dX3_under_6
  | branch k lt9 r9 ihl ihr =>
    intro n par  hlt h2 h40 hzz hs
    obtain ⟨n, rfl⟩ : ∃ k, n = k + 1 := ⟨n - 1, by omega⟩
    obtain ⟨g2, g0, g1, gl, gr⟩ := h2
    have lt_k : k < 40 := h40 k (by simp [tids])
    have okl : ∀ a ∈ tids lt9, a < 40 := fun a ha => h40 a (by simp [tids, ha])
    have okr : ∀ a ∈ tids r9, a < 40 := fun a ha => h40 a (by simp [tids, ha])
    have hlt2 : hgt lt9 + 1 < n ∧ hgt r9 + 1 < n := by rw [hgt] at hlt; omega
    refine Mz_of (cc := cX3_under) (maxL := 3) (ret := (some .int)) (by decide) rfl (Nat.le_of_ble_eq_true rfl) ?_
    intro p e s m args below meth c ls S hr hlocks hK hH hS hl
    have hx := S.1
    have hb := S.2.1
    have hts := S.2.2.2.2
    have f9 : (Cond.fieldLink RX3 9 (TX3 3).1 (TX3 3).2.1 (TX3 3).2.2.1).before args s = true := hts _ (List.mem_of_getElem? (i := 1) rfl)
    have hi3 : ∀ w ∈ wsX30, w ∈ wsX3_under := by decide +kernel
    have hl : lv_has ls 3 [(0, .ref (gxa Γ 3)), (1, .int (nI k)), (2, .int x)] := hl
    obtain ⟨hzk, hz1⟩ := hzz k (by simp [tids])
    have hz9 : (nI (zn zs k)).toInt = (zn zs k : Int) := nI_toInt (by omega)
    have hb9 := blw_branch (z := x.toInt) hs
    obtain ⟨sl, sr, -, -⟩ := srt_l hs
    refine lv_iload_n hx hb dX3_under_0 rfl (lv_at hl 1 rfl) ?_
    refine lv_iconst (v := -1) hx hb dX3_under_1 (by decide) ?_
    refine lv_icmp_ne (tgt := 7) hx hb dX3_under_2 (by decide) (fun _ => ?_) (fun h1 => absurd h1 (nI_nm1 (Nat.lt_trans lt_k (by decide))))
    refine lv_aload_n hx hb dX3_under_7 rfl (lv_at hl 0 rfl) ?_
    refine gM S hi3 hK hH 3 (by decide) f9 (v := .ref (gna Γ)) rfl dX3_under_8 ?_
    refine lv_iconst (v := 0) hx hb dX3_under_11 (by decide) ?_
    refine lv_iload_n hx hb dX3_under_12 rfl (lv_at hl 1 rfl) ?_
    refine lv_iadd hx hb dX3_under_13 ?_
    refine gN S hK hH (n := k) (x := nI (zn zs k)) ((nI_ofadd (a := 0) rfl).trans (by rw [Nat.zero_add])) (Nat.lt_trans lt_k (by decide)) ((enc_sz lt_k).trans (congrArg er hzk)) dX3_under_14 ?_
    refine lv_iload_n hx hb dX3_under_15 rfl (lv_at hl 2 rfl) ?_
    refine lv_icmp_ge (tgt := 52) hx hb dX3_under_16 (by decide) (fun h1 => ?_) (fun h1 => ?_)
    · skip
      rw [if_neg (by have := Int32.le_iff_toInt_le.mp h1; omega)] at hb9
      refine lv_aload_n hx hb dX3_under_52 rfl (lv_at hl 0 rfl) ?_
      refine lv_aload_n hx hb dX3_under_53 rfl (lv_at hl 0 rfl) ?_
      refine gM S hi3 hK hH 3 (by decide) f9 (v := .ref (gna Γ)) rfl dX3_under_54 ?_
      refine lv_bipush (v := 40) hx hb dX3_under_57 (by decide +kernel) ?_
      refine lv_iload_n hx hb dX3_under_59 rfl (lv_at hl 1 rfl) ?_
      refine lv_iadd hx hb dX3_under_60 ?_
      refine gN S hK hH (n := 40 * (0 + 1) + k) (x := er (rt lt9)) (nI_ofadd rfl) (by have := lt_k; omega) ((enc_sd (by decide) lt_k).trans (congrArg er g0)) dX3_under_61 ?_
      refine lv_iload_n hx hb dX3_under_62 rfl (lv_at hl 2 rfl) ?_
      refine cV S (ihl n (some k) (by omega) gl okl (fun a ha => hzz a (by simp [tids, ha])) sl) (cwV 2 hts gX3_under_X3_under rfl rfl rfl (by decide +kernel) ⟨(by show n + 1 ≤ n + 1; omega), (by show 8 + (3 + 11) + 40 * n ≤ 40 * (n + 1); omega)⟩) hK hH (Hp_recv hK hH (gmo hH (j := 3) (by simp)).1 (gmo hH (j := 3) (by simp)).2.1 rfl) hS rfl hl.1 rfl (Nat.le_of_ble_eq_true rfl) dX3_under_63 ⟨Nat.le_of_ble_eq_true rfl, Nat.le_of_ble_eq_true rfl⟩ (fun v Z1 H locs hpost hH hS => ?_)
      obtain ⟨rfl, rfl⟩ := hpost
      exact eI S hr hlocks hH hS ⟨by rw [hb9], rfl⟩ dX3_under_66
    · skip
      rw [if_pos (by have := mt Int32.le_iff_toInt_le.mpr h1; omega)] at hb9
      refine lv_iconst (v := 1) hx hb dX3_under_19 (by decide) ?_
      refine lv_aload_n hx hb dX3_under_20 rfl (lv_at hl 0 rfl) ?_
      refine lv_aload_n hx hb dX3_under_21 rfl (lv_at hl 0 rfl) ?_
      refine gM S hi3 hK hH 3 (by decide) f9 (v := .ref (gna Γ)) rfl dX3_under_22 ?_
      refine lv_bipush (v := 40) hx hb dX3_under_25 (by decide +kernel) ?_
      refine lv_iload_n hx hb dX3_under_27 rfl (lv_at hl 1 rfl) ?_
      refine lv_iadd hx hb dX3_under_28 ?_
      refine gN S hK hH (n := 40 * (0 + 1) + k) (x := er (rt lt9)) (nI_ofadd rfl) (by have := lt_k; omega) ((enc_sd (by decide) lt_k).trans (congrArg er g0)) dX3_under_29 ?_
      refine cV S (c_X3_count (l := l) (D := D) (lo := lo) (Γ := Γ) (C := C) (V := V) (th := th) (mn := mn) (tm := tm) (kt := kt) (Q := Q) (zs := zs) (be := be) (kp := kp) lt9 n (some k) (by omega) gl okl) (cwV 1 hts gX3_under_X3_count rfl rfl rfl (by decide +kernel) ⟨(by show n + 1 ≤ n + 1; omega), (by show 8 + (2 + 11) + 40 * n ≤ 40 * (n + 1); omega)⟩) hK hH (Hp_recv hK hH (gmo hH (j := 3) (by simp)).1 (gmo hH (j := 3) (by simp)).2.1 rfl) hS rfl hl.1 rfl (Nat.le_of_ble_eq_true rfl) dX3_under_30 ⟨Nat.le_of_ble_eq_true rfl, Nat.le_of_ble_eq_true rfl⟩ (fun v Z1 H locs hpost hH hS => ?_)
      obtain ⟨rfl, rfl⟩ := hpost
      refine lv_iadd hx hb dX3_under_33 ?_
      refine lv_aload_n hx hb dX3_under_34 rfl (lv_at hl 0 rfl) ?_
      refine lv_aload_n hx hb dX3_under_35 rfl (lv_at hl 0 rfl) ?_
      refine gM S hi3 hK hH 3 (by decide) f9 (v := .ref (gna Γ)) rfl dX3_under_36 ?_
      refine lv_bipush (v := 80) hx hb dX3_under_39 (by decide +kernel) ?_
      refine lv_iload_n hx hb dX3_under_41 rfl (lv_at hl 1 rfl) ?_
      refine lv_iadd hx hb dX3_under_42 ?_
      refine gN S hK hH (n := 40 * (1 + 1) + k) (x := er (rt r9)) (nI_ofadd rfl) (by have := lt_k; omega) ((enc_sd (by decide) lt_k).trans (congrArg er g1)) dX3_under_43 ?_
      refine lv_iload_n hx hb dX3_under_44 rfl (lv_at hl 2 rfl) ?_
      refine cV S (ihr n (some k) (by omega) gr okr (fun a ha => hzz a (by simp [tids, ha])) sr) (cwV 2 hts gX3_under_X3_under rfl rfl rfl (by decide +kernel) ⟨(by show n + 1 ≤ n + 1; omega), (by show 8 + (3 + 11) + 40 * n ≤ 40 * (n + 1); omega)⟩) hK hH (Hp_recv hK hH (gmo hH (j := 3) (by simp)).1 (gmo hH (j := 3) (by simp)).2.1 rfl) hS rfl hl.1 rfl (Nat.le_of_ble_eq_true rfl) dX3_under_45 ⟨Nat.le_of_ble_eq_true rfl, Nat.le_of_ble_eq_true rfl⟩ (fun v Z1 H locs hpost hH hS => ?_)
      obtain ⟨rfl, rfl⟩ := hpost
      refine lv_iadd hx hb dX3_under_48 ?_
      refine lv_goto (tgt := 66) hx hb dX3_under_49 (by decide) ?_
      exact eI S hr hlocks hH hS ⟨by show some (Value.int (nI 1 + nI _ + nI _)) = _; rw [nI_add, nI_add, hb9, List.length_append, List.length_cons]; exact congrArg (fun z => some (Value.int (nI z))) (by omega), rfl⟩ dX3_under_66

set_option maxRecDepth 100000 in
set_option maxHeartbeats 4000000 in
theorem c_X3_nth  : ∀ (t : Tr) (n : Nat) (par : Option Nat) (i b : Nat), hgt t + 1 < n → rep Q par t → (∀ a ∈ tids t, a < 40) → (tids t).length < 1000 → (tids t)[i]? = some b → Md l yX3_nth wsX3_nth (rmL n 0 0) D lo Γ [.ref (gxa Γ 3), .int (er (rt t)), .int (nI i)] (C, (th, mn, tm, kt, Q, zs, be, kp), V) (some (.int (nI b))) (C, (th, mn, tm, kt, Q, zs, be, kp), V) := by
  intro t
  induction t with
  | leaf u =>
    intro n par i b hlt h2 h40 hl9 hi
    cases hi
  | branch k lt9 r9 ihl ihr =>
    intro n par i b hlt h2 h40 hl9 hi
    obtain ⟨n, rfl⟩ : ∃ k, n = k + 1 := ⟨n - 1, by omega⟩
    obtain ⟨g2, g0, g1, gl, gr⟩ := h2
    have lt_k : k < 40 := h40 k (by simp [tids])
    have okl : ∀ a ∈ tids lt9, a < 40 := fun a ha => h40 a (by simp [tids, ha])
    have okr : ∀ a ∈ tids r9, a < 40 := fun a ha => h40 a (by simp [tids, ha])
    have hlt2 : hgt lt9 + 1 < n ∧ hgt r9 + 1 < n := by rw [hgt] at hlt; omega
    refine Mz_of (cc := cX3_nth) (maxL := 4) (ret := (some .int)) (by decide) rfl (Nat.le_of_ble_eq_true rfl) ?_
    intro p e s m args below meth c ls S hr hlocks hK hH hS hl
    have hx := S.1
    have hb := S.2.1
    have hts := S.2.2.2.2
    have f9 : (Cond.fieldLink RX3 9 (TX3 3).1 (TX3 3).2.1 (TX3 3).2.2.1).before args s = true := hts _ (List.mem_of_getElem? (i := 1) rfl)
    have hi3 : ∀ w ∈ wsX30, w ∈ wsX3_nth := by decide +kernel
    have hl : lv_has ls 4 [(0, .ref (gxa Γ 3)), (1, .int (nI k)), (2, .int (nI i))] := hl
    rw [tids_branch] at hi hl9
    have hlen := hl9
    simp only [List.length_append, List.length_cons] at hlen
    have hi9 : i < 1000 := by obtain ⟨h, -⟩ := List.getElem?_eq_some_iff.mp hi; omega
    refine lv_aload_n hx hb dX3_nth_0 rfl (lv_at hl 0 rfl) ?_
    refine lv_aload_n hx hb dX3_nth_1 rfl (lv_at hl 0 rfl) ?_
    refine gM S hi3 hK hH 3 (by decide) f9 (v := .ref (gna Γ)) rfl dX3_nth_2 ?_
    refine lv_bipush (v := 40) hx hb dX3_nth_5 (by decide +kernel) ?_
    refine lv_iload_n hx hb dX3_nth_7 rfl (lv_at hl 1 rfl) ?_
    refine lv_iadd hx hb dX3_nth_8 ?_
    refine gN S hK hH (n := 40 * (0 + 1) + k) (x := er (rt lt9)) (nI_ofadd rfl) (by have := lt_k; omega) ((enc_sd (by decide) lt_k).trans (congrArg er g0)) dX3_nth_9 ?_
    refine cV S (c_X3_count (l := l) (D := D) (lo := lo) (Γ := Γ) (C := C) (V := V) (th := th) (mn := mn) (tm := tm) (kt := kt) (Q := Q) (zs := zs) (be := be) (kp := kp) lt9 n (some k) (by omega) gl okl) (cwV 1 hts gX3_nth_X3_count rfl rfl rfl (by decide +kernel) ⟨(by show n + 1 ≤ n + 1; omega), (by show 8 + (2 + 11) + 40 * n ≤ 40 * (n + 1); omega)⟩) hK hH (Hp_recv hK hH (gmo hH (j := 3) (by simp)).1 (gmo hH (j := 3) (by simp)).2.1 rfl) hS rfl hl.1 rfl (Nat.le_of_ble_eq_true rfl) dX3_nth_10 ⟨Nat.le_of_ble_eq_true rfl, Nat.le_of_ble_eq_true rfl⟩ (fun v Z1 H locs hpost hH hS => ?_)
    obtain ⟨rfl, rfl⟩ := hpost
    refine lv_istore_n (lv' := [(3, .int (nI (tids lt9).length)), (0, .ref (gxa Γ 3)), (1, .int (nI k)), (2, .int (nI i))]) hx hb dX3_nth_13 rfl hl (by decide) rfl (fun ls hl => ?_)
    refine lv_iload_n hx hb dX3_nth_14 rfl (lv_at hl 3 rfl) ?_
    refine lv_iload_n hx hb dX3_nth_15 rfl (lv_at hl 0 rfl) ?_
    refine lv_icmp_ne (tgt := 21) hx hb dX3_nth_16 (by decide) (fun h1 => ?_) (fun h1 => ?_)
    · skip
      have hne : i ≠ (tids lt9).length := fun e => h1 (by rw [e])
      refine lv_iload_n hx hb dX3_nth_21 rfl (lv_at hl 3 rfl) ?_
      refine lv_iload_n hx hb dX3_nth_22 rfl (lv_at hl 0 rfl) ?_
      refine lv_icmp_ge (tgt := 43) hx hb dX3_nth_23 (by decide) (fun h2 => ?_) (fun h2 => ?_)
      · skip
        have hge := (nI_leI (by omega) (by omega)).mp h2
        rw [List.getElem?_append_right (by omega)] at hi
        have hi2 : (tids r9)[i - (tids lt9).length - 1]? = some b := by rw [← hi, show i - (tids lt9).length = (i - (tids lt9).length - 1) + 1 by omega, List.getElem?_cons_succ]; congr 1
        have e9 : nI i - nI (tids lt9).length - 1 = nI (i - (tids lt9).length - 1) := by show nI i - nI _ - nI 1 = _; rw [nI_sb (by omega), nI_sb (by omega)]
        refine lv_aload_n hx hb dX3_nth_43 rfl (lv_at hl 1 rfl) ?_
        refine lv_aload_n hx hb dX3_nth_44 rfl (lv_at hl 1 rfl) ?_
        refine gM S hi3 hK hH 3 (by decide) f9 (v := .ref (gna Γ)) rfl dX3_nth_45 ?_
        refine lv_bipush (v := 80) hx hb dX3_nth_48 (by decide +kernel) ?_
        refine lv_iload_n hx hb dX3_nth_50 rfl (lv_at hl 2 rfl) ?_
        refine lv_iadd hx hb dX3_nth_51 ?_
        refine gN S hK hH (n := 40 * (1 + 1) + k) (x := er (rt r9)) (nI_ofadd rfl) (by have := lt_k; omega) ((enc_sd (by decide) lt_k).trans (congrArg er g1)) dX3_nth_52 ?_
        refine lv_iload_n hx hb dX3_nth_53 rfl (lv_at hl 3 rfl) ?_
        refine lv_iload_n hx hb dX3_nth_54 rfl (lv_at hl 0 rfl) ?_
        refine lv_isub hx hb dX3_nth_55 ?_
        refine lv_iconst (v := 1) hx hb dX3_nth_56 (by decide) ?_
        refine lv_isub hx hb dX3_nth_57 ?_
        rw [e9]
        refine cV S (ihr n (some k) _ b (by omega) gr okr (by omega) hi2) (cwV 2 hts gX3_nth_X3_nth rfl rfl rfl (by decide +kernel) ⟨(by show n + 1 ≤ n + 1; omega), (by show 8 + (4 + 11) + 40 * n ≤ 40 * (n + 1); omega)⟩) hK hH (Hp_recv hK hH (gmo hH (j := 3) (by simp)).1 (gmo hH (j := 3) (by simp)).2.1 rfl) hS rfl hl.1 rfl (Nat.le_of_ble_eq_true rfl) dX3_nth_58 ⟨Nat.le_of_ble_eq_true rfl, Nat.le_of_ble_eq_true rfl⟩ (fun v Z1 H locs hpost hH hS => ?_)
        obtain ⟨rfl, rfl⟩ := hpost
        exact eI S hr hlocks hH hS ⟨rfl, rfl⟩ dX3_nth_61
      · skip
        have hlt9 := mt (nI_leI (a := (tids lt9).length) (b := i) (by omega) (by omega)).mpr h2
        rw [List.getElem?_append_left (by omega)] at hi
        refine lv_aload_n hx hb dX3_nth_26 rfl (lv_at hl 1 rfl) ?_
        refine lv_aload_n hx hb dX3_nth_27 rfl (lv_at hl 1 rfl) ?_
        refine gM S hi3 hK hH 3 (by decide) f9 (v := .ref (gna Γ)) rfl dX3_nth_28 ?_
        refine lv_bipush (v := 40) hx hb dX3_nth_31 (by decide +kernel) ?_
        refine lv_iload_n hx hb dX3_nth_33 rfl (lv_at hl 2 rfl) ?_
        refine lv_iadd hx hb dX3_nth_34 ?_
        refine gN S hK hH (n := 40 * (0 + 1) + k) (x := er (rt lt9)) (nI_ofadd rfl) (by have := lt_k; omega) ((enc_sd (by decide) lt_k).trans (congrArg er g0)) dX3_nth_35 ?_
        refine lv_iload_n hx hb dX3_nth_36 rfl (lv_at hl 3 rfl) ?_
        refine cV S (ihl n (some k) i b (by omega) gl okl (by omega) hi) (cwV 2 hts gX3_nth_X3_nth rfl rfl rfl (by decide +kernel) ⟨(by show n + 1 ≤ n + 1; omega), (by show 8 + (4 + 11) + 40 * n ≤ 40 * (n + 1); omega)⟩) hK hH (Hp_recv hK hH (gmo hH (j := 3) (by simp)).1 (gmo hH (j := 3) (by simp)).2.1 rfl) hS rfl hl.1 rfl (Nat.le_of_ble_eq_true rfl) dX3_nth_37 ⟨Nat.le_of_ble_eq_true rfl, Nat.le_of_ble_eq_true rfl⟩ (fun v Z1 H locs hpost hH hS => ?_)
        obtain ⟨rfl, rfl⟩ := hpost
        refine lv_goto (tgt := 61) hx hb dX3_nth_40 (by decide) ?_
        exact eI S hr hlocks hH hS ⟨rfl, rfl⟩ dX3_nth_61
    · skip
      have he : i = (tids lt9).length := nI_inj9 (by omega) (by omega) h1
      rw [he, List.getElem?_append_right (Nat.le_refl _), Nat.sub_self, List.getElem?_cons_zero] at hi
      cases hi
      refine lv_iload_n hx hb dX3_nth_19 rfl (lv_at hl 2 rfl) ?_
      exact eI S hr hlocks hH hS ⟨rfl, rfl⟩ dX3_nth_20
end MMod3
