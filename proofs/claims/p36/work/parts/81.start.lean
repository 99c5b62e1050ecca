theorem law_YE {s : State} {b : Nat} (hts0 : ∀ w ∈ lw_tbl, w.before #[Value.ref b] s = true) (hgv : (Jvm.Cond.and given_1 narrow_1).before #[Value.ref b] s = true) : YE s.heap.size s s.heap := by
  have hs := flat_of_before _ hgv
  have hA : ∀ a : Nat, a < s.heap.size → ¬ lA s.heap.size a := fun a h1 h2 => absurd h1 (Nat.not_lt.mpr h2)
  have t0 := hts0 (.initialized "java/lang/Throwable") (List.mem_of_getElem? (i := 12) (by decide +kernel))
  have z0 : vx_Zq Bundle.tN "UNASSIGNED_STACK" Bundle.steD (lA s.heap.size) s s.heap := vx_Zqof (hts0 (.laysStatic "java/lang/Throwable" "UNASSIGNED_STACK" "[Ljava/lang/StackTraceElement;") (List.mem_of_getElem? (i := 85) (by decide +kernel))) t0 (hs (.isRef (.static "java/lang/Throwable" "UNASSIGNED_STACK" "[Ljava/lang/StackTraceElement;")) (by decide +kernel)) hA
  have z1 : vx_Zq Bundle.tN "SUPPRESSED_SENTINEL" Bundle.listD (lA s.heap.size) s s.heap := vx_Zqof (hts0 (.laysStatic "java/lang/Throwable" "SUPPRESSED_SENTINEL" "Ljava/util/List;") (List.mem_of_getElem? (i := 87) (by decide +kernel))) t0 (hs (.isRef (.static "java/lang/Throwable" "SUPPRESSED_SENTINEL" "Ljava/util/List;")) (by decide +kernel)) hA
  have s206 : ∃ sa, vk_R RX2 206 "no such row" sa s := by
    obtain ⟨sa, -, -, -, ha, -⟩ := Cond.exactly_spec (hs (.exactly (.string "SplayOrchard" 206) "java/lang/String") (by decide +kernel))
    exact ⟨sa, vk_R.of (hts0 (.stringRef "SplayOrchard" 206 "no such row") (List.mem_of_getElem? (i := 99) (by decide +kernel))) ha⟩
  have s210 : ∃ sa, vk_R RX2 210 "the size is not 0 to 999" sa s := by
    obtain ⟨sa, -, -, -, ha, -⟩ := Cond.exactly_spec (hs (.exactly (.string "SplayOrchard" 210) "java/lang/String") (by decide +kernel))
    exact ⟨sa, vk_R.of (hts0 (.stringRef "SplayOrchard" 210 "the size is not 0 to 999") (List.mem_of_getElem? (i := 138) (by decide +kernel))) ha⟩
  have s213 : ∃ sa, vk_R RX2 213 "no apple of this size in the row" sa s := by
    obtain ⟨sa, -, -, -, ha, -⟩ := Cond.exactly_spec (hs (.exactly (.string "SplayOrchard" 213) "java/lang/String") (by decide +kernel))
    exact ⟨sa, vk_R.of (hts0 (.stringRef "SplayOrchard" 213 "no apple of this size in the row") (List.mem_of_getElem? (i := 279) (by decide +kernel))) ha⟩
  have s127 : ∃ sa, vk_R RX2 127 "no such place in the row" sa s := by
    obtain ⟨sa, -, -, -, ha, -⟩ := Cond.exactly_spec (hs (.exactly (.string "SplayOrchard" 127) "java/lang/String") (by decide +kernel))
    exact ⟨sa, vk_R.of (hts0 (.stringRef "SplayOrchard" 127 "no such place in the row") (List.mem_of_getElem? (i := 348) (by decide +kernel))) ha⟩
  have s34 : ∃ sa, vk_R RX2 34 "the orchard is full" sa s := by
    obtain ⟨sa, -, -, -, ha, -⟩ := Cond.exactly_spec (hs (.exactly (.string "SplayOrchard" 34) "java/lang/String") (by decide +kernel))
    exact ⟨sa, vk_R.of (hts0 (.stringRef "SplayOrchard" 34 "the orchard is full") (List.mem_of_getElem? (i := 178) (by decide +kernel))) ha⟩
  have s43 : ∃ sa, vk_R RX2 43 "there is an apple of this size in the row" sa s := by
    obtain ⟨sa, -, -, -, ha, -⟩ := Cond.exactly_spec (hs (.exactly (.string "SplayOrchard" 43) "java/lang/String") (by decide +kernel))
    exact ⟨sa, vk_R.of (hts0 (.stringRef "SplayOrchard" 43 "there is an apple of this size in the row") (List.mem_of_getElem? (i := 197) (by decide +kernel))) ha⟩
  have s80 : ∃ sa, vk_R RX2 80 "both rows are the same" sa s := by
    obtain ⟨sa, -, -, -, ha, -⟩ := Cond.exactly_spec (hs (.exactly (.string "SplayOrchard" 80) "java/lang/String") (by decide +kernel))
    exact ⟨sa, vk_R.of (hts0 (.stringRef "SplayOrchard" 80 "both rows are the same") (List.mem_of_getElem? (i := 625) (by decide +kernel))) ha⟩
  have s85 : ∃ sa, vk_R RX2 85 "the other row is not empty" sa s := by
    obtain ⟨sa, -, -, -, ha, -⟩ := Cond.exactly_spec (hs (.exactly (.string "SplayOrchard" 85) "java/lang/String") (by decide +kernel))
    exact ⟨sa, vk_R.of (hts0 (.stringRef "SplayOrchard" 85 "the other row is not empty") (List.mem_of_getElem? (i := 626) (by decide +kernel))) ha⟩
  have s100 : ∃ sa, vk_R RX2 100 "the rows can't be joined" sa s := by
    obtain ⟨sa, -, -, -, ha, -⟩ := Cond.exactly_spec (hs (.exactly (.string "SplayOrchard" 100) "java/lang/String") (by decide +kernel))
    exact ⟨sa, vk_R.of (hts0 (.stringRef "SplayOrchard" 100 "the rows can't be joined") (List.mem_of_getElem? (i := 653) (by decide +kernel))) ha⟩
  refine ⟨⟨z0, z1, ?_, ?_, ?_⟩, ?_⟩
  · intro q hq
    simp only [xstr, List.mem_cons, List.not_mem_nil, or_false] at hq
    rcases hq with rfl | rfl | rfl | rfl | rfl | rfl | rfl | rfl | rfl
    · exact s206
    · exact s210
    · exact s213
    · exact s127
    · exact s34
    · exact s43
    · exact s80
    · exact s85
    · exact s100
  · intro X hX
    simp only [xcl, List.mem_cons, List.not_mem_nil, or_false] at hX
    rcases hX with rfl | rfl | rfl
    · exact va_Nw.of rfl (hts0 (.castable "java/lang/IndexOutOfBoundsException" "java/lang/IndexOutOfBoundsException") (List.mem_of_getElem? (i := 60) (by decide +kernel)))
    · exact va_Nw.of rfl (hts0 (.castable "java/lang/IllegalArgumentException" "java/lang/IllegalArgumentException") (List.mem_of_getElem? (i := 131) (by decide +kernel)))
    · exact va_Nw.of rfl (hts0 (.castable "java/lang/IllegalStateException" "java/lang/IllegalStateException") (List.mem_of_getElem? (i := 171) (by decide +kernel)))
  · intro X hX
    simp only [xdl, List.mem_cons, List.not_mem_nil, or_false] at hX
    rcases hX with rfl | rfl | rfl
    · exact va_Nw.of rfl (hts0 (.declares (Bundle.initS "java/lang/RuntimeException")) (List.mem_of_getElem? (i := 62) (by decide +kernel)))
    · exact va_Nw.of rfl (hts0 (.declares (Bundle.initS "java/lang/Exception")) (List.mem_of_getElem? (i := 64) (by decide +kernel)))
    · exact va_Nw.of rfl (hts0 (.declares (Bundle.initS "java/lang/Throwable")) (List.mem_of_getElem? (i := 66) (by decide +kernel)))
  · exact va_AO.of (hts0 (.arrayOver (.object RX3)) (List.mem_of_getElem? (i := 484) (by decide +kernel)))
theorem ao_K {C : String} {U : State} (h : va_AO C U) : ∃ cA : ClassId, ArrOfT U cA (.object C) ∧ va_RA U cA (.object C) := by
  obtain ⟨comp, cA, kA, h1, h2, h3, h4, h5⟩ := Cond.arrayOver_spec h
  exact ⟨cA, fun N z => ⟨(fun k h => by cases h), kA, h3, comp, h4⟩, kA, comp, h3, h4, h1, h5⟩
set_option maxRecDepth 100000 in
set_option maxHeartbeats 4000000 in
theorem whole_start {p : Program} {e : Env} {s : State} {m : MethodId} {below : List Frame} {meth : Method} {c : Code} (l : Launch) (hflags : l.flags = flags0) {b L : Nat} {xs : Nat → Int32} (hL : L ≤ 260) (C0 : lw_At p s m meth c b L xs) : W p l e room_1 s m #[Value.ref b] below meth c s.heap [] 0 0 (lw_Z below #[Value.ref b] s) (entryFrame m ([Value.ref b] : List Value).toArray 21) := by
  obtain ⟨hx, hb, hr, hml, hown, hts0, hx8, hbl, hlocks, hgv⟩ := C0
  have hts : ∀ w ∈ wsL_law, w.before #[Value.ref b] s = true := fun w hw => hts0 w (wsL_law_in w hw)
  have hown : s.vm.findClass RL = some m.cls := hown
  have S : CallFix p m c cL_law 21 s #[Value.ref b] wsL_law RL := ⟨hx, hb, hml, hown, hts⟩
  have hYE := law_YE hts0 hgv
  have hst : l.stackTraces = false := by
    unfold Launch.stackTraces
    rw [hflags]
    decide
  have hXC : YC s.heap.size b L xs s s.heap := ⟨hYE, hx8, hbl, va_Nw.of rfl (hts0 (.methodLinkNest RL 75 yX4_init RL) (List.mem_of_getElem? (i := 658) (by decide +kernel)))⟩
  have inX09 := hts0 (.instantiable RX0 6) (List.mem_of_getElem? (i := 199) (by decide +kernel))
  obtain ⟨cX0, iX0, kX0⟩ := u_known (C := RX0) (T := TX0) (N := 6) hts inlX0 inX09
  have inX19 := hts0 (.instantiable RX1 1) (List.mem_of_getElem? (i := 30) (by decide +kernel))
  obtain ⟨cX1, iX1, kX1⟩ := u_known (C := RX1) (T := TX1) (N := 1) hts inlX1 inX19
  have inX29 := hts0 (.instantiable RX2 3) (List.mem_of_getElem? (i := 21) (by decide +kernel))
  obtain ⟨cX2, iX2, kX2⟩ := u_known (C := RX2) (T := TX2) (N := 3) hts inlX2 inX29
  have inX39 := hts0 (.instantiable RX3 4) (List.mem_of_getElem? (i := 496) (by decide +kernel))
  obtain ⟨cX3, iX3, kX3⟩ := u_known (C := RX3) (T := TX3) (N := 4) hts inlX3 inX39
  have inX49 := hts0 (.instantiable RX4 2) (List.mem_of_getElem? (i := 478) (by decide +kernel))
  obtain ⟨cX4, iX4, kX4⟩ := u_known (C := RX4) (T := TX4) (N := 2) hts inlX4 inX49
  obtain ⟨D, hDd⟩ : ∃ D : va_G, D = (fun j => match j with | 0 => cX0 | 1 => cX1 | 2 => cX2 | 3 => cX3 | _ => cX4, fun j => match j with | 0 => iX0 | 1 => iX1 | 2 => iX2 | 3 => iX3 | _ => iX4) := ⟨_, rfl⟩
  have hK : va_K D vwCl [] s := by
    refine ⟨fun j q hq => ?_, fun j q hq => by cases hq⟩
    rw [hDd]
    rcases j with _ | _ | _ | _ | _ | j
    · cases hq; exact kX0
    · cases hq; exact kX1
    · cases hq; exact kX2
    · cases hq; exact kX3
    · cases hq; exact kX4
    · cases hq
  have hP : va_P D vwCl [] s.heap := fun j q hq => by cases hq
  have hD : va_D (lA s.heap.size) [] := ⟨fun i j q q' hq _ _ => (by cases hq), fun j q hq => (by cases hq)⟩
  have hA : ∀ q : Nat, s.heap.size ≤ q → lA s.heap.size q := fun q h => h
  have hS : va_S (lA s.heap.size) s.heap s.heap [] := va_S.rf
  have hao : va_AO RX1 s := va_AO.of (hts0 (.arrayOver (.object RX1)) (List.mem_of_getElem? (i := 29) (by decide +kernel)))
  have hnest : va_Nw (.methodLinkNest RX2 15 yX1_init RX2) s := va_Nw.of rfl (hts0 (.methodLinkNest RX2 15 yX1_init RX2) (List.mem_of_getElem? (i := 31) (by decide +kernel)))
  have hl := lv_entry [Value.ref b] (n := 21) (Nat.le_of_ble_eq_true rfl)
  rw [lg_entry_eq]
  generalize (lg_sl ([Value.ref b]) ++ List.replicate (21 - (lg_sl ([Value.ref b])).length) Slot.unset).toArray = ls at hl ⊢
  have hl : lv_has ls 21 [(0, .ref b)] := hl
  refine va_new (D := D) (cl := vwCl) (ci := 2) (fs := [.null, .null, .int 0]) (C := RX2) (T := TX2) (N := 3) hx hb hts inlX2 tyX2 tyX2_ok hown (hts0 (.classLink RL 47 RX2) (List.mem_of_getElem? (i := 20) (by decide +kernel))) inX29 (hts0 (.initialized RX2) (List.mem_of_getElem? (i := 8) (by decide +kernel))) hK hP hD hS hA rfl (fun j hj => by rcases (show j = 0 ∨ j = 1 ∨ j = 2 by omega) with rfl | rfl | rfl <;> rfl) (Nat.le_of_ble_eq_true rfl) (Nat.le_of_ble_eq_true rfl) dL_law_0 (fun o H hP hD hS => ?_)
  have hP : va_P D vwCl [(o, .inr (2, [.null, .null, .int 0]))] H := hP
  have hD : va_D (lA s.heap.size) [(o, .inr (2, [.null, .null, .int 0]))] := hD
  refine lv_dup hx hb dL_law_3 rfl ?_
  have hlo := hS.1
  refine va_callv (va_runI (As := []) (rest := [.ref o]) S (c_X2_init (l := l) (D := D) (lo := s.heap.size) (o := o)) (cwI 0 hts gL_law_X2_init rfl rfl rfl (hts0 (.initialized RX2) (List.mem_of_getElem? (i := 8) (by decide +kernel))) (hts0 (.methodLink RL 84 yX2_init) (List.mem_of_getElem? (i := 22) (by decide +kernel))) (hts0 (.instanceMethod yX2_init) (List.mem_of_getElem? (i := 23) (by decide +kernel))) rfl (by decide +kernel) ⟨Nat.le_of_ble_eq_true rfl, Nat.le_of_ble_eq_true rfl⟩) ⟨fun a U g mk q => ⟨q.1, q.2.1, q.2.2.1, va_K.moved (u := U) (U := U.calling g mk a) (Vm.Alike.refl U.vm) q.2.2.2.1, q.2.2.2.2.1, va_AO.moved (u := U) (U := U.calling g mk a) (Vm.Alike.refl U.vm) q.2.2.2.2.2.1, va_Nw.same (u := U) (U := U.calling g mk a) rfl rfl q.2.2.2.2.2.2⟩, fun U hU hW => ⟨rfl, by rw [hU]; exact hlo, by rw [hU]; exact hP, va_K.moved hW.alike hK, hD, va_AO.moved hW.alike hao, va_Nw.warmM hW hnest⟩⟩ rfl rfl hl.1 rfl (lv_room (Nat.le_of_ble_eq_true rfl)) dL_law_4 ⟨(Nat.le_of_ble_eq_true rfl), (Nat.le_of_ble_eq_true rfl)⟩) hS (fun _ _ h => h) (fun _ h => h) (fun u t H1 locs ht hvm hw hB hz1 hk1 hS => ?_)
  obtain ⟨cT, ra, tt, t0, t1, t2, t3, t4, t5⟩ := u
  obtain ⟨hP, hK1, hD⟩ := hB
  rw [ht] at hP
  have hK2 : va_K D vwCl [(cT, .object RX1)] s := va_K.moved hvm.symm hK1
  generalize H1 = H at hP hS ⊢
  have hP : va_P D vwCl [(o, .inr (2, [.ref ra, .ref tt, .int 0])), (ra, .inl (cT, 6, .inr (.inr (.inr (.inr (va_up (va_up (va_up (va_up (va_up (va_up (fun _ => none) 0 (some t0)) 1 (some t1)) 2 (some t2)) 3 (some t3)) 4 (some t4)) 5 (some t5))))))), (tt, .inr (1, [.null])), (t0, .inr (1, [.null])), (t1, .inr (1, [.null])), (t2, .inr (1, [.null])), (t3, .inr (1, [.null])), (t4, .inr (1, [.null])), (t5, .inr (1, [.null]))] H := hP
  have hD : va_D (lA s.heap.size) [(o, .inr (2, [.ref ra, .ref tt, .int 0])), (ra, .inl (cT, 6, .inr (.inr (.inr (.inr (va_up (va_up (va_up (va_up (va_up (va_up (fun _ => none) 0 (some t0)) 1 (some t1)) 2 (some t2)) 3 (some t3)) 4 (some t4)) 5 (some t5))))))), (tt, .inr (1, [.null])), (t0, .inr (1, [.null])), (t1, .inr (1, [.null])), (t2, .inr (1, [.null])), (t3, .inr (1, [.null])), (t4, .inr (1, [.null])), (t5, .inr (1, [.null]))] := hD
  obtain ⟨cR, hR1, hR2⟩ := ao_K hYE.2
  have hK3 : va_K D vwCl [(cR, .object RX3), (cT, .object RX1)] s := ⟨hK.1, fun k q hq => by
    rcases k with _ | k
    · cases hq; exact ⟨hR1, hR2⟩
    · exact hK2.2 k q hq⟩
  refine lv_astore_n (lv' := [(1, .ref o), (0, .ref b)]) hx hb dL_law_7 rfl hl (by decide) rfl (fun ls hl => ?_)
  obtain ⟨Γ, L9, K9, hH, hKΓ, hc⟩ := start_world hS.1 hP hD hK3
  refine W.widen (k := 20) (n := 500) (Nat.le_of_ble_eq_true rfl) (Nat.le_of_ble_eq_true rfl) ?_
  refine lv_aload_n hx hb dL_law_8 rfl (lv_at hl 0 rfl) ?_
  refine lv_aload_n hx hb dL_law_9 rfl (lv_at hl 1 rfl) ?_
  refine ccS S (c_L_build (N9 := L) (by omega) hst hc) (va_cwS 2 hts gL_law_L_build rfl rfl rfl (by decide +kernel) ⟨Nat.le_of_ble_eq_true rfl, Nat.le_of_ble_eq_true rfl⟩) hKΓ hH hXC hS rfl hl.1 rfl (by simp [cat_rf, Value.category]) dL_law_10 ⟨Nat.le_of_ble_eq_true rfl, Nat.le_of_ble_eq_true rfl⟩ (fun v Z1 H locs hpost hH hS => ?_)
  obtain ⟨sa, ta, rfl, hJX⟩ := hpost
  refine lv_astore_n (lv' := [(2, .ref sa), (1, .ref o), (0, .ref b)]) hx hb dL_law_13 rfl hl (by decide) rfl (fun ls hl => ?_)
  refine lv_aload_n hx hb dL_law_14 rfl (lv_at hl 0 rfl) ?_
  refine lv_ifnonnull hx hb dL_law_15 (tgt := 20) (by decide) ?_
  refine lv_iconst (v := 0) hx hb dL_law_20 (by decide) ?_
  refine lv_istore_n (lv' := [(3, .int 0), (2, .ref sa), (1, .ref o), (0, .ref b)]) hx hb dL_law_21 rfl hl (by decide) rfl (fun ls hl => ?_)
  refine W.widen (k := 31000 + 25000 * 0) (n := 1207000 + 280000 * 0) (Nat.le_of_ble_eq_true rfl) (Nat.le_of_ble_eq_true rfl) ?_
  refine law_times S hKΓ hXC (by omega) hst (fun H locs ls hS hsz => ?_) 6 0 rfl Z1 H locs ls hJX hH hS (lv_sub hl [0, 1, 2, 3] rfl)
  refine W.widen (k := 967961) (n := 6197586) (Nat.le_of_ble_eq_true rfl) (Nat.le_of_ble_eq_true rfl) ?_
  refine va_forget (fun q hq => hS.2.2 q hq) ?_
  refine W.base ?_
  exact lw_ret (Drawn.sameBut.refl s.drawn lw_cs) hx hb hr hlocks dL_law_1282
