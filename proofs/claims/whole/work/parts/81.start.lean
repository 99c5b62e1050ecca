theorem nI_gt4 {i n : Nat} (hn : n ≤ 2048) (hi : i ≤ 4096) : (nI n - 4 < nI i) ↔ n < i + 4 := by
  by_cases h4 : 4 ≤ n
  · rw [show (4 : Int32) = nI 4 from rfl, nI_sb h4, nI_ltI (by omega) (by omega)]
    omega
  · have hneg : (nI n - 4).toInt < 0 := by
      have : n = 0 ∨ n = 1 ∨ n = 2 ∨ n = 3 := by omega
      rcases this with rfl | rfl | rfl | rfl <;> decide
    have h1 : (nI i).toInt = (i : Int) := nI_toInt (by omega)
    rw [Int32.lt_iff_toInt_lt, h1]
    omega
/-- what the law needs of the start -/
theorem law_YE {s : State} {b : Nat} (hts0 : ∀ w ∈ lw_tbl, w.before #[Value.ref b] s = true) (hgv : (Jvm.Cond.and given_1 narrow_1).before #[Value.ref b] s = true) : YE s.heap.size s s.heap := by
  have hs := flat_of_before _ hgv
  have hA : ∀ a : Nat, a < s.heap.size → ¬ lA s.heap.size a := fun a h1 h2 => absurd h1 (Nat.not_lt.mpr h2)
  have t0 := hts0 (.initialized "java/lang/Throwable") (List.mem_of_getElem? (i := 43) (by decide +kernel))
  have z0 : vx_Zq Bundle.tN "UNASSIGNED_STACK" Bundle.steD (lA s.heap.size) s s.heap := vx_Zqof (hts0 (.laysStatic "java/lang/Throwable" "UNASSIGNED_STACK" "[Ljava/lang/StackTraceElement;") (List.mem_of_getElem? (i := 160) (by decide +kernel))) t0 (hs (.isRef (.static "java/lang/Throwable" "UNASSIGNED_STACK" "[Ljava/lang/StackTraceElement;")) (by decide +kernel)) hA
  have z1 : vx_Zq Bundle.tN "SUPPRESSED_SENTINEL" Bundle.listD (lA s.heap.size) s s.heap := vx_Zqof (hts0 (.laysStatic "java/lang/Throwable" "SUPPRESSED_SENTINEL" "Ljava/util/List;") (List.mem_of_getElem? (i := 162) (by decide +kernel))) t0 (hs (.isRef (.static "java/lang/Throwable" "SUPPRESSED_SENTINEL" "Ljava/util/List;")) (by decide +kernel)) hA
  have s206 : ∃ sa, vk_R RX2 206 "no such row" sa s := by
    obtain ⟨sa, -, -, -, ha, -⟩ := Cond.exactly_spec (hs (.exactly (.string "SplayOrchard" 206) "java/lang/String") (by decide +kernel))
    exact ⟨sa, vk_R.of (hts0 (.stringRef "SplayOrchard" 206 "no such row") (List.mem_of_getElem? (i := 174) (by decide +kernel))) ha⟩
  have s210 : ∃ sa, vk_R RX2 210 "the size is not 0 to 999" sa s := by
    obtain ⟨sa, -, -, -, ha, -⟩ := Cond.exactly_spec (hs (.exactly (.string "SplayOrchard" 210) "java/lang/String") (by decide +kernel))
    exact ⟨sa, vk_R.of (hts0 (.stringRef "SplayOrchard" 210 "the size is not 0 to 999") (List.mem_of_getElem? (i := 327) (by decide +kernel))) ha⟩
  have s213 : ∃ sa, vk_R RX2 213 "no apple of this size in the row" sa s := by
    obtain ⟨sa, -, -, -, ha, -⟩ := Cond.exactly_spec (hs (.exactly (.string "SplayOrchard" 213) "java/lang/String") (by decide +kernel))
    exact ⟨sa, vk_R.of (hts0 (.stringRef "SplayOrchard" 213 "no apple of this size in the row") (List.mem_of_getElem? (i := 422) (by decide +kernel))) ha⟩
  have s127 : ∃ sa, vk_R RX2 127 "no such place in the row" sa s := by
    obtain ⟨sa, -, -, -, ha, -⟩ := Cond.exactly_spec (hs (.exactly (.string "SplayOrchard" 127) "java/lang/String") (by decide +kernel))
    exact ⟨sa, vk_R.of (hts0 (.stringRef "SplayOrchard" 127 "no such place in the row") (List.mem_of_getElem? (i := 510) (by decide +kernel))) ha⟩
  have s34 : ∃ sa, vk_R RX2 34 "the orchard is full" sa s := by
    obtain ⟨sa, -, -, -, ha, -⟩ := Cond.exactly_spec (hs (.exactly (.string "SplayOrchard" 34) "java/lang/String") (by decide +kernel))
    exact ⟨sa, vk_R.of (hts0 (.stringRef "SplayOrchard" 34 "the orchard is full") (List.mem_of_getElem? (i := 343) (by decide +kernel))) ha⟩
  have s43 : ∃ sa, vk_R RX2 43 "there is an apple of this size in the row" sa s := by
    obtain ⟨sa, -, -, -, ha, -⟩ := Cond.exactly_spec (hs (.exactly (.string "SplayOrchard" 43) "java/lang/String") (by decide +kernel))
    exact ⟨sa, vk_R.of (hts0 (.stringRef "SplayOrchard" 43 "there is an apple of this size in the row") (List.mem_of_getElem? (i := 362) (by decide +kernel))) ha⟩
  have s80 : ∃ sa, vk_R RX2 80 "both rows are the same" sa s := by
    obtain ⟨sa, -, -, -, ha, -⟩ := Cond.exactly_spec (hs (.exactly (.string "SplayOrchard" 80) "java/lang/String") (by decide +kernel))
    exact ⟨sa, vk_R.of (hts0 (.stringRef "SplayOrchard" 80 "both rows are the same") (List.mem_of_getElem? (i := 448) (by decide +kernel))) ha⟩
  have s85 : ∃ sa, vk_R RX2 85 "the other row is not empty" sa s := by
    obtain ⟨sa, -, -, -, ha, -⟩ := Cond.exactly_spec (hs (.exactly (.string "SplayOrchard" 85) "java/lang/String") (by decide +kernel))
    exact ⟨sa, vk_R.of (hts0 (.stringRef "SplayOrchard" 85 "the other row is not empty") (List.mem_of_getElem? (i := 449) (by decide +kernel))) ha⟩
  have s100 : ∃ sa, vk_R RX2 100 "the rows can't be joined" sa s := by
    obtain ⟨sa, -, -, -, ha, -⟩ := Cond.exactly_spec (hs (.exactly (.string "SplayOrchard" 100) "java/lang/String") (by decide +kernel))
    exact ⟨sa, vk_R.of (hts0 (.stringRef "SplayOrchard" 100 "the rows can't be joined") (List.mem_of_getElem? (i := 464) (by decide +kernel))) ha⟩
  refine ⟨⟨z0, z1, ?_, ?_, ?_⟩, ?_, ?_, ?_⟩
  · intro q hq
    simp only [xstr, List.mem_cons, List.not_mem_nil, or_false] at hq
    rcases hq with rfl | rfl | rfl | rfl | rfl | rfl | rfl | rfl | rfl
    · exact s206
    · exact s210
    · exact s213
    · exact s127
    · exact s34
    · exact s43
    · exact s80
    · exact s85
    · exact s100
  · intro X hX
    simp only [xcl, List.mem_cons, List.not_mem_nil, or_false] at hX
    rcases hX with rfl | rfl | rfl
    · exact va_Nw.of rfl (hts0 (.castable "java/lang/IndexOutOfBoundsException" "java/lang/IndexOutOfBoundsException") (List.mem_of_getElem? (i := 135) (by decide +kernel)))
    · exact va_Nw.of rfl (hts0 (.castable "java/lang/IllegalArgumentException" "java/lang/IllegalArgumentException") (List.mem_of_getElem? (i := 320) (by decide +kernel)))
    · exact va_Nw.of rfl (hts0 (.castable "java/lang/IllegalStateException" "java/lang/IllegalStateException") (List.mem_of_getElem? (i := 336) (by decide +kernel)))
  · intro X hX
    simp only [xdl, List.mem_cons, List.not_mem_nil, or_false] at hX
    rcases hX with rfl | rfl | rfl
    · exact va_Nw.of rfl (hts0 (.declares (Bundle.initS "java/lang/RuntimeException")) (List.mem_of_getElem? (i := 137) (by decide +kernel)))
    · exact va_Nw.of rfl (hts0 (.declares (Bundle.initS "java/lang/Exception")) (List.mem_of_getElem? (i := 139) (by decide +kernel)))
    · exact va_Nw.of rfl (hts0 (.declares (Bundle.initS "java/lang/Throwable")) (List.mem_of_getElem? (i := 141) (by decide +kernel)))
  · exact va_Nc.of (hs (.not (.castable "java/lang/IllegalStateException" "java/lang/IndexOutOfBoundsException")) (by decide +kernel))
  · exact va_Nc.of (hs (.not (.castable "java/lang/IllegalStateException" "java/lang/IllegalArgumentException")) (by decide +kernel))
  · exact va_Nc.of (hs (.not (.castable "java/lang/IllegalArgumentException" "java/lang/IndexOutOfBoundsException")) (by decide +kernel))
set_option maxRecDepth 100000 in
set_option maxHeartbeats 4000000 in
/-- from the loop's head on -/
theorem law_loop {p : Program} {l : Launch} {e : Env} {s : State} {m : MethodId} {below : List Frame} {meth : Method} {c : Code} {D : va_G} {Γ : GT} {b Ln o : Nat} {xs : Nat → Int32} (X : LF p l s m #[.ref b] c D s.heap.size Γ b Ln xs) (hr : meth.sig.returnType = ret) (hlocks : meth.locks = false) : ∀ (n k : Nat) (H : Heap) (locs : List Loc) (ls : Array Slot) (Z : WS), Ln < 4 * (k + n) + 4 → 4 * k ≤ Ln → Hp D s.heap.size Γ Z H → LI Γ o Z → va_S (lA s.heap.size) s.heap H locs → lv_has ls 9 (LV Γ o b (4 * k)) →
    W p l e room_1 s m #[Value.ref b] below meth c H locs (20 + 48 * k) (500 + 288 * k) (lw_Z below #[Value.ref b] s) (F0 m 28 ls []) := by
  have X0 := X
  obtain ⟨S, hK, hX, hx8, hbl, hbA, hst, hLn⟩ := X0
  have hx := S.1
  have hb := S.2.1
  intro n
  induction n with
  | zero =>
    intro k H locs ls Z hn hk hH hL hS hl
    refine lv_iload hx hb dL_law_28 (lv_at hl 0 rfl) ?_
    refine lv_aload_n hx hb dL_law_30 rfl (lv_at hl 5 rfl) ?_
    refine va_slen (A := lA s.heap.size) hx hb hx8 hbl hbA hS dL_law_31 ?_
    refine lv_iconst (v := 4) hx hb dL_law_32 (by decide) ?_
    refine lv_isub hx hb dL_law_33 ?_
    refine lv_icmp_gt hx hb dL_law_34 (tgt := 2217) rfl (fun _ => ?_) (fun h => absurd ((nI_gt4 hLn (by omega)).mpr (by omega)) h)
    refine lv_iconst (v := 1) hx hb dL_law_2217 (by decide) ?_
    refine W.widen (k := 659995) (n := 7116119) (by omega) (by omega) ?_
    refine va_forget (fun q hq => hS.2.2 q hq) ?_
    refine W.base ?_
    exact lw_ret (Drawn.sameBut.refl s.drawn lw_cs) hx hb hr hlocks dL_law_2218
  | succ n ih =>
    intro k H locs ls Z hn hk hH hL hS hl
    by_cases hend : Ln < 4 * k + 4
    · refine lv_iload hx hb dL_law_28 (lv_at hl 0 rfl) ?_
      refine lv_aload_n hx hb dL_law_30 rfl (lv_at hl 5 rfl) ?_
      refine va_slen (A := lA s.heap.size) hx hb hx8 hbl hbA hS dL_law_31 ?_
      refine lv_iconst (v := 4) hx hb dL_law_32 (by decide) ?_
      refine lv_isub hx hb dL_law_33 ?_
      refine lv_icmp_gt hx hb dL_law_34 (tgt := 2217) rfl (fun _ => ?_) (fun h => absurd ((nI_gt4 hLn (by omega)).mpr hend) h)
      refine lv_iconst (v := 1) hx hb dL_law_2217 (by decide) ?_
      refine W.widen (k := 659995) (n := 7116119) (by omega) (by omega) ?_
      refine va_forget (fun q hq => hS.2.2 q hq) ?_
      refine W.base ?_
      exact lw_ret (Drawn.sameBut.refl s.drawn lw_cs) hx hb hr hlocks dL_law_2218
    have hi : 4 * k + 3 < Ln := by omega
    have hcl : 20 + 48 * k + 48 ≤ 659995 := by omega
    have hsl : 500 + 288 * k + 288 ≤ 7116119 := by omega
    refine lv_iload hx hb dL_law_28 (lv_at hl 0 rfl) ?_
    refine lv_aload_n hx hb dL_law_30 rfl (lv_at hl 5 rfl) ?_
    refine va_slen (A := lA s.heap.size) hx hb hx8 hbl hbA hS dL_law_31 ?_
    refine lv_iconst (v := 4) hx hb dL_law_32 (by decide) ?_
    refine lv_isub hx hb dL_law_33 ?_
    refine lv_icmp_gt hx hb dL_law_34 (tgt := 2217) rfl (fun h => absurd ((nI_gt4 hLn (by omega)).mp h) hend) (fun _ => ?_)
    refine lv_aload_n hx hb dL_law_37 rfl (lv_at hl 5 rfl) ?_
    refine lv_iload hx hb dL_law_38 (lv_at hl 0 rfl) ?_
    refine va_sld (A := lA s.heap.size) hx hb hx8 hbl hbA hS (vp_in_nI (by omega) (by omega)) dL_law_40 ?_
    refine lv_bipush (v := 63) hx hb dL_law_41 (by decide) ?_
    refine lv_iand hx hb dL_law_43 ?_
    have kk : ∀ (H1 : Heap) (locs1 : List Loc) (ls1 : Array Slot) (Z1 : WS), Hp D s.heap.size Γ Z1 H1 → LI Γ o Z1 → va_S (lA s.heap.size) s.heap H1 locs1 → lv_has ls1 9 (LV Γ o b (4 * k)) → W p l e room_1 s m #[Value.ref b] below meth c H1 locs1 (20 + 48 * k + 48) (500 + 288 * k + 288) (lw_Z below #[Value.ref b] s) (F0 m 2211 ls1 []) := by
      intro H1 locs1 ls1 Z1 hH1 hL1 hS1 hl1
      refine lv_iinc (lv' := LV Γ o b (4 * (k + 1))) (k := 0) hx hb dL_law_2211 hl1 rfl (v := nI (4 * (k + 1))) (nI_add (4 * k) 4) (by decide) rfl (fun ls2 hl2 => ?_)
      refine lv_goto hx hb dL_law_2214 (tgt := 28) rfl ?_
      exact ih (k + 1) H1 locs1 ls2 Z1 (by omega) (by omega) hH1 hL1 hS1 hl2
    generalize xs (nI (4 * k)).toNatClampNeg &&& 63 = v
    by_cases hout : v.toInt < 0 ∨ 32 < v.toInt
    · refine lv_tableOut hx hb dL_law_44 hout (tgt := 2211) rfl ?_
      refine W.widen (k := 20 + 48 * k + 48) (n := 500 + 288 * k + 288) (by omega) (by omega) ?_
      exact kk H locs ls Z hH hL hS hl
    · have hv : ∃ j : Nat, j < 33 ∧ v.toInt = (j : Int) := ⟨v.toInt.toNat, by omega, by omega⟩
      obtain ⟨j, hj, hv⟩ := hv
      have h1 : ¬ v.toInt < 0 := fun h => hout (Or.inl h)
      have h2 : ¬ 32 < v.toInt := fun h => hout (Or.inr h)
      rcases j with _ | _ | _ | _ | _ | _ | _ | _ | _ | _ | _ | _ | _ | _ | _ | _ | _ | _ | _ | _ | _ | _ | _ | _ | _ | _ | _ | _ | _ | _ | _ | _ | _ | j
      · exact lv_tableIn hx hb dL_law_44 h1 h2 (off := 148) (by rw [hv]; rfl) (tgt := 192) rfl (kc_plant X hH hL hS hl hi hcl hsl kk)
      · exact lv_tableIn hx hb dL_law_44 h1 h2 (off := 216) (by rw [hv]; rfl) (tgt := 260) rfl (kc_eat X hH hL hS hl hi hcl hsl kk)
      · exact lv_tableIn hx hb dL_law_44 h1 h2 (off := 284) (by rw [hv]; rfl) (tgt := 328) rfl (kc_pick X hH hL hS hl hi hcl hsl kk)
      · exact lv_tableIn hx hb dL_law_44 h1 h2 (off := 352) (by rw [hv]; rfl) (tgt := 396) rfl (kc_split X hH hL hS hl hi hcl hsl kk)
      · exact lv_tableIn hx hb dL_law_44 h1 h2 (off := 432) (by rw [hv]; rfl) (tgt := 476) rfl (kc_join X hH hL hS hl hi hcl hsl kk)
      · exact lv_tableIn hx hb dL_law_44 h1 h2 (off := 500) (by rw [hv]; rfl) (tgt := 544) rfl (kc_apples X hH hL hS hl hi hcl hsl kk)
      · exact lv_tableIn hx hb dL_law_44 h1 h2 (off := 513) (by rw [hv]; rfl) (tgt := 557) rfl (kc_turnings X hH hL hS hl hi hcl hsl kk)
      · exact lv_tableIn hx hb dL_law_44 h1 h2 (off := 526) (by rw [hv]; rfl) (tgt := 570) rfl (kc_sizeOf X hH hL hS hl hi hcl hsl kk)
      · exact lv_tableIn hx hb dL_law_44 h1 h2 (off := 582) (by rw [hv]; rfl) (tgt := 626) rfl (kc_top X hH hL hS hl hi hcl hsl kk)
      · exact lv_tableIn hx hb dL_law_44 h1 h2 (off := 638) (by rw [hv]; rfl) (tgt := 682) rfl (kc_height X hH hL hS hl hi hcl hsl kk)
      · exact lv_tableIn hx hb dL_law_44 h1 h2 (off := 694) (by rw [hv]; rfl) (tgt := 738) rfl (kc_leastHeight X hH hL hS hl hi hcl hsl kk)
      · exact lv_tableIn hx hb dL_law_44 h1 h2 (off := 750) (by rw [hv]; rfl) (tgt := 794) rfl (kc_depths X hH hL hS hl hi hcl hsl kk)
      · exact lv_tableIn hx hb dL_law_44 h1 h2 (off := 806) (by rw [hv]; rfl) (tgt := 850) rfl (kc_smallest X hH hL hS hl hi hcl hsl kk)
      · exact lv_tableIn hx hb dL_law_44 h1 h2 (off := 862) (by rw [hv]; rfl) (tgt := 906) rfl (kc_greatest X hH hL hS hl hi hcl hsl kk)
      · exact lv_tableIn hx hb dL_law_44 h1 h2 (off := 918) (by rw [hv]; rfl) (tgt := 962) rfl (kc_inOrder X hH hL hS hl hi hcl hsl kk)
      · exact lv_tableIn hx hb dL_law_44 h1 h2 (off := 986) (by rw [hv]; rfl) (tgt := 1030) rfl (kc_leaves X hH hL hS hl hi hcl hsl kk)
      · exact lv_tableIn hx hb dL_law_44 h1 h2 (off := 1042) (by rw [hv]; rfl) (tgt := 1086) rfl (kc_has X hH hL hS hl hi hcl hsl kk)
      · exact lv_tableIn hx hb dL_law_44 h1 h2 (off := 1117) (by rw [hv]; rfl) (tgt := 1161) rfl (kc_smaller X hH hL hS hl hi hcl hsl kk)
      · exact lv_tableIn hx hb dL_law_44 h1 h2 (off := 1185) (by rw [hv]; rfl) (tgt := 1229) rfl (kc_depthOf X hH hL hS hl hi hcl hsl kk)
      · exact lv_tableIn hx hb dL_law_44 h1 h2 (off := 1253) (by rw [hv]; rfl) (tgt := 1297) rfl (kc_above X hH hL hS hl hi hcl hsl kk)
      · exact lv_tableIn hx hb dL_law_44 h1 h2 (off := 1321) (by rw [hv]; rfl) (tgt := 1365) rfl (kc_leftOf X hH hL hS hl hi hcl hsl kk)
      · exact lv_tableIn hx hb dL_law_44 h1 h2 (off := 1389) (by rw [hv]; rfl) (tgt := 1433) rfl (kc_rightOf X hH hL hS hl hi hcl hsl kk)
      · exact lv_tableIn hx hb dL_law_44 h1 h2 (off := 1457) (by rw [hv]; rfl) (tgt := 1501) rfl (kc_below X hH hL hS hl hi hcl hsl kk)
      · exact lv_tableIn hx hb dL_law_44 h1 h2 (off := 1525) (by rw [hv]; rfl) (tgt := 1569) rfl (kc_eaten X hH hL hS hl hi hcl hsl kk)
      · exact lv_tableIn hx hb dL_law_44 h1 h2 (off := 1593) (by rw [hv]; rfl) (tgt := 1637) rfl (kc_favourite X hH hL hS hl hi hcl hsl kk)
      · exact lv_tableIn hx hb dL_law_44 h1 h2 (off := 1649) (by rw [hv]; rfl) (tgt := 1693) rfl (kc_meet X hH hL hS hl hi hcl hsl kk)
      · exact lv_tableIn hx hb dL_law_44 h1 h2 (off := 1729) (by rw [hv]; rfl) (tgt := 1773) rfl (kc_depthBehind X hH hL hS hl hi hcl hsl kk)
      · exact lv_tableIn hx hb dL_law_44 h1 h2 (off := 1809) (by rw [hv]; rfl) (tgt := 1853) rfl (kc_heightBehind X hH hL hS hl hi hcl hsl kk)
      · exact lv_tableIn hx hb dL_law_44 h1 h2 (off := 1877) (by rw [hv]; rfl) (tgt := 1921) rfl (kc_bestToEat X hH hL hS hl hi hcl hsl kk)
      · exact lv_tableIn hx hb dL_law_44 h1 h2 (off := 1933) (by rw [hv]; rfl) (tgt := 1977) rfl (kc_plantDepth X hH hL hS hl hi hcl hsl kk)
      · exact lv_tableIn hx hb dL_law_44 h1 h2 (off := 2001) (by rw [hv]; rfl) (tgt := 2045) rfl (kc_canJoin X hH hL hS hl hi hcl hsl kk)
      · exact lv_tableIn hx hb dL_law_44 h1 h2 (off := 2076) (by rw [hv]; rfl) (tgt := 2120) rfl (kc_meanDepth X hH hL hS hl hi hcl hsl kk)
      · exact lv_tableIn hx hb dL_law_44 h1 h2 (off := 2153) (by rw [hv]; rfl) (tgt := 2197) rfl (kc_digest X hH hL hS hl hi hcl hsl kk)
      · omega
set_option maxRecDepth 100000 in
set_option maxHeartbeats 4000000 in
theorem whole_start {p : Program} {e : Env} {s : State} {m : MethodId} {below : List Frame} {meth : Method} {c : Code} (l : Launch) (hflags : l.flags = flags0) {b L : Nat} {xs : Nat → Int32} (hL : L ≤ 2048) (C0 : lw_At p s m meth c b L xs) : W p l e room_1 s m #[Value.ref b] below meth c s.heap [] 0 0 (lw_Z below #[Value.ref b] s) (entryFrame m ([Value.ref b] : List Value).toArray 9) := by
  obtain ⟨hx, hb, hr, hml, hown, hts0, hx8, hbl, hlocks, hgv⟩ := C0
  have hts : ∀ w ∈ wsL_law, w.before #[Value.ref b] s = true := fun w hw => hts0 w (wsL_law_in w hw)
  have hown : s.vm.findClass RL = some m.cls := hown
  have S : CallFix p m c cL_law 9 s #[Value.ref b] wsL_law RL := ⟨hx, hb, hml, hown, hts⟩
  have hYE := law_YE hts0 hgv
  have hst : l.stackTraces = false := by
    unfold Launch.stackTraces
    rw [hflags]
    decide
  have hbA : ¬ lA s.heap.size b := fun h => absurd hbl (Nat.not_lt.mpr h)
  have inX0 := hts0 (.instantiable RX0 6) (List.mem_of_getElem? (i := 364) (by decide +kernel))
  obtain ⟨cX0, iX0, kX0⟩ := u_known (C := RX0) (T := TX0) (N := 6) hts inlX0 inX0
  have inX1 := hts0 (.instantiable RX1 1) (List.mem_of_getElem? (i := 62) (by decide +kernel))
  obtain ⟨cX1, iX1, kX1⟩ := u_known (C := RX1) (T := TX1) (N := 1) hts inlX1 inX1
  have inX2 := hts0 (.instantiable RX2 3) (List.mem_of_getElem? (i := 53) (by decide +kernel))
  obtain ⟨cX2, iX2, kX2⟩ := u_known (C := RX2) (T := TX2) (N := 3) hts inlX2 inX2
  have inX3 := hts0 (.instantiable RX3 6) (List.mem_of_getElem? (i := 634) (by decide +kernel))
  obtain ⟨cX3, iX3, kX3⟩ := u_known (C := RX3) (T := TX3) (N := 6) hts inlX3 inX3
  obtain ⟨D, hDd⟩ : ∃ D : va_G, D = (fun j => match j with | 0 => cX0 | 1 => cX1 | 2 => cX2 | _ => cX3, fun j => match j with | 0 => iX0 | 1 => iX1 | 2 => iX2 | _ => iX3) := ⟨_, rfl⟩
  have hK : va_K D vwCl [] s := by
    refine ⟨fun j q hq => ?_, fun j q hq => by cases hq⟩
    rw [hDd]
    rcases j with _ | _ | _ | _ | j
    · cases hq; exact kX0
    · cases hq; exact kX1
    · cases hq; exact kX2
    · cases hq; exact kX3
    · cases hq
  have hP : va_P D vwCl [] s.heap := fun j q hq => by cases hq
  have hD : va_D (lA s.heap.size) [] := ⟨fun i j q q' hq _ _ => (by cases hq), fun j q hq => (by cases hq)⟩
  have hA : ∀ q : Nat, s.heap.size ≤ q → lA s.heap.size q := fun q h => h
  have hS : va_S (lA s.heap.size) s.heap s.heap [] := va_S.rf
  have hao : va_AO RX1 s := va_AO.of (hts0 (.arrayOver (.object RX1)) (List.mem_of_getElem? (i := 61) (by decide +kernel)))
  have hnest : va_Nw (.methodLinkNest RX2 15 yX1_init RX2) s := va_Nw.of rfl (hts0 (.methodLinkNest RX2 15 yX1_init RX2) (List.mem_of_getElem? (i := 63) (by decide +kernel)))
  have hl := lv_entry [Value.ref b] (n := 9) (Nat.le_of_ble_eq_true rfl)
  rw [lg_entry_eq]
  generalize (lg_sl ([Value.ref b]) ++ List.replicate (9 - (lg_sl ([Value.ref b])).length) Slot.unset).toArray = ls at hl ⊢
  have hl : lv_has ls 9 [(0, .ref b)] := hl
  refine va_new (D := D) (cl := vwCl) (ci := 2) (fs := [.null, .null, .int 0]) (C := RX2) (T := TX2) (N := 3) hx hb hts inlX2 tyX2 tyX2_ok hown (hts0 (.classLink RL 8 RX2) (List.mem_of_getElem? (i := 52) (by decide +kernel))) inX2 (hts0 (.initialized RX2) (List.mem_of_getElem? (i := 40) (by decide +kernel))) hK hP hD hS hA rfl (fun j hj => by rcases (show j = 0 ∨ j = 1 ∨ j = 2 by omega) with rfl | rfl | rfl <;> rfl) (Nat.le_of_ble_eq_true rfl) (Nat.le_of_ble_eq_true rfl) dL_law_0 (fun o H hP hD hS => ?_)
  have hP : va_P D vwCl [(o, .inr (2, [.null, .null, .int 0]))] H := hP
  have hD : va_D (lA s.heap.size) [(o, .inr (2, [.null, .null, .int 0]))] := hD
  refine lv_dup hx hb dL_law_3 rfl ?_
  have hlo := hS.1
  refine va_callv (va_runI (As := []) (rest := [.ref o]) S (c_X2_init (l := l) (D := D) (lo := s.heap.size) (o := o)) (cwI 0 hts gL_law_X2_init rfl rfl rfl (hts0 (.initialized RX2) (List.mem_of_getElem? (i := 40) (by decide +kernel))) (hts0 (.methodLink RL 110 yX2_init) (List.mem_of_getElem? (i := 54) (by decide +kernel))) (hts0 (.instanceMethod yX2_init) (List.mem_of_getElem? (i := 55) (by decide +kernel))) rfl (by decide +kernel) ⟨Nat.le_of_ble_eq_true rfl, Nat.le_of_ble_eq_true rfl⟩) ⟨fun a U g mk q => ⟨q.1, q.2.1, q.2.2.1, va_K.moved (u := U) (U := U.calling g mk a) (Vm.Alike.refl U.vm) q.2.2.2.1, q.2.2.2.2.1, va_AO.moved (u := U) (U := U.calling g mk a) (Vm.Alike.refl U.vm) q.2.2.2.2.2.1, va_Nw.same (u := U) (U := U.calling g mk a) rfl rfl q.2.2.2.2.2.2⟩, fun U hU hW => ⟨rfl, by rw [hU]; exact hlo, by rw [hU]; exact hP, va_K.moved hW.alike hK, hD, va_AO.moved hW.alike hao, va_Nw.warmM hW hnest⟩⟩ rfl rfl hl.1 rfl (lv_room (Nat.le_of_ble_eq_true rfl)) dL_law_4 ⟨(Nat.le_of_ble_eq_true rfl), (Nat.le_of_ble_eq_true rfl)⟩) hS (fun _ _ h => h) (fun _ h => h) (fun u t H1 locs ht hvm hw hB hz1 hk1 hS => ?_)
  obtain ⟨cT, ra, tt, t0, t1, t2, t3, t4, t5⟩ := u
  obtain ⟨hP, hK1, hD⟩ := hB
  rw [ht] at hP
  have hK : va_K D vwCl [(cT, .object RX1)] s := va_K.moved hvm.symm hK1
  generalize H1 = H at hP hS ⊢
  have hP : va_P D vwCl [(o, .inr (2, [.ref ra, .ref tt, .int 0])), (ra, .inl (cT, 6, .inr (.inr (.inr (.inr (va_up (va_up (va_up (va_up (va_up (va_up (fun _ => none) 0 (some t0)) 1 (some t1)) 2 (some t2)) 3 (some t3)) 4 (some t4)) 5 (some t5))))))), (tt, .inr (1, [.null])), (t0, .inr (1, [.null])), (t1, .inr (1, [.null])), (t2, .inr (1, [.null])), (t3, .inr (1, [.null])), (t4, .inr (1, [.null])), (t5, .inr (1, [.null]))] H := hP
  have hD : va_D (lA s.heap.size) [(o, .inr (2, [.ref ra, .ref tt, .int 0])), (ra, .inl (cT, 6, .inr (.inr (.inr (.inr (va_up (va_up (va_up (va_up (va_up (va_up (fun _ => none) 0 (some t0)) 1 (some t1)) 2 (some t2)) 3 (some t3)) 4 (some t4)) 5 (some t5))))))), (tt, .inr (1, [.null])), (t0, .inr (1, [.null])), (t1, .inr (1, [.null])), (t2, .inr (1, [.null])), (t3, .inr (1, [.null])), (t4, .inr (1, [.null])), (t5, .inr (1, [.null]))] := hD
  refine lv_astore_n (lv' := [(1, .ref o), (0, .ref b)]) hx hb dL_law_7 rfl hl (by decide) rfl (fun ls hl => ?_)
  refine va_new (D := D) (cl := vwCl) (ci := 3) (fs := [.int 0, .int 0, .int 0, .null, .null, .int 0]) (C := RX3) (T := TX3) (N := 6) hx hb hts inlX3 tyX3 tyX3_ok hown (hts0 (.classLink RL 111 RX3) (List.mem_of_getElem? (i := 633) (by decide +kernel))) inX3 (hts0 (.initialized RX3) (List.mem_of_getElem? (i := 42) (by decide +kernel))) hK hP hD hS hA rfl (fun j hj => by rcases (show j = 0 ∨ j = 1 ∨ j = 2 ∨ j = 3 ∨ j = 4 ∨ j = 5 by omega) with rfl | rfl | rfl | rfl | rfl | rfl <;> rfl) (Nat.le_of_ble_eq_true rfl) (Nat.le_of_ble_eq_true rfl) dL_law_8 (fun mo H hP hD hS => ?_)
  have hP : va_P D vwCl [(o, .inr (2, [.ref ra, .ref tt, .int 0])), (ra, .inl (cT, 6, .inr (.inr (.inr (.inr (va_up (va_up (va_up (va_up (va_up (va_up (fun _ => none) 0 (some t0)) 1 (some t1)) 2 (some t2)) 3 (some t3)) 4 (some t4)) 5 (some t5))))))), (tt, .inr (1, [.null])), (t0, .inr (1, [.null])), (t1, .inr (1, [.null])), (t2, .inr (1, [.null])), (t3, .inr (1, [.null])), (t4, .inr (1, [.null])), (t5, .inr (1, [.null])), (mo, .inr (3, [.int 0, .int 0, .int 0, .null, .null, .int 0]))] H := hP
  have hD : va_D (lA s.heap.size) [(o, .inr (2, [.ref ra, .ref tt, .int 0])), (ra, .inl (cT, 6, .inr (.inr (.inr (.inr (va_up (va_up (va_up (va_up (va_up (va_up (fun _ => none) 0 (some t0)) 1 (some t1)) 2 (some t2)) 3 (some t3)) 4 (some t4)) 5 (some t5))))))), (tt, .inr (1, [.null])), (t0, .inr (1, [.null])), (t1, .inr (1, [.null])), (t2, .inr (1, [.null])), (t3, .inr (1, [.null])), (t4, .inr (1, [.null])), (t5, .inr (1, [.null])), (mo, .inr (3, [.int 0, .int 0, .int 0, .null, .null, .int 0]))] := hD
  refine lv_dup hx hb dL_law_11 rfl ?_
  have hlo := hS.1
  refine va_callv (va_runI (As := []) (rest := [.ref mo]) S (c_X3_init (l := l) (D := D) (lo := s.heap.size) (mo := mo) (cT := cT) (w0 := (o, .inr (2, [.ref ra, .ref tt, .int 0]))) (w1 := (ra, .inl (cT, 6, .inr (.inr (.inr (.inr (va_up (va_up (va_up (va_up (va_up (va_up (fun _ => none) 0 (some t0)) 1 (some t1)) 2 (some t2)) 3 (some t3)) 4 (some t4)) 5 (some t5)))))))) (w2 := (tt, .inr (1, [.null]))) (w3 := (t0, .inr (1, [.null]))) (w4 := (t1, .inr (1, [.null]))) (w5 := (t2, .inr (1, [.null]))) (w6 := (t3, .inr (1, [.null]))) (w7 := (t4, .inr (1, [.null]))) (w8 := (t5, .inr (1, [.null])))) (cwI 0 hts gL_law_X3_init rfl rfl rfl (hts0 (.initialized RX3) (List.mem_of_getElem? (i := 42) (by decide +kernel))) (hts0 (.methodLink RL 113 yX3_init) (List.mem_of_getElem? (i := 635) (by decide +kernel))) (hts0 (.instanceMethod yX3_init) (List.mem_of_getElem? (i := 636) (by decide +kernel))) rfl (by decide +kernel) ⟨Nat.le_of_ble_eq_true rfl, Nat.le_of_ble_eq_true rfl⟩) ⟨fun a U g mk q => ⟨q.1, q.2.1, q.2.2.1, va_K.moved (u := U) (U := U.calling g mk a) (Vm.Alike.refl U.vm) q.2.2.2.1, q.2.2.2.2⟩, fun U hU hW => ⟨rfl, by rw [hU]; exact hlo, by rw [hU]; exact hP, va_K.moved hW.alike hK, hD⟩⟩ rfl rfl hl.1 rfl (lv_room (Nat.le_of_ble_eq_true rfl)) dL_law_12 ⟨(Nat.le_of_ble_eq_true rfl), (Nat.le_of_ble_eq_true rfl)⟩) hS (fun _ _ h => h) (fun _ h => h) (fun u t H1 locs ht hvm hw hB hz1 hk1 hS => ?_)
  obtain ⟨cI, na, ka⟩ := u
  obtain ⟨hP, hK1, hD⟩ := hB
  rw [ht] at hP
  have hK : va_K D vwCl [(cT, .object RX1), (cI, .int)] s := va_K.moved hvm.symm hK1
  generalize H1 = H at hP hS ⊢
  have hP : va_P D vwCl [(o, .inr (2, [.ref ra, .ref tt, .int 0])), (ra, .inl (cT, 6, .inr (.inr (.inr (.inr (va_up (va_up (va_up (va_up (va_up (va_up (fun _ => none) 0 (some t0)) 1 (some t1)) 2 (some t2)) 3 (some t3)) 4 (some t4)) 5 (some t5))))))), (tt, .inr (1, [.null])), (t0, .inr (1, [.null])), (t1, .inr (1, [.null])), (t2, .inr (1, [.null])), (t3, .inr (1, [.null])), (t4, .inr (1, [.null])), (t5, .inr (1, [.null])), (mo, .inr (3, [.int 0, .int 0, .int 0, .ref na, .ref ka, .int 0])), (na, .inl (cI, 206, .inl (fun _ => -1))), (ka, .inl (cI, 206, .inl (fun _ => 0)))] H := hP
  have hD : va_D (lA s.heap.size) [(o, .inr (2, [.ref ra, .ref tt, .int 0])), (ra, .inl (cT, 6, .inr (.inr (.inr (.inr (va_up (va_up (va_up (va_up (va_up (va_up (fun _ => none) 0 (some t0)) 1 (some t1)) 2 (some t2)) 3 (some t3)) 4 (some t4)) 5 (some t5))))))), (tt, .inr (1, [.null])), (t0, .inr (1, [.null])), (t1, .inr (1, [.null])), (t2, .inr (1, [.null])), (t3, .inr (1, [.null])), (t4, .inr (1, [.null])), (t5, .inr (1, [.null])), (mo, .inr (3, [.int 0, .int 0, .int 0, .ref na, .ref ka, .int 0])), (na, .inl (cI, 206, .inl (fun _ => -1))), (ka, .inl (cI, 206, .inl (fun _ => 0)))] := hD
  refine lv_astore_n (lv' := [(2, .ref mo), (1, .ref o), (0, .ref b)]) hx hb dL_law_15 rfl hl (by decide) rfl (fun ls hl => ?_)
  refine lv_iconst (v := 1) hx hb dL_law_16 (by decide) ?_
  refine va_newa (atype := .long) hx hb (hts0 (.arrayClass .long) (List.mem_of_getElem? (i := 942) (by decide +kernel))) (ty := .long) rfl hK hP hD hS hA (n := 1) (N' := 1) (a0 := (1, .inr (.inl (fun _ => 0)))) (fun _ => rfl) (by decide) (by decide) (Nat.le_of_ble_eq_true rfl) (Nat.le_of_ble_eq_true rfl) (Nat.le_of_ble_eq_true rfl) dL_law_17 (fun lg cJ H hK hP hD hS => ?_)
  have hP : va_P D vwCl [(o, .inr (2, [.ref ra, .ref tt, .int 0])), (ra, .inl (cT, 6, .inr (.inr (.inr (.inr (va_up (va_up (va_up (va_up (va_up (va_up (fun _ => none) 0 (some t0)) 1 (some t1)) 2 (some t2)) 3 (some t3)) 4 (some t4)) 5 (some t5))))))), (tt, .inr (1, [.null])), (t0, .inr (1, [.null])), (t1, .inr (1, [.null])), (t2, .inr (1, [.null])), (t3, .inr (1, [.null])), (t4, .inr (1, [.null])), (t5, .inr (1, [.null])), (mo, .inr (3, [.int 0, .int 0, .int 0, .ref na, .ref ka, .int 0])), (na, .inl (cI, 206, .inl (fun _ => -1))), (ka, .inl (cI, 206, .inl (fun _ => 0))), (lg, .inl (cJ, 1, .inr (.inl (fun _ => 0))))] H := hP
  have hD : va_D (lA s.heap.size) [(o, .inr (2, [.ref ra, .ref tt, .int 0])), (ra, .inl (cT, 6, .inr (.inr (.inr (.inr (va_up (va_up (va_up (va_up (va_up (va_up (fun _ => none) 0 (some t0)) 1 (some t1)) 2 (some t2)) 3 (some t3)) 4 (some t4)) 5 (some t5))))))), (tt, .inr (1, [.null])), (t0, .inr (1, [.null])), (t1, .inr (1, [.null])), (t2, .inr (1, [.null])), (t3, .inr (1, [.null])), (t4, .inr (1, [.null])), (t5, .inr (1, [.null])), (mo, .inr (3, [.int 0, .int 0, .int 0, .ref na, .ref ka, .int 0])), (na, .inl (cI, 206, .inl (fun _ => -1))), (ka, .inl (cI, 206, .inl (fun _ => 0))), (lg, .inl (cJ, 1, .inr (.inl (fun _ => 0))))] := hD
  refine lv_astore_n (lv' := [(3, .ref lg), (2, .ref mo), (1, .ref o), (0, .ref b)]) hx hb dL_law_19 rfl hl (by decide) rfl (fun ls hl => ?_)
  refine lv_iconst (v := 1) hx hb dL_law_20 (by decide) ?_
  refine va_newa (atype := .double) hx hb (hts0 (.arrayClass .double) (List.mem_of_getElem? (i := 943) (by decide +kernel))) (ty := .double) rfl hK hP hD hS hA (n := 1) (N' := 1) (a0 := (1, .inr (.inr (.inr (.inl (fun _ => 0)))))) (fun _ => rfl) (by decide) (by decide) (Nat.le_of_ble_eq_true rfl) (Nat.le_of_ble_eq_true rfl) (Nat.le_of_ble_eq_true rfl) dL_law_21 (fun db cD H hK hP hD hS => ?_)
  have hP : va_P D vwCl [(o, .inr (2, [.ref ra, .ref tt, .int 0])), (ra, .inl (cT, 6, .inr (.inr (.inr (.inr (va_up (va_up (va_up (va_up (va_up (va_up (fun _ => none) 0 (some t0)) 1 (some t1)) 2 (some t2)) 3 (some t3)) 4 (some t4)) 5 (some t5))))))), (tt, .inr (1, [.null])), (t0, .inr (1, [.null])), (t1, .inr (1, [.null])), (t2, .inr (1, [.null])), (t3, .inr (1, [.null])), (t4, .inr (1, [.null])), (t5, .inr (1, [.null])), (mo, .inr (3, [.int 0, .int 0, .int 0, .ref na, .ref ka, .int 0])), (na, .inl (cI, 206, .inl (fun _ => -1))), (ka, .inl (cI, 206, .inl (fun _ => 0))), (lg, .inl (cJ, 1, .inr (.inl (fun _ => 0)))), (db, .inl (cD, 1, .inr (.inr (.inr (.inl (fun _ => 0))))))] H := hP
  have hD : va_D (lA s.heap.size) [(o, .inr (2, [.ref ra, .ref tt, .int 0])), (ra, .inl (cT, 6, .inr (.inr (.inr (.inr (va_up (va_up (va_up (va_up (va_up (va_up (fun _ => none) 0 (some t0)) 1 (some t1)) 2 (some t2)) 3 (some t3)) 4 (some t4)) 5 (some t5))))))), (tt, .inr (1, [.null])), (t0, .inr (1, [.null])), (t1, .inr (1, [.null])), (t2, .inr (1, [.null])), (t3, .inr (1, [.null])), (t4, .inr (1, [.null])), (t5, .inr (1, [.null])), (mo, .inr (3, [.int 0, .int 0, .int 0, .ref na, .ref ka, .int 0])), (na, .inl (cI, 206, .inl (fun _ => -1))), (ka, .inl (cI, 206, .inl (fun _ => 0))), (lg, .inl (cJ, 1, .inr (.inl (fun _ => 0)))), (db, .inl (cD, 1, .inr (.inr (.inr (.inl (fun _ => 0))))))] := hD
  have hK : va_K D vwCl [(cT, .object RX1), (cI, .int), (cJ, .long), (cD, .double)] s := hK
  refine lv_astore (lv' := [(4, .ref db), (3, .ref lg), (2, .ref mo), (1, .ref o), (0, .ref b)]) hx hb dL_law_23 hl (by decide) rfl (fun ls hl => ?_)
  refine lv_iconst (v := 0) hx hb dL_law_25 (by decide) ?_
  refine lv_istore (lv' := [(5, .int 0), (4, .ref db), (3, .ref lg), (2, .ref mo), (1, .ref o), (0, .ref b)]) hx hb dL_law_26 hl (by decide) rfl (fun ls hl => ?_)
  obtain ⟨Γ, Z, hH, hKΓ, hLI, e3, e7, e8⟩ := start_world hS.1 hP hD hK
  subst e3
  subst e7
  subst e8
  refine W.widen (k := 20 + 48 * 0) (n := 500 + 288 * 0) (Nat.le_of_ble_eq_true rfl) (Nat.le_of_ble_eq_true rfl) ?_
  exact law_loop ⟨S, hKΓ, hYE, hx8, hbl, hbA, hst, hL⟩ hr hlocks 513 0 H _ ls Z (by omega) (by omega) hH hLI hS hl
