/-! THE LAW'S BODY: a number of the script read; the comparing behind two calls -/
/-- what holds all along the law's body -/
def LF (p : Program) (l : Launch) (s : State) (m : MethodId) (args : Array Value) (c : Code) (D : va_G) (lo : Nat) (Γ : GT) (b Ln : Nat) (xs : Nat → Int32) : Prop :=
  CallFix p m c cL_law 9 s args wsL_law RL ∧ va_K D vwCl (TY Γ) s ∧ YE lo s s.heap ∧ va_X b Ln xs s s.heap ∧ b < s.heap.size ∧ ¬ lA lo b ∧ l.stackTraces = false ∧ Ln ≤ 2048
abbrev LV (Γ : GT) (o b i : Nat) : List (Nat × Value) := [(5, .int (nI i)), (4, .ref (gxa Γ 8)), (3, .ref (gxa Γ 7)), (2, .ref (gxa Γ 3)), (1, .ref o), (0, .ref b)]
section Tail
variable {p : Program} {l : Launch} {e : Env} {s : State} {m : MethodId} {args : Array Value} {below : List Frame} {meth : Method} {c : Code} {H : Heap} {locs : List Loc} {cl sl : Nat} {Q0 : State → Prop} {ls : Array Slot} {D : va_G} {lo : Nat} {Γ : GT} {b Ln i o : Nat} {xs : Nat → Int32} {rest : List Value} {C1 : CW} {M2 : MW} {V1 : Int64 × UInt64}
theorem ldS {pc k : Nat} {kI : Int} (X : LF p l s m args c D lo Γ b Ln xs) (hS : va_S (lA lo) s.heap H locs) (h0 : ls[0]? = some (.val (.ref b))) (h5 : ls[5]? = some (.val (.int (nI i)))) (hk : i + k < Ln) (hki : Int32.ofInt kI = nI k)
    (d0 : decode cL_law pc = .ok (.aload_n 0, 1)) (d1 : decode cL_law (pc + 1) = .ok (.iload 5, 2)) (d2 : decode cL_law (pc + 3) = .ok (.iconst kI, 1)) (d3 : decode cL_law (pc + 4) = .ok (.iadd, 1)) (d4 : decode cL_law (pc + 5) = .ok (.iaload, 1))
    (kk : W p l e room_1 s m args below meth c H locs cl sl Q0 (F0 m (pc + 6) ls (.int (xs (i + k)) :: rest))) : W p l e room_1 s m args below meth c H locs cl sl Q0 (F0 m pc ls rest) := by
  obtain ⟨S, hK, hX, hx8, hbl, hbA, hst, hLn⟩ := X
  refine lv_aload_n S.1 S.2.1 d0 rfl h0 ?_
  refine lv_iload S.1 S.2.1 d1 h5 ?_
  refine lv_iconst (v := nI k) S.1 S.2.1 d2 hki ?_
  refine lv_iadd S.1 S.2.1 d3 ?_
  rw [nI_add]
  refine va_sld (A := lA lo) S.1 S.2.1 hx8 hbl hbA hS (vp_in_nI hk (by omega)) d4 ?_
  rw [nI_clamp (by omega)]
  exact kk
set_option maxRecDepth 100000 in
set_option maxHeartbeats 4000000 in
/-- .. of two numbers -/
theorem tlI {B k9 : Nat} {og : Int} {w : Int32} (X : LF p l s m args c D lo Γ b Ln xs) (hH : Hp D lo Γ (C1, M2, V1) H) (hS : va_S (lA lo) s.heap H locs) (hl : lv_has ls 9 ((6, .int (nI k9)) :: LV Γ o b i)) (hth : M2.1 = k9) (hk9 : k9 < 4) (hw : k9 = 0 → V1.1 = w.toInt64) (hcl : cl ≤ 659995) (hsl : sl ≤ 7116119)
    (d0 : decode cL_law B = .ok (.istore 7, 2)) (d1 : decode cL_law (B + 2) = .ok (.aload_n 2, 1)) (d2 : decode cL_law (B + 3) = .ok (.invokevirtual 120, 3)) (d3 : decode cL_law (B + 6) = .ok (.iload 6, 2)) (d4 : decode cL_law (B + 8) = .ok (.if_icmp .eq 5, 3)) (d5 : decode cL_law (B + 13) = .ok (.iload 6, 2)) (d6 : decode cL_law (B + 15) = .ok (.ifCond .ne 15, 3)) (d7 : decode cL_law (B + 18) = .ok (.aload_n 3, 1)) (d8 : decode cL_law (B + 19) = .ok (.iconst 0, 1)) (d9 : decode cL_law (B + 20) = .ok (.laload, 1)) (d10 : decode cL_law (B + 21) = .ok (.iload 7, 2)) (d11 : decode cL_law (B + 23) = .ok (.i2l, 1)) (d12 : decode cL_law (B + 24) = .ok (.lcmp, 1)) (d13 : decode cL_law (B + 25) = .ok (.ifCond .eq 5, 3)) (d14 : decode cL_law (B + 30) = .ok (.goto og, 3)) (hog : ((B + 30 : Nat) : Int) + og = ((2211 : Nat) : Int))
    (kk : ∀ (H1 : Heap) (locs1 : List Loc) (ls1 : Array Slot), Hp D lo Γ (C1, M2, V1) H1 → va_S (lA lo) s.heap H1 locs1 → lv_has ls1 9 (LV Γ o b i) → W p l e room_1 s m args below meth c H1 locs1 cl sl Q0 (F0 m 2211 ls1 [])) : W p l e room_1 s m args below meth c H locs cl sl Q0 (F0 m B ls [.int w]) := by
  obtain ⟨S, hK, hX, -, -, -, -, -⟩ := X
  have hx := S.1
  have hb := S.2.1
  have hts := S.2.2.2.2
  obtain ⟨h3a, h3k, -⟩ := gmo hH (j := 3) (by simp)
  refine lv_istore (lv' := (7, .int w) :: (6, .int (nI k9)) :: LV Γ o b i) hx hb d0 hl (by decide) rfl (fun ls hl => ?_)
  refine lv_aload_n hx hb d1 rfl (lv_at hl 5 rfl) ?_
  obtain ⟨th, mn, tm, kt, Q9, zs, be, kp⟩ := M2
  have hth : th = k9 := hth
  subst hth
  refine cV S (c_X3_thrown (l := l) (D := D) (lo := lo) (Γ := Γ) (C := C1) (V := V1) (th := th) (mn := mn) (tm := tm) (kt := kt) (Q := Q9) (zs := zs) (be := be) (kp := kp)) (cwV 0 hts gL_law_X3_thrown rfl rfl rfl (by decide +kernel) ⟨Nat.le_of_ble_eq_true rfl, Nat.le_of_ble_eq_true rfl⟩) hK hH (Hp_recv hK hH h3a h3k rfl) hS rfl hl.1 rfl (by simp [Value.category]) d2 ⟨hcl, hsl⟩ (fun v Z1 H locs hpost hH hS => ?_)
  obtain ⟨rfl, rfl⟩ := hpost
  refine lv_iload hx hb d3 (lv_at hl 1 rfl) ?_
  refine lv_icmp_eq hx hb d4 (tgt := B + 13) (by omega) (fun _ => ?_) (fun h => absurd rfl h)
  refine lv_iload hx hb d5 (lv_at hl 1 rfl) ?_
  have hlE : lv_has ls 9 (LV Γ o b i) := lv_sub hl [2, 3, 4, 5, 6, 7] rfl
  refine lv_if_ne hx hb d6 (tgt := B + 30) (by omega) (fun _ => ?_) (fun h0 => ?_)
  · refine lv_goto hx hb d14 hog ?_
    exact kk _ _ _ hH hS hlE
  · have hz : th = 0 := nI_inj9 (by omega) (by omega) h0
    refine lv_aload_n hx hb d7 rfl (lv_at hl 4 rfl) ?_
    refine lv_iconst (v := 0) hx hb d8 (by decide) ?_
    refine gLg S hK hH d9 ?_
    refine lv_iload hx hb d10 (lv_at hl 0 rfl) ?_
    refine lv_i2l hx hb d11 rfl ?_
    refine W.lcmp hx hb d12 ?_
    refine lv_if_eq hx hb d13 (tgt := B + 30) (by omega) (fun _ => ?_) (fun h => absurd ((lg_cmp_eq _ _).mpr (hw hz)) h)
    refine lv_goto hx hb d14 hog ?_
    exact kk _ _ _ hH hS hlE
set_option maxRecDepth 100000 in
set_option maxHeartbeats 4000000 in
/-- .. of a truth value -/
theorem tlZ {B k9 : Nat} {og : Int} {w : Int32} (X : LF p l s m args c D lo Γ b Ln xs) (hH : Hp D lo Γ (C1, M2, V1) H) (hS : va_S (lA lo) s.heap H locs) (hl : lv_has ls 9 ((6, .int (nI k9)) :: LV Γ o b i)) (hth : M2.1 = k9) (hk9 : k9 < 4) (hz9 : w = 0 ∨ w = 1) (hw : k9 = 0 → V1.1 = w.toInt64) (hcl : cl ≤ 659995) (hsl : sl ≤ 7116119)
    (d0 : decode cL_law B = .ok (.istore 7, 2)) (d1 : decode cL_law (B + 2) = .ok (.aload_n 2, 1)) (d2 : decode cL_law (B + 3) = .ok (.invokevirtual 120, 3)) (d3 : decode cL_law (B + 6) = .ok (.iload 6, 2)) (d4 : decode cL_law (B + 8) = .ok (.if_icmp .eq 5, 3)) (d5 : decode cL_law (B + 13) = .ok (.iload 6, 2)) (d6 : decode cL_law (B + 15) = .ok (.ifCond .ne 22, 3)) (d7 : decode cL_law (B + 18) = .ok (.aload_n 3, 1)) (d8 : decode cL_law (B + 19) = .ok (.iconst 0, 1)) (d9 : decode cL_law (B + 20) = .ok (.laload, 1)) (d10 : decode cL_law (B + 21) = .ok (.iload 7, 2)) (d11 : decode cL_law (B + 23) = .ok (.ifCond .eq 7, 3)) (d12 : decode cL_law (B + 26) = .ok (.lconst 1, 1)) (d13 : decode cL_law (B + 27) = .ok (.goto 4, 3)) (d15 : decode cL_law (B + 30) = .ok (.lconst 0, 1)) (d16 : decode cL_law (B + 31) = .ok (.lcmp, 1)) (d17 : decode cL_law (B + 32) = .ok (.ifCond .eq 5, 3)) (d14 : decode cL_law (B + 37) = .ok (.goto og, 3)) (hog : ((B + 37 : Nat) : Int) + og = ((2211 : Nat) : Int))
    (kk : ∀ (H1 : Heap) (locs1 : List Loc) (ls1 : Array Slot), Hp D lo Γ (C1, M2, V1) H1 → va_S (lA lo) s.heap H1 locs1 → lv_has ls1 9 (LV Γ o b i) → W p l e room_1 s m args below meth c H1 locs1 cl sl Q0 (F0 m 2211 ls1 [])) : W p l e room_1 s m args below meth c H locs cl sl Q0 (F0 m B ls [.int w]) := by
  obtain ⟨S, hK, hX, -, -, -, -, -⟩ := X
  have hx := S.1
  have hb := S.2.1
  have hts := S.2.2.2.2
  obtain ⟨h3a, h3k, -⟩ := gmo hH (j := 3) (by simp)
  refine lv_istore (lv' := (7, .int w) :: (6, .int (nI k9)) :: LV Γ o b i) hx hb d0 hl (by decide) rfl (fun ls hl => ?_)
  refine lv_aload_n hx hb d1 rfl (lv_at hl 5 rfl) ?_
  obtain ⟨th, mn, tm, kt, Q9, zs, be, kp⟩ := M2
  have hth : th = k9 := hth
  subst hth
  refine cV S (c_X3_thrown (l := l) (D := D) (lo := lo) (Γ := Γ) (C := C1) (V := V1) (th := th) (mn := mn) (tm := tm) (kt := kt) (Q := Q9) (zs := zs) (be := be) (kp := kp)) (cwV 0 hts gL_law_X3_thrown rfl rfl rfl (by decide +kernel) ⟨Nat.le_of_ble_eq_true rfl, Nat.le_of_ble_eq_true rfl⟩) hK hH (Hp_recv hK hH h3a h3k rfl) hS rfl hl.1 rfl (by simp [Value.category]) d2 ⟨hcl, hsl⟩ (fun v Z1 H locs hpost hH hS => ?_)
  obtain ⟨rfl, rfl⟩ := hpost
  refine lv_iload hx hb d3 (lv_at hl 1 rfl) ?_
  refine lv_icmp_eq hx hb d4 (tgt := B + 13) (by omega) (fun _ => ?_) (fun h => absurd rfl h)
  refine lv_iload hx hb d5 (lv_at hl 1 rfl) ?_
  have hlE : lv_has ls 9 (LV Γ o b i) := lv_sub hl [2, 3, 4, 5, 6, 7] rfl
  refine lv_if_ne hx hb d6 (tgt := B + 37) (by omega) (fun _ => ?_) (fun h0 => ?_)
  · refine lv_goto hx hb d14 hog ?_
    exact kk _ _ _ hH hS hlE
  · have hz : th = 0 := nI_inj9 (by omega) (by omega) h0
    refine lv_aload_n hx hb d7 rfl (lv_at hl 4 rfl) ?_
    refine lv_iconst (v := 0) hx hb d8 (by decide) ?_
    refine gLg S hK hH d9 ?_
    refine lv_iload hx hb d10 (lv_at hl 0 rfl) ?_
    have last : ∀ v9 : Int64, v9 = w.toInt64 → W p l e room_1 s m args below meth c H locs cl sl Q0 (F0 m (B + 31) ls [.long v9, .long V1.1]) := fun v9 hv9 => by
      refine W.lcmp hx hb d16 ?_
      refine lv_if_eq hx hb d17 (tgt := B + 37) (by omega) (fun _ => ?_) (fun h => absurd ((lg_cmp_eq _ _).mpr ((hw hz).trans hv9.symm)) h)
      refine lv_goto hx hb d14 hog ?_
      exact kk _ _ _ hH hS hlE
    refine lv_if_eq hx hb d11 (tgt := B + 30) (by omega) (fun h1 => ?_) (fun h1 => ?_)
    · refine lv_lconst (v := 0) hx hb d15 (by decide) ?_
      exact last 0 (by rw [h1]; decide)
    · refine lv_lconst (v := 1) hx hb d12 (by decide) ?_
      refine lv_goto hx hb d13 (tgt := B + 31) (by omega) ?_
      exact last 1 (by rw [hz9.resolve_left h1]; decide)
set_option maxRecDepth 100000 in
set_option maxHeartbeats 4000000 in
/-- .. of two doubles -/
theorem tlD {k9 : Nat} {w : UInt64} (X : LF p l s m args c D lo Γ b Ln xs) (hH : Hp D lo Γ (C1, M2, V1) H) (hS : va_S (lA lo) s.heap H locs) (hl : lv_has ls 9 ((6, .int (nI k9)) :: LV Γ o b i)) (hth : M2.1 = k9) (hk9 : k9 < 4) (hw : k9 = 0 → V1.2 = w) (hcl : cl ≤ 659995) (hsl : sl ≤ 7116119)
    (kk : ∀ (H1 : Heap) (locs1 : List Loc) (ls1 : Array Slot), Hp D lo Γ (C1, M2, V1) H1 → va_S (lA lo) s.heap H1 locs1 → lv_has ls1 9 (LV Γ o b i) → W p l e room_1 s m args below meth c H1 locs1 cl sl Q0 (F0 m 2211 ls1 [])) : W p l e room_1 s m args below meth c H locs cl sl Q0 (F0 m 2144 ls [.double w]) := by
  obtain ⟨S, hK, hX, -, -, -, -, -⟩ := X
  have hx := S.1
  have hb := S.2.1
  have hts := S.2.2.2.2
  obtain ⟨h3a, h3k, -⟩ := gmo hH (j := 3) (by simp)
  refine lv_dstore (lv' := (7, .double w) :: (6, .int (nI k9)) :: LV Γ o b i) hx hb dL_law_2144 hl (by decide) rfl (fun ls hl => ?_)
  refine lv_aload_n hx hb dL_law_2146 rfl (lv_at hl 5 rfl) ?_
  obtain ⟨th, mn, tm, kt, Q9, zs, be, kp⟩ := M2
  have hth : th = k9 := hth
  subst hth
  refine cV S (c_X3_thrown (l := l) (D := D) (lo := lo) (Γ := Γ) (C := C1) (V := V1) (th := th) (mn := mn) (tm := tm) (kt := kt) (Q := Q9) (zs := zs) (be := be) (kp := kp)) (cwV 0 hts gL_law_X3_thrown rfl rfl rfl (by decide +kernel) ⟨Nat.le_of_ble_eq_true rfl, Nat.le_of_ble_eq_true rfl⟩) hK hH (Hp_recv hK hH h3a h3k rfl) hS rfl hl.1 rfl (by simp [Value.category]) dL_law_2147 ⟨hcl, hsl⟩ (fun v Z1 H locs hpost hH hS => ?_)
  obtain ⟨rfl, rfl⟩ := hpost
  refine lv_iload hx hb dL_law_2150 (lv_at hl 1 rfl) ?_
  refine lv_icmp_eq hx hb dL_law_2152 (tgt := 2157) rfl (fun _ => ?_) (fun h => absurd rfl h)
  refine lv_iload hx hb dL_law_2157 (lv_at hl 1 rfl) ?_
  have hlE : lv_has ls 9 (LV Γ o b i) := lv_sub hl [2, 3, 4, 5, 6, 7] rfl
  have fin : W p l e room_1 s m args below meth c H locs cl sl Q0 (F0 m 2194 ls []) := by
    refine lv_goto hx hb dL_law_2194 (tgt := 2211) rfl ?_
    exact kk _ _ _ hH hS hlE
  refine lv_if_ne hx hb dL_law_2159 (tgt := 2194) rfl (fun _ => fin) (fun h0 => ?_)
  have hz : th = 0 := nI_inj9 (by omega) (by omega) h0
  have e9 := hw hz
  refine lv_aload hx hb dL_law_2162 (lv_at hl 3 rfl) ?_
  refine lv_iconst (v := 0) hx hb dL_law_2164 (by decide) ?_
  refine gDb S hK hH dL_law_2165 ?_
  refine lv_dload hx hb dL_law_2166 (lv_at hl 0 rfl) ?_
  refine lv_dcmp hx hb dL_law_2168 ?_
  rw [e9]
  refine lv_if_eq hx hb dL_law_2169 (tgt := 2194) rfl (fun _ => fin) (fun hE => ?_)
  refine lv_aload hx hb dL_law_2172 (lv_at hl 3 rfl) ?_
  refine lv_iconst (v := 0) hx hb dL_law_2174 (by decide) ?_
  refine gDb S hK hH dL_law_2175 ?_
  refine lv_aload hx hb dL_law_2176 (lv_at hl 3 rfl) ?_
  refine lv_iconst (v := 0) hx hb dL_law_2178 (by decide) ?_
  refine gDb S hK hH dL_law_2179 ?_
  refine lv_dcmp hx hb dL_law_2180 ?_
  rw [e9]
  refine lv_if_eq hx hb dL_law_2181 (tgt := 2192) rfl (fun h => absurd h hE) (fun _ => ?_)
  refine lv_dload hx hb dL_law_2184 (lv_at hl 0 rfl) ?_
  refine lv_dload hx hb dL_law_2186 (lv_at hl 0 rfl) ?_
  refine lv_dcmp hx hb dL_law_2188 ?_
  exact lv_if_ne hx hb dL_law_2189 (tgt := 2194) rfl (fun _ => fin) (fun h => absurd h hE)
end Tail
theorem lt4_1 {n : Nat} (h : n = 0 ∨ n = 1) : n < 4 := by omega
theorem lt4_2 {n : Nat} (h : n = 0 ∨ n = 1 ∨ n = 2) : n < 4 := by omega
section MeanD
variable {Γ : GT} {o : Nat} {T : Nat → Tr} {sz bi : Nat → Nat} {L : List Nat} {K : Nat → Nat} {si : Nat → Option Nat} {P : PF} {tu mn : Nat} {Q : PF} {zs : Nat → Option Nat} {be : Nat → Nat} {φ : Nat → Nat} {V : Int64 × UInt64} {row : Int32} {M : MW}
theorem km9_c : md8 row = 0 ∨ md8 row = 1 := by unfold md8; split <;> simp
theorem RI_md (_ : RI T sz bi Q zs be mn φ) : (md8 row, md9 (fun r => mp φ (T r)) row) = (md8 row, md9 T row) := by
  unfold md9
  cases rowN row with
  | none => rfl
  | some r => dsimp only; rw [RI_mdp]
theorem hp_md : ∀ v Z', (fun (v : Option Value) (Z' : WS) => ∃ r, rowN row = some r ∧ v = some (.double (mdp (T r))) ∧ CSW Γ o T sz bi tu M V Z') v Z' → ∃ (n : UInt64) (C' : CW), v = some (.double n) ∧ Z' = (C', M, V) := fun v Z' h => by
  obtain ⟨r, e1, e2, e3⟩ := h
  obtain ⟨C, hC⟩ := CSW_o e3
  exact ⟨_, C, e2, hC⟩
theorem hx_md : ∀ E Z', (fun (E : String) (Z' : WS) => (E = "java/lang/IndexOutOfBoundsException" ∧ rowN row = none) ∧ Z' = ((L, K, sz, si, P, bi, tu), M, V)) E Z' → E = "java/lang/IndexOutOfBoundsException" ∧ ∃ C' : CW, Z' = (C', M, V) := fun E Z' h => ⟨h.1.1, _, h.2⟩
theorem qw_md {v : Option Value} {Z' : WS} (hc : CI Γ o T L K sz si P) (h : WD (fun (v : Option Value) (Z' : WS) => ∃ r, rowN row = some r ∧ v = some (.double (mdp (T r))) ∧ CSW Γ o T sz bi tu M V Z') (fun (E : String) (Z' : WS) => (E = "java/lang/IndexOutOfBoundsException" ∧ rowN row = none) ∧ Z' = ((L, K, sz, si, P, bi, tu), M, V)) M V cd1 v Z') : ∃ (C' : CW) (V' : Int64 × UInt64), v = some (.int (nI (md8 row))) ∧ Z' = (C', M, V') ∧ CSW Γ o T sz bi tu M V' (C', M, V') ∧ (md8 row = 0 → V'.2 = md9 T row) := by
  rcases h with ⟨n, C', ⟨r, e1, e2, e3⟩, rfl, rfl⟩ | ⟨E, C', ⟨⟨h1, h2⟩, hz⟩, rfl, rfl⟩
  · cases e2
    refine ⟨C', _, ?_, rfl, CSW_V e3, fun _ => ?_⟩
    · unfold md8; rw [e1]; rfl
    · unfold md9; rw [e1]
  · cases hz
    refine ⟨_, V, ?_, rfl, ⟨L, K, si, P, rfl, hc⟩, fun h => ?_⟩
    · unfold md8; rw [h2]; rfl
    · unfold md8 at h; rw [h2] at h; cases h
end MeanD
