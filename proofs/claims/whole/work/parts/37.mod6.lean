/-! METHODS of the reference that try something and bring it back -/
section MRows6
variable {p : Program} {l : Launch} {e : Env} {R : Room} {s : State} {m : MethodId} {args : Array Value} {below : List Frame} {meth : Method} {c : Code} {H H0 : Heap} {locs : List Loc} {cells slots : Nat} {QQ : State → Prop}
variable {cc : ByteArray} {pc nL index : Nat} {ls : Array Slot} {rest : List Value} {D : va_G} {lo : Nat} {Γ : GT} {Ts : List Cond} {own : String} {C : CW} {M : MW} {V : Int64 × UInt64}
theorem ef5 (hk : C.2.1 (gxa Γ 5) = 5) : ef Γ (C, M, V) (gxa Γ 5) = .inl (gI Γ, 206, .inl M.2.2.2.2.2.2.2) := by
  unfold ef
  rw [if_neg (by dsimp only; omega), if_neg (by dsimp only; omega), if_neg (by dsimp only; omega), if_neg (by dsimp only; omega), if_neg (by dsimp only; omega), if_pos hk]
/-- all numbers laid aside -/
theorem cpK (S : CallFix p m c cc nL s args Ts own) (hls : ls.size = nL) (hK : va_K D vwCl (TY Γ) s) (hH : Hp D lo Γ (C, M, V) H) (hS : va_S (lA lo) H0 H locs) (hlink : (Cond.methodLink own index arraycopyName).before args s = true) (hnat : (Cond.native arraycopyName).before args s = true) (hstat : (Cond.static arraycopyName).before args s = true) (hini : (Cond.initialized "java/lang/System").before args s = true)
    (hframes : 1 ≤ R.frames) (hlocals : (rest.map fun v => v.category).sum + (nativeFrameWords "java/lang/System" "arraycopy" 5 + 11) ≤ R.locals) (hdg : decode cc pc = .ok (.invokestatic index, 3))
    (kk : ∀ (H1 : Heap) (locs1 : List Loc), Hp D lo Γ (C, (M.1, M.2.1, M.2.2.1, M.2.2.2.1, M.2.2.2.2.1, M.2.2.2.2.2.1, M.2.2.2.2.2.2.1, va_cpy (encN M.2.2.2.2.1 M.2.2.2.2.2.1 M.2.2.2.2.2.2.1) M.2.2.2.2.2.2.2 0 0 206), V) H1 → va_S (lA lo) H0 H1 locs1 → W p l e R s m args below meth c H1 locs1 cells slots QQ (F0 m (pc + 3) ls rest)) : W p l e R s m args below meth c H locs cells slots QQ (F0 m pc ls (.int 206 :: .int 0 :: .ref (gka Γ) :: .int 0 :: .ref (gna Γ) :: rest)) := by
  obtain ⟨hx, hb, hml, hown, hts⟩ := S
  obtain ⟨ha4, hk4, -⟩ := gmo hH (j := 4) (by simp)
  obtain ⟨ha, hk, hu⟩ := gmo hH (j := 5) (by simp)
  obtain ⟨q4, hq4⟩ := va_plg (f := ef Γ (C, M, V)) ha4 (ef4 hk4)
  obtain ⟨q, hq⟩ := va_plg (f := ef Γ (C, M, V)) ha rfl
  have hq0 := hq
  rw [ef5 hk] at hq
  refine va_copyi hx hb (hml.trans hls.symm) hown hlink hnat hstat hini hK hH.1 hH.2.1 hS q4 q 0 0 hq4 hq rfl rfl rfl (by decide) (by decide) (by decide) (by decide) (by decide) (fun _ _ => rfl) hframes hlocals hdg (fun H1 locs1 hP1 hD1 hS1 => ?_)
  have e0 : (0 : Int32).toNatClampNeg = 0 := by decide
  have e6 : (206 : Int32).toNatClampNeg = 206 := by decide
  rw [e0, e6] at hP1 hD1
  have h4 := va_pls (e := .inl (gI Γ, 206, .inl (va_cpy (encN M.2.2.2.2.1 M.2.2.2.2.2.1 M.2.2.2.2.2.2.1) M.2.2.2.2.2.2.2 0 0 206))) hH.2.1 ha hq0 (fun b => rfl)
  have h6 : va_pl C.1 (va_up (ef Γ (C, M, V)) (gxa Γ 5) (.inl (gI Γ, 206, .inl (va_cpy (encN M.2.2.2.2.1 M.2.2.2.2.2.1 M.2.2.2.2.2.2.1) M.2.2.2.2.2.2.2 0 0 206)))) = va_pl C.1 (ef Γ (C, (M.1, M.2.1, M.2.2.1, M.2.2.2.1, M.2.2.2.2.1, M.2.2.2.2.2.1, M.2.2.2.2.2.2.1, va_cpy (encN M.2.2.2.2.1 M.2.2.2.2.2.1 M.2.2.2.2.2.2.1) M.2.2.2.2.2.2.2 0 0 206), V)) := by
    unfold va_pl
    refine List.map_congr_left (fun b hbL => ?_)
    by_cases hba : b = gxa Γ 5
    · subst hba
      rw [va_up_self, ef5 hk]
    · rw [va_up_ne _ _ hba]
      have hk2 : C.2.1 b ≠ 5 := fun e2 => hba (hu b hbL e2)
      unfold ef
      dsimp only
      rw [if_neg hk2, if_neg hk2]
  rw [h4.trans h6] at hP1 hD1
  exact kk H1 locs1 ⟨hP1, hD1, ⟨Hp_lo hP1 hD1 ha, hH.2.2.1.2⟩, hH.2.2.2⟩ hS1
/-- all numbers brought back -/
theorem cpB (S : CallFix p m c cc nL s args Ts own) (hls : ls.size = nL) (hK : va_K D vwCl (TY Γ) s) (hH : Hp D lo Γ (C, M, V) H) (hS : va_S (lA lo) H0 H locs) (hlink : (Cond.methodLink own index arraycopyName).before args s = true) (hnat : (Cond.native arraycopyName).before args s = true) (hstat : (Cond.static arraycopyName).before args s = true) (hini : (Cond.initialized "java/lang/System").before args s = true)
    (Q0 : PF) (zs0 : Nat → Option Nat) (be0 : Nat → Nat) (hk0 : ∀ i, i < 206 → M.2.2.2.2.2.2.2 i = encN Q0 zs0 be0 i) (h6 : ∀ x, 6 ≤ x → M.2.2.2.2.1 3 x = Q0 3 x)
    (hframes : 1 ≤ R.frames) (hlocals : (rest.map fun v => v.category).sum + (nativeFrameWords "java/lang/System" "arraycopy" 5 + 11) ≤ R.locals) (hdg : decode cc pc = .ok (.invokestatic index, 3))
    (kk : ∀ (H1 : Heap) (locs1 : List Loc), Hp D lo Γ (C, (M.1, M.2.1, M.2.2.1, M.2.2.2.1, Q0, zs0, be0, M.2.2.2.2.2.2.2), V) H1 → va_S (lA lo) H0 H1 locs1 → W p l e R s m args below meth c H1 locs1 cells slots QQ (F0 m (pc + 3) ls rest)) : W p l e R s m args below meth c H locs cells slots QQ (F0 m pc ls (.int 206 :: .int 0 :: .ref (gna Γ) :: .int 0 :: .ref (gka Γ) :: rest)) := by
  obtain ⟨hx, hb, hml, hown, hts⟩ := S
  obtain ⟨ha5, hk5, -⟩ := gmo hH (j := 5) (by simp)
  obtain ⟨ha, hk, hu⟩ := gmo hH (j := 4) (by simp)
  obtain ⟨q5, hq5⟩ := va_plg (f := ef Γ (C, M, V)) ha5 (ef5 hk5)
  obtain ⟨q, hq⟩ := va_plg (f := ef Γ (C, M, V)) ha rfl
  have hq0 := hq
  rw [ef4 hk] at hq
  refine va_copyi hx hb (hml.trans hls.symm) hown hlink hnat hstat hini hK hH.1 hH.2.1 hS q5 q 0 0 hq5 hq rfl rfl rfl (by decide) (by decide) (by decide) (by decide) (by decide) (fun _ _ => rfl) hframes hlocals hdg (fun H1 locs1 hP1 hD1 hS1 => ?_)
  have e0 : (0 : Int32).toNatClampNeg = 0 := by decide
  have e6 : (206 : Int32).toNatClampNeg = 206 := by decide
  rw [e0, e6] at hP1 hD1
  have e9 : va_cpy M.2.2.2.2.2.2.2 (encN M.2.2.2.2.1 M.2.2.2.2.2.1 M.2.2.2.2.2.2.1) 0 0 206 = encN Q0 zs0 be0 := by
    funext i
    unfold va_cpy
    by_cases hi : i < 206
    · rw [if_pos ⟨Nat.zero_le _, by omega⟩, show 0 + (i - 0) = i by omega]; exact hk0 i hi
    · rw [if_neg (by omega), show i = 200 + (i - 200) by omega, enc_tp, enc_tp, h6 _ (by omega)]
  rw [e9] at hP1 hD1
  have h4 := va_pls (e := .inl (gI Γ, 206, .inl (encN Q0 zs0 be0))) hH.2.1 ha hq0 (fun b => rfl)
  have h6 : va_pl C.1 (va_up (ef Γ (C, M, V)) (gxa Γ 4) (.inl (gI Γ, 206, .inl (encN Q0 zs0 be0)))) = va_pl C.1 (ef Γ (C, (M.1, M.2.1, M.2.2.1, M.2.2.2.1, Q0, zs0, be0, M.2.2.2.2.2.2.2), V)) := by
    unfold va_pl
    refine List.map_congr_left (fun b hbL => ?_)
    by_cases hba : b = gxa Γ 4
    · subst hba
      rw [va_up_self, ef4 hk]
    · rw [va_up_ne _ _ hba]
      have hk2 : C.2.1 b ≠ 4 := fun e2 => hba (hu b hbL e2)
      unfold ef
      dsimp only
      rw [if_neg hk2, if_neg hk2]
  rw [h4.trans h6] at hP1 hD1
  exact kk H1 locs1 ⟨hP1, hD1, ⟨Hp_lo hP1 hD1 ha, hH.2.2.1.2⟩, hH.2.2.2⟩ hS1
end MRows6
/-- what is kept -/
def kpo (Q : PF) (zs : Nat → Option Nat) (be : Nat → Nat) (kp : Nat → Int32) : Nat → Int32 := va_cpy (encN Q zs be) kp 0 0 206
theorem kpo_at {Q : PF} {zs : Nat → Option Nat} {be : Nat → Nat} {kp : Nat → Int32} {i : Nat} (h : i < 206) : kpo Q zs be kp i = encN Q zs be i := by
  unfold kpo va_cpy
  rw [if_pos ⟨Nat.zero_le _, by omega⟩, show 0 + (i - 0) = i by omega]
/-- bringing up keeps the tops; the tree that comes of it -/
theorem raise_z {Q : PF} {t : Tr} {a : Nat} (hrep : rep Q none t) (hn : (tids t).Nodup) (ha : a ∈ tids t) : Zp Q (.branch a (zof t a).2.1 (zof t a).2.2.1) (zof t a).2.2.2 ∧ plug (.branch a (zof t a).2.1 (zof t a).2.2.1) (zof t a).2.2.2 = t :=
  ⟨(Zp_plug _ _).mpr (by rw [zof_plug ha]; exact hrep), zof_plug ha⟩
section MMod6
variable {l : Launch} {D : va_G} {lo : Nat} {Γ : GT} {C : CW} {V : Int64 × UInt64} {th mn tm kt : Nat} {Q : PF} {zs : Nat → Option Nat} {be : Nat → Nat} {kp : Nat → Int32}
set_option maxRecDepth 100000 in
set_option maxHeartbeats 4000000 in
theorem c_X3_keep  : Md l yX3_keep wsX3_keep (rmL 2 0 0) D lo Γ [.ref (gxa Γ 3)] (C, (th, mn, tm, kt, Q, zs, be, kp), V) none (C, (th, mn, tm, tm, Q, zs, be, (kpo Q zs be kp)), V) := by
  refine Mz_of (cc := cX3_keep) (maxL := 1) (ret := none) (by decide) rfl (Nat.le_of_ble_eq_true rfl) ?_
  intro p e s m args below meth c ls S hr hlocks hK hH hS hl
  have hx := S.1
  have hb := S.2.1
  have hts := S.2.2.2.2
  have f9 : (Cond.fieldLink RX3 9 (TX3 3).1 (TX3 3).2.1 (TX3 3).2.2.1).before args s = true := hts _ (List.mem_of_getElem? (i := 1) rfl)
  have f13 : (Cond.fieldLink RX3 13 (TX3 4).1 (TX3 4).2.1 (TX3 4).2.2.1).before args s = true := hts _ (List.mem_of_getElem? (i := 2) rfl)
  have f26 : (Cond.fieldLink RX3 26 (TX3 2).1 (TX3 2).2.1 (TX3 2).2.2.1).before args s = true := hts _ (List.mem_of_getElem? (i := 7) rfl)
  have f29 : (Cond.fieldLink RX3 29 (TX3 5).1 (TX3 5).2.1 (TX3 5).2.2.1).before args s = true := hts _ (List.mem_of_getElem? (i := 8) rfl)
  have hi3 : ∀ w ∈ wsX30, w ∈ wsX3_keep := by decide +kernel
  have hl : lv_has ls 1 [(0, .ref (gxa Γ 3))] := hl
  refine lv_aload_n hx hb dX3_keep_0 rfl (lv_at hl 0 rfl) ?_
  refine gM S hi3 hK hH 3 (by decide) f9 (v := .ref (gna Γ)) rfl dX3_keep_1 ?_
  refine lv_iconst (v := 0) hx hb dX3_keep_4 (by decide) ?_
  refine lv_aload_n hx hb dX3_keep_5 rfl (lv_at hl 0 rfl) ?_
  refine gM S hi3 hK hH 4 (by decide) f13 (v := .ref (gka Γ)) rfl dX3_keep_6 ?_
  refine lv_iconst (v := 0) hx hb dX3_keep_9 (by decide) ?_
  refine lv_sipush (v := 206) hx hb dX3_keep_10 (by decide +kernel) ?_
  refine cpK S hl.1 hK hH hS (hts _ (List.mem_of_getElem? (i := 3) rfl)) (hts _ (List.mem_of_getElem? (i := 4) rfl)) (hts _ (List.mem_of_getElem? (i := 5) rfl)) (hts _ (List.mem_of_getElem? (i := 6) rfl)) (by decide) (by decide +kernel) dX3_keep_13 (fun H locs hH hS => ?_)
  have hH : Hp D lo Γ (C, (th, mn, tm, kt, Q, zs, be, (kpo Q zs be kp)), V) H := hH
  refine lv_aload_n hx hb dX3_keep_16 rfl (lv_at hl 0 rfl) ?_
  refine lv_aload_n hx hb dX3_keep_17 rfl (lv_at hl 0 rfl) ?_
  refine gM S hi3 hK hH 2 (by decide) f26 (v := .int (nI tm)) rfl dX3_keep_18 ?_
  refine pM S hi3 hK hH hS 5 (by decide) f29 (th, mn, tm, tm, Q, zs, be, (kpo Q zs be kp)) rfl rfl dX3_keep_21 (fun H locs hH hS => ?_)
  exact eV S hr hlocks hH hS ⟨rfl, rfl⟩ dX3_keep_24

set_option maxRecDepth 100000 in
set_option maxHeartbeats 4000000 in
theorem c_X3_bringBack {Q0 : PF} {zs0 : Nat → Option Nat} {be0 : Nat → Nat} (hk0 : ∀ i, i < 206 → kp i = encN Q0 zs0 be0 i) (h6 : ∀ x, 6 ≤ x → Q 3 x = Q0 3 x) : Md l yX3_bringBack wsX3_bringBack (rmL 2 0 0) D lo Γ [.ref (gxa Γ 3)] (C, (th, mn, tm, kt, Q, zs, be, kp), V) none (C, (th, mn, kt, kt, Q0, zs0, be0, kp), V) := by
  refine Mz_of (cc := cX3_bringBack) (maxL := 1) (ret := none) (by decide) rfl (Nat.le_of_ble_eq_true rfl) ?_
  intro p e s m args below meth c ls S hr hlocks hK hH hS hl
  have hx := S.1
  have hb := S.2.1
  have hts := S.2.2.2.2
  have f13 : (Cond.fieldLink RX3 13 (TX3 4).1 (TX3 4).2.1 (TX3 4).2.2.1).before args s = true := hts _ (List.mem_of_getElem? (i := 1) rfl)
  have f9 : (Cond.fieldLink RX3 9 (TX3 3).1 (TX3 3).2.1 (TX3 3).2.2.1).before args s = true := hts _ (List.mem_of_getElem? (i := 2) rfl)
  have f29 : (Cond.fieldLink RX3 29 (TX3 5).1 (TX3 5).2.1 (TX3 5).2.2.1).before args s = true := hts _ (List.mem_of_getElem? (i := 7) rfl)
  have f26 : (Cond.fieldLink RX3 26 (TX3 2).1 (TX3 2).2.1 (TX3 2).2.2.1).before args s = true := hts _ (List.mem_of_getElem? (i := 8) rfl)
  have hi3 : ∀ w ∈ wsX30, w ∈ wsX3_bringBack := by decide +kernel
  have hl : lv_has ls 1 [(0, .ref (gxa Γ 3))] := hl
  refine lv_aload_n hx hb dX3_bringBack_0 rfl (lv_at hl 0 rfl) ?_
  refine gM S hi3 hK hH 4 (by decide) f13 (v := .ref (gka Γ)) rfl dX3_bringBack_1 ?_
  refine lv_iconst (v := 0) hx hb dX3_bringBack_4 (by decide) ?_
  refine lv_aload_n hx hb dX3_bringBack_5 rfl (lv_at hl 0 rfl) ?_
  refine gM S hi3 hK hH 3 (by decide) f9 (v := .ref (gna Γ)) rfl dX3_bringBack_6 ?_
  refine lv_iconst (v := 0) hx hb dX3_bringBack_9 (by decide) ?_
  refine lv_sipush (v := 206) hx hb dX3_bringBack_10 (by decide +kernel) ?_
  refine cpB S hl.1 hK hH hS (hts _ (List.mem_of_getElem? (i := 3) rfl)) (hts _ (List.mem_of_getElem? (i := 4) rfl)) (hts _ (List.mem_of_getElem? (i := 5) rfl)) (hts _ (List.mem_of_getElem? (i := 6) rfl)) Q0 zs0 be0 hk0 h6 (by decide) (by decide +kernel) dX3_bringBack_13 (fun H locs hH hS => ?_)
  have hH : Hp D lo Γ (C, (th, mn, tm, kt, Q0, zs0, be0, kp), V) H := hH
  refine lv_aload_n hx hb dX3_bringBack_16 rfl (lv_at hl 0 rfl) ?_
  refine lv_aload_n hx hb dX3_bringBack_17 rfl (lv_at hl 0 rfl) ?_
  refine gM S hi3 hK hH 5 (by decide) f29 (v := .int (nI kt)) rfl dX3_bringBack_18 ?_
  refine pM S hi3 hK hH hS 2 (by decide) f26 (th, mn, kt, kt, Q0, zs0, be0, kp) rfl rfl dX3_bringBack_21 (fun H locs hH hS => ?_)
  exact eV S hr hlocks hH hS ⟨rfl, rfl⟩ dX3_bringBack_24

set_option maxRecDepth 100000 in
set_option maxHeartbeats 4000000 in
theorem c_X3_heightBehind {U : Nat → Tr} {row x : Int32} (hM : MI Q zs U mn) : Mz l yX3_heightBehind wsX3_heightBehind (rmL 44 0 0) D lo Γ [.ref (gxa Γ 3), .int row, .int x] (C, (th, mn, tm, kt, Q, zs, be, kp), V) (fun v Z' => v = some (.int (qa U (zn zs) row x (fun r a => nI (hgt (spz (zof (U r) a))))).2) ∧ ∃ kt9 kp9, Z' = (C, ((qa U (zn zs) row x (fun r a => nI (hgt (spz (zof (U r) a))))).1, mn, tm, kt9, Q, zs, be, kp9), V)) := by
  refine Mz_of (cc := cX3_heightBehind) (maxL := 5) (ret := (some .int)) (by decide) rfl (Nat.le_of_ble_eq_true rfl) ?_
  intro p e s m args below meth c ls S hr hlocks hK hH hS hl
  have hx := S.1
  have hb := S.2.1
  have hts := S.2.2.2.2
  have hl : lv_has ls 5 [(0, .ref (gxa Γ 3)), (1, .int row), (2, .int x)] := hl
  obtain ⟨h_t, h_nd, h_mn, h_zs, h_40⟩ := id hM
  refine lv_aload_n hx hb dX3_heightBehind_0 rfl (lv_at hl 0 rfl) ?_
  refine lv_iload_n hx hb dX3_heightBehind_1 rfl (lv_at hl 1 rfl) ?_
  refine lv_iload_n hx hb dX3_heightBehind_2 rfl (lv_at hl 2 rfl) ?_
  refine cV S (c_X3_asked (l := l) (D := D) (lo := lo) (Γ := Γ) (C := C) (V := V) (th := th) (mn := mn) (tm := tm) (kt := kt) (Q := Q) (zs := zs) (be := be) (kp := kp) (x := x) hM) (cwV 2 hts gX3_heightBehind_X3_asked rfl rfl rfl (by decide +kernel) ⟨Nat.le_of_ble_eq_true rfl, Nat.le_of_ble_eq_true rfl⟩) hK hH (Hp_recv hK hH (gmo hH (j := 3) (by simp)).1 (gmo hH (j := 3) (by simp)).2.1 rfl) hS rfl hl.1 rfl (Nat.le_of_ble_eq_true rfl) dX3_heightBehind_3 ⟨Nat.le_of_ble_eq_true rfl, Nat.le_of_ble_eq_true rfl⟩ (fun v Z1 H locs hpost hH hS => ?_)
  obtain ⟨rfl, rfl⟩ := hpost
  rcases hrow : rowN row with _ | r
  · skip
    have e9 : (qa U (zn zs) row x (fun r a => nI (hgt (spz (zof (U r) a))))) = (1, 0) := by unfold qa; rw [hrow]
    have ea : ak U zs row x = (1, none) := by unfold ak; rw [hrow]
    rw [ea] at hH ⊢
    have hH : Hp D lo Γ (C, (1, mn, tm, kt, Q, zs, be, kp), V) H := hH
    refine lv_istore_n (lv' := [(3, .int (-1)), (0, .ref (gxa Γ 3)), (1, .int row), (2, .int x)]) hx hb dX3_heightBehind_6 rfl hl (by decide) rfl (fun ls hl => ?_)
    refine lv_iload_n hx hb dX3_heightBehind_7 rfl (lv_at hl 0 rfl) ?_
    refine lv_iconst (v := -1) hx hb dX3_heightBehind_8 (by decide) ?_
    refine lv_icmp_ne (tgt := 14) hx hb dX3_heightBehind_9 (by decide) (fun h1 => absurd rfl h1) (fun _ => ?_)
    refine lv_iconst (v := 0) hx hb dX3_heightBehind_12 (by decide) ?_
    exact eI S hr hlocks hH hS ⟨by rw [e9], kt, kp, by rw [e9]⟩ dX3_heightBehind_13
  · skip
    cases hf : fnd (zn zs) x.toInt (U r) with
    | none =>
      have e9 : (qa U (zn zs) row x (fun r a => nI (hgt (spz (zof (U r) a))))) = (2, 0) := by unfold qa; rw [hrow]; dsimp only; rw [hf]
      have ea : ak U zs row x = (2, none) := by unfold ak; rw [hrow]; dsimp only; rw [hf]
      rw [ea] at hH ⊢
      have hH : Hp D lo Γ (C, (2, mn, tm, kt, Q, zs, be, kp), V) H := hH
      refine lv_istore_n (lv' := [(3, .int (-1)), (0, .ref (gxa Γ 3)), (1, .int row), (2, .int x)]) hx hb dX3_heightBehind_6 rfl hl (by decide) rfl (fun ls hl => ?_)
      refine lv_iload_n hx hb dX3_heightBehind_7 rfl (lv_at hl 0 rfl) ?_
      refine lv_iconst (v := -1) hx hb dX3_heightBehind_8 (by decide) ?_
      refine lv_icmp_ne (tgt := 14) hx hb dX3_heightBehind_9 (by decide) (fun h1 => absurd rfl h1) (fun _ => ?_)
      refine lv_iconst (v := 0) hx hb dX3_heightBehind_12 (by decide) ?_
      exact eI S hr hlocks hH hS ⟨by rw [e9], kt, kp, by rw [e9]⟩ dX3_heightBehind_13
    | some a =>
      have e9 : (qa U (zn zs) row x (fun r a => nI (hgt (spz (zof (U r) a))))) = (0, nI (hgt (spz (zof (U r) a)))) := by unfold qa; rw [hrow]; dsimp only; rw [hf]
      have ea : ak U zs row x = (0, some a) := by unfold ak; rw [hrow]; dsimp only; rw [hf]
      rw [ea] at hH ⊢
      have hH : Hp D lo Γ (C, (0, mn, tm, kt, Q, zs, be, kp), V) H := hH
      have hr6 := (rowN_some hrow).1
      obtain ⟨hR, hs⟩ := h_t r hr6
      obtain ⟨h_top, h_rep, h_n, h_ok⟩ := id hR
      have h40 : ∀ a ∈ tids (U r), a < 40 := fun a ha => (h_ok a ha).1
      have hlen : (tids (U r)).length ≤ 40 := Nat.le_trans (gids_le hr6) h_40
      have hh : hgt (U r) < 41 := Nat.lt_succ_of_le (Nat.le_trans (hgt_tids _) hlen)
      have hin_a := (fnd_mem _ _ hf).1
      have lt_a := h40 a hin_a
      obtain ⟨hz, hzp⟩ := raise_z h_rep h_n hin_a
      have hzn : (tids (plug (.branch a (zof (U r) a).2.1 (zof (U r) a).2.2.1) (zof (U r) a).2.2.2)).Nodup := by rw [hzp]; exact h_n
      have hz40 : ∀ b ∈ tids (plug (.branch a (zof (U r) a).2.1 (zof (U r) a).2.2.1) (zof (U r) a).2.2.2), b < 40 := by rw [hzp]; exact h40
      obtain ⟨s1, s2, s3, s4, s5⟩ := spz_raise h_rep h_n hin_a
      have hr3 : ∀ x, rai a (zof (U r) a).2.2.2 Q 3 x = Q 3 x := fun x => s5 3 x (by omega)
      have hs40 : ∀ b ∈ tids (spz (zof (U r) a)), b < 40 := by rw [s3]; exact h40
      have hsh : hgt (spz (zof (U r) a)) < 41 := Nat.lt_succ_of_le (Nat.le_trans (hgt_tids _) (by rw [s3]; exact hlen))
      refine lv_istore_n (lv' := [(3, .int (nI a)), (0, .ref (gxa Γ 3)), (1, .int row), (2, .int x)]) hx hb dX3_heightBehind_6 rfl hl (by decide) rfl (fun ls hl => ?_)
      refine lv_iload_n hx hb dX3_heightBehind_7 rfl (lv_at hl 0 rfl) ?_
      refine lv_iconst (v := -1) hx hb dX3_heightBehind_8 (by decide) ?_
      refine lv_icmp_ne (tgt := 14) hx hb dX3_heightBehind_9 (by decide) (fun _ => ?_) (fun h1 => absurd h1 (nI_nm1 (Nat.lt_trans lt_a (by decide))))
      refine lv_aload_n hx hb dX3_heightBehind_14 rfl (lv_at hl 1 rfl) ?_
      refine cV S (c_X3_keep (l := l) (D := D) (lo := lo) (Γ := Γ) (C := C) (V := V) (th := 0) (mn := mn) (tm := tm) (kt := kt) (Q := Q) (zs := zs) (be := be) (kp := kp)) (cwV 0 hts gX3_heightBehind_X3_keep rfl rfl rfl (by decide +kernel) ⟨Nat.le_of_ble_eq_true rfl, Nat.le_of_ble_eq_true rfl⟩) hK hH (Hp_recv hK hH (gmo hH (j := 3) (by simp)).1 (gmo hH (j := 3) (by simp)).2.1 rfl) hS rfl hl.1 rfl (Nat.le_of_ble_eq_true rfl) dX3_heightBehind_15 ⟨Nat.le_of_ble_eq_true rfl, Nat.le_of_ble_eq_true rfl⟩ (fun v Z1 H locs hpost hH hS => ?_)
      obtain ⟨rfl, rfl⟩ := hpost
      refine lv_aload_n hx hb dX3_heightBehind_18 rfl (lv_at hl 1 rfl) ?_
      refine lv_iload_n hx hb dX3_heightBehind_19 rfl (lv_at hl 0 rfl) ?_
      refine cV S (c_X3_raise (l := l) (D := D) (lo := lo) (Γ := Γ) (C := C) (V := V) (th := 0) (mn := mn) (tm := tm) (kt := tm) (Q := Q) (zs := zs) (be := be) (kp := (kpo Q zs be kp)) hz hzn hz40) (cwV 1 hts gX3_heightBehind_X3_raise rfl rfl rfl (by decide +kernel) ⟨Nat.le_of_ble_eq_true rfl, Nat.le_of_ble_eq_true rfl⟩) hK hH (Hp_recv hK hH (gmo hH (j := 3) (by simp)).1 (gmo hH (j := 3) (by simp)).2.1 rfl) hS rfl hl.1 rfl (Nat.le_of_ble_eq_true rfl) dX3_heightBehind_20 ⟨Nat.le_of_ble_eq_true rfl, Nat.le_of_ble_eq_true rfl⟩ (fun v Z1 H locs hpost hH hS => ?_)
      obtain ⟨rfl, rfl⟩ := hpost
      refine lv_aload_n hx hb dX3_heightBehind_23 rfl (lv_at hl 1 rfl) ?_
      refine lv_iload_n hx hb dX3_heightBehind_24 rfl (lv_at hl 0 rfl) ?_
      rw [show nI a = er (rt (spz (zof (U r) a))) by rw [s2]; rfl]
      refine cV S (c_X3_high (l := l) (D := D) (lo := lo) (Γ := Γ) (C := C) (V := V) (th := 0) (mn := mn) (tm := (tm + ((zof (U r) a).2.2.2).length)) (kt := tm) (Q := (rai a (zof (U r) a).2.2.2 Q)) (zs := zs) (be := be) (kp := (kpo Q zs be kp)) (spz (zof (U r) a)) 41 none hsh s1 hs40 (Nat.lt_trans hsh (by decide))) (cwV 1 hts gX3_heightBehind_X3_high rfl rfl rfl (by decide +kernel) ⟨Nat.le_of_ble_eq_true rfl, Nat.le_of_ble_eq_true rfl⟩) hK hH (Hp_recv hK hH (gmo hH (j := 3) (by simp)).1 (gmo hH (j := 3) (by simp)).2.1 rfl) hS rfl hl.1 rfl (Nat.le_of_ble_eq_true rfl) dX3_heightBehind_25 ⟨Nat.le_of_ble_eq_true rfl, Nat.le_of_ble_eq_true rfl⟩ (fun v Z1 H locs hpost hH hS => ?_)
      obtain ⟨rfl, rfl⟩ := hpost
      refine lv_istore (lv' := [(4, .int (nI (hgt (spz (zof (U r) a))))), (3, .int (nI a)), (0, .ref (gxa Γ 3)), (1, .int row), (2, .int x)]) hx hb dX3_heightBehind_28 hl (by decide) rfl (fun ls hl => ?_)
      refine lv_aload_n hx hb dX3_heightBehind_30 rfl (lv_at hl 2 rfl) ?_
      refine cV S (c_X3_bringBack (l := l) (D := D) (lo := lo) (Γ := Γ) (C := C) (V := V) (th := 0) (mn := mn) (tm := (tm + ((zof (U r) a).2.2.2).length)) (kt := tm) (Q := (rai a (zof (U r) a).2.2.2 Q)) (zs := zs) (be := be) (kp := (kpo Q zs be kp)) (Q0 := Q) (zs0 := zs) (be0 := be) (fun i h => kpo_at h) (fun x _ => hr3 x)) (cwV 0 hts gX3_heightBehind_X3_bringBack rfl rfl rfl (by decide +kernel) ⟨Nat.le_of_ble_eq_true rfl, Nat.le_of_ble_eq_true rfl⟩) hK hH (Hp_recv hK hH (gmo hH (j := 3) (by simp)).1 (gmo hH (j := 3) (by simp)).2.1 rfl) hS rfl hl.1 rfl (Nat.le_of_ble_eq_true rfl) dX3_heightBehind_31 ⟨Nat.le_of_ble_eq_true rfl, Nat.le_of_ble_eq_true rfl⟩ (fun v Z1 H locs hpost hH hS => ?_)
      obtain ⟨rfl, rfl⟩ := hpost
      refine lv_iload hx hb dX3_heightBehind_34 (lv_at hl 0 rfl) ?_
      exact eI S hr hlocks hH hS ⟨by rw [e9], _, _, by rw [e9]⟩ dX3_heightBehind_36
end MMod6
