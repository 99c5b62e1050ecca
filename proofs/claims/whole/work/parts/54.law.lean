/-! THE LAW'S METHODS: what they need of the machine, how one with handlers is begun, called, what it catches; rows of the two rows of answers -/
def YE (lo : Nat) (U : State) (H : Heap) : Prop := XE lo U H ∧ va_Nc "java/lang/IllegalStateException" "java/lang/IndexOutOfBoundsException" U ∧ va_Nc "java/lang/IllegalStateException" "java/lang/IllegalArgumentException" U ∧ va_Nc "java/lang/IllegalArgumentException" "java/lang/IndexOutOfBoundsException" U
theorem YE.to {lo : Nat} {s U : State} {H0 H : Heap} (h : YE lo s H0) (hW : s.WarmedH U.vm) (hk : ∀ a : Nat, a < H0.size → ¬ lA lo a → H[a]? = H0[a]?) : YE lo U H :=
  ⟨h.1.to hW hk, va_Nc.moved hW.alike h.2.1, va_Nc.moved hW.alike h.2.2.1, va_Nc.moved hW.alike h.2.2.2⟩
theorem YE.blind {lo : Nat} {U V : State} {H : Heap} (h : YE lo U H) (hv : V.vm = U.vm) : YE lo V H :=
  ⟨h.1.blind hv, va_Nc.moved (u := U) (by rw [hv]; exact Vm.Alike.refl U.vm) h.2.1, va_Nc.moved (u := U) (by rw [hv]; exact Vm.Alike.refl U.vm) h.2.2.1, va_Nc.moved (u := U) (by rw [hv]; exact Vm.Alike.refl U.vm) h.2.2.2⟩
def PzY (D : va_G) (lo : Nat) (Γ : GT) (av : List Value) (Z : WS) : Array Value → State → Prop := va_Pc av (fun U => Hp D lo Γ Z U.heap ∧ va_K D vwCl (TY Γ) U ∧ YE lo U U.heap)
theorem PzY_blind {D : va_G} {lo : Nat} {Γ : GT} {av : List Value} {Z : WS} : FrameBlind (PzY D lo Γ av Z) := fun a U g mk q => ⟨q.1, q.2.1, va_K.moved (u := U) (U := U.calling g mk a) (Vm.Alike.refl U.vm) q.2.2.1, q.2.2.2.blind rfl⟩
/-- a contract of a method of the law's, which catches what it calls throws -/
def My (l : Launch) (y : MethodName) (ws : List Cond) (rm : Room) (D : va_G) (lo : Nat) (Γ : GT) (av : List Value) (Z : WS) (post : Option Value → WS → Prop) : Prop :=
  Met l y ws rm (PzY D lo Γ av Z) (Qz D lo Γ post) rm.cells rm.slots (lA lo)
theorem My_of {l : Launch} {y : MethodName} {ws ws' : List Cond} {rm : Room} {cc : ByteArray} {maxL : Nat} {ret : Option FieldType} {hh : List (Nat × Nat × Nat × Nat)} {D : va_G} {lo : Nat} {Γ : GT} {av : List Value} {Z : WS} {post : Option Value → WS → Prop} (hy : plainName y.cls = true) (hw : ws = Cond.codeWith y cc maxL ret hh :: ws') (hlen : (lg_sl av).length ≤ maxL)
    (body : ∀ (p : Program) (e : Env) (s : State) (m : MethodId) (args : Array Value) (below : List Frame) (meth : Method) (c : Code) (ls : Array Slot), CallFix p m c cc maxL s args ws y.cls → meth.sig.returnType = ret → meth.locks = false → va_K D vwCl (TY Γ) s → Hp D lo Γ Z s.heap → va_S (lA lo) s.heap s.heap [] → YE lo s s.heap → c.exceptionTable.toList = tableOf hh → lv_has ls maxL (lv_args 0 av) →
      W p l e rm s m args below meth c s.heap [] 0 0 (MQ below (Qz D lo Γ post) args s rm.cells rm.slots (lA lo)) (F0 m 0 ls [])) : My l y ws rm D lo Γ av Z post := by
  refine va_MetW (cc := cc) (maxL := maxL) (ret := ret) (hh := hh) hy hw ?_
  intro p e s m args below meth c s₁ B hml hv
  obtain ⟨rfl, hH, hK, hX⟩ := hv
  have hl := lv_entry av (n := maxL) hlen
  have hown : s.vm.findClass y.cls = some m.cls := findClass_of_methodNamed B.named
  have ht := vx_table (x := y) B (atoms_spec (ws := ws) B.pre (Cond.codeWith y cc maxL ret hh) (by rw [hw]; exact List.mem_cons_self))
  rw [lg_entry_eq]
  exact body p e s m _ below meth c _ ⟨B.exec, B.bytes, hml, hown, atoms_spec (ws := ws) B.pre⟩ B.returns B.notSynchronized hK hH va_S.rf hX ht hl
section LRows
variable {p : Program} {l : Launch} {e : Env} {R : Room} {s : State} {m : MethodId} {args : Array Value} {below : List Frame} {meth : Method} {c : Code} {H H0 : Heap} {locs : List Loc} {cells slots : Nat} {Q : State → Prop}
variable {cc bytes : ByteArray} {pc nL maxL n index : Nat} {ret : Option FieldType} {ls : Array Slot} {rest st0 : List Value} {D : va_G} {lo : Nat} {Γ : GT} {Ts ws : List Cond} {own : String} {y : MethodName} {rm : Room} {As : List Value} {Z : WS} {post : Option Value → WS → Prop}
variable {C : CW} {M : MW} {V : Int64 × UInt64} {hh : List (Nat × Nat × Nat × Nat)}
theorem PzY_pre (hK : va_K D vwCl (TY Γ) s) (hH : Hp D lo Γ Z H) (hX : YE lo s s.heap) (hS : va_S (lA lo) s.heap H locs) (av : List Value) : PreS s H (PzY D lo Γ av Z) av := ⟨PzY_blind, fun U hU hW => ⟨rfl, by rw [hU]; exact hH, va_K.moved hW.alike hK, by rw [hU]; exact hX.to hW hS.2.1⟩⟩
theorem cLw (S : CallFix p m c cc nL s args Ts own) (hM : My l y ws rm D lo Γ As Z post) (cw : vx_CSW R s args own index y bytes maxL ret hh ws rm rm.cells rm.slots n) (hK : va_K D vwCl (TY Γ) s) (hH : Hp D lo Γ Z H) (hX : YE lo s s.heap) (hS : va_S (lA lo) s.heap H locs)
    (hn : As.length = n) (hsize : ls.size = nL) (hstack : st0 = As.reverse ++ rest) (hW : (rest.map fun v => v.category).sum ≤ 8) (hdg : decode cc pc = .ok (.invokestatic index, 3)) (hf : cells + rm.cells ≤ R.cells ∧ slots + rm.slots ≤ R.slots)
    (kk : ∀ (v : Option Value) (Z1 : WS) (H1 : Heap) (locs1 : List Loc), post v Z1 → Hp D lo Γ Z1 H1 → va_S (lA lo) s.heap H1 locs1 → W p l e R s m args below meth c H1 locs1 (cells + rm.cells) (slots + rm.slots) Q (F0 m (pc + 3) ls (v.toList ++ rest))) : W p l e R s m args below meth c H locs cells slots Q (F0 m pc ls st0) :=
  cz_go (vx_runSW (As := As) (rest := rest) S hM cw (PzY_pre hK hH hX hS _) rfl hn hsize hstack (lv_room hW) hdg hf) hS kk
/-- caught by the first, second, third row of the table -/
theorem catA {a h c1 : Nat} {suf : List (Nat × Nat × Nat × Nat)} {E : String} {ce : Cell} {q9 : Addr} (S : CallFix p m c cc nL s args Ts RL) (hX : YE lo s s.heap) (ht : c.exceptionTable.toList = tableOf ((0, a, h, c1) :: suf)) (hE : E ∈ xcl) (hpc : pc < a) (h0 : c1 ≠ 0) (hlink : (Cond.classLink RL c1 E).before args s = true)
    (hce : H[q9]? = some ce) (hcv : ce.vm = .none) (hcl : s.vm.findClass E = some ce.cls) (kk : W p l e R s m args below meth c H locs cells slots Q (F0 m h ls [.ref q9])) : vx_W p l e R s m args below meth c H locs cells slots Q (F0 m pc ls rest) q9 :=
  vx_catch (name := E) S.2.2.2.1 [] ⟨0, a, h, c1⟩ (tableOf suf) (by rw [ht]; rfl) (fun z hz => by cases hz) (by simp [covers, hpc]) h0 hlink (va_Nw.use rfl (hX.1.2.2.2.1 E hE)) hce hcv hcl kk
theorem catB {a h c1 h1 c2 : Nat} {suf : List (Nat × Nat × Nat × Nat)} {E E1 : String} {ce : Cell} {q9 : Addr} (S : CallFix p m c cc nL s args Ts RL) (hX : YE lo s s.heap) (ht : c.exceptionTable.toList = tableOf ((0, a, h1, c1) :: (0, a, h, c2) :: suf)) (hE : E ∈ xcl) (hpc : pc < a) (h01 : c1 ≠ 0) (h0 : c2 ≠ 0) (hlink1 : (Cond.classLink RL c1 E1).before args s = true) (hlink : (Cond.classLink RL c2 E).before args s = true) (hN1 : va_Nc E E1 s)
    (hce : H[q9]? = some ce) (hcv : ce.vm = .none) (hcl : s.vm.findClass E = some ce.cls) (kk : W p l e R s m args below meth c H locs cells slots Q (F0 m h ls [.ref q9])) : vx_W p l e R s m args below meth c H locs cells slots Q (F0 m pc ls rest) q9 :=
  vx_catch (name := E) S.2.2.2.1 [⟨0, a, h1, c1⟩] ⟨0, a, h, c2⟩ (tableOf suf) (by rw [ht]; rfl) (fun z hz => by
    cases List.mem_singleton.mp hz
    exact Or.inr ⟨h01, E1, hlink1, hN1⟩) (by simp [covers, hpc]) h0 hlink (va_Nw.use rfl (hX.1.2.2.2.1 E hE)) hce hcv hcl kk
theorem catC {a h c1 h1 h2 c2 c3 : Nat} {suf : List (Nat × Nat × Nat × Nat)} {E E1 E2 : String} {ce : Cell} {q9 : Addr} (S : CallFix p m c cc nL s args Ts RL) (hX : YE lo s s.heap) (ht : c.exceptionTable.toList = tableOf ((0, a, h1, c1) :: (0, a, h2, c2) :: (0, a, h, c3) :: suf)) (hE : E ∈ xcl) (hpc : pc < a) (h01 : c1 ≠ 0) (h02 : c2 ≠ 0) (h0 : c3 ≠ 0) (hlink1 : (Cond.classLink RL c1 E1).before args s = true) (hlink2 : (Cond.classLink RL c2 E2).before args s = true) (hlink : (Cond.classLink RL c3 E).before args s = true) (hN1 : va_Nc E E1 s) (hN2 : va_Nc E E2 s)
    (hce : H[q9]? = some ce) (hcv : ce.vm = .none) (hcl : s.vm.findClass E = some ce.cls) (kk : W p l e R s m args below meth c H locs cells slots Q (F0 m h ls [.ref q9])) : vx_W p l e R s m args below meth c H locs cells slots Q (F0 m pc ls rest) q9 :=
  vx_catch (name := E) S.2.2.2.1 [⟨0, a, h1, c1⟩, ⟨0, a, h2, c2⟩] ⟨0, a, h, c3⟩ (tableOf suf) (by rw [ht]; rfl) (fun z hz => by
    rcases List.mem_cons.mp hz with h9 | h9
    · subst h9
      exact Or.inr ⟨h01, E1, hlink1, hN1⟩
    · cases List.mem_singleton.mp h9
      exact Or.inr ⟨h02, E2, hlink2, hN2⟩) (by simp [covers, hpc]) h0 hlink (va_Nw.use rfl (hX.1.2.2.2.1 E hE)) hce hcv hcl kk
theorem ef_7 (hH : Hp D lo Γ (C, M, V) H) : ef Γ (C, M, V) (gxa Γ 7) = .inl (gJ Γ, 1, .inr (.inl (fun _ => V.1))) := by
  obtain ⟨ha, hk, -⟩ := gmo hH (j := 7) (by simp)
  unfold ef
  rw [if_neg (by dsimp only; omega), if_neg (by dsimp only; omega), if_neg (by dsimp only; omega), if_neg (by dsimp only; omega), if_neg (by dsimp only; omega), if_neg (by dsimp only; omega), if_neg (by dsimp only; omega), if_pos hk]
theorem ef_8 (hH : Hp D lo Γ (C, M, V) H) : ef Γ (C, M, V) (gxa Γ 8) = .inl (gD Γ, 1, .inr (.inr (.inr (.inl (fun _ => V.2))))) := by
  obtain ⟨ha, hk, -⟩ := gmo hH (j := 8) (by simp)
  unfold ef
  rw [if_neg (by dsimp only; omega), if_neg (by dsimp only; omega), if_neg (by dsimp only; omega), if_neg (by dsimp only; omega), if_neg (by dsimp only; omega), if_neg (by dsimp only; omega), if_neg (by dsimp only; omega), if_neg (by dsimp only; omega), if_pos hk]
/-- reading the row of answers -/
theorem gLg (S : CallFix p m c cc nL s args Ts own) (hK : va_K D vwCl (TY Γ) s) (hH : Hp D lo Γ (C, M, V) H) (hdg : decode cc pc = .ok (.laload, 1))
    (kk : W p l e R s m args below meth c H locs cells slots Q (F0 m (pc + 1) ls (.long V.1 :: rest))) : W p l e R s m args below meth c H locs cells slots Q (F0 m pc ls (.int 0 :: .ref (gxa Γ 7) :: rest)) := by
  obtain ⟨ha, hk, -⟩ := gmo hH (j := 7) (by simp)
  obtain ⟨q, hq⟩ := va_plg (f := ef Γ (C, M, V)) ha (ef_7 hH)
  exact va_lald S.1 S.2.1 hK hH.1 q 2 hq rfl (vp_in_nI (n := 0) (by decide) (by decide)) hdg kk
theorem gDb (S : CallFix p m c cc nL s args Ts own) (hK : va_K D vwCl (TY Γ) s) (hH : Hp D lo Γ (C, M, V) H) (hdg : decode cc pc = .ok (.daload, 1))
    (kk : W p l e R s m args below meth c H locs cells slots Q (F0 m (pc + 1) ls (.double V.2 :: rest))) : W p l e R s m args below meth c H locs cells slots Q (F0 m pc ls (.int 0 :: .ref (gxa Γ 8) :: rest)) := by
  obtain ⟨ha, hk, -⟩ := gmo hH (j := 8) (by simp)
  obtain ⟨q, hq⟩ := va_plg (f := ef Γ (C, M, V)) ha (ef_8 hH)
  exact va_dald S.1 S.2.1 hK hH.1 q 3 hq rfl (vp_in_nI (n := 0) (by decide) (by decide)) hdg kk
theorem Hp_lone {j : Nat} {e1 : va_E} {q : Nat} {V' : Int64 × UInt64} {H1 : Heap} (hj : j = 7 ∨ j = 8) (hH : Hp D lo Γ (C, M, V) H) (hq : (va_pl C.1 (ef Γ (C, M, V)))[q]? = some (gxa Γ j, ef Γ (C, M, V) (gxa Γ j)))
    (hP1 : va_P D vwCl ((va_pl C.1 (ef Γ (C, M, V))).set q (gxa Γ j, e1)) H1) (hD1 : va_D (lA lo) ((va_pl C.1 (ef Γ (C, M, V))).set q (gxa Γ j, e1))) (hat : va_at D vwCl (gxa Γ j, e1) H1 → va_at D vwCl (gxa Γ j, ef Γ (C, M, V') (gxa Γ j)) H1) (hV : (j = 7 → V'.2 = V.2) ∧ (j = 8 → V'.1 = V.1)) : Hp D lo Γ (C, M, V') H1 := by
  obtain ⟨ha, hk, hu⟩ := gmo hH (j := j) (by rcases hj with rfl | rfl <;> simp)
  have hlen : q < (va_pl C.1 (ef Γ (C, M, V))).length := (List.getElem?_eq_some_iff.mp hq).1
  have hq1 : ((va_pl C.1 (ef Γ (C, M, V))).set q (gxa Γ j, e1))[q]? = some (gxa Γ j, e1) := by rw [List.getElem?_set_self hlen]
  have hP2 := hP1.set hD1 hq1 (hat (hP1 q _ hq1)) (fun _ _ => rfl)
  have hD2 := hD1.set (e := ef Γ (C, M, V') (gxa Γ j)) hq1
  rw [List.set_set] at hP2 hD2
  have h4 := va_pls (e := ef Γ (C, M, V') (gxa Γ j)) hH.2.1 ha hq (fun b => rfl)
  have h6 : va_pl C.1 (va_up (ef Γ (C, M, V)) (gxa Γ j) (ef Γ (C, M, V') (gxa Γ j))) = va_pl C.1 (ef Γ (C, M, V')) := by
    unfold va_pl
    refine List.map_congr_left (fun b hbL => ?_)
    by_cases hba : b = gxa Γ j
    · subst hba; rw [va_up_self]
    · rw [va_up_ne _ _ hba]
      have hk2 : C.2.1 b ≠ j := fun e2 => hba (hu b hbL e2)
      unfold ef
      dsimp only
      rcases hj with rfl | rfl
      · rw [if_neg hk2, if_neg hk2, hV.1 rfl]
      · rw [if_neg hk2, if_neg hk2, hV.2 rfl]
  rw [h4.trans h6] at hP2 hD2
  exact ⟨hP2, hD2, ⟨Hp_lo hP2 hD2 ha, hH.2.2.1.2⟩, hH.2.2.2⟩
/-- writing it -/
theorem pLg (S : CallFix p m c cc nL s args Ts own) (hK : va_K D vwCl (TY Γ) s) (hH : Hp D lo Γ (C, M, V) H) (hS : va_S (lA lo) H0 H locs) {x : Int64} (hdg : decode cc pc = .ok (.lastore, 1))
    (kk : ∀ (H1 : Heap) (locs1 : List Loc), Hp D lo Γ (C, M, (x, V.2)) H1 → va_S (lA lo) H0 H1 locs1 → W p l e R s m args below meth c H1 locs1 cells slots Q (F0 m (pc + 1) ls rest)) : W p l e R s m args below meth c H locs cells slots Q (F0 m pc ls (.long x :: .int 0 :: .ref (gxa Γ 7) :: rest)) := by
  obtain ⟨ha, hk, -⟩ := gmo hH (j := 7) (by simp)
  obtain ⟨q, hq⟩ := va_plg (f := ef Γ (C, M, V)) ha rfl
  have hq0 := hq
  have e7 := ef_7 hH
  rw [e7] at hq
  refine va_last S.1 S.2.1 hK hH.1 hH.2.1 hS q 2 hq rfl (vp_in_nI (n := 0) (by decide) (by decide)) hdg (fun H1 locs1 hP1 hD1 hS1 => ?_)
  refine kk H1 locs1 (Hp_lone (V' := (x, V.2)) (Or.inl rfl) hH hq0 hP1 hD1 (fun h9 => ?_) ⟨fun _ => rfl, fun h => (by cases h)⟩) hS1
  have e8 : ef Γ (C, M, (x, V.2)) (gxa Γ 7) = .inl (gJ Γ, 1, .inr (.inl (fun _ => x))) := by
    unfold ef
    rw [if_neg (by dsimp only; omega), if_neg (by dsimp only; omega), if_neg (by dsimp only; omega), if_neg (by dsimp only; omega), if_neg (by dsimp only; omega), if_neg (by dsimp only; omega), if_neg (by dsimp only; omega), if_pos hk]
  rw [e8]
  show H1[gxa Γ 7]? = some (vp_cell (gJ Γ) (1, .inr (.inl (fun _ => x))))
  have h9 : H1[gxa Γ 7]? = some (vp_cell (gJ Γ) (1, .inr (.inl (vp_updL (fun _ => V.1) (0 : Int32).toNatClampNeg x)))) := h9
  rw [vp_cell_l] at h9 ⊢
  rw [h9]
  congr 1
theorem pDb (S : CallFix p m c cc nL s args Ts own) (hK : va_K D vwCl (TY Γ) s) (hH : Hp D lo Γ (C, M, V) H) (hS : va_S (lA lo) H0 H locs) {x : UInt64} (hdg : decode cc pc = .ok (.dastore, 1))
    (kk : ∀ (H1 : Heap) (locs1 : List Loc), Hp D lo Γ (C, M, (V.1, x)) H1 → va_S (lA lo) H0 H1 locs1 → W p l e R s m args below meth c H1 locs1 cells slots Q (F0 m (pc + 1) ls rest)) : W p l e R s m args below meth c H locs cells slots Q (F0 m pc ls (.double x :: .int 0 :: .ref (gxa Γ 8) :: rest)) := by
  obtain ⟨ha, hk, -⟩ := gmo hH (j := 8) (by simp)
  obtain ⟨q, hq⟩ := va_plg (f := ef Γ (C, M, V)) ha rfl
  have hq0 := hq
  have e7 := ef_8 hH
  rw [e7] at hq
  refine va_dast S.1 S.2.1 hK hH.1 hH.2.1 hS q 3 hq rfl (vp_in_nI (n := 0) (by decide) (by decide)) hdg (fun H1 locs1 hP1 hD1 hS1 => ?_)
  refine kk H1 locs1 (Hp_lone (V' := (V.1, x)) (Or.inr rfl) hH hq0 hP1 hD1 (fun h9 => ?_) ⟨fun h => (by cases h), fun _ => rfl⟩) hS1
  have e8 : ef Γ (C, M, (V.1, x)) (gxa Γ 8) = .inl (gD Γ, 1, .inr (.inr (.inr (.inl (fun _ => x))))) := by
    unfold ef
    rw [if_neg (by dsimp only; omega), if_neg (by dsimp only; omega), if_neg (by dsimp only; omega), if_neg (by dsimp only; omega), if_neg (by dsimp only; omega), if_neg (by dsimp only; omega), if_neg (by dsimp only; omega), if_neg (by dsimp only; omega), if_pos hk]
  rw [e8]
  show H1[gxa Γ 8]? = some (vp_cell (gD Γ) (1, .inr (.inr (.inr (.inl (fun _ => x))))))
  have h9 : H1[gxa Γ 8]? = some (vp_cell (gD Γ) (1, .inr (.inr (.inr (.inl (vf_upd (fun _ => V.2) (0 : Int32).toNatClampNeg x)))))) := h9
  rw [vp_cell_d] at h9 ⊢
  rw [h9]
  congr 1
end LRows
/-- what a wrapper leaves: 0 and the answer in its row, or the number of what it caught -/
def WQ (post : Option Value → WS → Prop) (px : String → WS → Prop) (M : MW) (V : Int64 × UInt64) (cd : String → Int32) : Option Value → WS → Prop := fun v Z' =>
  (∃ (n : Int32) (C' : CW), post (some (.int n)) (C', M, V) ∧ v = some (.int 0) ∧ Z' = (C', M, (n.toInt64, V.2))) ∨ (∃ (E : String) (C' : CW), px E (C', M, V) ∧ v = some (.int (cd E)) ∧ Z' = (C', M, V))
def WD (post : Option Value → WS → Prop) (px : String → WS → Prop) (M : MW) (V : Int64 × UInt64) (cd : String → Int32) : Option Value → WS → Prop := fun v Z' =>
  (∃ (n : UInt64) (C' : CW), post (some (.double n)) (C', M, V) ∧ v = some (.int 0) ∧ Z' = (C', M, (V.1, n))) ∨ (∃ (E : String) (C' : CW), px E (C', M, V) ∧ v = some (.int (cd E)) ∧ Z' = (C', M, V))
def cd1 (_ : String) : Int32 := 1
def cd2 (E : String) : Int32 := if E = "java/lang/IndexOutOfBoundsException" then 1 else 2
def cd3 (E : String) : Int32 := if E = "java/lang/IndexOutOfBoundsException" then 1 else if E = "java/lang/IllegalArgumentException" then 2 else 3
theorem cd2_a : (1 : Int32) = cd2 "java/lang/IndexOutOfBoundsException" := by decide
theorem cd2_b : (2 : Int32) = cd2 "java/lang/IllegalArgumentException" := by decide
theorem cd2_c : (2 : Int32) = cd2 "java/lang/IllegalStateException" := by decide
theorem cd3_a : (1 : Int32) = cd3 "java/lang/IndexOutOfBoundsException" := by decide
theorem cd3_b : (2 : Int32) = cd3 "java/lang/IllegalArgumentException" := by decide
theorem cd3_c : (3 : Int32) = cd3 "java/lang/IllegalStateException" := by decide
theorem CSW_V {Γ : GT} {o : Nat} {T : Nat → Tr} {sz bi : Nat → Nat} {tu : Nat} {M : MW} {V V' : Int64 × UInt64} {C : CW} (h : CSW Γ o T sz bi tu M V (C, M, V)) : CSW Γ o T sz bi tu M V' (C, M, V') := by
  obtain ⟨L, K, si, P, h1, h2⟩ := h
  cases h1
  exact ⟨L, K, si, P, rfl, h2⟩
theorem CSW_M {Γ : GT} {o : Nat} {T : Nat → Tr} {sz bi : Nat → Nat} {tu : Nat} {M M' : MW} {V : Int64 × UInt64} {C : CW} (h : CSW Γ o T sz bi tu M V (C, M, V)) : CSW Γ o T sz bi tu M' V (C, M', V) := by
  obtain ⟨L, K, si, P, h1, h2⟩ := h
  cases h1
  exact ⟨L, K, si, P, rfl, h2⟩
theorem CSW_o {Γ : GT} {o : Nat} {T : Nat → Tr} {sz bi : Nat → Nat} {tu : Nat} {M : MW} {V : Int64 × UInt64} {Z : WS} (h : CSW Γ o T sz bi tu M V Z) : ∃ C : CW, Z = (C, M, V) := by
  obtain ⟨L, K, si, P, h1, h2⟩ := h
  exact ⟨_, h1⟩
section QW
variable {Γ : GT} {o : Nat} {T : Nat → Tr} {sz bi : Nat → Nat} {tu : Nat} {M : MW} {V : Int64 × UInt64} {rs : Nat × Int32} {en : Nat → String} {cd : String → Int32}
theorem qw1 {v : Option Value} {Z' : WS} (hcd : rs.1 ≠ 0 → cd (en rs.1) = nI rs.1) (h : WQ (PoI Γ o T sz bi tu M V rs) (PxI Γ o T sz bi tu M V rs en) M V cd v Z') : ∃ (C' : CW) (V' : Int64 × UInt64), v = some (.int (nI rs.1)) ∧ Z' = (C', M, V') ∧ CSW Γ o T sz bi tu M V' (C', M, V') ∧ (rs.1 = 0 → V'.1 = rs.2.toInt64) := by
  rcases h with ⟨n, C', ⟨h0, hn, hc⟩, rfl, rfl⟩ | ⟨E, C', ⟨h0, hE, hc⟩, rfl, rfl⟩
  · cases hn
    exact ⟨C', _, by rw [h0]; rfl, rfl, CSW_V hc, fun _ => rfl⟩
  · subst hE
    exact ⟨C', V, by rw [hcd h0], rfl, hc, fun h => absurd h h0⟩
theorem pq_v : ∀ v Z', PoI Γ o T sz bi tu M V rs v Z' → ∃ (n : Int32) (C' : CW), v = some (.int n) ∧ Z' = (C', M, V) := fun v Z' h => by
  obtain ⟨C, hC⟩ := CSW_o h.2.2
  exact ⟨_, C, h.2.1, hC⟩
theorem pq_z (hz : rs.2 = 0 ∨ rs.2 = 1) : ∀ v Z', PoI Γ o T sz bi tu M V rs v Z' → ∃ (n : Int32) (C' : CW), (n = 0 ∨ n = 1) ∧ v = some (.int n) ∧ Z' = (C', M, V) := fun v Z' h => by
  obtain ⟨C, hC⟩ := CSW_o h.2.2
  exact ⟨_, C, hz, h.2.1, hC⟩
theorem px_1 (hr : rs.1 = 0 ∨ rs.1 = 1) : ∀ E Z', PxI Γ o T sz bi tu M V rs en2 E Z' → E = "java/lang/IndexOutOfBoundsException" ∧ ∃ C' : CW, Z' = (C', M, V) := fun E Z' h => by
  obtain ⟨h0, hE, hc⟩ := h
  have h1 : rs.1 = 1 := hr.resolve_left h0
  rw [h1] at hE
  exact ⟨hE, CSW_o hc⟩
theorem px_2 : ∀ E Z', PxI Γ o T sz bi tu M V rs en2 E Z' → (E = "java/lang/IndexOutOfBoundsException" ∨ E = "java/lang/IllegalStateException") ∧ ∃ C' : CW, Z' = (C', M, V) := fun E Z' h => by
  obtain ⟨h0, hE, hc⟩ := h
  refine ⟨?_, CSW_o hc⟩
  unfold en2 at hE
  split at hE
  · exact Or.inl hE
  · exact Or.inr hE
theorem px_3 (hr : rs.1 = 0 ∨ rs.1 = 1 ∨ rs.1 = 2) : ∀ E Z', PxI Γ o T sz bi tu M V rs en3 E Z' → (E = "java/lang/IndexOutOfBoundsException" ∨ E = "java/lang/IllegalArgumentException") ∧ ∃ C' : CW, Z' = (C', M, V) := fun E Z' h => by
  obtain ⟨h0, hE, hc⟩ := h
  refine ⟨?_, CSW_o hc⟩
  rcases hr.resolve_left h0 with h1 | h1
  · rw [h1] at hE; exact Or.inl hE
  · rw [h1] at hE; exact Or.inr hE
theorem cc_1 (hr : rs.1 = 0 ∨ rs.1 = 1) : rs.1 ≠ 0 → cd1 (en2 rs.1) = nI rs.1 := fun h0 => by rw [hr.resolve_left h0]; rfl
theorem cc_2 (hr : rs.1 = 0 ∨ rs.1 = 1 ∨ rs.1 = 2) : rs.1 ≠ 0 → cd2 (en2 rs.1) = nI rs.1 := fun h0 => by
  rcases hr.resolve_left h0 with h1 | h1 <;> rw [h1] <;> decide
theorem cc_3 (hr : rs.1 = 0 ∨ rs.1 = 1 ∨ rs.1 = 2) : rs.1 ≠ 0 → cd2 (en3 rs.1) = nI rs.1 := fun h0 => by
  rcases hr.resolve_left h0 with h1 | h1 <;> rw [h1] <;> decide
end QW
section QC
variable {T : Nat → Tr} {sz : Nat → Nat} {row x y : Int32}
theorem kr_c {f : Nat → Int32} : (qr row f).1 = 0 ∨ (qr row f).1 = 1 := by unfold qr; split <;> simp
theorem ka_c {f : Nat → Nat → Int32} : (qa T sz row x f).1 = 0 ∨ (qa T sz row x f).1 = 1 ∨ (qa T sz row x f).1 = 2 := by
  unfold qa
  split
  · simp
  · split <;> simp
theorem ko_c : (qo T sz row x).1 = 0 ∨ (qo T sz row x).1 = 1 := by
  unfold qo
  split
  · simp
  · split <;> simp
theorem kj_c : (qj T sz row x).1 = 0 ∨ (qj T sz row x).1 = 1 := by
  unfold qj
  split
  · simp
  · split <;> simp
theorem kp_c : (qp T sz row x).1 = 0 ∨ (qp T sz row x).1 = 1 ∨ (qp T sz row x).1 = 2 := by
  unfold qp
  split
  · simp
  · split <;> simp
theorem km_c : (qm T sz row x y).1 = 0 ∨ (qm T sz row x y).1 = 1 ∨ (qm T sz row x y).1 = 2 := by
  unfold qm
  split
  · simp
  · split
    · simp
    · split <;> simp
theorem kd_c : (qd T sz row x y).1 = 0 ∨ (qd T sz row x y).1 = 1 ∨ (qd T sz row x y).1 = 2 := by
  unfold qd
  split
  · simp
  · split
    · simp
    · split <;> simp
theorem kr_z {f : Nat → Int32} (hf : ∀ r, f r = 0 ∨ f r = 1) : (qr row f).2 = 0 ∨ (qr row f).2 = 1 := by
  unfold qr
  split
  · exact Or.inl rfl
  · exact hf _
theorem kj_z : (qj T sz row x).2 = 0 ∨ (qj T sz row x).2 = 1 := by
  unfold qj
  split
  · exact Or.inl rfl
  · split
    · exact Or.inl rfl
    · dsimp only
      split
      · exact Or.inr rfl
      · exact Or.inl rfl
end QC
