/-! CONTRACTS over the world: how one is begun, called and ended -/
theorem Mz_of {l : Launch} {y : MethodName} {ws ws' : List Cond} {rm : Room} {cc : ByteArray} {maxL : Nat} {ret : Option FieldType} {D : va_G} {lo : Nat} {Γ : GT} {av : List Value} {Z : WS} {post : Option Value → WS → Prop} (hy : plainName y.cls = true) (hw : ws = Cond.code y cc maxL ret :: ws') (hlen : (lg_sl av).length ≤ maxL)
    (body : ∀ (p : Program) (e : Env) (s : State) (m : MethodId) (args : Array Value) (below : List Frame) (meth : Method) (c : Code) (ls : Array Slot), CallFix p m c cc maxL s args ws y.cls → meth.sig.returnType = ret → meth.locks = false → va_K D vwCl (TY Γ) s → Hp D lo Γ Z s.heap → va_S (lA lo) s.heap s.heap [] → lv_has ls maxL (lv_args 0 av) →
      W p l e rm s m args below meth c s.heap [] 0 0 (MQ below (Qz D lo Γ post) args s rm.cells rm.slots (lA lo)) (F0 m 0 ls [])) : Mz l y ws rm D lo Γ av Z post := by
  refine Met.ofW (cc := cc) (maxL := maxL) (ret := ret) hy hw ?_
  intro p e s m args below meth c s₁ B hml hv
  obtain ⟨rfl, hH, hK⟩ := hv
  have hl := lv_entry av (n := maxL) hlen
  have hown : s.vm.findClass y.cls = some m.cls := findClass_of_methodNamed B.named
  rw [lg_entry_eq]
  exact body p e s m _ below meth c _ ⟨B.exec, B.bytes, hml, hown, atoms_spec (ws := ws) B.pre⟩ B.returns B.notSynchronized hK hH va_S.rf hl
theorem Hp_recv {D : va_G} {lo : Nat} {Γ : GT} {Z : WS} {H : Heap} {s : State} {tys : List (ClassId × FieldType)} {b ci : Nat} {q : vw_C} (hK : va_K D vwCl tys s) (hH : Hp D lo Γ Z H) (hb : b ∈ Z.1.1) (hk : Z.1.2.1 b = ci) (hc : vwCl[ci]? = some q) (hci : ci < 3 := by decide) : ∃ cell : Cell, H[b]? = some cell ∧ cell.vm.isStatics = false ∧ s.vm.findClass q.1 = some cell.cls := by
  rcases ci with _ | _ | _ | ci
  · obtain ⟨k, hq⟩ := va_plg (f := ef Γ Z) hb (by unfold ef; rw [if_pos hk])
    exact va_recv hK hH.1 hc hq
  · obtain ⟨k, hq⟩ := va_plg (f := ef Γ Z) hb (by unfold ef; rw [if_neg (by omega), if_pos hk])
    exact va_recv hK hH.1 hc hq
  · obtain ⟨k, hq⟩ := va_plg (f := ef Γ Z) hb (by unfold ef; rw [if_neg (by omega), if_neg (by omega), if_pos hk])
    exact va_recv hK hH.1 hc hq
  · omega
section WCalls
variable {p : Program} {l : Launch} {e : Env} {R : Room} {s : State} {m : MethodId} {args : Array Value} {below : List Frame} {meth : Method} {c : Code} {H H0 : Heap} {locs : List Loc} {cells slots : Nat} {Q : State → Prop}
variable {cc bytes : ByteArray} {pc nL maxL n index : Nat} {ret : Option FieldType} {ls : Array Slot} {rest st0 : List Value} {D : va_G} {lo : Nat} {Γ : GT} {Ts ws : List Cond} {own C : String} {b : Nat} {y : MethodName} {rm : Room} {As : List Value} {Z Z1 : WS} {post : Option Value → WS → Prop}
theorem cz_go {a : Array Value} {mc ms : Nat} (hr : va_Run p l e R s m args below meth c H locs cells slots mc ms (F0 m pc ls st0) rest (Qz D lo Γ post a) (lA lo)) (hS : va_S (lA lo) H0 H locs)
    (kk : ∀ (v : Option Value) (Z1 : WS) (H1 : Heap) (locs1 : List Loc), post v Z1 → Hp D lo Γ Z1 H1 → va_S (lA lo) H0 H1 locs1 → W p l e R s m args below meth c H1 locs1 (cells + mc) (slots + ms) Q (F0 m (pc + 3) ls (v.toList ++ rest))) : W p l e R s m args below meth c H locs cells slots Q (F0 m pc ls st0) := by
  intro T hT X
  obtain ⟨v, st₀, t, T', L, h0, X', hL, e1, e2, ⟨⟨v', Z1, hv, hp, hb⟩, hz, hk⟩, st⟩ := hr T hT X
  cases hv
  rw [h0] at hz hk
  obtain ⟨t2, a1, b1⟩ := kk v Z1 T'.heap (locs ++ L) hp (by rw [e1]; exact hb)
    ⟨Nat.le_trans hS.1 (by rw [e1]; exact hz), fun q h1 h2 => by rw [e1, hk q (Nat.lt_of_lt_of_le h1 hS.1) h2]; exact hS.2.1 q h1 h2, fun q hq => by
      rcases List.mem_append.mp hq with h | h
      · exact hS.2.2 q h
      · exact hL q h⟩ T' rfl X'
  exact ⟨t2, st t2 a1, b1⟩
theorem Pz_pre (hK : va_K D vwCl (TY Γ) s) (hH : Hp D lo Γ Z H) (av : List Value) : PreS s H (Pz D lo Γ av Z) av := ⟨Pz_blind, fun U hU hW => ⟨rfl, by rw [hU]; exact hH, va_K.moved hW.alike hK⟩⟩
/-- by the receiver -/
theorem cV (S : CallFix p m c cc nL s args Ts own) (hM : Mz l y ws rm D lo Γ (.ref b :: As) Z post) (cw : CallW R s args own C index y bytes maxL ret ws rm rm.cells rm.slots n) (hK : va_K D vwCl (TY Γ) s) (hH : Hp D lo Γ Z H) (hrec : ∃ cell : Cell, H[b]? = some cell ∧ cell.vm.isStatics = false ∧ s.vm.findClass C = some cell.cls) (hS : va_S (lA lo) H0 H locs)
    (hn : As.length = n) (hsize : ls.size = nL) (hstack : st0 = As.reverse ++ .ref b :: rest) (hW : (rest.map fun v => v.category).sum ≤ 8) (hdg : decode cc pc = .ok (.invokevirtual index, 3)) (hf : cells + rm.cells ≤ R.cells ∧ slots + rm.slots ≤ R.slots)
    (kk : ∀ (v : Option Value) (Z1 : WS) (H1 : Heap) (locs1 : List Loc), post v Z1 → Hp D lo Γ Z1 H1 → va_S (lA lo) H0 H1 locs1 → W p l e R s m args below meth c H1 locs1 (cells + rm.cells) (slots + rm.slots) Q (F0 m (pc + 3) ls (v.toList ++ rest))) : W p l e R s m args below meth c H locs cells slots Q (F0 m pc ls st0) :=
  cz_go (va_runV (As := As) (rest := rest) S hM cw ⟨Pz_blind, hrec, (Pz_pre hK hH _).2⟩ rfl hn hsize hstack (lv_room hW) hdg hf) hS kk
/-- a static method of one's own -/
theorem cSt (S : CallFix p m c cc nL s args Ts own) (hM : Mz l y ws rm D lo Γ As Z post) (cw : CallB R s args own index y bytes maxL ret ws rm rm.cells rm.slots n ∧ (Cond.static y).before args s = true) (hK : va_K D vwCl (TY Γ) s) (hH : Hp D lo Γ Z H) (hS : va_S (lA lo) H0 H locs)
    (hn : As.length = n) (hsize : ls.size = nL) (hstack : st0 = As.reverse ++ rest) (hW : (rest.map fun v => v.category).sum ≤ 8) (hdg : decode cc pc = .ok (.invokestatic index, 3)) (hf : cells + rm.cells ≤ R.cells ∧ slots + rm.slots ≤ R.slots)
    (kk : ∀ (v : Option Value) (Z1 : WS) (H1 : Heap) (locs1 : List Loc), post v Z1 → Hp D lo Γ Z1 H1 → va_S (lA lo) H0 H1 locs1 → W p l e R s m args below meth c H1 locs1 (cells + rm.cells) (slots + rm.slots) Q (F0 m (pc + 3) ls (v.toList ++ rest))) : W p l e R s m args below meth c H locs cells slots Q (F0 m pc ls st0) :=
  cz_go (va_runS (As := As) (rest := rest) S hM cw (Pz_pre hK hH _) rfl hn hsize hstack (lv_room hW) hdg hf) hS kk
/-- the ends -/
theorem eI {v : Int32} (S : CallFix p m c cc nL s args Ts own) (hr : meth.sig.returnType = some .int) (hlocks : meth.locks = false) (hH : Hp D lo Γ Z1 H) (hS : va_S (lA lo) s.heap H locs) (hp : post (some (.int v)) Z1) (hdg : decode cc pc = .ok (.ireturn, 1)) : W p l e R s m args below meth c H locs cells slots (MQ below (Qz D lo Γ post) args s cells slots (lA lo)) (F0 m pc ls [.int v]) :=
  W.iret S.1 S.2.1 hr (fun t ht hW => ⟨⟨_, Z1, rfl, hp, by rw [ht]; exact hH⟩, hS.F ht⟩) hS.2.2 hdg hlocks
theorem eZ {v : Int32} (S : CallFix p m c cc nL s args Ts own) (hr : meth.sig.returnType = some .boolean) (hlocks : meth.locks = false) (hv : v = 0 ∨ v = 1) (hH : Hp D lo Γ Z1 H) (hS : va_S (lA lo) s.heap H locs) (hp : post (some (.int v)) Z1) (hdg : decode cc pc = .ok (.ireturn, 1)) : W p l e R s m args below meth c H locs cells slots (MQ below (Qz D lo Γ post) args s cells slots (lA lo)) (F0 m pc ls [.int v]) :=
  W.zret S.1 S.2.1 hr (by rcases hv with rfl | rfl <;> decide +kernel) (fun t ht hW => ⟨⟨_, Z1, rfl, hp, by rw [ht]; exact hH⟩, hS.F ht⟩) hS.2.2 hdg hlocks
theorem eL {v : Int64} (S : CallFix p m c cc nL s args Ts own) (hr : meth.sig.returnType = some .long) (hlocks : meth.locks = false) (hH : Hp D lo Γ Z1 H) (hS : va_S (lA lo) s.heap H locs) (hp : post (some (.long v)) Z1) (hdg : decode cc pc = .ok (.lreturn, 1)) : W p l e R s m args below meth c H locs cells slots (MQ below (Qz D lo Γ post) args s cells slots (lA lo)) (F0 m pc ls [.long v]) :=
  W.lret S.1 S.2.1 hr (fun t ht hW => ⟨⟨_, Z1, rfl, hp, by rw [ht]; exact hH⟩, hS.F ht⟩) hS.2.2 hdg hlocks
theorem eD {v : UInt64} (S : CallFix p m c cc nL s args Ts own) (hr : meth.sig.returnType = some .double) (hlocks : meth.locks = false) (hH : Hp D lo Γ Z1 H) (hS : va_S (lA lo) s.heap H locs) (hp : post (some (.double v)) Z1) (hdg : decode cc pc = .ok (.dreturn, 1)) : W p l e R s m args below meth c H locs cells slots (MQ below (Qz D lo Γ post) args s cells slots (lA lo)) (F0 m pc ls [.double v]) :=
  W.dret S.1 S.2.1 hr (fun t ht hW => ⟨⟨_, Z1, rfl, hp, by rw [ht]; exact hH⟩, hS.F ht⟩) hS.2.2 hdg hlocks
theorem eV (S : CallFix p m c cc nL s args Ts own) (hr : meth.sig.returnType = none) (hlocks : meth.locks = false) (hH : Hp D lo Γ Z1 H) (hS : va_S (lA lo) s.heap H locs) (hp : post none Z1) (hdg : decode cc pc = .ok (.return_, 1)) : W p l e R s m args below meth c H locs cells slots (MQ below (Qz D lo Γ post) args s cells slots (lA lo)) (F0 m pc ls []) :=
  W.vret S.1 S.2.1 hr (fun t ht hW => ⟨⟨_, Z1, rfl, hp, by rw [ht]; exact hH⟩, hS.F ht⟩) hS.2.2 hdg hlocks
theorem eA {v : Value} {q : String} (S : CallFix p m c cc nL s args Ts own) (hr : meth.sig.returnType = some (.object q)) (hlocks : meth.locks = false) (r : Option Nat) (hv : v = va_rf r) (hH : Hp D lo Γ Z1 H) (hS : va_S (lA lo) s.heap H locs) (hp : post (some (va_rf r)) Z1) (hdg : decode cc pc = .ok (.areturn, 1)) : W p l e R s m args below meth c H locs cells slots (MQ below (Qz D lo Γ post) args s cells slots (lA lo)) (F0 m pc ls [v]) := by
  subst hv
  exact W.aret S.1 S.2.1 hr (Or.inl ⟨_, rfl⟩) (by cases r; exact Or.inl rfl; exact Or.inr ⟨_, rfl⟩) (fun t ht hW => ⟨⟨_, Z1, rfl, hp, by rw [ht]; exact hH⟩, hS.F ht⟩) hS.2.2 hdg hlocks
/-- references that may be null -/
theorem lq_aload_n (S : CallFix p m c cc nL s args Ts own) {k : Fin 4} {i : Nat} {r : Option Nat} (hdg : decode cc pc = .ok (.aload_n k, 1)) (hi : (k : Nat) = i) (hl : ls[i]? = some (.val (va_rf r))) (kk : W p l e R s m args below meth c H locs cells slots Q (F0 m (pc + 1) ls (va_rf r :: rest))) : W p l e R s m args below meth c H locs cells slots Q (F0 m pc ls rest) := by
  cases r with
  | none => exact lv_aload_nN S.1 S.2.1 hdg hi hl kk
  | some x => exact lv_aload_n S.1 S.2.1 hdg hi hl kk
theorem lq_aload (S : CallFix p m c cc nL s args Ts own) {i : Nat} {r : Option Nat} (hdg : decode cc pc = .ok (.aload i, 2)) (hl : ls[i]? = some (.val (va_rf r))) (kk : W p l e R s m args below meth c H locs cells slots Q (F0 m (pc + 2) ls (va_rf r :: rest))) : W p l e R s m args below meth c H locs cells slots Q (F0 m pc ls rest) := by
  cases r with
  | none => exact lv_aloadN S.1 S.2.1 hdg hl kk
  | some x => exact lv_aload S.1 S.2.1 hdg hl kk
theorem lq_astore_n (S : CallFix p m c cc nL s args Ts own) {k : Fin 4} {i : Nat} {r : Option Nat} {lv lv' : List (Nat × Value)} (hdg : decode cc pc = .ok (.astore_n k, 1)) (hi : (k : Nat) = i) (h : lv_has ls nL lv) (hn : i < nL) (hl : lv.filter (fun q => !(q.1 == i) && !(q.1 + 1 == i && q.2.category == 2)) = lv') (kk : ∀ ls' : Array Slot, lv_has ls' nL ((i, va_rf r) :: lv') → W p l e R s m args below meth c H locs cells slots Q (F0 m (pc + 1) ls' rest)) : W p l e R s m args below meth c H locs cells slots Q (F0 m pc ls (va_rf r :: rest)) := by
  subst hl
  cases r with
  | none => exact lv_astore_nN S.1 S.2.1 hdg hi h hn rfl kk
  | some x => exact lv_astore_n S.1 S.2.1 hdg hi h hn rfl kk
theorem lq_astore (S : CallFix p m c cc nL s args Ts own) {i : Nat} {r : Option Nat} {lv lv' : List (Nat × Value)} (hdg : decode cc pc = .ok (.astore i, 2)) (h : lv_has ls nL lv) (hn : i < nL) (hl : lv.filter (fun q => !(q.1 == i) && !(q.1 + 1 == i && q.2.category == 2)) = lv') (kk : ∀ ls' : Array Slot, lv_has ls' nL ((i, va_rf r) :: lv') → W p l e R s m args below meth c H locs cells slots Q (F0 m (pc + 2) ls' rest)) : W p l e R s m args below meth c H locs cells slots Q (F0 m pc ls (va_rf r :: rest)) := by
  subst hl
  cases r with
  | none => exact lv_astoreN S.1 S.2.1 hdg h hn rfl kk
  | some x => exact lv_astore S.1 S.2.1 hdg h hn rfl kk
/-- null or not: two goals -/
theorem lq_ifnull (S : CallFix p m c cc nL s args Ts own) {r : Option Nat} {off : Int} {tgt : Nat} (hdg : decode cc pc = .ok (.ifnull off, 3)) (ht : (pc : Int) + off = (tgt : Int)) (kt : r = none → W p l e R s m args below meth c H locs cells slots Q (F0 m tgt ls rest)) (kf : ∀ x, r = some x → W p l e R s m args below meth c H locs cells slots Q (F0 m (pc + 3) ls rest)) : W p l e R s m args below meth c H locs cells slots Q (F0 m pc ls (va_rf r :: rest)) := by
  cases r with
  | none => exact lv_ifnullN S.1 S.2.1 hdg ht (kt rfl)
  | some x => exact lv_ifnull S.1 S.2.1 hdg (kf x rfl)
theorem lq_ifnonnull (S : CallFix p m c cc nL s args Ts own) {r : Option Nat} {off : Int} {tgt : Nat} (hdg : decode cc pc = .ok (.ifnonnull off, 3)) (ht : (pc : Int) + off = (tgt : Int)) (kt : ∀ x, r = some x → W p l e R s m args below meth c H locs cells slots Q (F0 m tgt ls rest)) (kf : r = none → W p l e R s m args below meth c H locs cells slots Q (F0 m (pc + 3) ls rest)) : W p l e R s m args below meth c H locs cells slots Q (F0 m pc ls (va_rf r :: rest)) := by
  cases r with
  | none => exact lv_ifnonnullN S.1 S.2.1 hdg (kf rfl)
  | some x => exact lv_ifnonnull S.1 S.2.1 hdg ht (kt x rfl)
end WCalls
