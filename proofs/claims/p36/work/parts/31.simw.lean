/-! THE HAND-MADE ORCHARD: what its methods need of the machine, their contracts, rows that read and write its cells, rows that make them -/
def YE (lo : Nat) (U : State) (H : Heap) : Prop := XE lo U H ∧ va_AO RX3 U
theorem YE.to {lo : Nat} {s U : State} {H0 H : Heap} (h : YE lo s H0) (hW : s.WarmedH U.vm) (hk : ∀ a : Nat, a < H0.size → ¬ lA lo a → H[a]? = H0[a]?) : YE lo U H :=
  ⟨h.1.to hW hk, va_AO.moved hW.alike h.2⟩
theorem YE.blind {lo : Nat} {U V : State} {H : Heap} (h : YE lo U H) (hv : V.vm = U.vm) : YE lo V H :=
  ⟨h.1.blind hv, va_AO.moved (u := U) (by rw [hv]; exact Vm.Alike.refl U.vm) h.2⟩
def PzY (D : va_G) (lo : Nat) (Γ : GT) (av : List Value) (Z : WS) : Array Value → State → Prop := va_Pc av (fun U => Hp D lo Γ Z U.heap ∧ va_K D vwCl (TY Γ) U ∧ YE lo U U.heap)
theorem PzY_blind {D : va_G} {lo : Nat} {Γ : GT} {av : List Value} {Z : WS} : FrameBlind (PzY D lo Γ av Z) := fun a U g mk q => ⟨q.1, q.2.1, va_K.moved (u := U) (U := U.calling g mk a) (Vm.Alike.refl U.vm) q.2.2.1, q.2.2.2.blind rfl⟩
/-- a contract of a method of the law's -/
def My (l : Launch) (y : MethodName) (ws : List Cond) (rm : Room) (D : va_G) (lo : Nat) (Γ : GT) (av : List Value) (Z : WS) (post : Option Value → WS → Prop) : Prop :=
  Met l y ws rm (PzY D lo Γ av Z) (Qz D lo Γ post) rm.cells rm.slots (lA lo)
theorem My_of {l : Launch} {y : MethodName} {ws ws' : List Cond} {rm : Room} {cc : ByteArray} {maxL : Nat} {ret : Option FieldType} {D : va_G} {lo : Nat} {Γ : GT} {av : List Value} {Z : WS} {post : Option Value → WS → Prop} (hy : plainName y.cls = true) (hw : ws = Cond.code y cc maxL ret :: ws') (hlen : (lg_sl av).length ≤ maxL)
    (body : ∀ (p : Program) (e : Env) (s : State) (m : MethodId) (args : Array Value) (below : List Frame) (meth : Method) (c : Code) (ls : Array Slot), meth.name = y.name → CallFix p m c cc maxL s args ws y.cls → meth.sig.returnType = ret → meth.locks = false → va_K D vwCl (TY Γ) s → Hp D lo Γ Z s.heap → va_S (lA lo) s.heap s.heap [] → YE lo s s.heap → lv_has ls maxL (lv_args 0 av) →
      W p l e rm s m args below meth c s.heap [] 0 0 (MQ below (Qz D lo Γ post) args s rm.cells rm.slots (lA lo)) (F0 m 0 ls [])) : My l y ws rm D lo Γ av Z post := by
  refine Met.ofW (cc := cc) (maxL := maxL) (ret := ret) hy hw ?_
  intro p e s m args below meth c s₁ B hml hv
  obtain ⟨rfl, hH, hK, hX⟩ := hv
  have hl := lv_entry av (n := maxL) hlen
  have hown : s.vm.findClass y.cls = some m.cls := findClass_of_methodNamed B.named
  rw [lg_entry_eq]
  exact body p e s m _ below meth c _ (name_of_methodNamed B.named B.method).1 ⟨B.exec, B.bytes, hml, hown, atoms_spec (ws := ws) B.pre⟩ B.returns B.notSynchronized hK hH va_S.rf hX hl
theorem My_ofW {l : Launch} {y : MethodName} {ws ws' : List Cond} {rm : Room} {cc : ByteArray} {maxL : Nat} {ret : Option FieldType} {hh : List (Nat × Nat × Nat × Nat)} {D : va_G} {lo : Nat} {Γ : GT} {av : List Value} {Z : WS} {post : Option Value → WS → Prop} (hy : plainName y.cls = true) (hw : ws = Cond.codeWith y cc maxL ret hh :: ws') (hlen : (lg_sl av).length ≤ maxL)
    (body : ∀ (p : Program) (e : Env) (s : State) (m : MethodId) (args : Array Value) (below : List Frame) (meth : Method) (c : Code) (ls : Array Slot), CallFix p m c cc maxL s args ws y.cls → meth.sig.returnType = ret → meth.locks = false → va_K D vwCl (TY Γ) s → Hp D lo Γ Z s.heap → va_S (lA lo) s.heap s.heap [] → YE lo s s.heap → c.exceptionTable.toList = tableOf hh → lv_has ls maxL (lv_args 0 av) →
      W p l e rm s m args below meth c s.heap [] 0 0 (MQ below (Qz D lo Γ post) args s rm.cells rm.slots (lA lo)) (F0 m 0 ls [])) : My l y ws rm D lo Γ av Z post := by
  refine va_MetW (cc := cc) (maxL := maxL) (ret := ret) (hh := hh) hy hw ?_
  intro p e s m args below meth c s₁ B hml hv
  obtain ⟨rfl, hH, hK, hX⟩ := hv
  have hl := lv_entry av (n := maxL) hlen
  have hown : s.vm.findClass y.cls = some m.cls := findClass_of_methodNamed B.named
  have ht := vx_table (x := y) B (atoms_spec (ws := ws) B.pre (Cond.codeWith y cc maxL ret hh) (by rw [hw]; exact List.mem_cons_self))
  rw [lg_entry_eq]
  exact body p e s m _ below meth c _ ⟨B.exec, B.bytes, hml, hown, atoms_spec (ws := ws) B.pre⟩ B.returns B.notSynchronized hK hH va_S.rf hX ht hl
/-- the class's cells with one more cell of the hand-made orchard's -/
def cx (C : CW) (q : Nat) : CW := (C.1 ++ [q], va_up C.2.1 q 9, C.2.2)
/-- the class's cells as they were, others beside them -/
def Ext (C C' : CW) : Prop := C'.2.2 = C.2.2 ∧ (∀ a, a ∈ C.1 → a ∈ C'.1 ∧ C'.2.1 a = C.2.1 a) ∧ ∀ a, a ∈ C'.1 → a ∈ C.1 ∨ C'.2.1 a = 9
theorem Ext.rf (C : CW) : Ext C C := ⟨rfl, fun a h => ⟨h, rfl⟩, fun a h => Or.inl h⟩
theorem Ext.tr {A B C : CW} (h : Ext A B) (k : Ext B C) : Ext A C :=
  ⟨k.1.trans h.1, fun a ha => ⟨(k.2.1 a (h.2.1 a ha).1).1, ((k.2.1 a (h.2.1 a ha).1).2).trans (h.2.1 a ha).2⟩, fun a ha => (k.2.2 a ha).elim (fun hb => (h.2.2 a hb).imp id (fun e => ((k.2.1 a hb).2).trans e)) Or.inr⟩
theorem Ext.cx {C : CW} {q : Nat} (hq : q ∉ C.1) : Ext C (cx C q) := by
  refine ⟨rfl, fun a h => ⟨List.mem_append_left _ h, va_up_ne _ _ (fun e => hq (by rw [← e]; exact h))⟩, fun a h => ?_⟩
  rcases List.mem_append.mp h with h | h
  · exact Or.inl h
  · exact Or.inr (by rw [List.mem_singleton.mp h]; exact va_up_self _ _ _)
/-- the hand-made orchard's cells as they were, but for some; others beside them -/
def Gr (M M' : MW) (w : List Nat) : Prop := (∀ a, a ∈ M.1 → a ∈ M'.1) ∧ ∀ a, a ∈ M.1 → a ∉ w → M'.2 a = M.2 a
theorem Gr.rf (M : MW) (w : List Nat) : Gr M M w := ⟨fun _ h => h, fun _ _ _ => rfl⟩
theorem Gr.tr {A B C : MW} {w : List Nat} (h : Gr A B w) (k : Gr B C w) : Gr A C w := ⟨fun a ha => k.1 a (h.1 a ha), fun a ha hw => (k.2 a (h.1 a ha) hw).trans (h.2 a ha hw)⟩
theorem Gr.wd {A B : MW} {w w' : List Nat} (h : Gr A B w) (hw : ∀ a, a ∈ w → a ∈ w' ∨ a ∉ A.1) : Gr A B w' := ⟨h.1, fun a ha hn => h.2 a ha (fun h9 => (hw a h9).elim hn (fun k => k ha))⟩
theorem ef_9 {Γ : GT} {Z : WS} {a : Nat} (hk : Z.1.2.1 a = 9) : ef Γ Z a = Z.2.1.2 a := by
  unfold ef
  rw [if_neg (by omega), if_neg (by omega), if_neg (by omega), if_neg (by omega), if_pos hk]
section YCalls
variable {p : Program} {l : Launch} {e : Env} {R : Room} {s : State} {m : MethodId} {args : Array Value} {below : List Frame} {meth : Method} {c : Code} {H H0 : Heap} {locs : List Loc} {cells slots : Nat} {Q : State → Prop}
variable {cc bytes : ByteArray} {pc nL maxL n index : Nat} {ret : Option FieldType} {ls : Array Slot} {rest st0 : List Value} {D : va_G} {lo : Nat} {Γ : GT} {Ts ws : List Cond} {own Cn host : String} {a b q : Nat} {y : MethodName} {rm : Room} {As : List Value} {Z Z1 : WS} {post : Option Value → WS → Prop}
variable {C : CW} {M : MW} {V : Int64 × UInt64} {hh : List (Nat × Nat × Nat × Nat)}
theorem PzY_pre (hK : va_K D vwCl (TY Γ) s) (hH : Hp D lo Γ Z H) (hX : YE lo s s.heap) (hS : va_S (lA lo) s.heap H locs) (av : List Value) : PreS s H (PzY D lo Γ av Z) av := ⟨PzY_blind, fun U hU hW => ⟨rfl, by rw [hU]; exact hH, va_K.moved hW.alike hK, by rw [hU]; exact hX.to hW hS.2.1⟩⟩
/-- by the receiver -/
theorem cyV (S : CallFix p m c cc nL s args Ts own) (hM : My l y ws rm D lo Γ (.ref b :: As) Z post) (cw : CallW R s args own Cn index y bytes maxL ret ws rm rm.cells rm.slots n) (hK : va_K D vwCl (TY Γ) s) (hH : Hp D lo Γ Z H) (hX : YE lo s s.heap) (hrec : ∃ cell : Cell, H[b]? = some cell ∧ cell.vm.isStatics = false ∧ s.vm.findClass Cn = some cell.cls) (hS : va_S (lA lo) s.heap H locs)
    (hn : As.length = n) (hsize : ls.size = nL) (hstack : st0 = As.reverse ++ .ref b :: rest) (hW : (rest.map fun v => v.category).sum ≤ 8) (hdg : decode cc pc = .ok (.invokevirtual index, 3)) (hf : cells + rm.cells ≤ R.cells ∧ slots + rm.slots ≤ R.slots)
    (kk : ∀ (v : Option Value) (Z1 : WS) (H1 : Heap) (locs1 : List Loc), post v Z1 → Hp D lo Γ Z1 H1 → va_S (lA lo) s.heap H1 locs1 → W p l e R s m args below meth c H1 locs1 (cells + rm.cells) (slots + rm.slots) Q (F0 m (pc + 3) ls (v.toList ++ rest))) : W p l e R s m args below meth c H locs cells slots Q (F0 m pc ls st0) :=
  cz_go (va_runV (As := As) (rest := rest) S hM cw ⟨PzY_blind, hrec, (PzY_pre hK hH hX hS _).2⟩ rfl hn hsize hstack (lv_room hW) hdg hf) hS kk
/-- a static method -/
theorem cyS (S : CallFix p m c cc nL s args Ts own) (hM : My l y ws rm D lo Γ As Z post) (cw : CallB R s args own index y bytes maxL ret ws rm rm.cells rm.slots n ∧ (Cond.static y).before args s = true) (hK : va_K D vwCl (TY Γ) s) (hH : Hp D lo Γ Z H) (hX : YE lo s s.heap) (hS : va_S (lA lo) s.heap H locs)
    (hn : As.length = n) (hsize : ls.size = nL) (hstack : st0 = As.reverse ++ rest) (hW : (rest.map fun v => v.category).sum ≤ 8) (hdg : decode cc pc = .ok (.invokestatic index, 3)) (hf : cells + rm.cells ≤ R.cells ∧ slots + rm.slots ≤ R.slots)
    (kk : ∀ (v : Option Value) (Z1 : WS) (H1 : Heap) (locs1 : List Loc), post v Z1 → Hp D lo Γ Z1 H1 → va_S (lA lo) s.heap H1 locs1 → W p l e R s m args below meth c H1 locs1 (cells + rm.cells) (slots + rm.slots) Q (F0 m (pc + 3) ls (v.toList ++ rest))) : W p l e R s m args below meth c H locs cells slots Q (F0 m pc ls st0) :=
  cz_go (va_runS (As := As) (rest := rest) S hM cw (PzY_pre hK hH hX hS _) rfl hn hsize hstack (lv_room hW) hdg hf) hS kk
/-- one with a table of handlers -/
theorem cySW (S : CallFix p m c cc nL s args Ts own) (hM : My l y ws rm D lo Γ As Z post) (cw : vx_CSW R s args own index y bytes maxL ret hh ws rm rm.cells rm.slots n) (hK : va_K D vwCl (TY Γ) s) (hH : Hp D lo Γ Z H) (hX : YE lo s s.heap) (hS : va_S (lA lo) s.heap H locs)
    (hn : As.length = n) (hsize : ls.size = nL) (hstack : st0 = As.reverse ++ rest) (hW : (rest.map fun v => v.category).sum ≤ 8) (hdg : decode cc pc = .ok (.invokestatic index, 3)) (hf : cells + rm.cells ≤ R.cells ∧ slots + rm.slots ≤ R.slots)
    (kk : ∀ (v : Option Value) (Z1 : WS) (H1 : Heap) (locs1 : List Loc), post v Z1 → Hp D lo Γ Z1 H1 → va_S (lA lo) s.heap H1 locs1 → W p l e R s m args below meth c H1 locs1 (cells + rm.cells) (slots + rm.slots) Q (F0 m (pc + 3) ls (v.toList ++ rest))) : W p l e R s m args below meth c H locs cells slots Q (F0 m pc ls st0) :=
  cz_go (vx_runSW (As := As) (rest := rest) S hM cw (PzY_pre hK hH hX hS _) rfl hn hsize hstack (lv_room hW) hdg hf) hS kk
/-- a constructor -/
theorem cyI (S : CallFix p m c cc nL s args Ts own) (hM : My l y ws rm D lo Γ (.ref b :: As) Z post) (cw : CallB R s args own index y bytes maxL none ws rm rm.cells rm.slots n ∧ y.name = "<init>" ∧ (Cond.instanceMethod y).before args s = true) (hK : va_K D vwCl (TY Γ) s) (hH : Hp D lo Γ Z H) (hX : YE lo s s.heap) (hS : va_S (lA lo) s.heap H locs)
    (hn : As.length = n) (hsize : ls.size = nL) (hstack : st0 = As.reverse ++ .ref b :: rest) (hW : (rest.map fun v => v.category).sum ≤ 8) (hdg : decode cc pc = .ok (.invokespecial index, 3)) (hf : cells + rm.cells ≤ R.cells ∧ slots + rm.slots ≤ R.slots)
    (kk : ∀ (v : Option Value) (Z1 : WS) (H1 : Heap) (locs1 : List Loc), post v Z1 → Hp D lo Γ Z1 H1 → va_S (lA lo) s.heap H1 locs1 → W p l e R s m args below meth c H1 locs1 (cells + rm.cells) (slots + rm.slots) Q (F0 m (pc + 3) ls (v.toList ++ rest))) : W p l e R s m args below meth c H locs cells slots Q (F0 m pc ls st0) :=
  cz_go (va_runI (As := As) (rest := rest) S hM cw (PzY_pre hK hH hX hS _) rfl hn hsize hstack (lv_room hW) hdg hf) hS kk
theorem cyIN (S : CallFix p m c cc nL s args Ts own) (hM : My l y ws rm D lo Γ (.ref b :: As) Z post) (cw : va_CN R s args own index y host bytes maxL none ws rm rm.cells rm.slots n ∧ y.name = "<init>" ∧ (Cond.instanceMethod y).before args s = true) (hK : va_K D vwCl (TY Γ) s) (hH : Hp D lo Γ Z H) (hX : YE lo s s.heap) (hS : va_S (lA lo) s.heap H locs)
    (hn : As.length = n) (hsize : ls.size = nL) (hstack : st0 = As.reverse ++ .ref b :: rest) (hW : (rest.map fun v => v.category).sum ≤ 8) (hdg : decode cc pc = .ok (.invokespecial index, 3)) (hf : cells + rm.cells ≤ R.cells ∧ slots + rm.slots ≤ R.slots)
    (kk : ∀ (v : Option Value) (Z1 : WS) (H1 : Heap) (locs1 : List Loc), post v Z1 → Hp D lo Γ Z1 H1 → va_S (lA lo) s.heap H1 locs1 → W p l e R s m args below meth c H1 locs1 (cells + rm.cells) (slots + rm.slots) Q (F0 m (pc + 3) ls (v.toList ++ rest))) : W p l e R s m args below meth c H locs cells slots Q (F0 m pc ls st0) :=
  cz_go (va_runIN (As := As) (rest := rest) S hM cw (PzY_pre hK hH hX hS _) rfl hn hsize hstack (lv_room hW) hdg hf) hS kk
end YCalls
section YRows
variable {p : Program} {l : Launch} {e : Env} {R : Room} {s : State} {m : MethodId} {args : Array Value} {below : List Frame} {meth : Method} {c : Code} {H H0 : Heap} {locs : List Loc} {cells slots : Nat} {Q : State → Prop}
variable {cc : ByteArray} {pc nL index : Nat} {ls : Array Slot} {rest : List Value} {D : va_G} {lo : Nat} {Γ : GT} {Ts : List Cond} {own : String} {a : Nat}
variable {C : CW} {U : List Nat} {E : Nat → va_E} {V : Int64 × UInt64}
theorem e9 (hH : Hp D lo Γ (C, (U, E), V) H) (ha : a ∈ U) : a ∈ C.1 ∧ C.2.1 a = 9 ∧ ef Γ (C, (U, E), V) a = E a := by
  obtain ⟨h1, h2⟩ := hH.2.2.1.2 a ha
  exact ⟨h1, h2, ef_9 h2⟩
theorem e9q (hH : Hp D lo Γ (C, (U, E), V) H) (ha : a ∈ U) {x : va_E} (he : E a = x) : ∃ k : Nat, (va_pl C.1 (ef Γ (C, (U, E), V)))[k]? = some (a, x) := by
  obtain ⟨h1, h2, h3⟩ := e9 hH ha
  exact va_plg h1 (h3.trans he)
/-- what is left when one cell of the hand-made orchard's is another -/
theorem Hp_up {H1 : Heap} {k : Nat} {x : va_E} (hH : Hp D lo Γ (C, (U, E), V) H) (ha : a ∈ U) (hk : (va_pl C.1 (ef Γ (C, (U, E), V)))[k]? = some (a, E a)) (hP : va_P D vwCl ((va_pl C.1 (ef Γ (C, (U, E), V))).set k (a, x)) H1) (hD : va_D (lA lo) ((va_pl C.1 (ef Γ (C, (U, E), V))).set k (a, x))) : Hp D lo Γ (C, (U, va_up E a x), V) H1 := by
  obtain ⟨h1, h2, h3⟩ := e9 hH ha
  rw [← h3] at hk
  have h4 := va_pls (g := ef Γ (C, (U, va_up E a x), V)) (e := x) hH.2.1 h1 hk (fun b => by
    by_cases hb : b = a
    · subst hb
      rw [va_up_self, ef_9 (by exact h2)]
      exact (va_up_self _ _ _).symm
    · rw [va_up_ne _ _ hb]
      unfold ef
      dsimp only
      rw [va_up_ne _ _ hb])
  rw [h4] at hP hD
  exact ⟨hP, hD, ⟨Hp_lo hP hD h1, hH.2.2.1.2⟩, hH.2.2.2⟩
theorem rec9 {ci : Nat} {fs : List Value} {q : vw_C} (hK : va_K D vwCl (TY Γ) s) (hH : Hp D lo Γ (C, (U, E), V) H) (ha : a ∈ U) (he : E a = .inr (ci, fs)) (hc : vwCl[ci]? = some q) : ∃ cell : Cell, H[a]? = some cell ∧ cell.vm.isStatics = false ∧ s.vm.findClass q.1 = some cell.cls := by
  obtain ⟨k, hk⟩ := e9q hH ha he
  exact va_recv hK hH.1 hc hk
/-- reading a field of a hand-made apple -/
theorem gB (S : CallFix p m c cc nL s args Ts own) (hi : ∀ w ∈ wsX30, w ∈ Ts) (hK : va_K D vwCl (TY Γ) s) (hH : Hp D lo Γ (C, (U, E), V) H) (ha : a ∈ U) {fs : List Value} (he : E a = .inr (3, fs)) (k : Nat) (hk : k < 4) (hlink : (Cond.fieldLink own index (TX3 k).1 (TX3 k).2.1 (TX3 k).2.2.1).before args s = true) {v : Value} (hv : fs[k]? = some v) (hdg : decode cc pc = .ok (.getfield index, 3))
    (kk : W p l e R s m args below meth c H locs cells slots Q (F0 m (pc + 3) ls (v :: rest))) : W p l e R s m args below meth c H locs cells slots Q (F0 m pc ls (.ref a :: rest)) := by
  obtain ⟨hx, hb, hml, hown, hts⟩ := S
  obtain ⟨q, hq⟩ := e9q hH ha he
  exact va_get hx hb hts hi hown hK hH.1 q hq (ci := 3) rfl k hk hlink (fun _ h => h) hv hdg kk
/-- setting one: a number, or a reference -/
theorem pBi (S : CallFix p m c cc nL s args Ts own) (hi : ∀ w ∈ wsX30, w ∈ Ts) (hK : va_K D vwCl (TY Γ) s) (hH : Hp D lo Γ (C, (U, E), V) H) (hS : va_S (lA lo) H0 H locs) (ha : a ∈ U) {fs : List Value} (he : E a = .inr (3, fs)) (k : Nat) (hk : k < 2) (hlink : (Cond.fieldLink own index (TX3 k).1 (TX3 k).2.1 (TX3 k).2.2.1).before args s = true) {x : Int32} (hdg : decode cc pc = .ok (.putfield index, 3))
    (hfl : fs.length = 4)
    (kk : ∀ (E1 : Nat → va_E) (H1 : Heap) (locs1 : List Loc), E1 a = .inr (3, fs.set k (.int x)) → (∀ b, b ≠ a → E1 b = E b) → Hp D lo Γ (C, (U, E1), V) H1 → va_S (lA lo) H0 H1 locs1 → W p l e R s m args below meth c H1 locs1 cells slots Q (F0 m (pc + 3) ls rest)) : W p l e R s m args below meth c H locs cells slots Q (F0 m pc ls (.int x :: .ref a :: rest)) := by
  obtain ⟨hx, hb, hml, hown, hts⟩ := S
  obtain ⟨q, hq⟩ := e9q hH ha rfl
  have hq0 := hq
  rw [he] at hq
  have h2 : k = 0 ∨ k = 1 := by omega
  rcases h2 with rfl | rfl
  · exact va_put hx hb hts hi tyX3 tyX3_ok nmX3 hown hK hH.1 hH.2.1 hS q hq (ci := 3) rfl 0 (by decide) hlink (fun _ h => h) rfl (ty := .int) (by decide +kernel) rfl rfl (by rw [hfl]; decide) hdg (fun H1 locs1 hP1 hD1 hS1 => kk _ H1 locs1 (va_up_self _ _ _) (fun b hb => va_up_ne _ _ hb) (Hp_up hH ha hq0 hP1 hD1) hS1)
  · exact va_put hx hb hts hi tyX3 tyX3_ok nmX3 hown hK hH.1 hH.2.1 hS q hq (ci := 3) rfl 1 (by decide) hlink (fun _ h => h) rfl (ty := .int) (by decide +kernel) rfl rfl (by rw [hfl]; decide) hdg (fun H1 locs1 hP1 hD1 hS1 => kk _ H1 locs1 (va_up_self _ _ _) (fun b hb => va_up_ne _ _ hb) (Hp_up hH ha hq0 hP1 hD1) hS1)
theorem pBr (S : CallFix p m c cc nL s args Ts own) (hi : ∀ w ∈ wsX30, w ∈ Ts) (hK : va_K D vwCl (TY Γ) s) (hH : Hp D lo Γ (C, (U, E), V) H) (hS : va_S (lA lo) H0 H locs) (ha : a ∈ U) {fs : List Value} (he : E a = .inr (3, fs)) (k : Nat) (hk : k = 2 ∨ k = 3) (hlink : (Cond.fieldLink own index (TX3 k).1 (TX3 k).2.1 (TX3 k).2.2.1).before args s = true) (r : Option Nat) {v : Value} (hv : v = va_rf r) (hdg : decode cc pc = .ok (.putfield index, 3))
    (hfl : fs.length = 4)
    (kk : ∀ (E1 : Nat → va_E) (H1 : Heap) (locs1 : List Loc), E1 a = .inr (3, fs.set k (va_rf r)) → (∀ b, b ≠ a → E1 b = E b) → Hp D lo Γ (C, (U, E1), V) H1 → va_S (lA lo) H0 H1 locs1 → W p l e R s m args below meth c H1 locs1 cells slots Q (F0 m (pc + 3) ls rest)) : W p l e R s m args below meth c H locs cells slots Q (F0 m pc ls (v :: .ref a :: rest)) := by
  subst hv
  obtain ⟨hx, hb, hml, hown, hts⟩ := S
  obtain ⟨q, hq⟩ := e9q hH ha rfl
  have hq0 := hq
  rw [he] at hq
  have hn : narrow (.object "SplayOrchardLaw$Apple") (va_rf r) = va_rf r := by cases r <;> rfl
  have hf : fits (.object "SplayOrchardLaw$Apple") (va_rf r) = true := by cases r <;> rfl
  rcases hk with rfl | rfl
  · exact va_put hx hb hts hi tyX3 tyX3_ok nmX3 hown hK hH.1 hH.2.1 hS q hq (ci := 3) rfl 2 (by decide) hlink (fun _ h => h) rfl (ty := .object "SplayOrchardLaw$Apple") (by decide +kernel) hn hf (by rw [hfl]; decide) hdg (fun H1 locs1 hP1 hD1 hS1 => kk _ H1 locs1 (va_up_self _ _ _) (fun b hb => va_up_ne _ _ hb) (Hp_up hH ha hq0 hP1 hD1) hS1)
  · exact va_put hx hb hts hi tyX3 tyX3_ok nmX3 hown hK hH.1 hH.2.1 hS q hq (ci := 3) rfl 3 (by decide) hlink (fun _ h => h) rfl (ty := .object "SplayOrchardLaw$Apple") (by decide +kernel) hn hf (by rw [hfl]; decide) hdg (fun H1 locs1 hP1 hD1 hS1 => kk _ H1 locs1 (va_up_self _ _ _) (fun b hb => va_up_ne _ _ hb) (Hp_up hH ha hq0 hP1 hD1) hS1)
/-- the hand-made orchard's own fields: 0 its row of tops, 1 its turnings -/
theorem gM (S : CallFix p m c cc nL s args Ts own) (hi : ∀ w ∈ wsX40, w ∈ Ts) (hK : va_K D vwCl (TY Γ) s) (hH : Hp D lo Γ (C, (U, E), V) H) (ha : a ∈ U) {fs : List Value} (he : E a = .inr (4, fs)) (k : Nat) (hk : k < 2) (hlink : (Cond.fieldLink own index (TX4 k).1 (TX4 k).2.1 (TX4 k).2.2.1).before args s = true) {v : Value} (hv : fs[k]? = some v) (hdg : decode cc pc = .ok (.getfield index, 3))
    (kk : W p l e R s m args below meth c H locs cells slots Q (F0 m (pc + 3) ls (v :: rest))) : W p l e R s m args below meth c H locs cells slots Q (F0 m pc ls (.ref a :: rest)) := by
  obtain ⟨hx, hb, hml, hown, hts⟩ := S
  obtain ⟨q, hq⟩ := e9q hH ha he
  exact va_get hx hb hts hi hown hK hH.1 q hq (ci := 4) rfl k hk hlink (fun _ h => h) hv hdg kk
theorem pM0 (S : CallFix p m c cc nL s args Ts own) (hi : ∀ w ∈ wsX40, w ∈ Ts) (hK : va_K D vwCl (TY Γ) s) (hH : Hp D lo Γ (C, (U, E), V) H) (hS : va_S (lA lo) H0 H locs) (ha : a ∈ U) {fs : List Value} (he : E a = .inr (4, fs)) (hlink : (Cond.fieldLink own index (TX4 0).1 (TX4 0).2.1 (TX4 0).2.2.1).before args s = true) {x : Nat} (hdg : decode cc pc = .ok (.putfield index, 3))
    (hfl : fs.length = 2)
    (kk : ∀ (E1 : Nat → va_E) (H1 : Heap) (locs1 : List Loc), E1 a = .inr (4, fs.set 0 (.ref x)) → (∀ b, b ≠ a → E1 b = E b) → Hp D lo Γ (C, (U, E1), V) H1 → va_S (lA lo) H0 H1 locs1 → W p l e R s m args below meth c H1 locs1 cells slots Q (F0 m (pc + 3) ls rest)) : W p l e R s m args below meth c H locs cells slots Q (F0 m pc ls (.ref x :: .ref a :: rest)) := by
  obtain ⟨hx, hb, hml, hown, hts⟩ := S
  obtain ⟨q, hq⟩ := e9q hH ha rfl
  have hq0 := hq
  rw [he] at hq
  exact va_put hx hb hts hi tyX4 tyX4_ok nmX4 hown hK hH.1 hH.2.1 hS q hq (ci := 4) rfl 0 (by decide) hlink (fun _ h => h) rfl (ty := .array (.object "SplayOrchardLaw$Apple")) (by decide +kernel) rfl rfl (by rw [hfl]; decide) hdg (fun H1 locs1 hP1 hD1 hS1 => kk _ H1 locs1 (va_up_self _ _ _) (fun b hb => va_up_ne _ _ hb) (Hp_up hH ha hq0 hP1 hD1) hS1)
theorem pM1 (S : CallFix p m c cc nL s args Ts own) (hi : ∀ w ∈ wsX40, w ∈ Ts) (hK : va_K D vwCl (TY Γ) s) (hH : Hp D lo Γ (C, (U, E), V) H) (hS : va_S (lA lo) H0 H locs) (ha : a ∈ U) {fs : List Value} (he : E a = .inr (4, fs)) (hlink : (Cond.fieldLink own index (TX4 1).1 (TX4 1).2.1 (TX4 1).2.2.1).before args s = true) {x : Int32} (hdg : decode cc pc = .ok (.putfield index, 3))
    (hfl : fs.length = 2)
    (kk : ∀ (E1 : Nat → va_E) (H1 : Heap) (locs1 : List Loc), E1 a = .inr (4, fs.set 1 (.int x)) → (∀ b, b ≠ a → E1 b = E b) → Hp D lo Γ (C, (U, E1), V) H1 → va_S (lA lo) H0 H1 locs1 → W p l e R s m args below meth c H1 locs1 cells slots Q (F0 m (pc + 3) ls rest)) : W p l e R s m args below meth c H locs cells slots Q (F0 m pc ls (.int x :: .ref a :: rest)) := by
  obtain ⟨hx, hb, hml, hown, hts⟩ := S
  obtain ⟨q, hq⟩ := e9q hH ha rfl
  have hq0 := hq
  rw [he] at hq
  exact va_put hx hb hts hi tyX4 tyX4_ok nmX4 hown hK hH.1 hH.2.1 hS q hq (ci := 4) rfl 1 (by decide) hlink (fun _ h => h) rfl (ty := .int) (by decide +kernel) rfl rfl (by rw [hfl]; decide) hdg (fun H1 locs1 hP1 hD1 hS1 => kk _ H1 locs1 (va_up_self _ _ _) (fun b hb => va_up_ne _ _ hb) (Hp_up hH ha hq0 hP1 hD1) hS1)
/-- rows of hand-made apples: length, reading, writing -/
abbrev qE (Γ : GT) (n : Nat) (f : Nat → Option Nat) : va_E := .inl (gAr Γ, n, .inr (.inr (.inr (.inr f))))
theorem lQ (S : CallFix p m c cc nL s args Ts own) (hK : va_K D vwCl (TY Γ) s) (hH : Hp D lo Γ (C, (U, E), V) H) (ha : a ∈ U) {n : Nat} {f : Nat → Option Nat} (he : E a = qE Γ n f) (hdg : decode cc pc = .ok (.arraylength, 1))
    (kk : W p l e R s m args below meth c H locs cells slots Q (F0 m (pc + 1) ls (.int (nI n) :: rest))) : W p l e R s m args below meth c H locs cells slots Q (F0 m pc ls (.ref a :: rest)) := by
  obtain ⟨q, hq⟩ := e9q hH ha he
  exact va_alen S.1 S.2.1 hK hH.1 q 0 hq (ty := .object RX3) rfl (v := nI n) rfl hdg kk
theorem gQ (S : CallFix p m c cc nL s args Ts own) (hK : va_K D vwCl (TY Γ) s) (hH : Hp D lo Γ (C, (U, E), V) H) (ha : a ∈ U) {n j : Nat} {f : Nat → Option Nat} (he : E a = qE Γ n f) {i : Int32} (hi : i = nI j) (hj : j < n) (hn : n < 2 ^ 31) {r : Option Nat} (hr : f j = r) (hdg : decode cc pc = .ok (.aaload, 1))
    (kk : W p l e R s m args below meth c H locs cells slots Q (F0 m (pc + 1) ls (va_rf r :: rest))) : W p l e R s m args below meth c H locs cells slots Q (F0 m pc ls (.int i :: .ref a :: rest)) := by
  subst hi
  subst hr
  obtain ⟨q, hq⟩ := e9q hH ha he
  refine va_aldq S.1 S.2.1 hK hH.1 q 0 (C := RX3) hq rfl (vp_in_nI hj hn) hdg ?_
  rw [nI_clamp (by omega)]
  exact kk
theorem pQ (S : CallFix p m c cc nL s args Ts own) (hK : va_K D vwCl (TY Γ) s) (hH : Hp D lo Γ (C, (U, E), V) H) (hS : va_S (lA lo) H0 H locs) (ha : a ∈ U) {n j : Nat} {f : Nat → Option Nat} (he : E a = qE Γ n f) {i : Int32} (hi : i = nI j) (hj : j < n) (hn : n < 2 ^ 31) (r : Option Nat) (hr : ∀ b, r = some b → b ∈ U ∧ ∃ vs, E b = .inr (3, vs)) {v : Value} (hv : v = va_rf r) (hdg : decode cc pc = .ok (.aastore, 1))
    (kk : ∀ (E1 : Nat → va_E) (H1 : Heap) (locs1 : List Loc), E1 a = qE Γ n (va_up f j r) → (∀ b, b ≠ a → E1 b = E b) → Hp D lo Γ (C, (U, E1), V) H1 → va_S (lA lo) H0 H1 locs1 → W p l e R s m args below meth c H1 locs1 cells slots Q (F0 m (pc + 1) ls rest)) : W p l e R s m args below meth c H locs cells slots Q (F0 m pc ls (v :: .int i :: .ref a :: rest)) := by
  subst hi
  subst hv
  obtain ⟨q, hq⟩ := e9q hH ha rfl
  have hq0 := hq
  rw [he] at hq
  cases r with
  | none =>
    refine va_astqN S.1 S.2.1 hK hH.1 hH.2.1 hS q 0 (C := RX3) hq rfl (vp_in_nI hj hn) hdg (fun H1 locs1 hP1 hD1 hS1 => ?_)
    rw [nI_clamp (by omega)] at hP1 hD1
    exact kk _ H1 locs1 (va_up_self _ _ _) (fun b hb => va_up_ne _ _ hb) (Hp_up hH ha hq0 hP1 hD1) hS1
  | some b =>
    obtain ⟨hbU, vs, hbe⟩ := hr b rfl
    obtain ⟨q2, hq2⟩ := e9q hH hbU hbe
    refine va_astq S.1 S.2.1 hK hH.1 hH.2.1 hS q 0 q2 3 (r := (RX3, TX3, 4)) hq rfl hq2 rfl (vp_in_nI hj hn) hdg (fun H1 locs1 hP1 hD1 hS1 => ?_)
    rw [nI_clamp (by omega)] at hP1 hD1
    exact kk _ H1 locs1 (va_up_self _ _ _) (fun b hb => va_up_ne _ _ hb) (Hp_up hH ha hq0 hP1 hD1) hS1
/-- what is left when a cell is added -/
theorem Hp_new {H1 : Heap} {q : Nat} {x : va_E} (hH : Hp D lo Γ (C, (U, E), V) H) (hP : va_P D vwCl (va_pl C.1 (ef Γ (C, (U, E), V)) ++ [(q, x)]) H1) (hD : va_D (lA lo) (va_pl C.1 (ef Γ (C, (U, E), V)) ++ [(q, x)])) : q ∉ C.1 ∧ q ∉ U ∧ Hp D lo Γ (cx C q, (U ++ [q], va_up E q x), V) H1 := by
  have hq : q ∉ C.1 := va_pl_fresh2 (X := []) hD
  have e1 : va_pl C.1 (ef Γ (C, (U, E), V)) ++ [(q, x)] = va_pl (C.1 ++ [q]) (ef Γ (cx C q, (U ++ [q], va_up E q x), V)) := by
    rw [va_pl_push hq]
    refine va_pl_congr (fun b => ?_)
    by_cases hbq : b = q
    · subst hbq
      rw [va_up_self, ef_9 (va_up_self _ _ _)]
      exact (va_up_self _ _ _).symm
    · rw [va_up_ne _ _ hbq]
      unfold ef cx
      dsimp only
      simp only [va_up_ne _ _ hbq]
  rw [e1] at hP hD
  refine ⟨hq, fun h => hq (hH.2.2.1.2 q h).1, hP, hD, ⟨Hp_lo hP hD (a := q) (by simp), fun b hb => ?_⟩, ?_⟩
  · by_cases hbq : b = q
    · subst hbq
      exact ⟨by simp [cx], va_up_self _ _ _⟩
    · rcases List.mem_append.mp hb with h | h
      · obtain ⟨h1, h2⟩ := hH.2.2.1.2 b h
        exact ⟨by simp [cx, h1], (va_up_ne _ _ hbq).trans h2⟩
      · exact absurd (List.mem_singleton.mp h) hbq
  · have old : ∀ x, okA C.1 C.2.1 x → okA (C.1 ++ [q]) (va_up C.2.1 q 9) x := fun x hx => ⟨by simp [hx.1], by rw [va_up_ne _ _ (fun e => hq (by rw [← e]; exact hx.1))]; exact hx.2⟩
    have back : ∀ x, okA (C.1 ++ [q]) (va_up C.2.1 q 9) x → okA C.1 C.2.1 x := fun x hx => by
      have hxq : x ≠ q := fun e => by have := hx.2; rw [e, va_up_self] at this; cases this
      refine ⟨?_, by have := hx.2; rw [va_up_ne _ _ hxq] at this; exact this⟩
      rcases List.mem_append.mp hx.1 with h | h
      · exact h
      · exact absurd (List.mem_singleton.mp h) hxq
    refine ⟨fun x hx j hj b hb9 => old b (hH.2.2.2.1 x (back x hx) j hj b hb9), fun x hx b hb9 => old b (hH.2.2.2.2.1 x (back x hx) b hb9), fun t ht hk b hb9 => ?_⟩
    have htq : t ≠ q := fun e => by have : va_up C.2.1 q 9 t = 1 := hk; rw [e, va_up_self] at this; cases this
    have hk2 : C.2.1 t = 1 := by have : va_up C.2.1 q 9 t = 1 := hk; rw [va_up_ne _ _ htq] at this; exact this
    refine old b (hH.2.2.2.2.2 t ?_ hk2 b hb9)
    rcases List.mem_append.mp ht with h | h
    · exact h
    · exact absurd (List.mem_singleton.mp h) htq
/-- a new hand-made apple -/
theorem nB (S : CallFix p m c cc nL s args Ts own) (hi : ∀ w ∈ wsX30, w ∈ Ts) (hcl : (Cond.classLink own index RX3).before args s = true) (hinst : (Cond.instantiable RX3 4).before args s = true) (hini : (Cond.initialized RX3).before args s = true) (hK : va_K D vwCl (TY Γ) s) (hH : Hp D lo Γ (C, (U, E), V) H) (hlo : lo ≤ H0.size) (hS : va_S (lA lo) H0 H locs) (hc : cells + 1 ≤ R.cells) (hs : slots + 4 ≤ R.slots) (hdg : decode cc pc = .ok (.new index, 3))
    (kk : ∀ (q : Nat) (C1 : CW) (U1 : List Nat) (E1 : Nat → va_E) (H1 : Heap), q ∉ U → Ext C C1 → q ∈ U1 → (∀ b, b ∈ U → b ∈ U1) → E1 q = .inr (3, [.int 0, .int 0, .null, .null]) → (∀ b, b ≠ q → E1 b = E b) → Hp D lo Γ (C1, (U1, E1), V) H1 → va_S (lA lo) H0 H1 locs → W p l e R s m args below meth c H1 locs (cells + 1) (slots + 4) Q (F0 m (pc + 3) ls (.ref q :: rest))) : W p l e R s m args below meth c H locs cells slots Q (F0 m pc ls rest) := by
  obtain ⟨hx, hb, hml, hown, hts⟩ := S
  refine va_new hx hb hts hi tyX3 tyX3_ok hown hcl hinst hini hK hH.1 hH.2.1 hS (fun q h => Nat.le_trans hlo h) (ci := 3) rfl (fs := [.int 0, .int 0, .null, .null]) (fun j hj => ?_) hc hs hdg (fun q H1 hP1 hD1 hS1 => ?_)
  · have : j = 0 ∨ j = 1 ∨ j = 2 ∨ j = 3 := by omega
    rcases this with rfl | rfl | rfl | rfl <;> rfl
  · obtain ⟨g1, g2, g3⟩ := Hp_new hH hP1 hD1
    exact kk q _ _ _ H1 g2 (Ext.cx g1) (by simp) (fun b hb => by simp [hb]) (va_up_self _ _ _) (fun b hb => va_up_ne _ _ hb) g3 hS1
/-- a new hand-made orchard -/
theorem nM (S : CallFix p m c cc nL s args Ts own) (hi : ∀ w ∈ wsX40, w ∈ Ts) (hcl : (Cond.classLink own index RX4).before args s = true) (hinst : (Cond.instantiable RX4 2).before args s = true) (hini : (Cond.initialized RX4).before args s = true) (hK : va_K D vwCl (TY Γ) s) (hH : Hp D lo Γ (C, (U, E), V) H) (hlo : lo ≤ H0.size) (hS : va_S (lA lo) H0 H locs) (hc : cells + 1 ≤ R.cells) (hs : slots + 2 ≤ R.slots) (hdg : decode cc pc = .ok (.new index, 3))
    (kk : ∀ (q : Nat) (C1 : CW) (U1 : List Nat) (E1 : Nat → va_E) (H1 : Heap), q ∉ U → Ext C C1 → q ∈ U1 → (∀ b, b ∈ U → b ∈ U1) → E1 q = .inr (4, [.null, .int 0]) → (∀ b, b ≠ q → E1 b = E b) → Hp D lo Γ (C1, (U1, E1), V) H1 → va_S (lA lo) H0 H1 locs → W p l e R s m args below meth c H1 locs (cells + 1) (slots + 2) Q (F0 m (pc + 3) ls (.ref q :: rest))) : W p l e R s m args below meth c H locs cells slots Q (F0 m pc ls rest) := by
  obtain ⟨hx, hb, hml, hown, hts⟩ := S
  refine va_new hx hb hts hi tyX4 tyX4_ok hown hcl hinst hini hK hH.1 hH.2.1 hS (fun q h => Nat.le_trans hlo h) (ci := 4) rfl (fs := [.null, .int 0]) (fun j hj => ?_) hc hs hdg (fun q H1 hP1 hD1 hS1 => ?_)
  · have : j = 0 ∨ j = 1 := by omega
    rcases this with rfl | rfl <;> rfl
  · obtain ⟨g1, g2, g3⟩ := Hp_new hH hP1 hD1
    exact kk q _ _ _ H1 g2 (Ext.cx g1) (by simp) (fun b hb => by simp [hb]) (va_up_self _ _ _) (fun b hb => va_up_ne _ _ hb) g3 hS1
/-- a new row of hand-made apples -/
theorem nQ (S : CallFix p m c cc nL s args Ts own) (hcl : (Cond.classLink own index RX3).before args s = true) (hX : YE lo s s.heap) (hK : va_K D vwCl (TY Γ) s) (hH : Hp D lo Γ (C, (U, E), V) H) (hlo : lo ≤ H0.size) (hS : va_S (lA lo) H0 H locs) {x : Int32} {n : Nat} (hxn : x = nI n) (hn : n ≤ 1000) (hc : cells + 1 ≤ R.cells) (hs : slots + n ≤ R.slots) (hdg : decode cc pc = .ok (.anewarray index, 3))
    (kk : ∀ (q : Nat) (C1 : CW) (U1 : List Nat) (E1 : Nat → va_E) (H1 : Heap), q ∉ U → Ext C C1 → q ∈ U1 → (∀ b, b ∈ U → b ∈ U1) → E1 q = qE Γ n (fun _ => none) → (∀ b, b ≠ q → E1 b = E b) → Hp D lo Γ (C1, (U1, E1), V) H1 → va_S (lA lo) H0 H1 locs → W p l e R s m args below meth c H1 locs (cells + 1) (slots + n) Q (F0 m (pc + 3) ls (.ref q :: rest))) : W p l e R s m args below meth c H locs cells slots Q (F0 m pc ls (.int x :: rest)) := by
  subst hxn
  obtain ⟨hx, hb, hml, hown, hts⟩ := S
  refine va_newq hx hb hown hcl hX.2 hK hH.1 hH.2.1 hS (fun q h => Nat.le_trans hlo h) (nI_pos (by omega)) (nI_clamp (by omega)) (by omega) hc hs hdg (fun q cA H1 hK1 hP1 hD1 hS1 => ?_)
  obtain ⟨-, kA, comp, -, -, -, f1⟩ := hK1.2 2 _ rfl
  obtain ⟨-, kB, comp2, -, -, -, f2⟩ := hK.2 0 _ rfl
  have hcA : cA = gAr Γ := Option.some.inj (f1.symm.trans f2)
  subst hcA
  obtain ⟨g1, g2, g3⟩ := Hp_new hH hP1 hD1
  exact kk q _ _ _ H1 g2 (Ext.cx g1) (by simp) (fun b hb => by simp [hb]) (va_up_self _ _ _) (fun b hb => va_up_ne _ _ hb) g3 hS1
end YRows
