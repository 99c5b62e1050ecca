/-! EXCEPTIONS over the world: what a throw needs of the machine, contracts of methods that may throw, their calls and ends -/
/-- the texts of the class's exceptions, by their places in its pool -/
def xstr : List (Nat × String) := [(206, "no such row"), (210, "the size is not 0 to 999"), (213, "no apple of this size in the row"), (127, "no such place in the row"), (34, "the orchard is full"), (43, "there is an apple of this size in the row"), (80, "both rows are the same"), (85, "the other row is not empty"), (100, "the rows can't be joined")]
def xnb (X : String) : List Cond := [.declares (Bundle.initS "java/lang/RuntimeException"), .declares (Bundle.initS "java/lang/Exception"), .declares (Bundle.initS "java/lang/Throwable"), .castable X X]
def xdl : List String := ["java/lang/RuntimeException", "java/lang/Exception", "java/lang/Throwable"]
theorem xg1 : (vx_atS RX2 129 "java/lang/IndexOutOfBoundsException" ["java/lang/RuntimeException", "java/lang/Exception"]).filter (fun w => !goodWord w) = xnb "java/lang/IndexOutOfBoundsException" := by decide +kernel
theorem xg2 : (vx_atS RX2 212 "java/lang/IllegalArgumentException" ["java/lang/RuntimeException", "java/lang/Exception"]).filter (fun w => !goodWord w) = xnb "java/lang/IllegalArgumentException" := by decide +kernel
theorem xg3 : (vx_atS RX2 36 "java/lang/IllegalStateException" ["java/lang/RuntimeException", "java/lang/Exception"]).filter (fun w => !goodWord w) = xnb "java/lang/IllegalStateException" := by decide +kernel
theorem xg_all {L : List Cond} {args : Array Value} {s : State} {X : String} (h0 : L.filter (fun w => !goodWord w) = xnb X) (hX : va_Nw (.castable X X) s) (hD : ∀ Y ∈ xdl, va_Nw (.declares (Bundle.initS Y)) s) (h : ∀ w ∈ L.filter goodWord, w.before args s = true) : ∀ w ∈ L, w.before args s = true :=
  vx_hat (B := xnb X) h (by rw [h0]; intro w hw; exact hw) (vx_c (va_Nw.use rfl (hD _ (by simp [xdl]))) (vx_c (va_Nw.use rfl (hD _ (by simp [xdl]))) (vx_c (va_Nw.use rfl (hD _ (by simp [xdl]))) (vx_c (va_Nw.use rfl hX) vx_n))))
def xcl : List String := ["java/lang/IndexOutOfBoundsException", "java/lang/IllegalArgumentException", "java/lang/IllegalStateException"]
def XE (lo : Nat) (U : State) (H : Heap) : Prop := vx_Zq Bundle.tN "UNASSIGNED_STACK" Bundle.steD (lA lo) U H ∧ vx_Zq Bundle.tN "SUPPRESSED_SENTINEL" Bundle.listD (lA lo) U H ∧ (∀ q ∈ xstr, ∃ sa, vk_R RX2 q.1 q.2 sa U) ∧ (∀ X ∈ xcl, va_Nw (.castable X X) U) ∧ ∀ X ∈ xdl, va_Nw (.declares (Bundle.initS X)) U
theorem XE.to {lo : Nat} {s U : State} {H0 H : Heap} (h : XE lo s H0) (hW : s.WarmedH U.vm) (hk : ∀ a : Nat, a < H0.size → ¬ lA lo a → H[a]? = H0[a]?) : XE lo U H :=
  ⟨vx_Zq.kept (vx_Zq.moved hW.alike h.1) hk, vx_Zq.kept (vx_Zq.moved hW.alike h.2.1) hk, fun q hq => (by obtain ⟨sa, h1⟩ := h.2.2.1 q hq; exact ⟨sa, vk_R.warm hW h1⟩), fun X hX => va_Nw.warmC hW (h.2.2.2.1 X hX), fun X hX => va_Nw.warmD hW (h.2.2.2.2 X hX)⟩
theorem XE.blind {lo : Nat} {U V : State} {H : Heap} (h : XE lo U H) (hv : V.vm = U.vm) : XE lo V H :=
  ⟨vx_Zq.moved (u := U) (by rw [hv]; exact Vm.Alike.refl U.vm) h.1, vx_Zq.moved (u := U) (by rw [hv]; exact Vm.Alike.refl U.vm) h.2.1, fun q hq => (by obtain ⟨sa, h1⟩ := h.2.2.1 q hq; exact ⟨sa, vk_R.same hv h1⟩), fun X hX => va_Nw.same rfl hv.symm (h.2.2.2.1 X hX), fun X hX => va_Nw.same rfl hv.symm (h.2.2.2.2 X hX)⟩
def PzX (D : va_G) (lo : Nat) (Γ : GT) (av : List Value) (Z : WS) : Array Value → State → Prop := va_Pc av (fun U => Hp D lo Γ Z U.heap ∧ va_K D vwCl (TY Γ) U ∧ XE lo U U.heap)
theorem PzX_blind {D : va_G} {lo : Nat} {Γ : GT} {av : List Value} {Z : WS} : FrameBlind (PzX D lo Γ av Z) := fun a U g mk q => ⟨q.1, q.2.1, va_K.moved (u := U) (U := U.calling g mk a) (Vm.Alike.refl U.vm) q.2.2.1, q.2.2.2.blind rfl⟩
def XCz (D : va_G) (lo : Nat) (Γ : GT) (px : String → WS → Prop) : String → State → State → Prop := fun E st t => (∃ Z1 : WS, px E Z1 ∧ Hp D lo Γ Z1 t.heap) ∧ va_F (lA lo) st t
/-- a contract of a method that returns or throws -/
def Mx (l : Launch) (y : MethodName) (ws : List Cond) (rm : Room) (D : va_G) (lo : Nat) (Γ : GT) (av : List Value) (Z : WS) (post : Option Value → WS → Prop) (px : String → WS → Prop) : Prop :=
  vx_Met l y ws rm (PzX D lo Γ av Z) (Qz D lo Γ post) (XCz D lo Γ px) rm.cells rm.slots (lA lo)
theorem Mx_of {l : Launch} {y : MethodName} {ws ws' : List Cond} {rm : Room} {cc : ByteArray} {maxL : Nat} {ret : Option FieldType} {D : va_G} {lo : Nat} {Γ : GT} {av : List Value} {Z : WS} {post : Option Value → WS → Prop} {px : String → WS → Prop} (hy : plainName y.cls = true) (hw : ws = Cond.code y cc maxL ret :: ws') (hlen : (lg_sl av).length ≤ maxL)
    (body : ∀ (p : Program) (e : Env) (s : State) (m : MethodId) (args : Array Value) (below : List Frame) (meth : Method) (c : Code) (ls : Array Slot), CallFix p m c cc maxL s args ws y.cls → meth.sig.returnType = ret → meth.locks = false → va_K D vwCl (TY Γ) s → Hp D lo Γ Z s.heap → va_S (lA lo) s.heap s.heap [] → XE lo s s.heap → (∀ x ∈ c.exceptionTable.toList, False) → lv_has ls maxL (lv_args 0 av) →
      W p l e rm s m args below meth c s.heap [] 0 0 (vx_MQ below (Qz D lo Γ post) (XCz D lo Γ px) args s rm.cells rm.slots (lA lo)) (F0 m 0 ls [])) : Mx l y ws rm D lo Γ av Z post px := by
  refine vx_ofW (cc := cc) (maxL := maxL) (ret := ret) hy hw ?_
  intro p e s m args below meth c s₁ B hml ht hv
  obtain ⟨rfl, hH, hK, hX⟩ := hv
  have hl := lv_entry av (n := maxL) hlen
  have hown : s.vm.findClass y.cls = some m.cls := findClass_of_methodNamed B.named
  rw [lg_entry_eq]
  exact body p e s m _ below meth c _ ⟨B.exec, B.bytes, hml, hown, atoms_spec (ws := ws) B.pre⟩ B.returns B.notSynchronized hK hH va_S.rf hX ht hl
theorem Hp_ext {D : va_G} {lo : Nat} {Γ : GT} {Z : WS} {H H1 : Heap} (h : Hp D lo Γ Z H) (hz : H.size ≤ H1.size) (hk : ∀ q : Nat, q < H.size → H1[q]? = H[q]?) : Hp D lo Γ Z H1 :=
  ⟨h.1.kept (fun k q hq => hk q.1 (h.1 k q hq).lt), h.2.1, ⟨Nat.le_trans h.2.2.1.1 hz, h.2.2.1.2⟩, h.2.2.2⟩
section XRows
variable {p : Program} {l : Launch} {e : Env} {R : Room} {s : State} {m : MethodId} {args : Array Value} {below : List Frame} {meth : Method} {c : Code} {H : Heap} {locs : List Loc} {cells slots : Nat} {Q : State → Prop}
variable {cc bytes : ByteArray} {pc nL maxL n index : Nat} {ret : Option FieldType} {ls : Array Slot} {rest st0 : List Value} {D : va_G} {lo : Nat} {Γ : GT} {Ts ws : List Cond} {own C : String} {b : Nat} {y : MethodName} {rm : Room} {As : List Value} {Z Z1 : WS} {post : Option Value → WS → Prop} {px : String → WS → Prop}
theorem PzX_pre (hK : va_K D vwCl (TY Γ) s) (hH : Hp D lo Γ Z H) (hX : XE lo s s.heap) (hS : va_S (lA lo) s.heap H locs) (av : List Value) : PreS s H (PzX D lo Γ av Z) av := ⟨PzX_blind, fun U hU hW => ⟨rfl, by rw [hU]; exact hH, va_K.moved hW.alike hK, by rw [hU]; exact hX.to hW hS.2.1⟩⟩
theorem cx_go {a : Array Value} {mc ms : Nat} (hr : vx_Run p l e R s m args below meth c H locs cells slots mc ms (F0 m pc ls st0) rest (Qz D lo Γ post a) (XCz D lo Γ px) (lA lo)) (hS : va_S (lA lo) s.heap H locs)
    (kx : ∀ (E : String) (Z1 : WS) (H1 : Heap) (locs1 : List Loc) (ce : Cell) (q9 : Addr), px E Z1 → Hp D lo Γ Z1 H1 → va_S (lA lo) s.heap H1 locs1 → H1[q9]? = some ce → ce.vm = .none → s.vm.findClass E = some ce.cls → vx_W p l e R s m args below meth c H1 locs1 (cells + mc) (slots + ms) Q (F0 m pc ls rest) q9)
    (kk : ∀ (v : Option Value) (Z1 : WS) (H1 : Heap) (locs1 : List Loc), post v Z1 → Hp D lo Γ Z1 H1 → va_S (lA lo) s.heap H1 locs1 → W p l e R s m args below meth c H1 locs1 (cells + mc) (slots + ms) Q (F0 m (pc + 3) ls (v.toList ++ rest))) : W p l e R s m args below meth c H locs cells slots Q (F0 m pc ls st0) := by
  intro T hT X
  rcases hr T hT X with ⟨v, st₀, t, T', L, h0, X', hL, e1, e2, ⟨⟨v', Z1, hv, hp, hb⟩, hF⟩, st⟩ | ⟨q, st₀, t, T', L, E, ce, h0, X', hL, e1, e2, ⟨⟨Z1, hp, hb⟩, hF⟩, hce, hcv, hcl, st⟩
  · cases hv
    obtain ⟨k1, k2, k3⟩ := vx_keep (A0 := lA lo) h0 e1 hS (fun q _ h => h) (fun q h => h) hL hF
    obtain ⟨t2, a1, b1⟩ := kk v Z1 T'.heap (locs ++ L) hp (by rw [e1]; exact hb) k3 T' rfl X'
    exact ⟨t2, st t2 a1, b1⟩
  · obtain ⟨k1, k2, k3⟩ := vx_keep (A0 := lA lo) h0 e1 hS (fun q _ h => h) (fun q h => h) hL hF
    obtain ⟨t2, a1, b1⟩ := kx E Z1 T'.heap (locs ++ L) ce q hp (by rw [e1]; exact hb) k3 (by rw [e1]; exact hce) hcv hcl T' rfl X'
    exact ⟨t2, st.trans a1, b1⟩
/-- by the receiver, of a method that may throw -/
theorem cVx (S : CallFix p m c cc nL s args Ts own) (hM : Mx l y ws rm D lo Γ (.ref b :: As) Z post px) (cw : CallW R s args own C index y bytes maxL ret ws rm rm.cells rm.slots n) (hK : va_K D vwCl (TY Γ) s) (hH : Hp D lo Γ Z H) (hX : XE lo s s.heap) (hrec : ∃ cell : Cell, H[b]? = some cell ∧ cell.vm.isStatics = false ∧ s.vm.findClass C = some cell.cls) (hS : va_S (lA lo) s.heap H locs)
    (hn : As.length = n) (hsize : ls.size = nL) (hstack : st0 = As.reverse ++ .ref b :: rest) (hW : (rest.map fun v => v.category).sum ≤ 8) (hdg : decode cc pc = .ok (.invokevirtual index, 3)) (hf : cells + rm.cells ≤ R.cells ∧ slots + rm.slots ≤ R.slots)
    (kx : ∀ (E : String) (Z1 : WS) (H1 : Heap) (locs1 : List Loc) (ce : Cell) (q9 : Addr), px E Z1 → Hp D lo Γ Z1 H1 → va_S (lA lo) s.heap H1 locs1 → H1[q9]? = some ce → ce.vm = .none → s.vm.findClass E = some ce.cls → vx_W p l e R s m args below meth c H1 locs1 (cells + rm.cells) (slots + rm.slots) Q (F0 m pc ls rest) q9)
    (kk : ∀ (v : Option Value) (Z1 : WS) (H1 : Heap) (locs1 : List Loc), post v Z1 → Hp D lo Γ Z1 H1 → va_S (lA lo) s.heap H1 locs1 → W p l e R s m args below meth c H1 locs1 (cells + rm.cells) (slots + rm.slots) Q (F0 m (pc + 3) ls (v.toList ++ rest))) : W p l e R s m args below meth c H locs cells slots Q (F0 m pc ls st0) :=
  cx_go (vx_runV (As := As) (rest := rest) S hM cw ⟨PzX_blind, hrec, (PzX_pre hK hH hX hS _).2⟩ rfl hn hsize hstack (lv_room hW) hdg hf) hS kx kk
/-- a static method that may throw -/
theorem cSx (S : CallFix p m c cc nL s args Ts own) (hM : Mx l y ws rm D lo Γ As Z post px) (cw : CallB R s args own index y bytes maxL ret ws rm rm.cells rm.slots n ∧ (Cond.static y).before args s = true) (hK : va_K D vwCl (TY Γ) s) (hH : Hp D lo Γ Z H) (hX : XE lo s s.heap) (hS : va_S (lA lo) s.heap H locs)
    (hn : As.length = n) (hsize : ls.size = nL) (hstack : st0 = As.reverse ++ rest) (hW : (rest.map fun v => v.category).sum ≤ 8) (hdg : decode cc pc = .ok (.invokestatic index, 3)) (hf : cells + rm.cells ≤ R.cells ∧ slots + rm.slots ≤ R.slots)
    (kx : ∀ (E : String) (Z1 : WS) (H1 : Heap) (locs1 : List Loc) (ce : Cell) (q9 : Addr), px E Z1 → Hp D lo Γ Z1 H1 → va_S (lA lo) s.heap H1 locs1 → H1[q9]? = some ce → ce.vm = .none → s.vm.findClass E = some ce.cls → vx_W p l e R s m args below meth c H1 locs1 (cells + rm.cells) (slots + rm.slots) Q (F0 m pc ls rest) q9)
    (kk : ∀ (v : Option Value) (Z1 : WS) (H1 : Heap) (locs1 : List Loc), post v Z1 → Hp D lo Γ Z1 H1 → va_S (lA lo) s.heap H1 locs1 → W p l e R s m args below meth c H1 locs1 (cells + rm.cells) (slots + rm.slots) Q (F0 m (pc + 3) ls (v.toList ++ rest))) : W p l e R s m args below meth c H locs cells slots Q (F0 m pc ls st0) :=
  cx_go (vx_runS (As := As) (rest := rest) S hM cw (PzX_pre hK hH hX hS _) rfl hn hsize hstack (lv_room hW) hdg hf) hS kx kk
/-- .. that goes on to the caller -/
theorem xO {Z1 : WS} {E : String} {ce : Cell} {q9 : Addr} {mc ms : Nat} (hout : ∀ x ∈ c.exceptionTable.toList, False) (hlocks : meth.locks = false) (hp : px E Z1) (hH : Hp D lo Γ Z1 H) (hS : va_S (lA lo) s.heap H locs) (hce : H[q9]? = some ce) (hcv : ce.vm = .none) (hcl : s.vm.findClass E = some ce.cls) (hc : cells ≤ mc) (hs : slots ≤ ms) :
    vx_W p l e R s m args below meth c H locs cells slots (vx_MQ below (Qz D lo Γ post) (XCz D lo Γ px) args s mc ms (lA lo)) (F0 m pc ls rest) q9 :=
  vx_out (fun x hx => (hout x hx).elim) hlocks hce hcv hcl (fun t ht _ => ⟨⟨Z1, hp, by rw [ht]; exact hH⟩, hS.F ht⟩) hS.2.2 hc hs
/-- throw new E(text) -/
theorem tS {cls text : String} {ik is ic mc ms : Nat} (S : CallFix p m c cc nL s args Ts RX2) (hst : l.stackTraces = false) (hX : XE lo s s.heap) (hlocks : meth.locks = false) (hout : ∀ x ∈ c.exceptionTable.toList, False) (hH : Hp D lo Γ Z1 H) (hS : va_S (lA lo) s.heap H locs) (hpx : px cls Z1) (htx : (is, text) ∈ xstr)
    (hcls : Bundle.fit cls = true) (hk : (Cond.classLink RX2 ik cls).before args s = true) (hini : (Cond.initialized cls).before args s = true) (hat : ∀ w ∈ vx_atS RX2 ic cls ["java/lang/RuntimeException", "java/lang/Exception"], w.before args s = true)
    (hgood : ∀ w ∈ Cond.classLink RX2 ik cls :: Cond.initialized cls :: vx_atS RX2 ic cls ["java/lang/RuntimeException", "java/lang/Exception"], vx_ot w = true)
    (hsize : ls.size = nL) (d0 : decode cc pc = .ok (.new ik, 3)) (d3 : decode cc (pc + 3) = .ok (.dup, 1)) (d4 : decode cc (pc + 4) = .ok (.ldc is, 2)) (d6 : decode cc (pc + 6) = .ok (.invokespecial ic, 3)) (d9 : decode cc (pc + 9) = .ok (.athrow, 1))
    (hRf : 5 < R.frames) (hRl : (rest.map fun v => v.category).sum + 82 ≤ R.locals) (hRc : cells + 1 ≤ R.cells) (hRs : slots + 6 ≤ R.slots) (hc : cells + 1 ≤ mc) (hs : slots + 6 ≤ ms) :
    W p l e R s m args below meth c H locs cells slots (vx_MQ below (Qz D lo Γ post) (XCz D lo Γ px) args s mc ms (lA lo)) (F0 m pc ls rest) := by
  obtain ⟨sa, hsa⟩ := hX.2.2.1 _ htx
  exact vx_throwS S.1 S.2.1 hst S.2.2.2.1 hcls (by decide +kernel) hk hini hsa hat hgood hX.1 hX.2.1 hS (hsize.trans S.2.2.1.symm) d0 d3 d4 d6 d9 (fun x hx => (hout x hx).elim) hRf hRl hRc hRs hlocks
    (fun t _ hz hk9 => ⟨⟨Z1, hpx, Hp_ext hH hz hk9⟩, Nat.le_trans hS.1 hz, fun q h1 h2 => (hk9 q (Nat.lt_of_lt_of_le h1 hS.1)).trans (hS.2.1 q h1 h2)⟩) hS.2.2 hc hs
/-- the orchard's rows -/
theorem gR {L : List Nat} {K : Nat → Nat} {V : CW × MW × Int64 × UInt64} (S : CallFix p m c cc nL s args Ts own) (hK : va_K D vwCl (TY Γ) s) (hH : Hp D lo Γ V H) (hra : gra Γ ∈ V.1.1 ∧ V.1.2.1 (gra Γ) = 6) {i : Int32} {r : Nat} (hr : r < 6) (hi : i = nI r) (hdg : decode cc pc = .ok (.aaload, 1))
    (kk : W p l e R s m args below meth c H locs cells slots Q (F0 m (pc + 1) ls (.ref (gta Γ r) :: rest))) : W p l e R s m args below meth c H locs cells slots Q (F0 m pc ls (.int i :: .ref (gra Γ) :: rest)) := by
  subst hi
  obtain ⟨q, hq⟩ := va_plg (f := ef Γ V) hra.1 (by unfold ef; rw [if_neg (by omega), if_neg (by omega), if_neg (by omega), if_pos hra.2])
  refine va_aldq S.1 S.2.1 hK hH.1 q 1 (C := RX1) hq rfl (vp_in_nI hr (by omega)) hdg ?_
  rw [nI_clamp (by omega)]
  exact kk
theorem gRl {V : CW × MW × Int64 × UInt64} (S : CallFix p m c cc nL s args Ts own) (hK : va_K D vwCl (TY Γ) s) (hH : Hp D lo Γ V H) (hra : gra Γ ∈ V.1.1 ∧ V.1.2.1 (gra Γ) = 6) (hdg : decode cc pc = .ok (.arraylength, 1))
    (kk : W p l e R s m args below meth c H locs cells slots Q (F0 m (pc + 1) ls (.int 6 :: rest))) : W p l e R s m args below meth c H locs cells slots Q (F0 m pc ls (.ref (gra Γ) :: rest)) := by
  obtain ⟨q, hq⟩ := va_plg (f := ef Γ V) hra.1 (by unfold ef; rw [if_neg (by omega), if_neg (by omega), if_neg (by omega), if_pos hra.2])
  exact va_alen S.1 S.2.1 hK hH.1 q 1 hq (ty := .object RX1) rfl (v := 6) rfl hdg kk
end XRows
