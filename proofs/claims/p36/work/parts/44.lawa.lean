/-! THE LAW: its small methods; what it stands on -/
theorem SI_gr {Γ : GT} {U U' : List Nat} {E E' : Nat → va_E} {sa ta tn : Nat} {Y : Nat → Tr} {zz ee : Nat → Nat} (h : SI Γ (U, E) sa ta Y zz ee tn) (hg : Gr (U, E) (U', E') []) : SI Γ (U', E') sa ta Y zz ee tn :=
  ⟨hg.1 sa h.1, (hg.2 sa h.1 (by simp)).trans h.2.1, hg.1 ta h.2.2.1, (hg.2 ta h.2.2.1 (by simp)).trans h.2.2.2.1, fun i hi => sT_gr (h.2.2.2.2 i hi) hg (by simp)⟩
/-- class and hand-made orchard in step -/
def JX (Γ : GT) (o sa ta k : Nat) (V : Int64 × UInt64) (Z : WS) : Prop := ∃ (T : Nat → Tr) (L : List Nat) (K sz : Nat → Nat) (si : Nat → Option Nat) (P : PF) (bi : Nat → Nat) (tu : Nat) (U : List Nat) (E : Nat → va_E) (zz ee φ : Nat → Nat), Z = ((L, K, sz, si, P, bi, tu), (U, E), V) ∧ CI Γ o T L K sz si P ∧ SI Γ (U, E) sa ta (mpT φ T) zz ee tu ∧ JR T sz bi zz ee φ k
theorem JX_up {Γ : GT} {o sa ta k k' : Nat} {V : Int64 × UInt64} {Z : WS} (h : JX Γ o sa ta k V Z) (hk : k ≤ k') : JX Γ o sa ta k' V Z := by
  obtain ⟨T, L, K, sz, si, P, bi, tu, U, E, zz, ee, φ, e, hc, hI, hJ⟩ := h
  exact ⟨T, L, K, sz, si, P, bi, tu, U, E, zz, ee, φ, e, hc, hI, JR_sub hJ (fun _ h => h) hJ.2.2.2 hk⟩
theorem szN_nI {n : Nat} (h : n < 1000) : szN (nI n) = some n := by
  rw [szN, if_neg (nI_pos (by omega)), if_pos (show nI n ≤ 999 from (nI_leI (b := 999) (by omega) (by omega)).mpr (by omega)), nI_clamp (by omega)]
section LCat
variable {p : Program} {l : Launch} {e : Env} {R : Room} {s : State} {m : MethodId} {args : Array Value} {below : List Frame} {meth : Method} {c : Code} {H : Heap} {locs : List Loc} {cells slots : Nat} {Q : State → Prop}
variable {cc : ByteArray} {pc nL : Nat} {ls : Array Slot} {rest : List Value} {lo : Nat} {Ts : List Cond}
theorem catS {pre suf : List (Nat × Nat × Nat × Nat)} {a b h c1 : Nat} {E : String} {ce : Cell} {q9 : Addr} (S : CallFix p m c cc nL s args Ts RL) (hX : YE lo s s.heap) (ht : c.exceptionTable.toList = tableOf (pre ++ (a, b, h, c1) :: suf)) (hpre : ∀ z ∈ pre, ¬ (z.1 ≤ pc ∧ pc < z.2.1)) (ha : a ≤ pc ∧ pc < b) (h0 : c1 ≠ 0) (hE : E ∈ xcl) (hlink : (Cond.classLink RL c1 E).before args s = true)
    (hce : H[q9]? = some ce) (hcv : ce.vm = .none) (hcl : s.vm.findClass E = some ce.cls) (kk : W p l e R s m args below meth c H locs cells slots Q (F0 m h ls [.ref q9])) : vx_W p l e R s m args below meth c H locs cells slots Q (F0 m pc ls rest) q9 :=
  vx_catch (name := E) S.2.2.2.1 (tableOf pre) ⟨a, b, h, c1⟩ (tableOf suf) (by rw [ht]; unfold tableOf; rw [List.map_append, List.map_cons]) (fun z hz => by
    unfold tableOf at hz
    obtain ⟨y, hy, rfl⟩ := List.mem_map.mp hz
    have := hpre y hy
    refine Or.inl ?_
    simp only [covers, Bool.and_eq_false_iff, decide_eq_false_iff_not]
    omega) (by simp [covers, ha.1, ha.2]) h0 hlink (va_Nw.use rfl (hX.1.2.2.2.1 E hE)) hce hcv hcl kk
end LCat
/-- what reading the script asks -/
def YC (lo b N : Nat) (xs : Nat → Int32) (U : State) (H : Heap) : Prop := YE lo U H ∧ va_X b N xs U H ∧ b < lo ∧ va_Nw (.methodLinkNest RL 75 yX4_init RL) U
def PzC (D : va_G) (lo : Nat) (Γ : GT) (b N : Nat) (xs : Nat → Int32) (av : List Value) (Z : WS) : Array Value → State → Prop := va_Pc av (fun U => Hp D lo Γ Z U.heap ∧ va_K D vwCl (TY Γ) U ∧ YC lo b N xs U U.heap)
theorem YC.to {lo b N : Nat} {xs : Nat → Int32} {s U : State} {H0 H : Heap} (h : YC lo b N xs s H0) (hW : s.WarmedH U.vm) (hk : ∀ a : Nat, a < H0.size → ¬ lA lo a → H[a]? = H0[a]?) : YC lo b N xs U H := by
  refine ⟨h.1.to hW hk, (va_X.moved hW.alike h.2.1).kept (hk b ?_ (fun q => by have := h.2.2.1; have q : lo ≤ b := q; omega)), h.2.2.1, va_Nw.warmM hW h.2.2.2⟩
  obtain ⟨scr, h1, -⟩ := h.2.1
  exact (Array.getElem?_eq_some_iff.mp h1).1
theorem YC.blind {lo b N : Nat} {xs : Nat → Int32} {U V : State} {H : Heap} (h : YC lo b N xs U H) (hv : V.vm = U.vm) : YC lo b N xs V H :=
  ⟨h.1.blind hv, va_X.moved (u := U) (by rw [hv]; exact Vm.Alike.refl U.vm) h.2.1, h.2.2.1, va_Nw.same rfl hv.symm h.2.2.2⟩
theorem PzC_blind {D : va_G} {lo b N : Nat} {xs : Nat → Int32} {Γ : GT} {av : List Value} {Z : WS} : FrameBlind (PzC D lo Γ b N xs av Z) := fun a U g mk q => ⟨q.1, q.2.1, va_K.moved (u := U) (U := U.calling g mk a) (Vm.Alike.refl U.vm) q.2.2.1, q.2.2.2.blind rfl⟩
/-- a contract of a method that reads the script -/
def Mc (l : Launch) (y : MethodName) (ws : List Cond) (rm : Room) (D : va_G) (lo : Nat) (Γ : GT) (b N : Nat) (xs : Nat → Int32) (av : List Value) (Z : WS) (post : Option Value → WS → Prop) : Prop :=
  Met l y ws rm (PzC D lo Γ b N xs av Z) (Qz D lo Γ post) rm.cells rm.slots (lA lo)
theorem Mc_of {l : Launch} {y : MethodName} {ws ws' : List Cond} {rm : Room} {cc : ByteArray} {maxL b N : Nat} {xs : Nat → Int32} {ret : Option FieldType} {D : va_G} {lo : Nat} {Γ : GT} {av : List Value} {Z : WS} {post : Option Value → WS → Prop} (hy : plainName y.cls = true) (hw : ws = Cond.code y cc maxL ret :: ws') (hlen : (lg_sl av).length ≤ maxL)
    (body : ∀ (p : Program) (e : Env) (s : State) (m : MethodId) (args : Array Value) (below : List Frame) (meth : Method) (c : Code) (ls : Array Slot), CallFix p m c cc maxL s args ws y.cls → meth.sig.returnType = ret → meth.locks = false → va_K D vwCl (TY Γ) s → Hp D lo Γ Z s.heap → va_S (lA lo) s.heap s.heap [] → YC lo b N xs s s.heap → lv_has ls maxL (lv_args 0 av) →
      W p l e rm s m args below meth c s.heap [] 0 0 (MQ below (Qz D lo Γ post) args s rm.cells rm.slots (lA lo)) (F0 m 0 ls [])) : Mc l y ws rm D lo Γ b N xs av Z post := by
  refine Met.ofW (cc := cc) (maxL := maxL) (ret := ret) hy hw ?_
  intro p e s m args below meth c s₁ B hml hv
  obtain ⟨rfl, hH, hK, hX⟩ := hv
  have hl := lv_entry av (n := maxL) hlen
  have hown : s.vm.findClass y.cls = some m.cls := findClass_of_methodNamed B.named
  rw [lg_entry_eq]
  exact body p e s m _ below meth c _ ⟨B.exec, B.bytes, hml, hown, atoms_spec (ws := ws) B.pre⟩ B.returns B.notSynchronized hK hH va_S.rf hX hl
section LCalls
variable {p : Program} {l : Launch} {e : Env} {R : Room} {s : State} {m : MethodId} {args : Array Value} {below : List Frame} {meth : Method} {c : Code} {H : Heap} {locs : List Loc} {cells slots : Nat} {Q : State → Prop}
variable {cc bytes : ByteArray} {pc nL maxL n index b N : Nat} {xs : Nat → Int32} {ret : Option FieldType} {ls : Array Slot} {rest st0 : List Value} {D : va_G} {lo : Nat} {Γ : GT} {Ts ws : List Cond} {own : String} {y : MethodName} {rm : Room} {As : List Value} {Z : WS} {post : Option Value → WS → Prop}
theorem ccS (S : CallFix p m c cc nL s args Ts own) (hM : Mc l y ws rm D lo Γ b N xs As Z post) (cw : CallB R s args own index y bytes maxL ret ws rm rm.cells rm.slots n ∧ (Cond.static y).before args s = true) (hK : va_K D vwCl (TY Γ) s) (hH : Hp D lo Γ Z H) (hX : YC lo b N xs s s.heap) (hS : va_S (lA lo) s.heap H locs)
    (hn : As.length = n) (hsize : ls.size = nL) (hstack : st0 = As.reverse ++ rest) (hW : (rest.map fun v => v.category).sum ≤ 8) (hdg : decode cc pc = .ok (.invokestatic index, 3)) (hf : cells + rm.cells ≤ R.cells ∧ slots + rm.slots ≤ R.slots)
    (kk : ∀ (v : Option Value) (Z1 : WS) (H1 : Heap) (locs1 : List Loc), post v Z1 → Hp D lo Γ Z1 H1 → va_S (lA lo) s.heap H1 locs1 → W p l e R s m args below meth c H1 locs1 (cells + rm.cells) (slots + rm.slots) Q (F0 m (pc + 3) ls (v.toList ++ rest))) : W p l e R s m args below meth c H locs cells slots Q (F0 m pc ls st0) :=
  cz_go (va_runS (As := As) (rest := rest) S hM cw ⟨PzC_blind, fun U hU hW => ⟨rfl, by rw [hU]; exact hH, va_K.moved hW.alike hK, by rw [hU]; exact hX.to hW hS.2.1⟩⟩ rfl hn hsize hstack (lv_room hW) hdg hf) hS kk
end LCalls
section MLaw1
variable {l : Launch} {D : va_G} {lo : Nat} {Γ : GT} {C : CW} {V : Int64 × UInt64} {U : List Nat} {E : Nat → va_E} {zz ee : Nat → Nat}
set_option maxRecDepth 100000 in
set_option maxHeartbeats 4000000 in
theorem c_L_below {x : Int32} {n : Nat} {Z : WS} (h0 : 0 < n) (hn9 : n < 2 ^ 31) : My l yL_below wsL_below (rmL 1 0 0) D lo Γ [.int x, .int (nI n)] Z (fun v Z' => ∃ j, j < n ∧ v = some (.int (nI j)) ∧ Z' = Z) := by
  refine My_of (cc := cL_below) (maxL := 2) (ret := (some .int)) (by decide) rfl (Nat.le_of_ble_eq_true rfl) ?_
  intro p e s m args below meth c ls hname S hr hlocks hK hH hS hX hl
  have hx := S.1
  have hb := S.2.1
  have hts := S.2.2.2.2
  have hl : lv_has ls 2 [(0, .int x), (1, .int (nI n))] := hl
  refine lv_iload_n hx hb dL_below_0 rfl (lv_at hl 0 rfl) ?_
  refine lv_ldc (v := 2147483647) hx hb S.2.2.2.1 (hts (.constant RL 7 (2147483647)) (by decide +kernel)) dL_below_1 ?_
  refine lv_iand hx hb dL_below_3 ?_
  refine lv_iload_n hx hb dL_below_4 rfl (lv_at hl 1 rfl) ?_
  obtain ⟨j0, hj0, e0⟩ := pk_andE x (m := 2147483647) 31 (by decide +kernel)
  rw [e0]
  refine lv_irem hx hb dL_below_5 (nI_ne0 h0 hn9) ?_
  rw [pk_rem hj0 h0 hn9]
  exact eI S hr hlocks hH hS ⟨j0 % n, Nat.mod_lt _ h0, rfl, rfl⟩ dL_below_6
set_option maxRecDepth 100000 in
set_option maxHeartbeats 4000000 in
/-- a number of the script's, or one made up -/
theorem c_L_cell {b N k : Nat} {xs : Nat → Int32} {Z : WS} (hN : N < 2 ^ 31) (hk : k < 1000) : Mc l yL_cell wsL_cell (rmL 1 0 0) D lo Γ b N xs [.ref b, .int (nI k)] Z (fun v Z' => ∃ y : Int32, v = some (.int y) ∧ Z' = Z) := by
  refine Mc_of (cc := cL_cell) (maxL := 2) (ret := (some .int)) (by decide) rfl (Nat.le_of_ble_eq_true rfl) ?_
  intro p e s m args below meth c ls S hr hlocks hK hH hS hX hl
  have hx := S.1
  have hb := S.2.1
  have hts := S.2.2.2.2
  have hl : lv_has ls 2 [(0, .ref b), (1, .int (nI k))] := hl
  obtain ⟨hY, hXs, hbl, -⟩ := hX
  have hbA : ¬ lA lo b := fun q => by have q : lo ≤ b := q; omega
  have hbs : b < s.heap.size := by obtain ⟨scr, h1, -⟩ := hXs; exact (Array.getElem?_eq_some_iff.mp h1).1
  refine lv_iload_n hx hb dL_cell_0 rfl (lv_at hl 1 rfl) ?_
  refine lv_aload_n hx hb dL_cell_1 rfl (lv_at hl 0 rfl) ?_
  refine va_slen hx hb hXs hbs hbA hS dL_cell_2 ?_
  refine lv_icmp_ge (tgt := 12) hx hb dL_cell_3 (by decide) (fun h1 => ?_) (fun h1 => ?_)
  · refine lv_ldc (v := 790386105) hx hb S.2.2.2.1 (hts (.constant RL 8 (790386105)) (by decide +kernel)) dL_cell_12 ?_
    refine lv_iload_n hx hb dL_cell_14 rfl (lv_at hl 1 rfl) ?_
    refine lv_iconst (v := 3) hx hb dL_cell_15 (by decide) ?_
    refine lv_iadd hx hb dL_cell_16 ?_
    refine lv_imul hx hb dL_cell_17 ?_
    exact eI S hr hlocks hH hS ⟨_, rfl, rfl⟩ dL_cell_18
  · have hkN : k < N := Nat.lt_of_not_le (fun q => h1 (nI_le q (by omega)))
    refine lv_aload_n hx hb dL_cell_6 rfl (lv_at hl 0 rfl) ?_
    refine lv_iload_n hx hb dL_cell_7 rfl (lv_at hl 1 rfl) ?_
    refine va_sld hx hb hXs hbs hbA hS (vp_in_nI hkN hN) dL_cell_8 ?_
    refine lv_goto (tgt := 18) hx hb dL_cell_9 (by decide) ?_
    exact eI S hr hlocks hH hS ⟨_, rfl, rfl⟩ dL_cell_18
end MLaw1
