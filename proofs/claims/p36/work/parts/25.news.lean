/-! NEW APPLES: rows of making one, its constructor; joining two trees, as pointers and as trees -/
theorem Mz_ofN {l : Launch} {y : MethodName} {ws ws' : List Cond} {rm : Room} {cc : ByteArray} {maxL : Nat} {ret : Option FieldType} {D : va_G} {lo : Nat} {Γ : GT} {av : List Value} {Z : WS} {post : Option Value → WS → Prop} (hy : plainName y.cls = true) (hw : ws = Cond.code y cc maxL ret :: ws') (hlen : (lg_sl av).length ≤ maxL)
    (body : ∀ (p : Program) (e : Env) (s : State) (m : MethodId) (args : Array Value) (below : List Frame) (meth : Method) (c : Code) (ls : Array Slot), meth.name = y.name → CallFix p m c cc maxL s args ws y.cls → meth.sig.returnType = ret → meth.locks = false → va_K D vwCl (TY Γ) s → Hp D lo Γ Z s.heap → va_S (lA lo) s.heap s.heap [] → lv_has ls maxL (lv_args 0 av) →
      W p l e rm s m args below meth c s.heap [] 0 0 (MQ below (Qz D lo Γ post) args s rm.cells rm.slots (lA lo)) (F0 m 0 ls [])) : Mz l y ws rm D lo Γ av Z post := by
  refine Met.ofW (cc := cc) (maxL := maxL) (ret := ret) hy hw ?_
  intro p e s m args below meth c s₁ B hml hv
  obtain ⟨rfl, hH, hK⟩ := hv
  have hl := lv_entry av (n := maxL) hlen
  have hown : s.vm.findClass y.cls = some m.cls := findClass_of_methodNamed B.named
  rw [lg_entry_eq]
  exact body p e s m _ below meth c _ (name_of_methodNamed B.named B.method).1 ⟨B.exec, B.bytes, hml, hown, atoms_spec (ws := ws) B.pre⟩ B.returns B.notSynchronized hK hH va_S.rf hl
/-- all pointers of q gone -/
def nwP (P : PF) (q : Nat) : PF := fun j b => if b = q then none else P j b
theorem nwP_ne {P : PF} {q j b : Nat} (h : b ≠ q) : nwP P q j b = P j b := by simp only [nwP, if_neg h]
theorem nwP_eq {P : PF} {q j : Nat} : nwP P q j q = none := by simp [nwP]
theorem MG_new {M : MW} {L : List Nat} {K : Nat → Nat} {q : Nat} (hq : q ∉ L) (h : MG M L K) : MG M (L ++ [q]) (va_up K q 0) := by
  intro a ha
  obtain ⟨h1, h2⟩ := h a ha
  have hne : a ≠ q := fun e => hq (by rw [← e]; exact h1)
  exact ⟨by simp [h1], by rw [va_up_ne _ _ hne]; exact h2⟩
section NRows
variable {p : Program} {l : Launch} {e : Env} {R : Room} {s : State} {m : MethodId} {args : Array Value} {below : List Frame} {meth : Method} {c : Code} {H H0 : Heap} {locs : List Loc} {cells slots : Nat} {Q : State → Prop}
variable {cc bytes : ByteArray} {pc nL maxL n index : Nat} {ls : Array Slot} {rest st0 : List Value} {D : va_G} {lo : Nat} {Γ : GT} {Ts ws : List Cond} {own : String} {a b : Nat} {y : MethodName} {rm : Room} {As : List Value} {Z : WS} {post : Option Value → WS → Prop}
variable {L : List Nat} {K : Nat → Nat} {sz : Nat → Nat} {si : Nat → Option Nat} {P : PF} {bi : Nat → Nat} {tu : Nat} {M : MW} {V : Int64 × UInt64}
theorem cI (S : CallFix p m c cc nL s args Ts own) (hM : Mz l y ws rm D lo Γ (.ref b :: As) Z post) (cw : CallB R s args own index y bytes maxL none ws rm rm.cells rm.slots n ∧ y.name = "<init>" ∧ (Cond.instanceMethod y).before args s = true) (hK : va_K D vwCl (TY Γ) s) (hH : Hp D lo Γ Z H) (hS : va_S (lA lo) H0 H locs)
    (hn : As.length = n) (hsize : ls.size = nL) (hstack : st0 = As.reverse ++ .ref b :: rest) (hW : (rest.map fun v => v.category).sum ≤ 8) (hdg : decode cc pc = .ok (.invokespecial index, 3)) (hf : cells + rm.cells ≤ R.cells ∧ slots + rm.slots ≤ R.slots)
    (kk : ∀ (v : Option Value) (Z1 : WS) (H1 : Heap) (locs1 : List Loc), post v Z1 → Hp D lo Γ Z1 H1 → va_S (lA lo) H0 H1 locs1 → W p l e R s m args below meth c H1 locs1 (cells + rm.cells) (slots + rm.slots) Q (F0 m (pc + 3) ls (v.toList ++ rest))) : W p l e R s m args below meth c H locs cells slots Q (F0 m pc ls st0) :=
  cz_go (va_runI (As := As) (rest := rest) S hM cw (Pz_pre hK hH _) rfl hn hsize hstack (lv_room hW) hdg hf) hS kk
/-- a new apple -/
theorem nA (S : CallFix p m c cc nL s args Ts own) (hi : ∀ w ∈ wsX00, w ∈ Ts) (hcl : (Cond.classLink own index RX0).before args s = true) (hinst : (Cond.instantiable RX0 6).before args s = true) (hini : (Cond.initialized RX0).before args s = true) (hK : va_K D vwCl (TY Γ) s) (hH : Hp D lo Γ ((L, K, sz, si, P, bi, tu), M, V) H) (hlo : lo ≤ H0.size) (hS : va_S (lA lo) H0 H locs) (hc : cells + 1 ≤ R.cells) (hs : slots + 6 ≤ R.slots) (hdg : decode cc pc = .ok (.new index, 3))
    (kk : ∀ (q : Nat) (H1 : Heap), q ∉ L → Hp D lo Γ ((L ++ [q], va_up K q 0, va_up sz q 0, va_up si q none, nwP P q, va_up bi q 0, tu), M, V) H1 → va_S (lA lo) H0 H1 locs → W p l e R s m args below meth c H1 locs (cells + 1) (slots + 6) Q (F0 m (pc + 3) ls (.ref q :: rest))) : W p l e R s m args below meth c H locs cells slots Q (F0 m pc ls rest) := by
  obtain ⟨hx, hb, hml, hown, hts⟩ := S
  refine va_new hx hb hts hi tyX0 tyX0_ok hown hcl hinst hini hK hH.1 hH.2.1 hS (fun q h => Nat.le_trans hlo h) (ci := 0) rfl (fs := [.int 0, .null, .null, .null, .null, .int 0]) (fun j hj => ?_) hc hs hdg (fun q H1 hP1 hD1 hS1 => ?_)
  · have : j = 0 ∨ j = 1 ∨ j = 2 ∨ j = 3 ∨ j = 4 ∨ j = 5 := by omega
    rcases this with rfl | rfl | rfl | rfl | rfl | rfl <;> rfl
  · have hq : q ∉ L := va_pl_fresh2 (X := []) hD1
    have e1 : va_pl L (ef Γ ((L, K, sz, si, P, bi, tu), M, V)) ++ [(q, .inr (0, [.int 0, .null, .null, .null, .null, .int 0]))] = va_pl (L ++ [q]) (ef Γ ((L ++ [q], va_up K q 0, va_up sz q 0, va_up si q none, nwP P q, va_up bi q 0, tu), M, V)) := by
      rw [va_pl_push hq]
      refine va_pl_congr (fun x => ?_)
      by_cases hxq : x = q
      · subst hxq
        rw [va_up_self]
        unfold ef
        dsimp only
        rw [if_pos (va_up_self _ _ _), va_up_self, va_up_self, va_up_self, nwP_eq, nwP_eq, nwP_eq]
        rfl
      · rw [va_up_ne _ _ hxq]
        unfold ef
        dsimp only
        simp only [va_up_ne _ _ hxq, nwP_ne hxq]
    rw [e1] at hP1 hD1
    refine kk q H1 hq ⟨hP1, hD1, ⟨Hp_lo hP1 hD1 (a := q) (by simp), MG_new hq hH.2.2.1.2⟩, ?_⟩ hS1
    have old : ∀ x, okA L K x → okA (L ++ [q]) (va_up K q 0) x := fun x hx => ⟨by simp [hx.1], by rw [va_up_ne _ _ (fun e => hq (by rw [← e]; exact hx.1))]; exact hx.2⟩
    have back : ∀ x, x ≠ q → okA (L ++ [q]) (va_up K q 0) x → okA L K x := fun x hxq hx => by
      refine ⟨?_, by have := hx.2; rw [va_up_ne _ _ hxq] at this; exact this⟩
      rcases List.mem_append.mp hx.1 with h | h
      · exact h
      · exact absurd (List.mem_singleton.mp h) hxq
    show okP (L ++ [q]) (va_up K q 0) (va_up si q none) (nwP P q)
    refine ⟨fun x hx j hj b hb9 => ?_, fun x hx b hb9 => ?_, fun t ht hk b hb9 => ?_⟩
    · by_cases hxq : x = q
      · subst hxq; rw [nwP_eq] at hb9; cases hb9
      · rw [nwP_ne hxq] at hb9
        exact old b (hH.2.2.2.1 x (back x hxq hx) j hj b hb9)
    · by_cases hxq : x = q
      · subst hxq; rw [va_up_self] at hb9; cases hb9
      · rw [va_up_ne _ _ hxq] at hb9
        exact old b (hH.2.2.2.2.1 x (back x hxq hx) b hb9)
    · by_cases htq : t = q
      · subst htq; rw [nwP_eq] at hb9; cases hb9
      · rw [nwP_ne htq] at hb9
        rw [va_up_ne _ _ htq] at hk
        refine old b (hH.2.2.2.2.2 t ?_ hk b hb9)
        rcases List.mem_append.mp ht with h | h
        · exact h
        · exact absurd (List.mem_singleton.mp h) htq
/-- an apple's size, in its constructor -/
theorem pSz (S : CallFix p m c cc nL s args Ts RX0) (hname : meth.name = "<init>") (hi : ∀ w ∈ wsX00, w ∈ Ts) (hK : va_K D vwCl (TY Γ) s) (hH : Hp D lo Γ ((L, K, sz, si, P, bi, tu), M, V) H) (hS : va_S (lA lo) H0 H locs) (ha : okA L K a) (n : Nat) (hlink : (Cond.fieldLink RX0 index (TX0 0).1 (TX0 0).2.1 (TX0 0).2.2.1).before args s = true) (hdg : decode cc pc = .ok (.putfield index, 3))
    (kk : ∀ (H1 : Heap) (locs1 : List Loc), Hp D lo Γ ((L, K, va_up sz a n, si, P, bi, tu), M, V) H1 → va_S (lA lo) H0 H1 locs1 → W p l e R s m args below meth c H1 locs1 cells slots Q (F0 m (pc + 3) ls rest)) : W p l e R s m args below meth c H locs cells slots Q (F0 m pc ls (.int (nI n) :: .ref a :: rest)) := by
  obtain ⟨hx, hb, hml, hown, hts⟩ := S
  have he0 : ef Γ ((L, K, sz, si, P, bi, tu), M, V) a = .inr (0, [.int (nI (sz a)), va_rf (si a), va_rf (P 2 a), va_rf (P 0 a), va_rf (P 1 a), .int (nI (bi a))]) := by unfold ef; rw [if_pos ha.2]
  obtain ⟨q, hq⟩ := va_plg (f := ef Γ ((L, K, sz, si, P, bi, tu), M, V)) ha.1 rfl
  have hq0 := hq
  rw [he0] at hq
  refine va_putF hx hb hts hi tyX0 tyX0_ok nmX0 hown hK hH.1 hH.2.1 hS q hq (ci := 0) rfl 0 (by decide) hlink (fun _ h => h) rfl hname rfl (ty := .int) (by decide +kernel) rfl rfl (by simp) hdg (fun H1 locs1 hP1 hD1 hS1 => ?_)
  have h4 := va_pls (g := ef Γ ((L, K, va_up sz a n, si, P, bi, tu), M, V)) (e := .inr (0, [.int (nI (sz a)), va_rf (si a), va_rf (P 2 a), va_rf (P 0 a), va_rf (P 1 a), .int (nI (bi a))].set 0 (.int (nI n)))) hH.2.1 ha.1 hq0 (fun b => by
    by_cases hba : b = a
    · subst hba
      rw [va_up_self]
      unfold ef
      dsimp only
      rw [if_pos ha.2, va_up_self]
      rfl
    · rw [va_up_ne _ _ hba]
      unfold ef
      dsimp only
      rw [va_up_ne _ _ hba])
  rw [h4] at hP1 hD1
  exact kk H1 locs1 ⟨hP1, hD1, ⟨Hp_lo hP1 hD1 ha.1, hH.2.2.1.2⟩, hH.2.2.2⟩ hS1
/-- an apple's stand-in, in its constructor -/
theorem pSi (S : CallFix p m c cc nL s args Ts RX0) (hname : meth.name = "<init>") (hi : ∀ w ∈ wsX00, w ∈ Ts) (hK : va_K D vwCl (TY Γ) s) (hH : Hp D lo Γ ((L, K, sz, si, P, bi, tu), M, V) H) (hS : va_S (lA lo) H0 H locs) (ha : okA L K a) (r : Option Nat) (hr : ∀ b, r = some b → okA L K b) (hlink : (Cond.fieldLink RX0 index (TX0 1).1 (TX0 1).2.1 (TX0 1).2.2.1).before args s = true) (hdg : decode cc pc = .ok (.putfield index, 3))
    (kk : ∀ (H1 : Heap) (locs1 : List Loc), Hp D lo Γ ((L, K, sz, va_up si a r, P, bi, tu), M, V) H1 → va_S (lA lo) H0 H1 locs1 → W p l e R s m args below meth c H1 locs1 cells slots Q (F0 m (pc + 3) ls rest)) : W p l e R s m args below meth c H locs cells slots Q (F0 m pc ls (va_rf r :: .ref a :: rest)) := by
  obtain ⟨hx, hb, hml, hown, hts⟩ := S
  have he0 : ef Γ ((L, K, sz, si, P, bi, tu), M, V) a = .inr (0, [.int (nI (sz a)), va_rf (si a), va_rf (P 2 a), va_rf (P 0 a), va_rf (P 1 a), .int (nI (bi a))]) := by unfold ef; rw [if_pos ha.2]
  obtain ⟨q, hq⟩ := va_plg (f := ef Γ ((L, K, sz, si, P, bi, tu), M, V)) ha.1 rfl
  have hn : narrow (.object "SplayOrchard$Apple") (va_rf r) = va_rf r := by cases r <;> rfl
  have hf : fits (.object "SplayOrchard$Apple") (va_rf r) = true := by cases r <;> rfl
  have hq0 := hq
  rw [he0] at hq
  refine va_putF hx hb hts hi tyX0 tyX0_ok nmX0 hown hK hH.1 hH.2.1 hS q hq (ci := 0) rfl 1 (by decide) hlink (fun _ h => h) rfl hname rfl (ty := .object "SplayOrchard$Apple") (by decide +kernel) hn hf (by simp) hdg (fun H1 locs1 hP1 hD1 hS1 => ?_)
  have h4 := va_pls (g := ef Γ ((L, K, sz, va_up si a r, P, bi, tu), M, V)) (e := .inr (0, [.int (nI (sz a)), va_rf (si a), va_rf (P 2 a), va_rf (P 0 a), va_rf (P 1 a), .int (nI (bi a))].set 1 (va_rf r))) hH.2.1 ha.1 hq0 (fun b => by
    by_cases hba : b = a
    · subst hba
      rw [va_up_self]
      unfold ef
      dsimp only
      rw [if_pos ha.2, va_up_self]
      rfl
    · rw [va_up_ne _ _ hba]
      unfold ef
      dsimp only
      rw [va_up_ne _ _ hba])
  rw [h4] at hP1 hD1
  have h9 : okP L K (va_up si a r) P := ⟨hH.2.2.2.1, fun x hx b hb9 => by
    by_cases hxa : x = a
    · subst hxa; rw [va_up_self] at hb9; exact hr b hb9
    · rw [va_up_ne _ _ hxa] at hb9; exact hH.2.2.2.2.1 x hx b hb9, hH.2.2.2.2.2⟩
  exact kk H1 locs1 ⟨hP1, hD1, ⟨Hp_lo hP1 hD1 ha.1, hH.2.2.1.2⟩, h9⟩ hS1
end NRows
set_option maxRecDepth 100000 in
set_option maxHeartbeats 4000000 in
/-- Apple(size, standIn) -/
theorem c_X0_init {l : Launch} {D : va_G} {lo : Nat} {Γ : GT} {L : List Nat} {K : Nat → Nat} {sz : Nat → Nat} {si : Nat → Option Nat} {P : PF} {bi : Nat → Nat} {tu : Nat} {M : MW} {V : Int64 × UInt64} {a n : Nat} {r : Option Nat} (ok_a : okA L K a) (okq_r : ∀ b, r = some b → okA L K b) : Md l yX0_init wsX0_init (rmL 2 0 0) D lo Γ [.ref a, .int (nI n), va_rf r] ((L, K, sz, si, P, bi, tu), M, V) none ((L, K, va_up sz a n, va_up si a r, P, bi, tu), M, V) := by
  refine Mz_ofN (cc := cX0_init) (maxL := 3) (ret := none) (by decide) rfl (by cases r <;> exact Nat.le_of_ble_eq_true rfl) ?_
  intro p e s m args below meth c ls hname S hr hlocks hK hH hS hl
  have hx := S.1
  have hb := S.2.1
  have hts := S.2.2.2.2
  have f7 : (Cond.fieldLink RX0 7 (TX0 0).1 (TX0 0).2.1 (TX0 0).2.2.1).before args s = true := hts _ (by decide +kernel)
  have f13 : (Cond.fieldLink RX0 13 (TX0 1).1 (TX0 1).2.1 (TX0 1).2.2.1).before args s = true := hts _ (by decide +kernel)
  have hi0 : ∀ w ∈ wsX00, w ∈ wsX0_init := by decide +kernel
  have hl : lv_has ls 3 [(0, .ref a), (1, .int (nI n)), (2, va_rf r)] := hl
  refine lv_aload_n hx hb dX0_init_0 rfl (lv_at hl 0 rfl) ?_
  refine W.objInit hx hb S.2.2.2.1 (hts (.methodLink RX0 1 objectInit) (by decide +kernel)) (hts (.instanceMethod objectInit) (by decide +kernel)) (hts (.code objectInit ⟨#[0xb1]⟩ 1 none) (by decide +kernel)) rfl (hl.1.trans S.2.2.1.symm) rfl dX0_init_1 (Nat.le_of_ble_eq_true rfl) (Nat.le_of_ble_eq_true rfl) ?_
  refine lv_aload_n hx hb dX0_init_4 rfl (lv_at hl 0 rfl) ?_
  refine lv_iload_n hx hb dX0_init_5 rfl (lv_at hl 1 rfl) ?_
  refine pSz S hname hi0 hK hH hS ok_a n f7 dX0_init_6 (fun H locs hH hS => ?_)
  refine lv_aload_n hx hb dX0_init_9 rfl (lv_at hl 0 rfl) ?_
  refine lq_aload_n S dX0_init_10 rfl (lv_at hl 2 rfl) ?_
  refine pSi S hname hi0 hK hH hS ok_a r okq_r f13 dX0_init_11 (fun H locs hH hS => ?_)
  exact eV S hr hlocks hH hS ⟨rfl, rfl⟩ dX0_init_14
/-- two trees joined, the first one's nodes ahead -/
def jn (T1 T2 : Tr) : Tr := match (tids T1).getLast? with
  | none => T2
  | some m => match spz (zof T1 m) with
    | .leaf _ => T2
    | .branch k l _ => .branch k l T2
def appP (P : PF) (t0 : Nat) (T1 : Tr) (x : Option Nat) : PF := match (tids T1).getLast? with
  | none => stp P t0 x
  | some m => hng (sP (rai m (zof T1 m).2.2.2 P) 3 t0 (some m)) x (some m) 1
def appN (T1 : Tr) : Nat := match (tids T1).getLast? with
  | none => 0
  | some m => (zof T1 m).2.2.2.length
theorem spz_raise {P : PF} {T : Tr} {a : Nat} (hrep : rep P none T) (hn : (tids T).Nodup) (ha : a ∈ tids T) : rep (rai a (zof T a).2.2.2 P) none (spz (zof T a)) ∧ rt (spz (zof T a)) = some a ∧ tids (spz (zof T a)) = tids T ∧ (∀ j x, x ∉ tids T → rai a (zof T a).2.2.2 P j x = P j x) ∧ (∀ j x, 3 ≤ j → rai a (zof T a).2.2.2 P j x = P j x) := by
  have hp := zof_plug ha
  obtain ⟨g1, g2, g3, g4, g5⟩ := rai_zip (k := a) (zof T a).2.2.2.length (zof T a).2.2.2 P (zof T a).2.1 (zof T a).2.2.1 (Nat.le_refl _) ((Zp_plug _ _).mpr (by rw [hp]; exact hrep)) (by rw [hp]; exact hn)
  rw [hp] at g3 g4
  have e : spz (zof T a) = spl a (zof T a).2.2.2 (zof T a).2.1 (zof T a).2.2.1 := by unfold spz; rw [(zof_in ha).2]
  rw [e]
  exact ⟨g1, g2, g3, g4, g5⟩
/-- the greatest one brought up has nothing to its right -/
theorem spz_last {T : Tr} {m : Nat} (hn : (tids T).Nodup) (hm : (tids T).getLast? = some m) : ∃ L9, spz (zof T m) = .branch m L9 (.leaf ()) ∧ tids L9 ++ [m] = tids T := by
  have hin := List.mem_of_getLast? hm
  have h3 := spz_tids hin
  have h2 : ∃ L9 R9, spz (zof T m) = .branch m L9 R9 := by
    have : ∀ (n : Nat) (C : Cx) (k : Nat) (l r : Tr), C.length ≤ n → ∃ x y, spl k C l r = .branch k x y := by
      intro n
      induction n with
      | zero =>
        intro C k l r hl
        have : C = [] := List.length_eq_zero_iff.mp (by omega)
        subst this
        exact ⟨_, _, rfl⟩
      | succ n ih =>
        intro C k l r hl
        match C, hl with
        | [], _ => exact ⟨_, _, rfl⟩
        | [(s, p, u)], _ => exact ⟨_, _, rfl⟩
        | (s1, p1, u1) :: (s2, p2, u2) :: C, hl =>
          have hl2 : C.length ≤ n := by simp only [List.length_cons] at hl; omega
          unfold spl
          split
          · exact ih C k _ _ hl2
          · exact ih C k _ _ hl2
    have h4 := this (zof T m).2.2.2.length (zof T m).2.2.2 (zof T m).1 (zof T m).2.1 (zof T m).2.2.1 (Nat.le_refl _)
    rw [(zof_in hin).2] at h4
    unfold spz
    rw [(zof_in hin).2]
    exact h4
  obtain ⟨L9, R9, he⟩ := h2
  rw [he, tids_branch] at h3
  have hR : R9 = .leaf () := by
    cases R9 with
    | leaf u => rfl
    | branch k l r =>
      exfalso
      have hne : tids (Lean.RArray.branch k l r) ≠ [] := by simp [tids]
      have h5 := la_app (x := tids L9) (k := m) hne
      rw [h3, hm] at h5
      have h6 : m ∈ tids (Lean.RArray.branch k l r) := List.mem_of_getLast? h5.symm
      rw [← h3] at hn
      exact (List.nodup_cons.mp (List.nodup_append.mp hn).2.1).1 h6
  subst hR
  exact ⟨L9, he, by rw [← h3]; rfl⟩
/-- the right of a top without one -/
theorem jn2 {P1 : PF} {m : Nat} {L9 T2 : Tr} {px : Option Nat} (h1 : rep P1 none (.branch m L9 (.leaf ()))) (h2 : rep P1 px T2) (hn : (tids L9 ++ m :: tids T2).Nodup) : rep (hng P1 (rt T2) (some m) 1) none (.branch m L9 T2) ∧ (∀ j x, x ≠ m → rt T2 ≠ some x → hng P1 (rt T2) (some m) 1 j x = P1 j x) ∧ (∀ j x, 3 ≤ j → hng P1 (rt T2) (some m) 1 j x = P1 j x) := by
  obtain ⟨nl, nmt, hd⟩ := List.nodup_append.mp hn
  obtain ⟨nm, nt⟩ := List.nodup_cons.mp nmt
  obtain ⟨a2, a0, a1, al, -⟩ := h1
  cases hq : rt T2 with
  | none =>
    have hE := rt_none hq
    subst hE
    refine ⟨⟨?_, ?_, ?_, ?_, trivial⟩, fun j x hx _ => ?_, fun j x hj => ?_⟩
    · show sP P1 1 m none 2 m = none
      rw [sP_nk (by decide)]; exact a2
    · show sP P1 1 m none 0 m = _
      rw [sP_nk (by decide)]; exact a0
    · show sP P1 1 m none 1 m = _
      rw [sP_eq]; rfl
    · refine rep_congr L9 _ al (fun x hx => ?_)
      have hxm : x ≠ m := fun e => hd x hx m (by simp) e
      exact ⟨sP_na hxm, sP_na hxm, sP_na hxm⟩
    · exact sP_na hx
    · exact sP_nk (by omega)
  | some c =>
    have hc := rt_mem hq
    have hcm : c ≠ m := fun e => nm (by rw [← e]; exact hc)
    have hv : ∀ j x, hng P1 (some c) (some m) 1 j x = if j = 2 ∧ x = c then some m else if j = 1 ∧ x = m then some c else P1 j x := fun j x => rfl
    refine ⟨⟨?_, ?_, ?_, ?_, ?_⟩, fun j x hx hx2 => ?_, fun j x hj => ?_⟩
    · rw [hv, if_neg (fun q => hcm q.2.symm), if_neg (by omega)]; exact a2
    · rw [hv, if_neg (by omega), if_neg (by omega)]; exact a0
    · rw [hv, if_neg (by omega), if_pos ⟨rfl, rfl⟩]; exact hq.symm
    · refine rep_congr L9 _ al (fun x hx => ?_)
      have hxm : x ≠ m := fun e => hd x hx m (by simp) e
      have hxc : x ≠ c := fun e => hd x hx c (by simp [hc]) e
      refine ⟨?_, ?_, ?_⟩ <;> rw [hv, if_neg (fun q => hxc q.2), if_neg (fun q => hxm q.2)]
    · refine rep_re T2 _ h2 (fun x hx => ?_) nt
      have hxm : x ≠ m := fun e => nm (by rw [← e]; exact hx)
      refine ⟨?_, ?_, fun hne => ?_, fun he => ?_⟩
      · rw [hv, if_neg (by omega), if_neg (by omega)]
      · rw [hv, if_neg (by omega), if_neg (fun q => hxm q.2)]
      · rw [hv, if_neg (fun q => hne (by rw [hq, q.2])), if_neg (by omega)]
      · rw [hq] at he; cases he; rw [hv, if_pos ⟨rfl, rfl⟩]
    · rw [hv, if_neg (fun q => hx2 (by rw [q.2])), if_neg (fun q => hx q.2)]
    · rw [hv, if_neg (by omega), if_neg (by omega)]
theorem stp_ok {P : PF} {t0 : Nat} {T : Tr} {px : Option Nat} (h : rep P px T) (hn : (tids T).Nodup) : rep (stp P t0 (rt T)) none T ∧ stp P t0 (rt T) 3 t0 = rt T ∧ (∀ j x, rt T ≠ some x → (j = 3 → x ≠ t0) → stp P t0 (rt T) j x = P j x) ∧ (∀ x, x ≠ t0 → stp P t0 (rt T) 3 x = P 3 x) := by
  cases hq : rt T with
  | none =>
    have hE := rt_none hq
    subst hE
    exact ⟨trivial, sP_eq _ _ _ _, fun j x _ h3 => sP_ne (fun q => h3 q.1 q.2), fun x hx => sP_na hx⟩
  | some c =>
    have hv : ∀ j x, stp P t0 (some c) j x = if j = 2 ∧ x = c then none else if j = 3 ∧ x = t0 then some c else P j x := fun j x => rfl
    refine ⟨rep_re T _ h (fun x hx => ⟨?_, ?_, fun hne => ?_, fun he => ?_⟩) hn, ?_, fun j x hx h3 => ?_, fun x hx => ?_⟩
    · rw [hv, if_neg (by omega), if_neg (by omega)]
    · rw [hv, if_neg (by omega), if_neg (by omega)]
    · rw [hv, if_neg (fun q => hne (by rw [hq, q.2])), if_neg (by omega)]
    · rw [hq] at he; cases he; rw [hv, if_pos ⟨rfl, rfl⟩]
    · rw [hv, if_neg (by omega), if_pos ⟨rfl, rfl⟩]
    · rw [hv, if_neg (fun q => hx (by rw [q.2])), if_neg (fun q => h3 q.1 q.2)]
    · rw [hv, if_neg (by omega), if_neg (fun q => hx q.2)]
theorem app_ok {P : PF} {t0 : Nat} {T1 T2 : Tr} {px : Option Nat} (h1 : rep P none T1) (h2 : rep P px T2) (hn : (tids T1 ++ tids T2).Nodup) : rep (appP P t0 T1 (rt T2)) none (jn T1 T2) ∧ appP P t0 T1 (rt T2) 3 t0 = rt (jn T1 T2) ∧ tids (jn T1 T2) = tids T1 ++ tids T2 ∧ (∀ j x, x ∉ tids T1 → x ∉ tids T2 → (j = 3 → x ≠ t0) → appP P t0 T1 (rt T2) j x = P j x) ∧ (∀ x, x ≠ t0 → appP P t0 T1 (rt T2) 3 x = P 3 x) := by
  obtain ⟨n1, n2, hd⟩ := List.nodup_append.mp hn
  unfold appP jn
  cases hm : (tids T1).getLast? with
  | none =>
    have hE : tids T1 = [] := List.getLast?_eq_none_iff.mp hm
    obtain ⟨g1, g2, g3, g4⟩ := stp_ok (t0 := t0) h2 n2
    exact ⟨g1, g2, by rw [hE]; rfl, fun j x _ hx2 h3 => g3 j x (fun e => hx2 (rt_mem e)) h3, g4⟩
  | some m =>
    have hin := List.mem_of_getLast? hm
    obtain ⟨L9, he, hL⟩ := spz_last n1 hm
    obtain ⟨r1, r2, r3, r4, r5⟩ := spz_raise h1 n1 hin
    rw [he] at r1
    dsimp only
    rw [he]
    dsimp only
    have hP1 : ∀ j x, j < 3 → sP (rai m (zof T1 m).2.2.2 P) 3 t0 (some m) j x = rai m (zof T1 m).2.2.2 P j x := fun j x hj => sP_nk (by omega)
    have k1 : rep (sP (rai m (zof T1 m).2.2.2 P) 3 t0 (some m)) none (.branch m L9 (.leaf ())) := rep_congr _ _ r1 (fun x _ => ⟨hP1 0 x (by omega), hP1 1 x (by omega), hP1 2 x (by omega)⟩)
    have hx2 : ∀ x ∈ tids T2, x ∉ tids T1 := fun x hx q => hd x q x hx rfl
    have k2 : rep (sP (rai m (zof T1 m).2.2.2 P) 3 t0 (some m)) px T2 := rep_congr _ _ h2 (fun x hx => ⟨by rw [hP1 0 x (by omega), r4 0 x (hx2 x hx)], by rw [hP1 1 x (by omega), r4 1 x (hx2 x hx)], by rw [hP1 2 x (by omega), r4 2 x (hx2 x hx)]⟩)
    have hids : tids L9 ++ m :: tids T2 = tids T1 ++ tids T2 := by rw [← hL]; simp
    obtain ⟨q1, q2, q3⟩ := jn2 k1 k2 (by rw [hids]; exact hn)
    refine ⟨q1, by rw [q3 3 t0 (by omega), sP_eq]; rfl, hids, fun j x hx hx9 h3 => ?_, fun x hx => ?_⟩
    · rw [q2 j x (fun e => hx (by rw [e]; exact hin)) (fun e => hx9 (rt_mem e))]
      by_cases hj : j = 3
      · rw [sP_na (h3 hj), r4 j x hx]
      · rw [sP_nk hj, r4 j x hx]
    · rw [q3 3 x (by omega), sP_na hx, r5 3 x (by omega)]
