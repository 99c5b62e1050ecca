/-! THE WORLD: every cell of the class by functions of its address, the hand-made orchard's as they are; rows that read and write it; contracts over it -/
abbrev vwCl : List vw_C := [(RX0, TX0, 6), (RX1, TX1, 1), (RX2, TX2, 3), (RX3, TX3, 4), (RX4, TX4, 2)]
/-- what never changes: the numbers of the two kinds of rows; where the orchard's rows and the trial are; the six trees -/
abbrev GT : Type := Nat × Nat × Nat × Nat × (Nat → Nat)
def gAr (Γ : GT) : Nat := Γ.1
def gT (Γ : GT) : Nat := Γ.2.1
def gra (Γ : GT) : Nat := Γ.2.2.1
def gtt (Γ : GT) : Nat := Γ.2.2.2.1
def gta (Γ : GT) : Nat → Nat := Γ.2.2.2.2
/-- the cells of the hand-made orchard: which, and what they hold -/
abbrev MW : Type := List Nat × (Nat → va_E)
def MG (M : MW) (L : List Nat) (K : Nat → Nat) : Prop := ∀ a, a ∈ M.1 → a ∈ L ∧ K a = 9
/-- addresses, kinds, sizes, stand-ins, pointers, bites, turnings -/
abbrev CW : Type := List Nat × (Nat → Nat) × (Nat → Nat) × (Nat → Option Nat) × PF × (Nat → Nat) × Nat
abbrev WS : Type := CW × MW × Int64 × UInt64
abbrev TY (Γ : GT) : List (ClassId × FieldType) := [(gAr Γ, .object RX3), (gT Γ, .object RX1)]
def er (r : Option Nat) : Int32 := match r with
  | none => -1
  | some k => nI k
def ef (Γ : GT) (Z : WS) (a : Nat) : va_E :=
  if Z.1.2.1 a = 0 then .inr (0, [.int (nI (Z.1.2.2.1 a)), va_rf (Z.1.2.2.2.1 a), va_rf (Z.1.2.2.2.2.1 2 a), va_rf (Z.1.2.2.2.2.1 0 a), va_rf (Z.1.2.2.2.2.1 1 a), .int (nI (Z.1.2.2.2.2.2.1 a))])
  else if Z.1.2.1 a = 1 then .inr (1, [va_rf (Z.1.2.2.2.2.1 3 a)])
  else if Z.1.2.1 a = 2 then .inr (2, [.ref (gra Γ), .ref (gtt Γ), .int (nI Z.1.2.2.2.2.2.2)])
  else if Z.1.2.1 a = 6 then .inl (gT Γ, 6, .inr (.inr (.inr (.inr (fun i => some (gta Γ i))))))
  else if Z.1.2.1 a = 9 then Z.2.1.2 a
  else .inr (1, [.null])
/-- an apple of the world -/
def okA (L : List Nat) (K : Nat → Nat) (a : Nat) : Prop := a ∈ L ∧ K a = 0
/-- pointers lead to apples alone -/
def okP (L : List Nat) (K : Nat → Nat) (si : Nat → Option Nat) (P : PF) : Prop :=
  (∀ a, okA L K a → ∀ j, j < 3 → ∀ b, P j a = some b → okA L K b) ∧ (∀ a, okA L K a → ∀ b, si a = some b → okA L K b) ∧ ∀ t, t ∈ L → K t = 1 → ∀ b, P 3 t = some b → okA L K b
def Hp (D : va_G) (lo : Nat) (Γ : GT) (Z : WS) (H : Heap) : Prop :=
  va_P D vwCl (va_pl Z.1.1 (ef Γ Z)) H ∧ va_D (fun q : Nat => lo ≤ q) (va_pl Z.1.1 (ef Γ Z)) ∧ (lo ≤ H.size ∧ MG Z.2.1 Z.1.1 Z.1.2.1) ∧ okP Z.1.1 Z.1.2.1 Z.1.2.2.2.1 Z.1.2.2.2.2.1
theorem va_plg {L : List Nat} {f : Nat → va_E} {a : Nat} {e : va_E} (h : a ∈ L) (he : f a = e) : ∃ k : Nat, (va_pl L f)[k]? = some (a, e) := by
  obtain ⟨k, hk⟩ := va_pl_get (X := []) (f := f) h
  rw [he] at hk
  exact ⟨k, hk⟩
theorem va_pls {A : Nat → Prop} {L : List Nat} {f g : Nat → va_E} {a k : Nat} {e : va_E} (hD : va_D A (va_pl L f)) (h : a ∈ L) (hk : (va_pl L f)[k]? = some (a, f a)) (hg : ∀ b, va_up f a e b = g b) : (va_pl L f).set k (a, e) = va_pl L g := by
  have h1 := va_pl_set (X := []) (e := e) hD h hk
  rw [List.nil_append, List.nil_append] at h1
  rw [h1]
  exact va_pl_congr hg
theorem Hp_lo {D : va_G} {lo : Nat} {L : List Nat} {f : Nat → va_E} {H : Heap} {a : Nat} (h : va_P D vwCl (va_pl L f) H) (hD : va_D (fun q : Nat => lo ≤ q) (va_pl L f)) (ha : a ∈ L) : lo ≤ H.size := by
  obtain ⟨k, hk⟩ := va_plg (f := f) ha rfl
  exact Nat.le_trans (hD.2 k _ hk) (Nat.le_of_lt (h k _ hk).lt)
theorem sP_ok {L : List Nat} {K : Nat → Nat} {si : Nat → Option Nat} {P : PF} {j a : Nat} {r : Option Nat} (h : okP L K si P) (hr : ∀ b, r = some b → okA L K b) : okP L K si (sP P j a r) := by
  refine ⟨fun x hx i hi b hb => ?_, h.2.1, fun t ht hk b hb => ?_⟩
  · unfold sP at hb
    split at hb
    · exact hr b hb
    · exact h.1 x hx i hi b hb
  · unfold sP at hb
    split at hb
    · exact hr b hb
    · exact h.2.2 t ht hk b hb
/-- room by levels -/
abbrev rmL (n mc ms : Nat) : Room := { frames := n, cells := mc, slots := ms, locals := 40 * n }
abbrev lA (lo : Nat) : Nat → Prop := fun q => lo ≤ q
/-- what a method leaves: its answer and the world behind it -/
def Qz (D : va_G) (lo : Nat) (Γ : GT) (post : Option Value → WS → Prop) : Array Value → State → Outcome → State → Prop := fun _ st oc t => (∃ (v : Option Value) (Z1 : WS), oc = .returned v ∧ post v Z1 ∧ Hp D lo Γ Z1 t.heap) ∧ va_F (lA lo) st t
def Pz (D : va_G) (lo : Nat) (Γ : GT) (av : List Value) (Z : WS) : Array Value → State → Prop := va_Pc av (fun U => Hp D lo Γ Z U.heap ∧ va_K D vwCl (TY Γ) U)
/-- a contract over the world -/
def Mz (l : Launch) (y : MethodName) (ws : List Cond) (rm : Room) (D : va_G) (lo : Nat) (Γ : GT) (av : List Value) (Z : WS) (post : Option Value → WS → Prop) : Prop :=
  Met l y ws rm (Pz D lo Γ av Z) (Qz D lo Γ post) rm.cells rm.slots (lA lo)
/-- .. with one answer and one world behind it -/
abbrev Md (l : Launch) (y : MethodName) (ws : List Cond) (rm : Room) (D : va_G) (lo : Nat) (Γ : GT) (av : List Value) (Z : WS) (r : Option Value) (Z1 : WS) : Prop := Mz l y ws rm D lo Γ av Z (fun v Z' => v = r ∧ Z' = Z1)
theorem Pz_blind {D : va_G} {lo : Nat} {Γ : GT} {av : List Value} {Z : WS} : FrameBlind (Pz D lo Γ av Z) := fun a U g mk q => ⟨q.1, q.2.1, va_K.moved (u := U) (U := U.calling g mk a) (Vm.Alike.refl U.vm) q.2.2⟩
section WRows
variable {p : Program} {l : Launch} {e : Env} {R : Room} {s : State} {m : MethodId} {args : Array Value} {below : List Frame} {meth : Method} {c : Code} {H H0 : Heap} {locs : List Loc} {cells slots : Nat} {Q : State → Prop}
variable {cc : ByteArray} {pc nL : Nat} {ls : Array Slot} {rest : List Value} {D : va_G} {lo : Nat} {Γ : GT} {Ts : List Cond} {own : String} {a index : Nat}
variable {L : List Nat} {K : Nat → Nat} {sz : Nat → Nat} {si : Nat → Option Nat} {P : PF} {bi : Nat → Nat} {tu : Nat} {M : MW} {V : Int64 × UInt64} {Z : WS}
/-- reading a field of an apple -/
theorem gA (S : CallFix p m c cc nL s args Ts own) (hi : ∀ w ∈ wsX00, w ∈ Ts) (hK : va_K D vwCl (TY Γ) s) (hH : Hp D lo Γ ((L, K, sz, si, P, bi, tu), M, V) H) (ha : okA L K a) (k : Nat) (hk : k < 6) (hlink : (Cond.fieldLink own index (TX0 k).1 (TX0 k).2.1 (TX0 k).2.2.1).before args s = true) {v : Value} (hv : [.int (nI (sz a)), va_rf (si a), va_rf (P 2 a), va_rf (P 0 a), va_rf (P 1 a), .int (nI (bi a))][k]? = some v) (hdg : decode cc pc = .ok (.getfield index, 3))
    (kk : W p l e R s m args below meth c H locs cells slots Q (F0 m (pc + 3) ls (v :: rest))) : W p l e R s m args below meth c H locs cells slots Q (F0 m pc ls (.ref a :: rest)) := by
  obtain ⟨hx, hb, hml, hown, hts⟩ := S
  obtain ⟨q, hq⟩ := va_plg (f := ef Γ ((L, K, sz, si, P, bi, tu), M, V)) ha.1 (by unfold ef; rw [if_pos ha.2])
  exact va_get hx hb hts hi hown hK hH.1 q hq (ci := 0) rfl k hk hlink (fun _ h => h) hv hdg kk
/-- reading a tree's top -/
theorem gTp (S : CallFix p m c cc nL s args Ts own) (hi : ∀ w ∈ wsX10, w ∈ Ts) (hK : va_K D vwCl (TY Γ) s) (hH : Hp D lo Γ ((L, K, sz, si, P, bi, tu), M, V) H) (ha : a ∈ L) (hk : K a = 1) (hlink : (Cond.fieldLink own index (TX1 0).1 (TX1 0).2.1 (TX1 0).2.2.1).before args s = true) {v : Value} (hv : va_rf (P 3 a) = v) (hdg : decode cc pc = .ok (.getfield index, 3))
    (kk : W p l e R s m args below meth c H locs cells slots Q (F0 m (pc + 3) ls (v :: rest))) : W p l e R s m args below meth c H locs cells slots Q (F0 m pc ls (.ref a :: rest)) := by
  obtain ⟨hx, hb, hml, hown, hts⟩ := S
  obtain ⟨q, hq⟩ := va_plg (f := ef Γ ((L, K, sz, si, P, bi, tu), M, V)) ha (by unfold ef; rw [if_neg (by dsimp only; omega), if_pos hk])
  exact va_get hx hb hts hi hown hK hH.1 q hq (ci := 1) rfl 0 (by decide) hlink (fun _ h => h) (by rw [← hv]; rfl) hdg kk
/-- reading a field of the orchard -/
theorem gO (S : CallFix p m c cc nL s args Ts own) (hi : ∀ w ∈ wsX20, w ∈ Ts) (hK : va_K D vwCl (TY Γ) s) (hH : Hp D lo Γ ((L, K, sz, si, P, bi, tu), M, V) H) (ha : a ∈ L) (hk : K a = 2) (k : Nat) (hk3 : k < 3) (hlink : (Cond.fieldLink own index (TX2 k).1 (TX2 k).2.1 (TX2 k).2.2.1).before args s = true) {v : Value} (hv : [.ref (gra Γ), .ref (gtt Γ), .int (nI tu)][k]? = some v) (hdg : decode cc pc = .ok (.getfield index, 3))
    (kk : W p l e R s m args below meth c H locs cells slots Q (F0 m (pc + 3) ls (v :: rest))) : W p l e R s m args below meth c H locs cells slots Q (F0 m pc ls (.ref a :: rest)) := by
  obtain ⟨hx, hb, hml, hown, hts⟩ := S
  obtain ⟨q, hq⟩ := va_plg (f := ef Γ ((L, K, sz, si, P, bi, tu), M, V)) ha (by unfold ef; rw [if_neg (by dsimp only; omega), if_neg (by dsimp only; omega), if_pos hk])
  exact va_get hx hb hts hi hown hK hH.1 q hq (ci := 2) rfl k hk3 hlink (fun _ h => h) hv hdg kk
theorem ef_upP {j b : Nat} {r : Option Nat} {e : va_E} (hk : K a = 0) (he : e = .inr (0, [.int (nI (sz a)), va_rf (si a), va_rf (sP P j a r 2 a), va_rf (sP P j a r 0 a), va_rf (sP P j a r 1 a), .int (nI (bi a))])) : va_up (ef Γ ((L, K, sz, si, P, bi, tu), M, V)) a e b = ef Γ ((L, K, sz, si, sP P j a r, bi, tu), M, V) b := by
  by_cases hb : b = a
  · subst hb
    rw [va_up_self, he]
    unfold ef
    rw [if_pos hk]
  · rw [va_up_ne _ _ hb]
    unfold ef
    dsimp only
    rw [sP_na hb, sP_na hb, sP_na hb, sP_na hb]
/-- setting a pointer of an apple: j its number among the pointers, k its place among the fields -/
theorem pA (S : CallFix p m c cc nL s args Ts own) (hi : ∀ w ∈ wsX00, w ∈ Ts) (hK : va_K D vwCl (TY Γ) s) (hH : Hp D lo Γ ((L, K, sz, si, P, bi, tu), M, V) H) (hS : va_S (lA lo) H0 H locs) (ha : okA L K a) (j : Nat) (r : Option Nat) (hr : ∀ b, r = some b → okA L K b) (k : Nat) (hk : k < 6) (hjk : (j = 2 ∧ k = 2) ∨ (j = 0 ∧ k = 3) ∨ (j = 1 ∧ k = 4)) (hlink : (Cond.fieldLink own index (TX0 k).1 (TX0 k).2.1 (TX0 k).2.2.1).before args s = true) {v : Value} (hv : v = va_rf r) (hdg : decode cc pc = .ok (.putfield index, 3))
    (kk : ∀ (H1 : Heap) (locs1 : List Loc), Hp D lo Γ ((L, K, sz, si, sP P j a r, bi, tu), M, V) H1 → va_S (lA lo) H0 H1 locs1 → W p l e R s m args below meth c H1 locs1 cells slots Q (F0 m (pc + 3) ls rest)) : W p l e R s m args below meth c H locs cells slots Q (F0 m pc ls (v :: .ref a :: rest)) := by
  obtain ⟨hx, hb, hml, hown, hts⟩ := S
  have he0 : ef Γ ((L, K, sz, si, P, bi, tu), M, V) a = .inr (0, [.int (nI (sz a)), va_rf (si a), va_rf (P 2 a), va_rf (P 0 a), va_rf (P 1 a), .int (nI (bi a))]) := by unfold ef; rw [if_pos ha.2]
  obtain ⟨q, hq⟩ := va_plg (f := ef Γ ((L, K, sz, si, P, bi, tu), M, V)) ha.1 rfl
  have hn : narrow (.object "SplayOrchard$Apple") v = v := by subst hv; cases r <;> rfl
  have hf : fits (.object "SplayOrchard$Apple") v = true := by subst hv; cases r <;> rfl
  have fin : ∀ (H1 : Heap) (locs1 : List Loc) (e1 : va_E), va_P D vwCl ((va_pl L (ef Γ ((L, K, sz, si, P, bi, tu), M, V))).set q (a, e1)) H1 → va_S (lA lo) H0 H1 locs1 → e1 = .inr (0, [.int (nI (sz a)), va_rf (si a), va_rf (sP P j a r 2 a), va_rf (sP P j a r 0 a), va_rf (sP P j a r 1 a), .int (nI (bi a))]) → W p l e R s m args below meth c H1 locs1 cells slots Q (F0 m (pc + 3) ls rest) := by
    intro H1 locs1 e1 h1 h2 h3
    have h4 := va_pls (g := ef Γ ((L, K, sz, si, sP P j a r, bi, tu), M, V)) (e := e1) hH.2.1 ha.1 hq (fun b => ef_upP ha.2 h3)
    have h5 : va_D (lA lo) ((va_pl L (ef Γ ((L, K, sz, si, P, bi, tu), M, V))).set q (a, e1)) := hH.2.1.set hq
    rw [h4] at h1 h5
    exact kk H1 locs1 ⟨h1, h5, ⟨Hp_lo h1 h5 ha.1, hH.2.2.1.2⟩, sP_ok hH.2.2.2 hr⟩ h2
  rw [he0] at hq
  rcases hjk with ⟨rfl, rfl⟩ | ⟨rfl, rfl⟩ | ⟨rfl, rfl⟩
  · refine va_put hx hb hts hi tyX0 tyX0_ok nmX0 hown hK hH.1 hH.2.1 hS q hq (ci := 0) rfl 2 hk hlink (fun _ h => h) rfl (ty := .object "SplayOrchard$Apple") (by decide +kernel) hn hf (by simp) hdg (fun H1 locs1 hP1 hD1 hS1 => fin H1 locs1 _ hP1 hS1 ?_)
    subst hv
    simp [sP]
  · refine va_put hx hb hts hi tyX0 tyX0_ok nmX0 hown hK hH.1 hH.2.1 hS q hq (ci := 0) rfl 3 hk hlink (fun _ h => h) rfl (ty := .object "SplayOrchard$Apple") (by decide +kernel) hn hf (by simp) hdg (fun H1 locs1 hP1 hD1 hS1 => fin H1 locs1 _ hP1 hS1 ?_)
    subst hv
    simp [sP]
  · refine va_put hx hb hts hi tyX0 tyX0_ok nmX0 hown hK hH.1 hH.2.1 hS q hq (ci := 0) rfl 4 hk hlink (fun _ h => h) rfl (ty := .object "SplayOrchard$Apple") (by decide +kernel) hn hf (by simp) hdg (fun H1 locs1 hP1 hD1 hS1 => fin H1 locs1 _ hP1 hS1 ?_)
    subst hv
    simp [sP]
/-- setting a tree's top -/
theorem pT (S : CallFix p m c cc nL s args Ts own) (hi : ∀ w ∈ wsX10, w ∈ Ts) (hK : va_K D vwCl (TY Γ) s) (hH : Hp D lo Γ ((L, K, sz, si, P, bi, tu), M, V) H) (hS : va_S (lA lo) H0 H locs) (ha : a ∈ L) (hk : K a = 1) (r : Option Nat) (hr : ∀ b, r = some b → okA L K b) (hlink : (Cond.fieldLink own index (TX1 0).1 (TX1 0).2.1 (TX1 0).2.2.1).before args s = true) {v : Value} (hv : v = va_rf r) (hdg : decode cc pc = .ok (.putfield index, 3))
    (kk : ∀ (H1 : Heap) (locs1 : List Loc), Hp D lo Γ ((L, K, sz, si, sP P 3 a r, bi, tu), M, V) H1 → va_S (lA lo) H0 H1 locs1 → W p l e R s m args below meth c H1 locs1 cells slots Q (F0 m (pc + 3) ls rest)) : W p l e R s m args below meth c H locs cells slots Q (F0 m pc ls (v :: .ref a :: rest)) := by
  obtain ⟨hx, hb, hml, hown, hts⟩ := S
  have he0 : ef Γ ((L, K, sz, si, P, bi, tu), M, V) a = .inr (1, [va_rf (P 3 a)]) := by unfold ef; rw [if_neg (by dsimp only; omega), if_pos hk]
  obtain ⟨q, hq⟩ := va_plg (f := ef Γ ((L, K, sz, si, P, bi, tu), M, V)) ha rfl
  have hn : narrow (.object "SplayOrchard$Apple") v = v := by subst hv; cases r <;> rfl
  have hf : fits (.object "SplayOrchard$Apple") v = true := by subst hv; cases r <;> rfl
  have hq0 := hq
  rw [he0] at hq
  refine va_put hx hb hts hi tyX1 tyX1_ok nmX1 hown hK hH.1 hH.2.1 hS q hq (ci := 1) rfl 0 (by decide) hlink (fun _ h => h) rfl (ty := .object "SplayOrchard$Apple") (by decide +kernel) hn hf (by simp) hdg (fun H1 locs1 hP1 hD1 hS1 => ?_)
  subst hv
  have h4 := va_pls (g := ef Γ ((L, K, sz, si, sP P 3 a r, bi, tu), M, V)) (e := .inr (1, [va_rf (P 3 a)].set 0 (va_rf r))) hH.2.1 ha hq0 (fun b => by
    by_cases hba : b = a
    · subst hba
      rw [va_up_self]
      unfold ef
      dsimp only
      rw [if_neg (by omega), if_pos hk, sP_eq]
      rfl
    · rw [va_up_ne _ _ hba]
      unfold ef
      dsimp only
      rw [sP_na hba, sP_na hba, sP_na hba, sP_na hba])
  rw [h4] at hP1 hD1
  exact kk H1 locs1 ⟨hP1, hD1, ⟨Hp_lo hP1 hD1 ha, hH.2.2.1.2⟩, sP_ok hH.2.2.2 hr⟩ hS1
/-- setting an apple's bites -/
theorem pB (S : CallFix p m c cc nL s args Ts own) (hi : ∀ w ∈ wsX00, w ∈ Ts) (hK : va_K D vwCl (TY Γ) s) (hH : Hp D lo Γ ((L, K, sz, si, P, bi, tu), M, V) H) (hS : va_S (lA lo) H0 H locs) (ha : okA L K a) (n : Nat) (hlink : (Cond.fieldLink own index (TX0 5).1 (TX0 5).2.1 (TX0 5).2.2.1).before args s = true) {x : Int32} (hv : x = nI n) (hdg : decode cc pc = .ok (.putfield index, 3))
    (kk : ∀ (H1 : Heap) (locs1 : List Loc), Hp D lo Γ ((L, K, sz, si, P, va_up bi a n, tu), M, V) H1 → va_S (lA lo) H0 H1 locs1 → W p l e R s m args below meth c H1 locs1 cells slots Q (F0 m (pc + 3) ls rest)) : W p l e R s m args below meth c H locs cells slots Q (F0 m pc ls (.int x :: .ref a :: rest)) := by
  obtain ⟨hx, hb, hml, hown, hts⟩ := S
  have he0 : ef Γ ((L, K, sz, si, P, bi, tu), M, V) a = .inr (0, [.int (nI (sz a)), va_rf (si a), va_rf (P 2 a), va_rf (P 0 a), va_rf (P 1 a), .int (nI (bi a))]) := by unfold ef; rw [if_pos ha.2]
  obtain ⟨q, hq⟩ := va_plg (f := ef Γ ((L, K, sz, si, P, bi, tu), M, V)) ha.1 rfl
  have hq0 := hq
  rw [he0] at hq
  refine va_put hx hb hts hi tyX0 tyX0_ok nmX0 hown hK hH.1 hH.2.1 hS q hq (ci := 0) rfl 5 (by decide) hlink (fun _ h => h) rfl (ty := .int) (by decide +kernel) rfl rfl (by simp) hdg (fun H1 locs1 hP1 hD1 hS1 => ?_)
  subst hv
  have h4 := va_pls (g := ef Γ ((L, K, sz, si, P, va_up bi a n, tu), M, V)) (e := .inr (0, [.int (nI (sz a)), va_rf (si a), va_rf (P 2 a), va_rf (P 0 a), va_rf (P 1 a), .int (nI (bi a))].set 5 (.int (nI n)))) hH.2.1 ha.1 hq0 (fun b => by
    by_cases hba : b = a
    · subst hba
      rw [va_up_self]
      unfold ef
      dsimp only
      rw [if_pos ha.2, va_up_self]
      rfl
    · rw [va_up_ne _ _ hba]
      unfold ef
      dsimp only
      rw [va_up_ne _ _ hba])
  rw [h4] at hP1 hD1
  exact kk H1 locs1 ⟨hP1, hD1, ⟨Hp_lo hP1 hD1 ha.1, hH.2.2.1.2⟩, hH.2.2.2⟩ hS1
/-- setting the orchard's turnings -/
theorem pO (S : CallFix p m c cc nL s args Ts own) (hi : ∀ w ∈ wsX20, w ∈ Ts) (hK : va_K D vwCl (TY Γ) s) (hH : Hp D lo Γ ((L, K, sz, si, P, bi, tu), M, V) H) (hS : va_S (lA lo) H0 H locs) (ha : a ∈ L) (hk : K a = 2) (hu : ∀ b, b ∈ L → K b = 2 → b = a) (n : Nat) (hlink : (Cond.fieldLink own index (TX2 2).1 (TX2 2).2.1 (TX2 2).2.2.1).before args s = true) {x : Int32} (hv : x = nI n) (hdg : decode cc pc = .ok (.putfield index, 3))
    (kk : ∀ (H1 : Heap) (locs1 : List Loc), Hp D lo Γ ((L, K, sz, si, P, bi, n), M, V) H1 → va_S (lA lo) H0 H1 locs1 → W p l e R s m args below meth c H1 locs1 cells slots Q (F0 m (pc + 3) ls rest)) : W p l e R s m args below meth c H locs cells slots Q (F0 m pc ls (.int x :: .ref a :: rest)) := by
  obtain ⟨hx, hb, hml, hown, hts⟩ := S
  have he0 : ef Γ ((L, K, sz, si, P, bi, tu), M, V) a = .inr (2, [.ref (gra Γ), .ref (gtt Γ), .int (nI tu)]) := by unfold ef; rw [if_neg (by dsimp only; omega), if_neg (by dsimp only; omega), if_pos hk]
  obtain ⟨q, hq⟩ := va_plg (f := ef Γ ((L, K, sz, si, P, bi, tu), M, V)) ha rfl
  have hq0 := hq
  rw [he0] at hq
  refine va_put hx hb hts hi tyX2 tyX2_ok nmX2 hown hK hH.1 hH.2.1 hS q hq (ci := 2) rfl 2 (by decide) hlink (fun _ h => h) rfl (ty := .int) (by decide +kernel) rfl rfl (by simp) hdg (fun H1 locs1 hP1 hD1 hS1 => ?_)
  subst hv
  have h4 := va_pls (e := .inr (2, [.ref (gra Γ), .ref (gtt Γ), .int (nI tu)].set 2 (.int (nI n)))) hH.2.1 ha hq0 (fun b => rfl)
  have h6 : va_pl L (va_up (ef Γ ((L, K, sz, si, P, bi, tu), M, V)) a (.inr (2, [.ref (gra Γ), .ref (gtt Γ), .int (nI tu)].set 2 (.int (nI n))))) = va_pl L (ef Γ ((L, K, sz, si, P, bi, n), M, V)) := by
    unfold va_pl
    refine List.map_congr_left (fun b hbL => ?_)
    by_cases hba : b = a
    · subst hba
      rw [va_up_self]
      unfold ef
      dsimp only
      rw [if_neg (by omega), if_neg (by omega), if_pos hk]
      rfl
    · rw [va_up_ne _ _ hba]
      have hk2 : K b ≠ 2 := fun e2 => hba (hu b hbL e2)
      unfold ef
      dsimp only
      rw [if_neg hk2, if_neg hk2]
  rw [h4.trans h6] at hP1 hD1
  exact kk H1 locs1 ⟨hP1, hD1, ⟨Hp_lo hP1 hD1 ha, hH.2.2.1.2⟩, hH.2.2.2⟩ hS1
end WRows
