/-! THE REFERENCE: rows that read and write its fields and its row of numbers -/
def mfl (Γ : GT) (M : MW) : List Value := [.int (nI M.1), .int (nI M.2.1), .int (nI M.2.2.1), .ref (gna Γ), .ref (gka Γ), .int (nI M.2.2.2.1)]
def zn (zs : Nat → Option Nat) (a : Nat) : Nat := (zs a).getD 0
theorem enc_sz {Q : PF} {zs : Nat → Option Nat} {be : Nat → Nat} {k : Nat} (hk : k < 40) : encN Q zs be k = er (zs k) := by unfold encN; rw [if_pos hk]
theorem enc_sd {Q : PF} {zs : Nat → Option Nat} {be : Nat → Nat} {j k : Nat} (hj : j < 3) (hk : k < 40) : encN Q zs be (40 * (j + 1) + k) = er (Q j k) := by
  have : j = 0 ∨ j = 1 ∨ j = 2 := by omega
  unfold encN
  rcases this with rfl | rfl | rfl
  · rw [if_neg (by omega), if_pos (by omega), show 40 * (0 + 1) + k - 40 = k by omega]
  · rw [if_neg (by omega), if_neg (by omega), if_pos (by omega), show 40 * (1 + 1) + k - 80 = k by omega]
  · rw [if_neg (by omega), if_neg (by omega), if_neg (by omega), if_pos (by omega), show 40 * (2 + 1) + k - 120 = k by omega]
theorem enc_ea {Q : PF} {zs : Nat → Option Nat} {be : Nat → Nat} {k : Nat} (hk : k < 40) : encN Q zs be (160 + k) = nI (be k) := by
  unfold encN
  rw [if_neg (by omega), if_neg (by omega), if_neg (by omega), if_neg (by omega), if_pos (by omega), show 160 + k - 160 = k by omega]
theorem enc_tp {Q : PF} {zs : Nat → Option Nat} {be : Nat → Nat} {r : Nat} : encN Q zs be (200 + r) = er (Q 3 r) := by
  unfold encN
  rw [if_neg (by omega), if_neg (by omega), if_neg (by omega), if_neg (by omega), if_neg (by omega), show 200 + r - 200 = r by omega]
theorem encu_sz {Q : PF} {zs : Nat → Option Nat} {be : Nat → Nat} {k : Nat} {v : Option Nat} (hk : k < 40) (i : Nat) : encN Q (va_up zs k v) be i = if i = k then er v else encN Q zs be i := by
  unfold encN
  by_cases h : i = k
  · subst h; rw [if_pos hk, if_pos rfl, va_up_self]
  · rw [if_neg h, va_up_ne _ _ h]
theorem encu_ea {Q : PF} {zs : Nat → Option Nat} {be : Nat → Nat} {k n : Nat} (hk : k < 40) (i : Nat) : encN Q zs (va_up be k n) i = if i = 160 + k then nI n else encN Q zs be i := by
  unfold encN
  by_cases h : i = 160 + k
  · subst h
    rw [if_neg (by omega), if_neg (by omega), if_neg (by omega), if_neg (by omega), if_pos (by omega), if_pos rfl, show 160 + k - 160 = k by omega, va_up_self]
  · rw [if_neg h]
    by_cases h2 : i < 160
    · simp only [if_pos h2]
    · by_cases h3 : i < 200
      · rw [va_up_ne _ _ (show i - 160 ≠ k by omega)]
      · simp only [if_neg h3]
theorem encu_tp {Q : PF} {zs : Nat → Option Nat} {be : Nat → Nat} {r : Nat} {v : Option Nat} (i : Nat) : encN (sP Q 3 r v) zs be i = if i = 200 + r then er v else encN Q zs be i := by
  have e : ∀ j x, j < 3 → sP Q 3 r v j x = Q j x := fun j x hj => sP_nk (by omega)
  unfold encN
  rw [e 0 _ (by omega), e 1 _ (by omega), e 2 _ (by omega)]
  by_cases h : i = 200 + r
  · subst h
    rw [if_neg (by omega), if_neg (by omega), if_neg (by omega), if_neg (by omega), if_neg (by omega), if_pos rfl, show 200 + r - 200 = r by omega, sP_eq]
  · rw [if_neg h]
    by_cases h3 : i < 200
    · simp only [if_pos h3]
    · rw [sP_na (show i - 200 ≠ r by omega)]
theorem encu_sd {Q : PF} {zs : Nat → Option Nat} {be : Nat → Nat} {j k : Nat} {v : Option Nat} (hj : j < 3) (hk : k < 40) (i : Nat) : encN (sP Q j k v) zs be i = if i = 40 * (j + 1) + k then er v else encN Q zs be i := by
  have h9 : ∀ x, sP Q j k v 3 x = Q 3 x := fun x => sP_nk (by omega)
  by_cases h : i = 40 * (j + 1) + k
  · rw [if_pos h, h, enc_sd hj hk, sP_eq]
  · rw [if_neg h]
    unfold encN
    rw [h9]
    have : j = 0 ∨ j = 1 ∨ j = 2 := by omega
    rcases this with rfl | rfl | rfl
    · rw [sP_nk (show (1 : Nat) ≠ 0 by omega), sP_nk (show (2 : Nat) ≠ 0 by omega)]
      by_cases h1 : i < 40
      · simp only [if_pos h1]
      · by_cases h2 : i < 80
        · rw [sP_na (show i - 40 ≠ k by omega)]
        · simp only [if_neg h2]
    · rw [sP_nk (show (0 : Nat) ≠ 1 by omega), sP_nk (show (2 : Nat) ≠ 1 by omega)]
      by_cases h1 : i < 80
      · simp only [if_pos h1]
      · by_cases h2 : i < 120
        · rw [sP_na (show i - 80 ≠ k by omega)]
        · simp only [if_neg h2]
    · rw [sP_nk (show (0 : Nat) ≠ 2 by omega), sP_nk (show (1 : Nat) ≠ 2 by omega)]
      by_cases h1 : i < 120
      · simp only [if_pos h1]
      · by_cases h2 : i < 160
        · rw [sP_na (show i - 120 ≠ k by omega)]
        · simp only [if_neg h2]
theorem er_eq {r : Option Nat} (h : ∀ k, r = some k → k < 2 ^ 31) : er r = -1 ↔ r = none := by
  cases r with
  | none => exact ⟨fun _ => rfl, fun _ => rfl⟩
  | some k =>
    refine ⟨fun e => ?_, fun e => by cases e⟩
    have h1 : (nI k).toInt = (k : Int) := nI_toInt (h k rfl)
    have e : nI k = -1 := e
    rw [e] at h1
    have h2 : (-1 : Int32).toInt = -1 := by decide
    omega
section MRows
variable {p : Program} {l : Launch} {e : Env} {R : Room} {s : State} {m : MethodId} {args : Array Value} {below : List Frame} {meth : Method} {c : Code} {H H0 : Heap} {locs : List Loc} {cells slots : Nat} {QQ : State → Prop}
variable {cc : ByteArray} {pc nL index : Nat} {ls : Array Slot} {rest : List Value} {D : va_G} {lo : Nat} {Γ : GT} {Ts : List Cond} {own : String} {C : CW} {M : MW} {V : Int64 × UInt64}
theorem gmo (hH : Hp D lo Γ (C, M, V) H) {j : Nat} (hj : j ∈ [3, 4, 5, 7, 8]) : gxa Γ j ∈ C.1 ∧ C.2.1 (gxa Γ j) = j ∧ ∀ b, b ∈ C.1 → C.2.1 b = j → b = gxa Γ j := hH.2.2.1.2 j hj
/-- reading a field of the reference -/
theorem gM (S : CallFix p m c cc nL s args Ts own) (hi : ∀ w ∈ wsX30, w ∈ Ts) (hK : va_K D vwCl (TY Γ) s) (hH : Hp D lo Γ (C, M, V) H) (k : Nat) (hk6 : k < 6) (hlink : (Cond.fieldLink own index (TX3 k).1 (TX3 k).2.1 (TX3 k).2.2.1).before args s = true) {v : Value} (hv : (mfl Γ M)[k]? = some v) (hdg : decode cc pc = .ok (.getfield index, 3))
    (kk : W p l e R s m args below meth c H locs cells slots QQ (F0 m (pc + 3) ls (v :: rest))) : W p l e R s m args below meth c H locs cells slots QQ (F0 m pc ls (.ref (gxa Γ 3) :: rest)) := by
  obtain ⟨hx, hb, hml, hown, hts⟩ := S
  obtain ⟨ha, hk, -⟩ := gmo hH (j := 3) (by simp)
  obtain ⟨q, hq⟩ := va_plg (f := ef Γ (C, M, V)) ha (show ef Γ (C, M, V) (gxa Γ 3) = .inr (3, mfl Γ M) by unfold ef; rw [if_neg (by dsimp only; omega), if_neg (by dsimp only; omega), if_neg (by dsimp only; omega), if_pos hk]; rfl)
  exact va_get hx hb hts hi hown hK hH.1 q hq (ci := 3) rfl k hk6 hlink (fun _ h => h) hv hdg kk
/-- setting a number of the reference -/
theorem pM (S : CallFix p m c cc nL s args Ts own) (hi : ∀ w ∈ wsX30, w ∈ Ts) (hK : va_K D vwCl (TY Γ) s) (hH : Hp D lo Γ (C, M, V) H) (hS : va_S (lA lo) H0 H locs) (kf : Nat) (hkf : kf = 0 ∨ kf = 1 ∨ kf = 2 ∨ kf = 5) (hlink : (Cond.fieldLink own index (TX3 kf).1 (TX3 kf).2.1 (TX3 kf).2.2.1).before args s = true) {x : Int32} (M' : MW) (hM : M'.2.2.2.2 = M.2.2.2.2) (hset : (mfl Γ M).set kf (.int x) = mfl Γ M') (hdg : decode cc pc = .ok (.putfield index, 3))
    (kk : ∀ (H1 : Heap) (locs1 : List Loc), Hp D lo Γ (C, M', V) H1 → va_S (lA lo) H0 H1 locs1 → W p l e R s m args below meth c H1 locs1 cells slots QQ (F0 m (pc + 3) ls rest)) : W p l e R s m args below meth c H locs cells slots QQ (F0 m pc ls (.int x :: .ref (gxa Γ 3) :: rest)) := by
  obtain ⟨hx, hb, hml, hown, hts⟩ := S
  obtain ⟨ha, hk, hu⟩ := gmo hH (j := 3) (by simp)
  have he0 : ef Γ (C, M, V) (gxa Γ 3) = .inr (3, mfl Γ M) := by unfold ef; rw [if_neg (by dsimp only; omega), if_neg (by dsimp only; omega), if_neg (by dsimp only; omega), if_pos hk]; rfl
  have he1 : ef Γ (C, M', V) (gxa Γ 3) = .inr (3, mfl Γ M') := by unfold ef; rw [if_neg (by dsimp only; omega), if_neg (by dsimp only; omega), if_neg (by dsimp only; omega), if_pos hk]; rfl
  obtain ⟨q, hq⟩ := va_plg (f := ef Γ (C, M, V)) ha rfl
  have hq0 := hq
  rw [he0] at hq
  have key : ∀ (H1 : Heap) (locs1 : List Loc), va_P D vwCl ((va_pl C.1 (ef Γ (C, M, V))).set q (gxa Γ 3, .inr (3, (mfl Γ M).set kf (.int x)))) H1 → va_D (fun q : Nat => lo ≤ q) ((va_pl C.1 (ef Γ (C, M, V))).set q (gxa Γ 3, .inr (3, (mfl Γ M).set kf (.int x)))) → va_S (lA lo) H0 H1 locs1 → W p l e R s m args below meth c H1 locs1 cells slots QQ (F0 m (pc + 3) ls rest) := by
    intro H1 locs1 hP1 hD1 hS1
    rw [hset] at hP1 hD1
    have h4 := va_pls (e := .inr (3, mfl Γ M')) hH.2.1 ha hq0 (fun b => rfl)
    have h6 : va_pl C.1 (va_up (ef Γ (C, M, V)) (gxa Γ 3) (.inr (3, mfl Γ M'))) = va_pl C.1 (ef Γ (C, M', V)) := by
      unfold va_pl
      refine List.map_congr_left (fun b hbL => ?_)
      by_cases hba : b = gxa Γ 3
      · subst hba
        rw [va_up_self, he1]
      · rw [va_up_ne _ _ hba]
        have hk2 : C.2.1 b ≠ 3 := fun e2 => hba (hu b hbL e2)
        unfold ef
        dsimp only
        rw [if_neg hk2, if_neg hk2, hM]
    rw [h4.trans h6] at hP1 hD1
    exact kk H1 locs1 ⟨hP1, hD1, ⟨Hp_lo hP1 hD1 ha, hH.2.2.1.2⟩, hH.2.2.2⟩ hS1
  rcases hkf with rfl | rfl | rfl | rfl
  · exact va_put hx hb hts hi tyX3 tyX3_ok nmX3 hown hK hH.1 hH.2.1 hS q hq (ci := 3) rfl 0 (by decide) hlink (fun _ h => h) rfl (ty := .int) (by decide +kernel) rfl rfl (by simp [mfl]) hdg key
  · exact va_put hx hb hts hi tyX3 tyX3_ok nmX3 hown hK hH.1 hH.2.1 hS q hq (ci := 3) rfl 1 (by decide) hlink (fun _ h => h) rfl (ty := .int) (by decide +kernel) rfl rfl (by simp [mfl]) hdg key
  · exact va_put hx hb hts hi tyX3 tyX3_ok nmX3 hown hK hH.1 hH.2.1 hS q hq (ci := 3) rfl 2 (by decide) hlink (fun _ h => h) rfl (ty := .int) (by decide +kernel) rfl rfl (by simp [mfl]) hdg key
  · exact va_put hx hb hts hi tyX3 tyX3_ok nmX3 hown hK hH.1 hH.2.1 hS q hq (ci := 3) rfl 5 (by decide) hlink (fun _ h => h) rfl (ty := .int) (by decide +kernel) rfl rfl (by simp [mfl]) hdg key
theorem vp_inn {n N : Nat} (h : n < N) (hN : N < 2 ^ 31) : vp_in (nI n) N := by
  rintro (q | q)
  · exact nI_pos (by omega) q
  · rw [nI_clamp (by omega)] at q; omega
theorem ef4 (hk : C.2.1 (gxa Γ 4) = 4) : ef Γ (C, M, V) (gxa Γ 4) = .inl (gI Γ, 206, .inl (encN M.2.2.2.2.1 M.2.2.2.2.2.1 M.2.2.2.2.2.2.1)) := by
  unfold ef
  rw [if_neg (by dsimp only; omega), if_neg (by dsimp only; omega), if_neg (by dsimp only; omega), if_neg (by dsimp only; omega), if_pos hk]
/-- reading a number -/
theorem gN (S : CallFix p m c cc nL s args Ts own) (hK : va_K D vwCl (TY Γ) s) (hH : Hp D lo Γ (C, M, V) H) {i x : Int32} {n : Nat} (hi : i = nI n) (hn : n < 206) (hx9 : encN M.2.2.2.2.1 M.2.2.2.2.2.1 M.2.2.2.2.2.2.1 n = x) (hdg : decode cc pc = .ok (.iaload, 1))
    (kk : W p l e R s m args below meth c H locs cells slots QQ (F0 m (pc + 1) ls (.int x :: rest))) : W p l e R s m args below meth c H locs cells slots QQ (F0 m pc ls (.int i :: .ref (gna Γ) :: rest)) := by
  obtain ⟨hx, hb, hml, hown, hts⟩ := S
  obtain ⟨ha, hk, hu⟩ := gmo hH (j := 4) (by simp)
  obtain ⟨q, hq⟩ := va_plg (f := ef Γ (C, M, V)) ha (ef4 hk)
  subst hi
  refine va_iald hx hb hK hH.1 q 0 hq rfl (vp_inn hn (by omega)) hdg ?_
  rw [nI_clamp (by omega), hx9]
  exact kk
/-- setting a number -/
theorem pN (S : CallFix p m c cc nL s args Ts own) (hK : va_K D vwCl (TY Γ) s) (hH : Hp D lo Γ (C, M, V) H) (hS : va_S (lA lo) H0 H locs) {i x : Int32} {n : Nat} (hi : i = nI n) (hn : n < 206) (M' : MW) (hM : M'.1 = M.1 ∧ M'.2.1 = M.2.1 ∧ M'.2.2.1 = M.2.2.1 ∧ M'.2.2.2.1 = M.2.2.2.1 ∧ M'.2.2.2.2.2.2.2 = M.2.2.2.2.2.2.2) (henc : ∀ j, encN M'.2.2.2.2.1 M'.2.2.2.2.2.1 M'.2.2.2.2.2.2.1 j = if j = n then x else encN M.2.2.2.2.1 M.2.2.2.2.2.1 M.2.2.2.2.2.2.1 j) (hdg : decode cc pc = .ok (.iastore, 1))
    (kk : ∀ (H1 : Heap) (locs1 : List Loc), Hp D lo Γ (C, M', V) H1 → va_S (lA lo) H0 H1 locs1 → W p l e R s m args below meth c H1 locs1 cells slots QQ (F0 m (pc + 1) ls rest)) : W p l e R s m args below meth c H locs cells slots QQ (F0 m pc ls (.int x :: .int i :: .ref (gna Γ) :: rest)) := by
  obtain ⟨hx, hb, hml, hown, hts⟩ := S
  obtain ⟨ha, hk, hu⟩ := gmo hH (j := 4) (by simp)
  obtain ⟨q, hq⟩ := va_plg (f := ef Γ (C, M, V)) ha rfl
  have hq0 := hq
  rw [ef4 hk] at hq
  subst hi
  refine va_iast hx hb hK hH.1 hH.2.1 hS q 0 hq rfl (vp_inn hn (by omega)) hdg (fun H1 locs1 hP1 hD1 hS1 => ?_)
  rw [nI_clamp (by omega)] at hP1 hD1
  have e9 : upd (encN M.2.2.2.2.1 M.2.2.2.2.2.1 M.2.2.2.2.2.2.1) n x = encN M'.2.2.2.2.1 M'.2.2.2.2.2.1 M'.2.2.2.2.2.2.1 := funext fun j => (henc j).symm
  rw [e9] at hP1 hD1
  have h4 := va_pls (e := .inl (gI Γ, 206, .inl (encN M'.2.2.2.2.1 M'.2.2.2.2.2.1 M'.2.2.2.2.2.2.1))) hH.2.1 ha hq0 (fun b => rfl)
  have h6 : va_pl C.1 (va_up (ef Γ (C, M, V)) (gxa Γ 4) (.inl (gI Γ, 206, .inl (encN M'.2.2.2.2.1 M'.2.2.2.2.2.1 M'.2.2.2.2.2.2.1)))) = va_pl C.1 (ef Γ (C, M', V)) := by
    unfold va_pl
    refine List.map_congr_left (fun b hbL => ?_)
    by_cases hba : b = gxa Γ 4
    · subst hba
      rw [va_up_self, ef4 hk]
    · rw [va_up_ne _ _ hba]
      have hk2 : C.2.1 b ≠ 4 := fun e2 => hba (hu b hbL e2)
      unfold ef
      dsimp only
      rw [if_neg hk2, if_neg hk2, hM.1, hM.2.1, hM.2.2.1, hM.2.2.2.1, hM.2.2.2.2]
  rw [h4.trans h6] at hP1 hD1
  exact kk H1 locs1 ⟨hP1, hD1, ⟨Hp_lo hP1 hD1 ha, hH.2.2.1.2⟩, hH.2.2.2⟩ hS1
variable {th mn tm kt : Nat} {Q : PF} {zs : Nat → Option Nat} {be : Nat → Nat} {kp : Nat → Int32}
theorem nI_ofadd {x : Int32} {a k : Nat} (hx : x = nI a) : x + nI k = nI (a + k) := by rw [hx]; exact nI_add a k
theorem gNsz (S : CallFix p m c cc nL s args Ts own) (hK : va_K D vwCl (TY Γ) s) (hH : Hp D lo Γ (C, (th, mn, tm, kt, Q, zs, be, kp), V) H) {k : Nat} (hk : k < 40) (hdg : decode cc pc = .ok (.iaload, 1))
    (kk : W p l e R s m args below meth c H locs cells slots QQ (F0 m (pc + 1) ls (.int (er (zs k)) :: rest))) : W p l e R s m args below meth c H locs cells slots QQ (F0 m pc ls (.int (0 + nI k) :: .ref (gna Γ) :: rest)) :=
  gN S hK hH ((nI_ofadd (a := 0) rfl).trans (by rw [Nat.zero_add])) (by omega) (enc_sz hk) hdg kk
theorem gNsd (S : CallFix p m c cc nL s args Ts own) (hK : va_K D vwCl (TY Γ) s) (hH : Hp D lo Γ (C, (th, mn, tm, kt, Q, zs, be, kp), V) H) (j : Nat) {k : Nat} {x : Int32} (hx : x = nI (40 * (j + 1))) (hj : j < 3) (hk : k < 40) (hdg : decode cc pc = .ok (.iaload, 1))
    (kk : W p l e R s m args below meth c H locs cells slots QQ (F0 m (pc + 1) ls (.int (er (Q j k)) :: rest))) : W p l e R s m args below meth c H locs cells slots QQ (F0 m pc ls (.int (x + nI k) :: .ref (gna Γ) :: rest)) :=
  gN S hK hH (nI_ofadd hx) (by omega) (enc_sd hj hk) hdg kk
theorem gNea (S : CallFix p m c cc nL s args Ts own) (hK : va_K D vwCl (TY Γ) s) (hH : Hp D lo Γ (C, (th, mn, tm, kt, Q, zs, be, kp), V) H) {k : Nat} (hk : k < 40) (hdg : decode cc pc = .ok (.iaload, 1))
    (kk : W p l e R s m args below meth c H locs cells slots QQ (F0 m (pc + 1) ls (.int (nI (be k)) :: rest))) : W p l e R s m args below meth c H locs cells slots QQ (F0 m pc ls (.int (160 + nI k) :: .ref (gna Γ) :: rest)) :=
  gN S hK hH (nI_ofadd (a := 160) rfl) (by omega) (enc_ea hk) hdg kk
theorem gNtp (S : CallFix p m c cc nL s args Ts own) (hK : va_K D vwCl (TY Γ) s) (hH : Hp D lo Γ (C, (th, mn, tm, kt, Q, zs, be, kp), V) H) {r : Nat} (hr6 : r < 6) (hdg : decode cc pc = .ok (.iaload, 1))
    (kk : W p l e R s m args below meth c H locs cells slots QQ (F0 m (pc + 1) ls (.int (er (Q 3 r)) :: rest))) : W p l e R s m args below meth c H locs cells slots QQ (F0 m pc ls (.int (200 + nI r) :: .ref (gna Γ) :: rest)) :=
  gN S hK hH (nI_ofadd (a := 200) rfl) (by omega) enc_tp hdg kk
theorem pNsz (S : CallFix p m c cc nL s args Ts own) (hK : va_K D vwCl (TY Γ) s) (hH : Hp D lo Γ (C, (th, mn, tm, kt, Q, zs, be, kp), V) H) (hS : va_S (lA lo) H0 H locs) {k : Nat} (v : Option Nat) {y : Int32} (hy : y = er v) (hk : k < 40) (hdg : decode cc pc = .ok (.iastore, 1))
    (kk : ∀ (H1 : Heap) (locs1 : List Loc), Hp D lo Γ (C, (th, mn, tm, kt, Q, va_up zs k v, be, kp), V) H1 → va_S (lA lo) H0 H1 locs1 → W p l e R s m args below meth c H1 locs1 cells slots QQ (F0 m (pc + 1) ls rest)) : W p l e R s m args below meth c H locs cells slots QQ (F0 m pc ls (.int y :: .int (0 + nI k) :: .ref (gna Γ) :: rest)) :=
  pN S hK hH hS ((nI_ofadd (a := 0) rfl).trans (by rw [Nat.zero_add])) (by omega) (th, mn, tm, kt, Q, va_up zs k v, be, kp) ⟨rfl, rfl, rfl, rfl, rfl⟩ (fun i => by rw [hy]; exact encu_sz hk i) hdg kk
theorem pNsd (S : CallFix p m c cc nL s args Ts own) (hK : va_K D vwCl (TY Γ) s) (hH : Hp D lo Γ (C, (th, mn, tm, kt, Q, zs, be, kp), V) H) (hS : va_S (lA lo) H0 H locs) (j : Nat) {k : Nat} (v : Option Nat) {x y : Int32} (hy : y = er v) (hx : x = nI (40 * (j + 1))) (hj : j < 3) (hk : k < 40) (hdg : decode cc pc = .ok (.iastore, 1))
    (kk : ∀ (H1 : Heap) (locs1 : List Loc), Hp D lo Γ (C, (th, mn, tm, kt, sP Q j k v, zs, be, kp), V) H1 → va_S (lA lo) H0 H1 locs1 → W p l e R s m args below meth c H1 locs1 cells slots QQ (F0 m (pc + 1) ls rest)) : W p l e R s m args below meth c H locs cells slots QQ (F0 m pc ls (.int y :: .int (x + nI k) :: .ref (gna Γ) :: rest)) :=
  pN S hK hH hS (nI_ofadd hx) (by omega) (th, mn, tm, kt, sP Q j k v, zs, be, kp) ⟨rfl, rfl, rfl, rfl, rfl⟩ (fun i => by rw [hy]; exact encu_sd hj hk i) hdg kk
theorem pNea (S : CallFix p m c cc nL s args Ts own) (hK : va_K D vwCl (TY Γ) s) (hH : Hp D lo Γ (C, (th, mn, tm, kt, Q, zs, be, kp), V) H) (hS : va_S (lA lo) H0 H locs) {k : Nat} (n : Nat) {y : Int32} (hy : y = nI n) (hk : k < 40) (hdg : decode cc pc = .ok (.iastore, 1))
    (kk : ∀ (H1 : Heap) (locs1 : List Loc), Hp D lo Γ (C, (th, mn, tm, kt, Q, zs, va_up be k n, kp), V) H1 → va_S (lA lo) H0 H1 locs1 → W p l e R s m args below meth c H1 locs1 cells slots QQ (F0 m (pc + 1) ls rest)) : W p l e R s m args below meth c H locs cells slots QQ (F0 m pc ls (.int y :: .int (160 + nI k) :: .ref (gna Γ) :: rest)) :=
  pN S hK hH hS (nI_ofadd (a := 160) rfl) (by omega) (th, mn, tm, kt, Q, zs, va_up be k n, kp) ⟨rfl, rfl, rfl, rfl, rfl⟩ (fun i => by rw [hy]; exact encu_ea hk i) hdg kk
theorem pNtp (S : CallFix p m c cc nL s args Ts own) (hK : va_K D vwCl (TY Γ) s) (hH : Hp D lo Γ (C, (th, mn, tm, kt, Q, zs, be, kp), V) H) (hS : va_S (lA lo) H0 H locs) {r : Nat} (v : Option Nat) {y : Int32} (hy : y = er v) (hr6 : r < 6) (hdg : decode cc pc = .ok (.iastore, 1))
    (kk : ∀ (H1 : Heap) (locs1 : List Loc), Hp D lo Γ (C, (th, mn, tm, kt, sP Q 3 r v, zs, be, kp), V) H1 → va_S (lA lo) H0 H1 locs1 → W p l e R s m args below meth c H1 locs1 cells slots QQ (F0 m (pc + 1) ls rest)) : W p l e R s m args below meth c H locs cells slots QQ (F0 m pc ls (.int y :: .int (200 + nI r) :: .ref (gna Γ) :: rest)) :=
  pN S hK hH hS (nI_ofadd (a := 200) rfl) (by omega) (th, mn, tm, kt, sP Q 3 r v, zs, be, kp) ⟨rfl, rfl, rfl, rfl, rfl⟩ (fun i => by rw [hy]; exact encu_tp i) hdg kk
end MRows
