/-! THE FIVE CHANGES: what the class leaves and what the reference leaves, matched -/
def R2_eat (Γ : GT) (o : Nat) (T : Nat → Tr) (sz bi : Nat → Nat) (tu : Nat) (M : MW) (V : Int64 × UInt64) (row x : Int32) : Option Value → WS → Prop := (fun v Z' => ∃ r a, rowN row = some r ∧ fnd sz x.toInt (T r) = some a ∧ v = some (.int (nI (zof (T r) a).2.2.2.length)) ∧ CSW Γ o (va_up T r (spz (zof (T r) a))) sz (va_up bi a (bi a + 1)) (tu + (zof (T r) a).2.2.2.length) M V Z')
def X2_eat (T : Nat → Tr) (L : List Nat) (K sz : Nat → Nat) (si : Nat → Option Nat) (P : PF) (bi : Nat → Nat) (tu : Nat) (M : MW) (V : Int64 × UInt64) (row x : Int32) : String → WS → Prop := (fun E Z' => ((E = "java/lang/IndexOutOfBoundsException" ∧ rowN row = none) ∨ (E = "java/lang/IllegalStateException" ∧ ∃ r, rowN row = some r ∧ fnd sz x.toInt (T r) = none)) ∧ Z' = ((L, K, sz, si, P, bi, tu), M, V))
def R3_eat (U : Nat → Tr) (C : CW) (V : Int64 × UInt64) (mn tm kt : Nat) (Q : PF) (zs : Nat → Option Nat) (be : Nat → Nat) (kp : Nat → Int32) (th : Nat) (row x : Int32) : Option Value → WS → Prop := (fun v Z' => (∃ r a, rowN row = some r ∧ fnd (zn zs) x.toInt (U r) = some a ∧ v = some (.int (nI (zof (U r) a).2.2.2.length)) ∧ Z' = (C, (0, mn, (tm + (zof (U r) a).2.2.2.length), kt, (sP (rai a (zof (U r) a).2.2.2 Q) 3 r (some a)), zs, (va_up be a (be a + 1)), kp), V)) ∨ (rowN row = none ∧ v = some (.int 0) ∧ Z' = (C, (1, mn, tm, kt, Q, zs, be, kp), V)) ∨ (∃ r, rowN row = some r ∧ fnd (zn zs) x.toInt (U r) = none ∧ v = some (.int 0) ∧ Z' = (C, (2, mn, tm, kt, Q, zs, be, kp), V)))
def R2_pick (Γ : GT) (o : Nat) (T : Nat → Tr) (sz bi : Nat → Nat) (tu : Nat) (M : MW) (V : Int64 × UInt64) (row x : Int32) : Option Value → WS → Prop := (fun v Z' => ∃ r a L9 R9, rowN row = some r ∧ fnd sz x.toInt (T r) = some a ∧ spz (zof (T r) a) = .branch a L9 R9 ∧ v = some (.int (nI (bi a))) ∧ CSW Γ o (va_up T r (jn L9 R9)) sz bi (tu + (zof (T r) a).2.2.2.length + appN L9) M V Z')
def X2_pick (T : Nat → Tr) (L : List Nat) (K sz : Nat → Nat) (si : Nat → Option Nat) (P : PF) (bi : Nat → Nat) (tu : Nat) (M : MW) (V : Int64 × UInt64) (row x : Int32) : String → WS → Prop := (fun E Z' => ((E = "java/lang/IndexOutOfBoundsException" ∧ rowN row = none) ∨ (E = "java/lang/IllegalStateException" ∧ ∃ r, rowN row = some r ∧ fnd sz x.toInt (T r) = none)) ∧ Z' = ((L, K, sz, si, P, bi, tu), M, V))
def R3_pick (U : Nat → Tr) (C : CW) (V : Int64 × UInt64) (mn tm kt : Nat) (Q : PF) (zs : Nat → Option Nat) (be : Nat → Nat) (kp : Nat → Int32) (th : Nat) (row x : Int32) : Option Value → WS → Prop := (fun v Z' => (∃ r a L9 R9, rowN row = some r ∧ fnd (zn zs) x.toInt (U r) = some a ∧ spz (zof (U r) a) = .branch a L9 R9 ∧ v = some (.int (nI (be a))) ∧ Z' = (C, (0, (mn - 1), (tm + (zof (U r) a).2.2.2.length + appN L9), kt, (pkQ Q r a (U r) L9 R9), (va_up zs a none), be, kp), V)) ∨ (rowN row = none ∧ v = some (.int 0) ∧ Z' = (C, (1, mn, tm, kt, Q, zs, be, kp), V)) ∨ (∃ r, rowN row = some r ∧ fnd (zn zs) x.toInt (U r) = none ∧ v = some (.int 0) ∧ Z' = (C, (2, mn, tm, kt, Q, zs, be, kp), V)))
def R2_join (Γ : GT) (o : Nat) (T : Nat → Tr) (sz bi : Nat → Nat) (tu : Nat) (M : MW) (V : Int64 × UInt64) (row x : Int32) : Option Value → WS → Prop := (fun v Z' => ∃ r q, rowN row = some r ∧ rowN x = some q ∧ (r ≠ q ∧ mayJ sz (T r) (T q) = true) ∧ v = some (.int (nI (tids (jn (T r) (T q))).length)) ∧ CSW Γ o (va_up (va_up T r (jn (T r) (T q))) q (.leaf ())) sz bi (tu + appN (T r)) M V Z')
def X2_join (T : Nat → Tr) (L : List Nat) (K sz : Nat → Nat) (si : Nat → Option Nat) (P : PF) (bi : Nat → Nat) (tu : Nat) (M : MW) (V : Int64 × UInt64) (row x : Int32) : String → WS → Prop := (fun E Z' => ((E = "java/lang/IndexOutOfBoundsException" ∧ (rowN row = none ∨ rowN x = none)) ∨ (E = "java/lang/IllegalStateException" ∧ ∃ r q, rowN row = some r ∧ rowN x = some q ∧ ¬ (r ≠ q ∧ mayJ sz (T r) (T q) = true))) ∧ Z' = ((L, K, sz, si, P, bi, tu), M, V))
def R3_join (U : Nat → Tr) (C : CW) (V : Int64 × UInt64) (mn tm kt : Nat) (Q : PF) (zs : Nat → Option Nat) (be : Nat → Nat) (kp : Nat → Int32) (th : Nat) (row x : Int32) : Option Value → WS → Prop := (fun v Z' => (∃ r q, rowN row = some r ∧ rowN x = some q ∧ (r ≠ q ∧ mayJ (zn zs) (U r) (U q) = true) ∧ v = some (.int (nI (tids (jn (U r) (U q))).length)) ∧ Z' = (C, (0, mn, (tm + appN (U r)), kt, (sP (sP (tgP Q (U r) (rt (U q))) 3 r (tgr (U r) (rt (U q)))) 3 q none), zs, be, kp), V)) ∨ ((rowN row = none ∨ rowN x = none) ∧ v = some (.int 0) ∧ Z' = (C, (1, mn, tm, kt, Q, zs, be, kp), V)) ∨ (∃ r q, rowN row = some r ∧ rowN x = some q ∧ ¬ (r ≠ q ∧ mayJ (zn zs) (U r) (U q) = true) ∧ v = some (.int 0) ∧ Z' = (C, (2, mn, tm, kt, Q, zs, be, kp), V)))
def R2_split (Γ : GT) (o : Nat) (T : Nat → Tr) (sz bi : Nat → Nat) (tu : Nat) (M : MW) (V : Int64 × UInt64) (row x y : Int32) : Option Value → WS → Prop := (fun v Z' => ∃ r q n, rowN row = some r ∧ rowN y = some q ∧ szN x = some n ∧ r ≠ q ∧ T q = .leaf () ∧ ((tids (T r)).takeWhile (fun a => decide ((sz a : Int) < (n : Int))) = blw sz n (T r)) ∧ ((∃ b L9 R9, (blw sz n (T r)).getLast? = some b ∧ spz (zof (T r) b) = .branch b L9 R9 ∧ v = some (.int (nI (tids R9).length)) ∧ CSW Γ o (va_up (va_up T r (.branch b L9 (.leaf ()))) q R9) sz bi (tu + (zof (T r) b).2.2.2.length) M V Z') ∨ ((blw sz n (T r)).getLast? = none ∧ v = some (.int (nI (tids (T r)).length)) ∧ CSW Γ o (va_up (va_up T r (.leaf ())) q (T r)) sz bi tu M V Z')))
def X2_split (T : Nat → Tr) (L : List Nat) (K sz : Nat → Nat) (si : Nat → Option Nat) (P : PF) (bi : Nat → Nat) (tu : Nat) (M : MW) (V : Int64 × UInt64) (row x y : Int32) : String → WS → Prop := (fun E Z' => ((E = "java/lang/IndexOutOfBoundsException" ∧ (rowN row = none ∨ rowN y = none)) ∨ (E = "java/lang/IllegalArgumentException" ∧ (∃ r q, rowN row = some r ∧ rowN y = some q) ∧ szN x = none) ∨ (E = "java/lang/IllegalStateException" ∧ ∃ r q n, rowN row = some r ∧ rowN y = some q ∧ szN x = some n ∧ ¬ (r ≠ q ∧ T q = .leaf ()))) ∧ Z' = ((L, K, sz, si, P, bi, tu), M, V))
def R3_split (U : Nat → Tr) (C : CW) (V : Int64 × UInt64) (mn tm kt : Nat) (Q : PF) (zs : Nat → Option Nat) (be : Nat → Nat) (kp : Nat → Int32) (th : Nat) (row x y : Int32) : Option Value → WS → Prop := (fun v Z' => (∃ r q n, rowN row = some r ∧ rowN y = some q ∧ szN x = some n ∧ r ≠ q ∧ U q = .leaf () ∧ (((blw (zn zs) (n : Int) (U r)).getLast? = none ∧ v = some (.int (nI (tids (U r)).length)) ∧ Z' = (C, (0, mn, tm, kt, (sP (sP Q 3 q (rt (U r))) 3 r none), zs, be, kp), V)) ∨ ∃ b L9 R9, (blw (zn zs) (n : Int) (U r)).getLast? = some b ∧ spz (zof (U r) b) = .branch b L9 R9 ∧ v = some (.int (nI (tids R9).length)) ∧ Z' = (C, (0, mn, (tm + (zof (U r) b).2.2.2.length), kt, (ptQ Q r q b (U r) R9), zs, be, kp), V))) ∨ ((rowN row = none ∨ rowN y = none) ∧ v = some (.int 0) ∧ Z' = (C, (1, mn, tm, kt, Q, zs, be, kp), V)) ∨ ((∃ r q, rowN row = some r ∧ rowN y = some q) ∧ szN x = none ∧ v = some (.int 0) ∧ Z' = (C, (2, mn, tm, kt, Q, zs, be, kp), V)) ∨ (∃ r q n, rowN row = some r ∧ rowN y = some q ∧ szN x = some n ∧ ¬ (r ≠ q ∧ U q = .leaf ()) ∧ v = some (.int 0) ∧ Z' = (C, (3, mn, tm, kt, Q, zs, be, kp), V)))
def R2_plant (Γ : GT) (o : Nat) (T : Nat → Tr) (sz bi : Nat → Nat) (tu : Nat) (M : MW) (V : Int64 × UInt64) (row x : Int32) : Option Value → WS → Prop := (fun v Z' => ∃ r n a sz' bi', rowN row = some r ∧ szN x = some n ∧ (gids T).length < 40 ∧ fnd sz (n : Int) (T r) = none ∧ v = some (.int (nI (inc sz (n : Int) (T r) []).length)) ∧ a ∉ gids T ∧ sz' a = n ∧ bi' a = 0 ∧ (∀ b ∈ gids T, sz' b = sz b ∧ bi' b = bi b) ∧ CSW Γ o (va_up T r (spl a (inc sz (n : Int) (T r) []) (.leaf ()) (.leaf ()))) sz' bi' (tu + (inc sz (n : Int) (T r) []).length) M V Z')
def X2_plant (T : Nat → Tr) (L : List Nat) (K sz : Nat → Nat) (si : Nat → Option Nat) (P : PF) (bi : Nat → Nat) (tu : Nat) (M : MW) (V : Int64 × UInt64) (row x : Int32) : String → WS → Prop := (fun E Z' => ((E = "java/lang/IndexOutOfBoundsException" ∧ rowN row = none) ∨ (E = "java/lang/IllegalArgumentException" ∧ (∃ r, rowN row = some r) ∧ szN x = none) ∨ (E = "java/lang/IllegalStateException" ∧ ∃ r n, rowN row = some r ∧ szN x = some n ∧ (¬ (gids T).length < 40 ∨ ∃ a, fnd sz (n : Int) (T r) = some a))) ∧ Z' = ((L, K, sz, si, P, bi, tu), M, V))
def R3_plant (U : Nat → Tr) (C : CW) (V : Int64 × UInt64) (mn tm kt : Nat) (Q : PF) (zs : Nat → Option Nat) (be : Nat → Nat) (kp : Nat → Int32) (th : Nat) (row x : Int32) : Option Value → WS → Prop := (fun v Z' => (∃ r n k0, rowN row = some r ∧ szN x = some n ∧ mn < 40 ∧ fnd (zn zs) (n : Int) (U r) = none ∧ k0 < 40 ∧ zs k0 = none ∧ v = some (.int (nI (inc (zn zs) (n : Int) (U r) []).length)) ∧ Z' = (C, (0, (mn + 1), (tm + (inc (zn zs) (n : Int) (U r) []).length), kt, (plQ Q r k0 (inc (zn zs) (n : Int) (U r) [])), (va_up zs k0 (some n)), (va_up be k0 0), kp), V)) ∨ (rowN row = none ∧ v = some (.int 0) ∧ Z' = (C, (1, mn, tm, kt, Q, zs, be, kp), V)) ∨ ((∃ r, rowN row = some r) ∧ szN x = none ∧ v = some (.int 0) ∧ Z' = (C, (2, mn, tm, kt, Q, zs, be, kp), V)) ∨ (∃ r n, rowN row = some r ∧ szN x = some n ∧ (¬ mn < 40 ∨ ∃ a, fnd (zn zs) (n : Int) (U r) = some a) ∧ v = some (.int 0) ∧ Z' = (C, (3, mn, tm, kt, Q, zs, be, kp), V)))
/-- the reference's answer behind the class's -/
def TG (Γ : GT) (o : Nat) (C1 : CW) (V1 : Int64 × UInt64) (k9 : Nat) (v2 : Option Value) (Z2 : WS) : Prop := ∃ (w : Int32) (M2 : MW), v2 = some (.int w) ∧ Z2 = (C1, M2, V1) ∧ M2.1 = k9 ∧ (k9 = 0 → V1.1 = w.toInt64) ∧ LI Γ o (C1, M2, V1)
section Both5
variable {Γ : GT} {o : Nat} {T : Nat → Tr} {sz bi : Nat → Nat} {L : List Nat} {K : Nat → Nat} {si : Nat → Option Nat} {P : PF} {tu th mn kt : Nat} {Q : PF} {zs : Nat → Option Nat} {be : Nat → Nat} {kp : Nat → Int32} {φ : Nat → Nat} {V : Int64 × UInt64} {row x y : Int32} {M : MW}
theorem TG_no {k9 : Nat} {v2 : Option Value} {Z2 : WS} (hc : CI Γ o T L K sz si P) (hR : RI T sz bi Q zs be mn φ) (h0 : k9 ≠ 0) (hv : v2 = some (.int 0)) (hZ : Z2 = ((L, K, sz, si, P, bi, tu), (k9, mn, tu, kt, Q, zs, be, kp), V)) : TG Γ o (L, K, sz, si, P, bi, tu) V k9 v2 Z2 :=
  ⟨0, _, hv, hZ, rfl, fun h => absurd h h0, T, sz, bi, tu, k9, mn, kt, Q, zs, be, kp, φ, V, ⟨L, K, si, P, rfl, hc⟩, hR⟩
theorem hp_eat : ∀ v Z', R2_eat Γ o T sz bi tu M V row x v Z' → ∃ (n : Int32) (C' : CW), v = some (.int n) ∧ Z' = (C', M, V) := by
  intro v Z' h
  obtain ⟨r, a, e1, e2, e3, e4⟩ := h
  obtain ⟨C, hC⟩ := CSW_o e4
  exact ⟨_, C, e3, hC⟩
theorem hx_eat : ∀ E Z', X2_eat T L K sz si P bi tu M V row x E Z' → (E = "java/lang/IndexOutOfBoundsException" ∨ E = "java/lang/IllegalStateException") ∧ ∃ C' : CW, Z' = (C', M, V) := by
  intro E Z' h
  obtain ⟨h, hz⟩ := h
  exact ⟨h.imp And.left And.left, _, hz⟩
theorem hp_pick : ∀ v Z', R2_pick Γ o T sz bi tu M V row x v Z' → ∃ (n : Int32) (C' : CW), v = some (.int n) ∧ Z' = (C', M, V) := by
  intro v Z' h
  obtain ⟨r, a, L9, R9, e1, e2, e5, e3, e4⟩ := h
  obtain ⟨C, hC⟩ := CSW_o e4
  exact ⟨_, C, e3, hC⟩
theorem hx_pick : ∀ E Z', X2_pick T L K sz si P bi tu M V row x E Z' → (E = "java/lang/IndexOutOfBoundsException" ∨ E = "java/lang/IllegalStateException") ∧ ∃ C' : CW, Z' = (C', M, V) := by
  intro E Z' h
  obtain ⟨h, hz⟩ := h
  exact ⟨h.imp And.left And.left, _, hz⟩
theorem hp_join : ∀ v Z', R2_join Γ o T sz bi tu M V row x v Z' → ∃ (n : Int32) (C' : CW), v = some (.int n) ∧ Z' = (C', M, V) := by
  intro v Z' h
  obtain ⟨r, q, e1, e2, e5, e3, e4⟩ := h
  obtain ⟨C, hC⟩ := CSW_o e4
  exact ⟨_, C, e3, hC⟩
theorem hx_join : ∀ E Z', X2_join T L K sz si P bi tu M V row x E Z' → (E = "java/lang/IndexOutOfBoundsException" ∨ E = "java/lang/IllegalStateException") ∧ ∃ C' : CW, Z' = (C', M, V) := by
  intro E Z' h
  obtain ⟨h, hz⟩ := h
  exact ⟨h.imp And.left And.left, _, hz⟩
theorem hp_split : ∀ v Z', R2_split Γ o T sz bi tu M V row x y v Z' → ∃ (n : Int32) (C' : CW), v = some (.int n) ∧ Z' = (C', M, V) := by
  intro v Z' h
  obtain ⟨r, q, n, e1, e2, e5, e6, e7, e8, ⟨b, L9, R9, f1, f2, e3, e4⟩ | ⟨f1, e3, e4⟩⟩ := h
  · obtain ⟨C, hC⟩ := CSW_o e4
    exact ⟨_, C, e3, hC⟩
  · obtain ⟨C, hC⟩ := CSW_o e4
    exact ⟨_, C, e3, hC⟩
theorem hx_split : ∀ E Z', X2_split T L K sz si P bi tu M V row x y E Z' → (E = "java/lang/IndexOutOfBoundsException" ∨ E = "java/lang/IllegalArgumentException" ∨ E = "java/lang/IllegalStateException") ∧ ∃ C' : CW, Z' = (C', M, V) := by
  intro E Z' h
  obtain ⟨h, hz⟩ := h
  exact ⟨h.imp And.left (fun h => h.imp And.left And.left), _, hz⟩
theorem hp_plant : ∀ v Z', R2_plant Γ o T sz bi tu M V row x v Z' → ∃ (n : Int32) (C' : CW), v = some (.int n) ∧ Z' = (C', M, V) := by
  intro v Z' h
  obtain ⟨r, n, a, sz', bi', e1, e2, e5, e6, e3, e7, e8, e9, e10, e4⟩ := h
  obtain ⟨C, hC⟩ := CSW_o e4
  exact ⟨_, C, e3, hC⟩
theorem hx_plant : ∀ E Z', X2_plant T L K sz si P bi tu M V row x E Z' → (E = "java/lang/IndexOutOfBoundsException" ∨ E = "java/lang/IllegalArgumentException" ∨ E = "java/lang/IllegalStateException") ∧ ∃ C' : CW, Z' = (C', M, V) := by
  intro E Z' h
  obtain ⟨h, hz⟩ := h
  exact ⟨h.imp And.left (fun h => h.imp And.left And.left), _, hz⟩
theorem bo_eat (hM : M = (th, mn, tu, kt, Q, zs, be, kp)) (hc : CI Γ o T L K sz si P) (hR : RI T sz bi Q zs be mn φ) {v1 : Option Value} {Z1 : WS} (h : WQ (R2_eat Γ o T sz bi tu M V row x) (X2_eat T L K sz si P bi tu M V row x) M V cd2 v1 Z1) : ∃ (C1 : CW) (V1 : Int64 × UInt64) (k9 : Nat), v1 = some (.int (nI k9)) ∧ Z1 = (C1, M, V1) ∧ k9 < 4 ∧ ∀ v2 Z2, R3_eat (fun r => mp φ (T r)) C1 V1 mn tu kt Q zs be kp th row x v2 Z2 → TG Γ o C1 V1 k9 v2 Z2 := by
  subst hM
  rcases h with ⟨n9, C1, hp, rfl, rfl⟩ | ⟨E, C1, hp, rfl, rfl⟩
  · obtain ⟨r, a, hrow, hf, hv, hcs⟩ := hp
    cases hv
    refine ⟨C1, (_, V.2), 0, rfl, rfl, by omega, fun v2 Z2 h2 => ?_⟩
    have hr6 := (rowN_some hrow).1
    have ha := (fnd_mem _ _ hf).1
    obtain ⟨q1, q2, q3⟩ := RI_at hR hr6
    have hf2 : fnd (zn zs) x.toInt (mp φ (T r)) = some (φ a) := by rw [fnd_mp (T r) q1, hf]; rfl
    have el : (zof (mp φ (T r)) (φ a)).2.2.2.length = (zof (T r) a).2.2.2.length := by rw [zof_mp (by rw [mp_tids]; exact q3) ha]; exact mpC_length _ _
    dsimp only [R3_eat] at h2
    rcases h2 with ⟨r', a', e1, e2, e3, e4⟩ | ⟨e1, -⟩ | ⟨r', e1, e2, -⟩
    · cases hrow.symm.trans e1
      cases hf2.symm.trans e2
      rw [el] at e3 e4
      exact ⟨_, _, e3, e4, rfl, fun _ => rfl, va_up T r (spz (zof (T r) a)), sz, va_up bi a (bi a + 1), tu + (zof (T r) a).2.2.2.length, 0, mn, kt, _, zs, _, kp, φ, _, CSW_M (CSW_V hcs), RI_eat hR hr6 ha⟩
    · rw [hrow] at e1; cases e1
    · cases hrow.symm.trans e1
      rw [hf2] at e2; cases e2
  · obtain ⟨hE, hz⟩ := hp
    cases hz
    rcases hE with ⟨rfl, hrow⟩ | ⟨rfl, r, hrow, hf⟩
    · refine ⟨_, V, 1, by rw [← cd2_a]; rfl, rfl, by omega, fun v2 Z2 h2 => ?_⟩
      dsimp only [R3_eat] at h2
      rcases h2 with ⟨r', a', e1, e2, e3, e4⟩ | ⟨e1, e2, e3⟩ | ⟨r', e1, e2, e3, e4⟩
      · rw [hrow] at e1; cases e1
      · exact TG_no hc hR (by omega) e2 e3
      · rw [hrow] at e1; cases e1
    · refine ⟨_, V, 2, by rw [← cd2_c]; rfl, rfl, by omega, fun v2 Z2 h2 => ?_⟩
      have hr6 := (rowN_some hrow).1
      obtain ⟨q1, q2, q3⟩ := RI_at hR hr6
      have hf2 : fnd (zn zs) x.toInt (mp φ (T r)) = none := by rw [fnd_mp (T r) q1, hf]; rfl
      dsimp only [R3_eat] at h2
      rcases h2 with ⟨r', a', e1, e2, e3, e4⟩ | ⟨e1, e2, e3⟩ | ⟨r', e1, e2, e3, e4⟩
      · cases hrow.symm.trans e1
        rw [hf2] at e2; cases e2
      · rw [hrow] at e1; cases e1
      · exact TG_no hc hR (by omega) e3 e4
theorem bo_pick (hM : M = (th, mn, tu, kt, Q, zs, be, kp)) (hc : CI Γ o T L K sz si P) (hR : RI T sz bi Q zs be mn φ) {v1 : Option Value} {Z1 : WS} (h : WQ (R2_pick Γ o T sz bi tu M V row x) (X2_pick T L K sz si P bi tu M V row x) M V cd2 v1 Z1) : ∃ (C1 : CW) (V1 : Int64 × UInt64) (k9 : Nat), v1 = some (.int (nI k9)) ∧ Z1 = (C1, M, V1) ∧ k9 < 4 ∧ ∀ v2 Z2, R3_pick (fun r => mp φ (T r)) C1 V1 mn tu kt Q zs be kp th row x v2 Z2 → TG Γ o C1 V1 k9 v2 Z2 := by
  subst hM
  rcases h with ⟨n9, C1, hp, rfl, rfl⟩ | ⟨E, C1, hp, rfl, rfl⟩
  · obtain ⟨r, a, L9, R9, hrow, hf, hsp, hv, hcs⟩ := hp
    cases hv
    refine ⟨C1, (_, V.2), 0, rfl, rfl, by omega, fun v2 Z2 h2 => ?_⟩
    have hr6 := (rowN_some hrow).1
    have ha := (fnd_mem _ _ hf).1
    obtain ⟨q1, q2, q3⟩ := RI_at hR hr6
    have hf2 : fnd (zn zs) x.toInt (mp φ (T r)) = some (φ a) := by rw [fnd_mp (T r) q1, hf]; rfl
    have el : (zof (mp φ (T r)) (φ a)).2.2.2.length = (zof (T r) a).2.2.2.length := by rw [zof_mp (by rw [mp_tids]; exact q3) ha]; exact mpC_length _ _
    obtain ⟨p1, p2, p3, p4, p5⟩ := RI_sp hR hr6 ha hsp
    dsimp only [R3_pick] at h2
    rcases h2 with ⟨r', a', L8, R8, e1, e2, e5, e3, e4⟩ | ⟨e1, -⟩ | ⟨r', e1, e2, -⟩
    · cases hrow.symm.trans e1
      cases hf2.symm.trans e2
      cases p2.symm.trans e5
      rw [q2 a ha] at e3
      rw [el, appN_mp p4] at e4
      exact ⟨_, _, e3, e4, rfl, fun _ => rfl, va_up T r (jn L9 R9), sz, bi, tu + (zof (T r) a).2.2.2.length + appN L9, 0, mn - 1, kt, _, _, be, kp, φ, _, CSW_M (CSW_V hcs), RI_pick hR hr6 ha hsp⟩
    · rw [hrow] at e1; cases e1
    · cases hrow.symm.trans e1
      rw [hf2] at e2; cases e2
  · obtain ⟨hE, hz⟩ := hp
    cases hz
    rcases hE with ⟨rfl, hrow⟩ | ⟨rfl, r, hrow, hf⟩
    · refine ⟨_, V, 1, by rw [← cd2_a]; rfl, rfl, by omega, fun v2 Z2 h2 => ?_⟩
      dsimp only [R3_pick] at h2
      rcases h2 with ⟨r', a', L8, R8, e1, e2, e5, e3, e4⟩ | ⟨e1, e2, e3⟩ | ⟨r', e1, e2, e3, e4⟩
      · rw [hrow] at e1; cases e1
      · exact TG_no hc hR (by omega) e2 e3
      · rw [hrow] at e1; cases e1
    · refine ⟨_, V, 2, by rw [← cd2_c]; rfl, rfl, by omega, fun v2 Z2 h2 => ?_⟩
      have hr6 := (rowN_some hrow).1
      obtain ⟨q1, q2, q3⟩ := RI_at hR hr6
      have hf2 : fnd (zn zs) x.toInt (mp φ (T r)) = none := by rw [fnd_mp (T r) q1, hf]; rfl
      dsimp only [R3_pick] at h2
      rcases h2 with ⟨r', a', L8, R8, e1, e2, e5, e3, e4⟩ | ⟨e1, e2, e3⟩ | ⟨r', e1, e2, e3, e4⟩
      · cases hrow.symm.trans e1
        rw [hf2] at e2; cases e2
      · rw [hrow] at e1; cases e1
      · exact TG_no hc hR (by omega) e3 e4
theorem mj_mp (hR : RI T sz bi Q zs be mn φ) {r q : Nat} (hr6 : r < 6) (hq6 : q < 6) : mayJ (zn zs) (mp φ (T r)) (mp φ (T q)) = mayJ sz (T r) (T q) := mayJ_mp (fun a ha => by
  rcases ha with h | h
  · exact (RI_at hR hr6).1 a h
  · exact (RI_at hR hq6).1 a h)
theorem bo_join (hM : M = (th, mn, tu, kt, Q, zs, be, kp)) (hc : CI Γ o T L K sz si P) (hR : RI T sz bi Q zs be mn φ) {v1 : Option Value} {Z1 : WS} (h : WQ (R2_join Γ o T sz bi tu M V row x) (X2_join T L K sz si P bi tu M V row x) M V cd2 v1 Z1) : ∃ (C1 : CW) (V1 : Int64 × UInt64) (k9 : Nat), v1 = some (.int (nI k9)) ∧ Z1 = (C1, M, V1) ∧ k9 < 4 ∧ ∀ v2 Z2, R3_join (fun r => mp φ (T r)) C1 V1 mn tu kt Q zs be kp th row x v2 Z2 → TG Γ o C1 V1 k9 v2 Z2 := by
  subst hM
  rcases h with ⟨n9, C1, hp, rfl, rfl⟩ | ⟨E, C1, hp, rfl, rfl⟩
  · obtain ⟨r, q, hrow, hrx, hm, hv, hcs⟩ := hp
    cases hv
    refine ⟨C1, (_, V.2), 0, rfl, rfl, by omega, fun v2 Z2 h2 => ?_⟩
    have hr6 := (rowN_some hrow).1
    have hq6 := (rowN_some hrx).1
    have q3 := (RI_at hR hr6).2.2
    have hm2 : r ≠ q ∧ mayJ (zn zs) (mp φ (T r)) (mp φ (T q)) = true := ⟨hm.1, by rw [mj_mp hR hr6 hq6]; exact hm.2⟩
    dsimp only [R3_join] at h2
    rcases h2 with ⟨r', q', e1, e2, e5, e3, e4⟩ | ⟨e1, -⟩ | ⟨r', q', e1, e2, e3, -⟩
    · cases hrow.symm.trans e1
      cases hrx.symm.trans e2
      rw [jn_mp q3, mp_tids, List.length_map] at e3
      rw [appN_mp q3] at e4
      exact ⟨_, _, e3, e4, rfl, fun _ => rfl, va_up (va_up T r (jn (T r) (T q))) q (.leaf ()), sz, bi, tu + appN (T r), 0, mn, kt, _, zs, be, kp, φ, _, CSW_M (CSW_V hcs), RI_join hR hr6 hq6 hm.1 hm2.2⟩
    · rcases e1 with e1 | e1
      · rw [hrow] at e1; cases e1
      · rw [hrx] at e1; cases e1
    · cases hrow.symm.trans e1
      cases hrx.symm.trans e2
      exact absurd hm2 e3
  · obtain ⟨hE, hz⟩ := hp
    cases hz
    rcases hE with ⟨rfl, hrow⟩ | ⟨rfl, r, q, hrow, hrx, hm⟩
    · refine ⟨_, V, 1, by rw [← cd2_a]; rfl, rfl, by omega, fun v2 Z2 h2 => ?_⟩
      dsimp only [R3_join] at h2
      rcases h2 with ⟨r', q', e1, e2, e5, e3, e4⟩ | ⟨e1, e2, e3⟩ | ⟨r', q', e1, e2, e3, e4, e5⟩
      · rcases hrow with h | h
        · rw [h] at e1; cases e1
        · rw [h] at e2; cases e2
      · exact TG_no hc hR (by omega) e2 e3
      · rcases hrow with h | h
        · rw [h] at e1; cases e1
        · rw [h] at e2; cases e2
    · refine ⟨_, V, 2, by rw [← cd2_c]; rfl, rfl, by omega, fun v2 Z2 h2 => ?_⟩
      have hr6 := (rowN_some hrow).1
      have hq6 := (rowN_some hrx).1
      dsimp only [R3_join] at h2
      rcases h2 with ⟨r', q', e1, e2, e5, e3, e4⟩ | ⟨e1, e2, e3⟩ | ⟨r', q', e1, e2, e3, e4, e5⟩
      · cases hrow.symm.trans e1
        cases hrx.symm.trans e2
        exact absurd ⟨e5.1, by rw [← mj_mp hR hr6 hq6]; exact e5.2⟩ hm
      · rcases e1 with e1 | e1
        · rw [hrow] at e1; cases e1
        · rw [hrx] at e1; cases e1
      · exact TG_no hc hR (by omega) e4 e5
theorem blw_sub {sz : Nat → Nat} {z : Int} {t : Tr} {a : Nat} (h : a ∈ blw sz z t) : a ∈ tids t := (List.takeWhile_sublist _).subset h
theorem lf_mp {φ : Nat → Nat} {t : Tr} : mp φ t = .leaf () ↔ t = .leaf () := by
  cases t with
  | leaf u => exact ⟨fun _ => rfl, fun _ => rfl⟩
  | branch k l r => exact ⟨fun h => (by cases h), fun h => (by cases h)⟩
theorem bo_split (hM : M = (th, mn, tu, kt, Q, zs, be, kp)) (hc : CI Γ o T L K sz si P) (hR : RI T sz bi Q zs be mn φ) {v1 : Option Value} {Z1 : WS} (h : WQ (R2_split Γ o T sz bi tu M V row x y) (X2_split T L K sz si P bi tu M V row x y) M V cd3 v1 Z1) : ∃ (C1 : CW) (V1 : Int64 × UInt64) (k9 : Nat), v1 = some (.int (nI k9)) ∧ Z1 = (C1, M, V1) ∧ k9 < 4 ∧ ∀ v2 Z2, R3_split (fun r => mp φ (T r)) C1 V1 mn tu kt Q zs be kp th row x y v2 Z2 → TG Γ o C1 V1 k9 v2 Z2 := by
  subst hM
  rcases h with ⟨n9, C1, hp, rfl, rfl⟩ | ⟨E, C1, hp, rfl, rfl⟩
  · obtain ⟨r, q, n, hrow, hry, hsn, hrq, hT, -, hp⟩ := hp
    have hr6 := (rowN_some hrow).1
    have hq6 := (rowN_some hry).1
    obtain ⟨q1, q2, q3⟩ := RI_at hR hr6
    have hbl : blw (zn zs) (n : Int) (mp φ (T r)) = (blw sz (n : Int) (T r)).map φ := blw_mp q1
    rcases hp with ⟨b, L9, R9, hb, hsp, hv, hcs⟩ | ⟨hb, hv, hcs⟩
    · cases hv
      refine ⟨C1, (_, V.2), 0, rfl, rfl, by omega, fun v2 Z2 h2 => ?_⟩
      have hbin : b ∈ tids (T r) := blw_sub (List.mem_of_getLast? hb)
      have hb2 : (blw (zn zs) (n : Int) (mp φ (T r))).getLast? = some (φ b) := by rw [hbl, List.getLast?_map, hb]; rfl
      have el : (zof (mp φ (T r)) (φ b)).2.2.2.length = (zof (T r) b).2.2.2.length := by rw [zof_mp (by rw [mp_tids]; exact q3) hbin]; exact mpC_length _ _
      obtain ⟨p1, p2, p3, p4, p5⟩ := RI_sp hR hr6 hbin hsp
      dsimp only [R3_split] at h2
      rcases h2 with ⟨r', q', n', e1, e2, e3, e4, e5, e6⟩ | ⟨e1, -⟩ | ⟨-, e1, -⟩ | ⟨r', q', n', e1, e2, e3, e4, -⟩
      · cases hrow.symm.trans e1
        cases hry.symm.trans e2
        cases hsn.symm.trans e3
        rcases e6 with ⟨f1, -⟩ | ⟨b', L8, R8, f1, f2, f3, f4⟩
        · rw [hb2] at f1; cases f1
        · cases hb2.symm.trans f1
          cases p2.symm.trans f2
          rw [mp_tids, List.length_map] at f3
          rw [el] at f4
          exact ⟨_, _, f3, f4, rfl, fun _ => rfl, va_up (va_up T r (.branch b L9 (.leaf ()))) q R9, sz, bi, tu + (zof (T r) b).2.2.2.length, 0, mn, kt, _, zs, be, kp, φ, _, CSW_M (CSW_V hcs), RI_split hR hr6 hq6 hrq hT hbin hsp⟩
      · rcases e1 with e1 | e1
        · rw [hrow] at e1; cases e1
        · rw [hry] at e1; cases e1
      · rw [hsn] at e1; cases e1
      · cases hrow.symm.trans e1
        cases hry.symm.trans e2
        exact absurd ⟨hrq, lf_mp.mpr hT⟩ e4
    · cases hv
      refine ⟨C1, (_, V.2), 0, rfl, rfl, by omega, fun v2 Z2 h2 => ?_⟩
      have hb2 : (blw (zn zs) (n : Int) (mp φ (T r))).getLast? = none := by rw [hbl, List.getLast?_map, hb]; rfl
      dsimp only [R3_split] at h2
      rcases h2 with ⟨r', q', n', e1, e2, e3, e4, e5, e6⟩ | ⟨e1, -⟩ | ⟨-, e1, -⟩ | ⟨r', q', n', e1, e2, e3, e4, -⟩
      · cases hrow.symm.trans e1
        cases hry.symm.trans e2
        cases hsn.symm.trans e3
        rcases e6 with ⟨f1, f3, f4⟩ | ⟨b', L8, R8, f1, f2, f3, f4⟩
        · rw [mp_tids, List.length_map] at f3
          exact ⟨_, _, f3, f4, rfl, fun _ => rfl, va_up (va_up T r (.leaf ())) q (T r), sz, bi, tu, 0, mn, kt, _, zs, be, kp, φ, _, CSW_M (CSW_V hcs), RI_split0 hR hr6 hq6 hrq hT⟩
        · rw [hb2] at f1; cases f1
      · rcases e1 with e1 | e1
        · rw [hrow] at e1; cases e1
        · rw [hry] at e1; cases e1
      · rw [hsn] at e1; cases e1
      · cases hrow.symm.trans e1
        cases hry.symm.trans e2
        exact absurd ⟨hrq, lf_mp.mpr hT⟩ e4
  · obtain ⟨hE, hz⟩ := hp
    cases hz
    rcases hE with ⟨rfl, hrow⟩ | ⟨rfl, ⟨r, q, hrow, hry⟩, hsn⟩ | ⟨rfl, r, q, n, hrow, hry, hsn, hm⟩
    · refine ⟨_, V, 1, by rw [← cd3_a]; rfl, rfl, by omega, fun v2 Z2 h2 => ?_⟩
      dsimp only [R3_split] at h2
      rcases h2 with ⟨r', q', n', e1, e2, e3, e4, e5, e6⟩ | ⟨e1, e2, e3⟩ | ⟨⟨r', q', e1, e2⟩, -⟩ | ⟨r', q', n', e1, e2, e3, e4, -⟩
      · rcases hrow with h | h
        · rw [h] at e1; cases e1
        · rw [h] at e2; cases e2
      · exact TG_no hc hR (by omega) e2 e3
      · rcases hrow with h | h
        · rw [h] at e1; cases e1
        · rw [h] at e2; cases e2
      · rcases hrow with h | h
        · rw [h] at e1; cases e1
        · rw [h] at e2; cases e2
    · refine ⟨_, V, 2, by rw [← cd3_b]; rfl, rfl, by omega, fun v2 Z2 h2 => ?_⟩
      dsimp only [R3_split] at h2
      rcases h2 with ⟨r', q', n', e1, e2, e3, e4, e5, e6⟩ | ⟨e1, e2, e3⟩ | ⟨-, e1, e2, e3⟩ | ⟨r', q', n', e1, e2, e3, e4, -⟩
      · rw [hsn] at e3; cases e3
      · rcases e1 with e1 | e1
        · rw [hrow] at e1; cases e1
        · rw [hry] at e1; cases e1
      · exact TG_no hc hR (by omega) e2 e3
      · rw [hsn] at e3; cases e3
    · refine ⟨_, V, 3, by rw [← cd3_c]; rfl, rfl, by omega, fun v2 Z2 h2 => ?_⟩
      dsimp only [R3_split] at h2
      rcases h2 with ⟨r', q', n', e1, e2, e3, e4, e5, e6⟩ | ⟨e1, e2, e3⟩ | ⟨-, e1, e2, e3⟩ | ⟨r', q', n', e1, e2, e3, e4, e5, e6⟩
      · cases hrow.symm.trans e1
        cases hry.symm.trans e2
        exact absurd ⟨e4, lf_mp.mp e5⟩ hm
      · rcases e1 with e1 | e1
        · rw [hrow] at e1; cases e1
        · rw [hry] at e1; cases e1
      · rw [hsn] at e1; cases e1
      · exact TG_no hc hR (by omega) e5 e6
theorem bo_plant (hM : M = (th, mn, tu, kt, Q, zs, be, kp)) (hc : CI Γ o T L K sz si P) (hR : RI T sz bi Q zs be mn φ) {v1 : Option Value} {Z1 : WS} (h : WQ (R2_plant Γ o T sz bi tu M V row x) (X2_plant T L K sz si P bi tu M V row x) M V cd3 v1 Z1) : ∃ (C1 : CW) (V1 : Int64 × UInt64) (k9 : Nat), v1 = some (.int (nI k9)) ∧ Z1 = (C1, M, V1) ∧ k9 < 4 ∧ ∀ v2 Z2, R3_plant (fun r => mp φ (T r)) C1 V1 mn tu kt Q zs be kp th row x v2 Z2 → TG Γ o C1 V1 k9 v2 Z2 := by
  subst hM
  rcases h with ⟨n9, C1, hp, rfl, rfl⟩ | ⟨E, C1, hp, rfl, rfl⟩
  · obtain ⟨r, n, a, sz', bi', hrow, hsn, h40, hf, hv, ha, hsa, hba, hold, hcs⟩ := hp
    cases hv
    refine ⟨C1, (_, V.2), 0, rfl, rfl, by omega, fun v2 Z2 h2 => ?_⟩
    have hr6 := (rowN_some hrow).1
    have hn9 := (szN_some hsn).1
    obtain ⟨q1, q2, q3⟩ := RI_at hR hr6
    have hmn := RI_mn hR
    have hf2 : fnd (zn zs) (n : Int) (mp φ (T r)) = none := by rw [fnd_mp (T r) q1, hf]; rfl
    have el : (inc (zn zs) (n : Int) (mp φ (T r)) []).length = (inc sz (n : Int) (T r) []).length := by
      have h9 := inc_mp (z := (n : Int)) (φ := φ) (T r) [] q1
      rw [show mpC φ [] = [] from rfl] at h9
      rw [h9]; exact mpC_length _ _
    dsimp only [R3_plant] at h2
    rcases h2 with ⟨r', n', k0, e1, e2, e5, e6, e7, e8, e3, e4⟩ | ⟨e1, -⟩ | ⟨-, e1, -⟩ | ⟨r', n', e1, e2, e3, -⟩
    · cases hrow.symm.trans e1
      cases hsn.symm.trans e2
      have hri := RI_plant hR hr6 hn9 e5 hf ha hsa hba hold e7 e8
      rw [el] at e3 e4
      exact ⟨_, _, e3, e4, rfl, fun _ => rfl, va_up T r (spl a (inc sz (n : Int) (T r) []) (.leaf ()) (.leaf ())), sz', bi', tu + (inc sz (n : Int) (T r) []).length, 0, mn + 1, kt, _, _, _, kp, va_up φ a k0, _, CSW_M (CSW_V hcs), hri⟩
    · rw [hrow] at e1; cases e1
    · rw [hsn] at e1; cases e1
    · cases hrow.symm.trans e1
      cases hsn.symm.trans e2
      rcases e3 with e3 | ⟨a', e3⟩
      · omega
      · rw [hf2] at e3; cases e3
  · obtain ⟨hE, hz⟩ := hp
    cases hz
    rcases hE with ⟨rfl, hrow⟩ | ⟨rfl, ⟨r, hrow⟩, hsn⟩ | ⟨rfl, r, n, hrow, hsn, hm⟩
    · refine ⟨_, V, 1, by rw [← cd3_a]; rfl, rfl, by omega, fun v2 Z2 h2 => ?_⟩
      dsimp only [R3_plant] at h2
      rcases h2 with ⟨r', n', k0, e1, e2, e5, e6, e7, e8, e3, e4⟩ | ⟨e1, e2, e3⟩ | ⟨⟨r', e1⟩, -⟩ | ⟨r', n', e1, e2, e3, -⟩
      · rw [hrow] at e1; cases e1
      · exact TG_no hc hR (by omega) e2 e3
      · rw [hrow] at e1; cases e1
      · rw [hrow] at e1; cases e1
    · refine ⟨_, V, 2, by rw [← cd3_b]; rfl, rfl, by omega, fun v2 Z2 h2 => ?_⟩
      dsimp only [R3_plant] at h2
      rcases h2 with ⟨r', n', k0, e1, e2, e5, e6, e7, e8, e3, e4⟩ | ⟨e1, e2, e3⟩ | ⟨-, e1, e2, e3⟩ | ⟨r', n', e1, e2, e3, -⟩
      · rw [hsn] at e2; cases e2
      · rw [hrow] at e1; cases e1
      · exact TG_no hc hR (by omega) e2 e3
      · rw [hsn] at e2; cases e2
    · refine ⟨_, V, 3, by rw [← cd3_c]; rfl, rfl, by omega, fun v2 Z2 h2 => ?_⟩
      have hr6 := (rowN_some hrow).1
      obtain ⟨q1, q2, q3⟩ := RI_at hR hr6
      have hmn := RI_mn hR
      dsimp only [R3_plant] at h2
      rcases h2 with ⟨r', n', k0, e1, e2, e5, e6, e7, e8, e3, e4⟩ | ⟨e1, e2, e3⟩ | ⟨-, e1, e2, e3⟩ | ⟨r', n', e1, e2, e3, e4, e5⟩
      · cases hrow.symm.trans e1
        cases hsn.symm.trans e2
        rcases hm with hm | ⟨a', hm⟩
        · omega
        · rw [fnd_mp (T r) q1, hm] at e6; cases e6
      · rw [hrow] at e1; cases e1
      · rw [hsn] at e1; cases e1
      · exact TG_no hc hR (by omega) e4 e5
end Both5
