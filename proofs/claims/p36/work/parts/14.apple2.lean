/-! METHODS of SplayOrchard$Apple, the second part -/
def lnk (P : PF) (si : Nat → Option Nat) (a b : Nat) : PF := sP (sP (sP P 2 b ((P 2 a).bind si)) 0 b (((sP P 2 b ((P 2 a).bind si)) 0 a).bind si)) 1 b (((sP (sP P 2 b ((P 2 a).bind si)) 0 b (((sP P 2 b ((P 2 a).bind si)) 0 a).bind si)) 1 a).bind si)
theorem ite0 {b : Bool} (h : (if b = true then (1 : Int32) else 0) = 0) : b = false := by cases b with
  | false => rfl
  | true => exact absurd h (by decide)
theorem ite1 {b : Bool} (h : ¬ (if b = true then (1 : Int32) else 0) = 0) : b = true := by cases b with
  | true => rfl
  | false => exact absurd rfl h
theorem iol_sdd0 {P : PF} {a p : Nat} (h : P 2 a = some p) (h1 : iol P a = false) : sdd P a p = 1 := by
  unfold iol at h1
  rw [h] at h1
  unfold sdd
  rw [if_neg (by simpa using h1)]
theorem iol_sdd1 {P : PF} {a p : Nat} (h : P 2 a = some p) (h1 : iol P a = true) : sdd P a p = 0 := by
  unfold iol at h1
  rw [h] at h1
  unfold sdd
  rw [if_pos (by simpa using h1)]
theorem sP_tw {P : PF} {j a q : Nat} {v w : Option Nat} (h : j ≠ 2) : sP (sP P 2 a v) j q w = sP (sP (sP P 2 a v) j q w) 2 a v := by
  funext i x
  unfold sP
  by_cases h1 : i = 2 ∧ x = a
  · rw [if_pos h1, if_neg (fun e => h (e.1.symm.trans h1.1)), if_pos h1]
  · simp [h1]
theorem hng_tw {P : PF} {a q s : Nat} (h : s ≠ 2) : hng (sP P 2 a (some q)) (some a) (some q) s = sP (sP P 2 a (some q)) s q (some a) := (sP_tw h).symm
section MApple2
variable {l : Launch} {D : va_G} {lo : Nat} {Γ : GT} {L : List Nat} {K : Nat → Nat} {sz : Nat → Nat} {si : Nat → Option Nat} {P : PF} {bi : Nat → Nat} {tu : Nat} {M : MW} {V : Int64 × UInt64}
set_option maxRecDepth 100000 in
set_option maxHeartbeats 4000000 in
/-- a takes the place of the one above it -/
theorem c_X0_turn {a : Nat} (ok_a : okA L K a) : Md l yX0_turn wsX0_turn (rmL 2 0 0) D lo Γ [.ref a] ((L, K, sz, si, P, bi, tu), M, V) none ((L, K, sz, si, (trn P a), bi, tu), M, V) := by
  refine Mz_of (cc := cX0_turn) (maxL := 4) (ret := none) (by decide) rfl (Nat.le_of_ble_eq_true rfl) ?_
  intro p e s m args below meth c ls S hr hlocks hK hH hS hl
  have hx := S.1
  have hb := S.2.1
  have hts := S.2.2.2.2
  have f20 : (Cond.fieldLink RX0 20 (TX0 2).1 (TX0 2).2.1 (TX0 2).2.2.1).before args s = true := hts _ (List.mem_of_getElem? (i := 1) rfl)
  have f23 : (Cond.fieldLink RX0 23 (TX0 4).1 (TX0 4).2.1 (TX0 4).2.2.1).before args s = true := hts _ (List.mem_of_getElem? (i := 2) rfl)
  have f17 : (Cond.fieldLink RX0 17 (TX0 3).1 (TX0 3).2.1 (TX0 3).2.2.1).before args s = true := hts _ (List.mem_of_getElem? (i := 3) rfl)
  have hi0 : ∀ w ∈ wsX00, w ∈ wsX0_turn := by decide +kernel
  have hl : lv_has ls 4 [(0, .ref a)] := hl
  rcases hp : P 2 a with _ | p
  · skip
    refine lv_aload_n hx hb dX0_turn_0 rfl (lv_at hl 0 rfl) ?_
    refine gA S hi0 hK hH ok_a 2 (by decide) f20 (v := .null) (by show some (va_rf (P 2 a)) = _; rw [hp]; rfl) dX0_turn_1 ?_
    refine lv_astore_nN (lv' := [(1, .null), (0, .ref a)]) hx hb dX0_turn_4 rfl hl (by decide) rfl (fun ls hl => ?_)
    refine lv_aload_nN hx hb dX0_turn_5 rfl (lv_at hl 0 rfl) ?_
    refine lv_ifnonnullN hx hb dX0_turn_6 ?_
    exact eV S hr hlocks hH hS ⟨rfl, by rw [trn, hp]⟩ dX0_turn_9
  · skip
    have ok_p := hH.2.2.2.1 a ok_a 2 (by decide) p hp
    refine lv_aload_n hx hb dX0_turn_0 rfl (lv_at hl 0 rfl) ?_
    refine gA S hi0 hK hH ok_a 2 (by decide) f20 (v := .ref p) (by show some (va_rf (P 2 a)) = _; rw [hp]; rfl) dX0_turn_1 ?_
    refine lv_astore_n (lv' := [(1, .ref p), (0, .ref a)]) hx hb dX0_turn_4 rfl hl (by decide) rfl (fun ls hl => ?_)
    refine lv_aload_n hx hb dX0_turn_5 rfl (lv_at hl 0 rfl) ?_
    refine lv_ifnonnull hx hb dX0_turn_6 (tgt := 10) (by decide) ?_
    have okg : ∀ b, P 2 p = some b → okA L K b := fun b h => hH.2.2.2.1 p ok_p 2 (by decide) b h
    have okr : ∀ b, P 1 a = some b → okA L K b := fun b h => hH.2.2.2.1 a ok_a 1 (by decide) b h
    have okl : ∀ b, P 0 a = some b → okA L K b := fun b h => hH.2.2.2.1 a ok_a 0 (by decide) b h
    rcases hg : P 2 p with _ | q
    · skip
      refine lv_aload_n hx hb dX0_turn_10 rfl (lv_at hl 0 rfl) ?_
      refine gA S hi0 hK hH ok_p 2 (by decide) f20 (v := .null) (by show some (va_rf (P 2 p)) = _; rw [hg]; rfl) dX0_turn_11 ?_
      refine lv_astore_nN (lv' := [(2, .null), (1, .ref p), (0, .ref a)]) hx hb dX0_turn_14 rfl hl (by decide) rfl (fun ls hl => ?_)
      refine lv_aload_n hx hb dX0_turn_15 rfl (lv_at hl 1 rfl) ?_
      refine cV S (c_X0_isOnTheLeft (l := l) (D := D) (lo := lo) (Γ := Γ) (sz := sz) (si := si) (P := P) (bi := bi) (tu := tu) (M := M) (V := V) ok_p) (cwV 0 hts gX0_turn_X0_isOnTheLeft rfl rfl rfl (by decide +kernel) ⟨Nat.le_of_ble_eq_true rfl, Nat.le_of_ble_eq_true rfl⟩) hK hH (Hp_recv hK hH ok_p.1 ok_p.2 rfl) hS rfl hl.1 rfl (Nat.le_of_ble_eq_true rfl) dX0_turn_16 ⟨Nat.le_of_ble_eq_true rfl, Nat.le_of_ble_eq_true rfl⟩ (fun v Z1 H locs hpost hH hS => ?_)
      obtain ⟨rfl, rfl⟩ := hpost
      refine lv_istore_n (lv' := [(3, .int (if iol P p then 1 else 0)), (2, .null), (1, .ref p), (0, .ref a)]) hx hb dX0_turn_19 rfl hl (by decide) rfl (fun ls hl => ?_)
      refine lv_aload_n hx hb dX0_turn_20 rfl (lv_at hl 3 rfl) ?_
      refine cV S (c_X0_isOnTheLeft (l := l) (D := D) (lo := lo) (Γ := Γ) (sz := sz) (si := si) (P := P) (bi := bi) (tu := tu) (M := M) (V := V) ok_a) (cwV 0 hts gX0_turn_X0_isOnTheLeft rfl rfl rfl (by decide +kernel) ⟨Nat.le_of_ble_eq_true rfl, Nat.le_of_ble_eq_true rfl⟩) hK hH (Hp_recv hK hH ok_a.1 ok_a.2 rfl) hS rfl hl.1 rfl (Nat.le_of_ble_eq_true rfl) dX0_turn_21 ⟨Nat.le_of_ble_eq_true rfl, Nat.le_of_ble_eq_true rfl⟩ (fun v Z1 H locs hpost hH hS => ?_)
      obtain ⟨rfl, rfl⟩ := hpost
      refine lv_if_eq (tgt := 43) hx hb dX0_turn_24 (by decide) (fun h1 => ?_) (fun h1 => ?_)
      · skip
        have h1 := ite0 h1
        have hs : sdd P a p = 1 := iol_sdd0 hp h1
        refine lv_aload_n hx hb dX0_turn_43 rfl (lv_at hl 2 rfl) ?_
        refine lv_aload_n hx hb dX0_turn_44 rfl (lv_at hl 3 rfl) ?_
        refine gA S hi0 hK hH ok_a 3 (by decide) f17 (v := va_rf (P 0 a)) rfl dX0_turn_45 ?_
        refine cV S (c_X0_hangRight (l := l) (D := D) (lo := lo) (Γ := Γ) (sz := sz) (si := si) (P := P) (bi := bi) (tu := tu) (M := M) (V := V) (r := P 0 a) ok_p okl) (cwV 1 hts gX0_turn_X0_hangRight rfl rfl rfl (by decide +kernel) ⟨Nat.le_of_ble_eq_true rfl, Nat.le_of_ble_eq_true rfl⟩) hK hH (Hp_recv hK hH ok_p.1 ok_p.2 rfl) hS rfl hl.1 rfl (Nat.le_of_ble_eq_true rfl) dX0_turn_48 ⟨Nat.le_of_ble_eq_true rfl, Nat.le_of_ble_eq_true rfl⟩ (fun v Z1 H locs hpost hH hS => ?_)
        obtain ⟨rfl, rfl⟩ := hpost
        refine lv_aload_n hx hb dX0_turn_51 rfl (lv_at hl 3 rfl) ?_
        refine lv_aload_n hx hb dX0_turn_52 rfl (lv_at hl 2 rfl) ?_
        refine cV S (c_X0_hangLeft (l := l) (D := D) (lo := lo) (Γ := Γ) (sz := sz) (si := si) (P := (hng P (P 0 a) (some p) 1)) (bi := bi) (tu := tu) (M := M) (V := V) (r := some p) ok_a (fun b h => by cases h; exact ok_p)) (cwV 1 hts gX0_turn_X0_hangLeft rfl rfl rfl (by decide +kernel) ⟨Nat.le_of_ble_eq_true rfl, Nat.le_of_ble_eq_true rfl⟩) hK hH (Hp_recv hK hH ok_a.1 ok_a.2 rfl) hS rfl hl.1 rfl (Nat.le_of_ble_eq_true rfl) dX0_turn_53 ⟨Nat.le_of_ble_eq_true rfl, Nat.le_of_ble_eq_true rfl⟩ (fun v Z1 H locs hpost hH hS => ?_)
        obtain ⟨rfl, rfl⟩ := hpost
        refine lv_aload_n hx hb dX0_turn_56 rfl (lv_at hl 3 rfl) ?_
        refine lv_aload_nN hx hb dX0_turn_57 rfl (lv_at hl 1 rfl) ?_
        refine pA S hi0 hK hH hS ok_a 2 none (fun b h => by cases h) 2 (by decide) (by decide) f20 rfl dX0_turn_58 (fun H locs hH hS => ?_)
        refine lv_aload_nN hx hb dX0_turn_61 rfl (lv_at hl 1 rfl) ?_
        refine lv_ifnullN hx hb dX0_turn_62 (tgt := 77) (by decide) ?_
        refine lv_aload_nN hx hb dX0_turn_77 rfl (lv_at hl 1 rfl) ?_
        refine lv_ifnullN hx hb dX0_turn_78 (tgt := 86) (by decide) ?_
        exact eV S hr hlocks hH hS ⟨rfl, by rw [trn, hp]; dsimp only; rw [hg, hs]⟩ dX0_turn_86
      · skip
        have h1 := ite1 h1
        have hs : sdd P a p = 0 := iol_sdd1 hp h1
        refine lv_aload_n hx hb dX0_turn_27 rfl (lv_at hl 2 rfl) ?_
        refine lv_aload_n hx hb dX0_turn_28 rfl (lv_at hl 3 rfl) ?_
        refine gA S hi0 hK hH ok_a 4 (by decide) f23 (v := va_rf (P 1 a)) rfl dX0_turn_29 ?_
        refine cV S (c_X0_hangLeft (l := l) (D := D) (lo := lo) (Γ := Γ) (sz := sz) (si := si) (P := P) (bi := bi) (tu := tu) (M := M) (V := V) (r := P 1 a) ok_p okr) (cwV 1 hts gX0_turn_X0_hangLeft rfl rfl rfl (by decide +kernel) ⟨Nat.le_of_ble_eq_true rfl, Nat.le_of_ble_eq_true rfl⟩) hK hH (Hp_recv hK hH ok_p.1 ok_p.2 rfl) hS rfl hl.1 rfl (Nat.le_of_ble_eq_true rfl) dX0_turn_32 ⟨Nat.le_of_ble_eq_true rfl, Nat.le_of_ble_eq_true rfl⟩ (fun v Z1 H locs hpost hH hS => ?_)
        obtain ⟨rfl, rfl⟩ := hpost
        refine lv_aload_n hx hb dX0_turn_35 rfl (lv_at hl 3 rfl) ?_
        refine lv_aload_n hx hb dX0_turn_36 rfl (lv_at hl 2 rfl) ?_
        refine cV S (c_X0_hangRight (l := l) (D := D) (lo := lo) (Γ := Γ) (sz := sz) (si := si) (P := (hng P (P 1 a) (some p) 0)) (bi := bi) (tu := tu) (M := M) (V := V) (r := some p) ok_a (fun b h => by cases h; exact ok_p)) (cwV 1 hts gX0_turn_X0_hangRight rfl rfl rfl (by decide +kernel) ⟨Nat.le_of_ble_eq_true rfl, Nat.le_of_ble_eq_true rfl⟩) hK hH (Hp_recv hK hH ok_a.1 ok_a.2 rfl) hS rfl hl.1 rfl (Nat.le_of_ble_eq_true rfl) dX0_turn_37 ⟨Nat.le_of_ble_eq_true rfl, Nat.le_of_ble_eq_true rfl⟩ (fun v Z1 H locs hpost hH hS => ?_)
        obtain ⟨rfl, rfl⟩ := hpost
        refine lv_goto (tgt := 56) hx hb dX0_turn_40 (by decide) ?_
        refine lv_aload_n hx hb dX0_turn_56 rfl (lv_at hl 3 rfl) ?_
        refine lv_aload_nN hx hb dX0_turn_57 rfl (lv_at hl 1 rfl) ?_
        refine pA S hi0 hK hH hS ok_a 2 none (fun b h => by cases h) 2 (by decide) (by decide) f20 rfl dX0_turn_58 (fun H locs hH hS => ?_)
        refine lv_aload_nN hx hb dX0_turn_61 rfl (lv_at hl 1 rfl) ?_
        refine lv_ifnullN hx hb dX0_turn_62 (tgt := 77) (by decide) ?_
        refine lv_aload_nN hx hb dX0_turn_77 rfl (lv_at hl 1 rfl) ?_
        refine lv_ifnullN hx hb dX0_turn_78 (tgt := 86) (by decide) ?_
        exact eV S hr hlocks hH hS ⟨rfl, by rw [trn, hp]; dsimp only; rw [hg, hs]⟩ dX0_turn_86
    · skip
      have ok_q := okg q hg
      refine lv_aload_n hx hb dX0_turn_10 rfl (lv_at hl 0 rfl) ?_
      refine gA S hi0 hK hH ok_p 2 (by decide) f20 (v := .ref q) (by show some (va_rf (P 2 p)) = _; rw [hg]; rfl) dX0_turn_11 ?_
      refine lv_astore_n (lv' := [(2, .ref q), (1, .ref p), (0, .ref a)]) hx hb dX0_turn_14 rfl hl (by decide) rfl (fun ls hl => ?_)
      refine lv_aload_n hx hb dX0_turn_15 rfl (lv_at hl 1 rfl) ?_
      refine cV S (c_X0_isOnTheLeft (l := l) (D := D) (lo := lo) (Γ := Γ) (sz := sz) (si := si) (P := P) (bi := bi) (tu := tu) (M := M) (V := V) ok_p) (cwV 0 hts gX0_turn_X0_isOnTheLeft rfl rfl rfl (by decide +kernel) ⟨Nat.le_of_ble_eq_true rfl, Nat.le_of_ble_eq_true rfl⟩) hK hH (Hp_recv hK hH ok_p.1 ok_p.2 rfl) hS rfl hl.1 rfl (Nat.le_of_ble_eq_true rfl) dX0_turn_16 ⟨Nat.le_of_ble_eq_true rfl, Nat.le_of_ble_eq_true rfl⟩ (fun v Z1 H locs hpost hH hS => ?_)
      obtain ⟨rfl, rfl⟩ := hpost
      refine lv_istore_n (lv' := [(3, .int (if iol P p then 1 else 0)), (2, .ref q), (1, .ref p), (0, .ref a)]) hx hb dX0_turn_19 rfl hl (by decide) rfl (fun ls hl => ?_)
      refine lv_aload_n hx hb dX0_turn_20 rfl (lv_at hl 3 rfl) ?_
      refine cV S (c_X0_isOnTheLeft (l := l) (D := D) (lo := lo) (Γ := Γ) (sz := sz) (si := si) (P := P) (bi := bi) (tu := tu) (M := M) (V := V) ok_a) (cwV 0 hts gX0_turn_X0_isOnTheLeft rfl rfl rfl (by decide +kernel) ⟨Nat.le_of_ble_eq_true rfl, Nat.le_of_ble_eq_true rfl⟩) hK hH (Hp_recv hK hH ok_a.1 ok_a.2 rfl) hS rfl hl.1 rfl (Nat.le_of_ble_eq_true rfl) dX0_turn_21 ⟨Nat.le_of_ble_eq_true rfl, Nat.le_of_ble_eq_true rfl⟩ (fun v Z1 H locs hpost hH hS => ?_)
      obtain ⟨rfl, rfl⟩ := hpost
      refine lv_if_eq (tgt := 43) hx hb dX0_turn_24 (by decide) (fun h1 => ?_) (fun h1 => ?_)
      · skip
        have h1 := ite0 h1
        have hs : sdd P a p = 1 := iol_sdd0 hp h1
        refine lv_aload_n hx hb dX0_turn_43 rfl (lv_at hl 2 rfl) ?_
        refine lv_aload_n hx hb dX0_turn_44 rfl (lv_at hl 3 rfl) ?_
        refine gA S hi0 hK hH ok_a 3 (by decide) f17 (v := va_rf (P 0 a)) rfl dX0_turn_45 ?_
        refine cV S (c_X0_hangRight (l := l) (D := D) (lo := lo) (Γ := Γ) (sz := sz) (si := si) (P := P) (bi := bi) (tu := tu) (M := M) (V := V) (r := P 0 a) ok_p okl) (cwV 1 hts gX0_turn_X0_hangRight rfl rfl rfl (by decide +kernel) ⟨Nat.le_of_ble_eq_true rfl, Nat.le_of_ble_eq_true rfl⟩) hK hH (Hp_recv hK hH ok_p.1 ok_p.2 rfl) hS rfl hl.1 rfl (Nat.le_of_ble_eq_true rfl) dX0_turn_48 ⟨Nat.le_of_ble_eq_true rfl, Nat.le_of_ble_eq_true rfl⟩ (fun v Z1 H locs hpost hH hS => ?_)
        obtain ⟨rfl, rfl⟩ := hpost
        refine lv_aload_n hx hb dX0_turn_51 rfl (lv_at hl 3 rfl) ?_
        refine lv_aload_n hx hb dX0_turn_52 rfl (lv_at hl 2 rfl) ?_
        refine cV S (c_X0_hangLeft (l := l) (D := D) (lo := lo) (Γ := Γ) (sz := sz) (si := si) (P := (hng P (P 0 a) (some p) 1)) (bi := bi) (tu := tu) (M := M) (V := V) (r := some p) ok_a (fun b h => by cases h; exact ok_p)) (cwV 1 hts gX0_turn_X0_hangLeft rfl rfl rfl (by decide +kernel) ⟨Nat.le_of_ble_eq_true rfl, Nat.le_of_ble_eq_true rfl⟩) hK hH (Hp_recv hK hH ok_a.1 ok_a.2 rfl) hS rfl hl.1 rfl (Nat.le_of_ble_eq_true rfl) dX0_turn_53 ⟨Nat.le_of_ble_eq_true rfl, Nat.le_of_ble_eq_true rfl⟩ (fun v Z1 H locs hpost hH hS => ?_)
        obtain ⟨rfl, rfl⟩ := hpost
        refine lv_aload_n hx hb dX0_turn_56 rfl (lv_at hl 3 rfl) ?_
        refine lv_aload_n hx hb dX0_turn_57 rfl (lv_at hl 1 rfl) ?_
        refine pA S hi0 hK hH hS ok_a 2 (some q) (fun b h => by cases h; exact ok_q) 2 (by decide) (by decide) f20 rfl dX0_turn_58 (fun H locs hH hS => ?_)
        refine lv_aload_n hx hb dX0_turn_61 rfl (lv_at hl 1 rfl) ?_
        refine lv_ifnull hx hb dX0_turn_62 ?_
        refine lv_iload_n hx hb dX0_turn_65 rfl (lv_at hl 0 rfl) ?_
        refine lv_if_eq (tgt := 77) hx hb dX0_turn_66 (by decide) (fun h2 => ?_) (fun h2 => ?_)
        · skip
          have h2 := ite0 h2
          have hs2 : sdd P p q = 1 := iol_sdd0 hg h2
          refine lv_aload_n hx hb dX0_turn_77 rfl (lv_at hl 1 rfl) ?_
          refine lv_ifnull hx hb dX0_turn_78 ?_
          refine lv_aload_n hx hb dX0_turn_81 rfl (lv_at hl 1 rfl) ?_
          refine lv_aload_n hx hb dX0_turn_82 rfl (lv_at hl 3 rfl) ?_
          refine cV S (c_X0_hangRight (l := l) (D := D) (lo := lo) (Γ := Γ) (sz := sz) (si := si) (P := (sP (hng (hng P (P 0 a) (some p) 1) (some p) (some a) 0) 2 a (some q))) (bi := bi) (tu := tu) (M := M) (V := V) (r := some a) ok_q (fun b h => by cases h; exact ok_a)) (cwV 1 hts gX0_turn_X0_hangRight rfl rfl rfl (by decide +kernel) ⟨Nat.le_of_ble_eq_true rfl, Nat.le_of_ble_eq_true rfl⟩) hK hH (Hp_recv hK hH ok_q.1 ok_q.2 rfl) hS rfl hl.1 rfl (Nat.le_of_ble_eq_true rfl) dX0_turn_83 ⟨Nat.le_of_ble_eq_true rfl, Nat.le_of_ble_eq_true rfl⟩ (fun v Z1 H locs hpost hH hS => ?_)
          obtain ⟨rfl, rfl⟩ := hpost
          exact eV S hr hlocks hH hS ⟨rfl, by rw [trn, hp]; dsimp only; rw [hg, hs]; dsimp only; rw [hs2]; exact congrArg (fun X => ((L, K, sz, si, X, bi, tu), M, V)) (hng_tw (s := 1) (by decide))⟩ dX0_turn_86
        · skip
          have h2 := ite1 h2
          have hs2 : sdd P p q = 0 := iol_sdd1 hg h2
          refine lv_aload_n hx hb dX0_turn_69 rfl (lv_at hl 1 rfl) ?_
          refine lv_aload_n hx hb dX0_turn_70 rfl (lv_at hl 3 rfl) ?_
          refine cV S (c_X0_hangLeft (l := l) (D := D) (lo := lo) (Γ := Γ) (sz := sz) (si := si) (P := (sP (hng (hng P (P 0 a) (some p) 1) (some p) (some a) 0) 2 a (some q))) (bi := bi) (tu := tu) (M := M) (V := V) (r := some a) ok_q (fun b h => by cases h; exact ok_a)) (cwV 1 hts gX0_turn_X0_hangLeft rfl rfl rfl (by decide +kernel) ⟨Nat.le_of_ble_eq_true rfl, Nat.le_of_ble_eq_true rfl⟩) hK hH (Hp_recv hK hH ok_q.1 ok_q.2 rfl) hS rfl hl.1 rfl (Nat.le_of_ble_eq_true rfl) dX0_turn_71 ⟨Nat.le_of_ble_eq_true rfl, Nat.le_of_ble_eq_true rfl⟩ (fun v Z1 H locs hpost hH hS => ?_)
          obtain ⟨rfl, rfl⟩ := hpost
          refine lv_goto (tgt := 86) hx hb dX0_turn_74 (by decide) ?_
          exact eV S hr hlocks hH hS ⟨rfl, by rw [trn, hp]; dsimp only; rw [hg, hs]; dsimp only; rw [hs2]; exact congrArg (fun X => ((L, K, sz, si, X, bi, tu), M, V)) (hng_tw (s := 0) (by decide))⟩ dX0_turn_86
      · skip
        have h1 := ite1 h1
        have hs : sdd P a p = 0 := iol_sdd1 hp h1
        refine lv_aload_n hx hb dX0_turn_27 rfl (lv_at hl 2 rfl) ?_
        refine lv_aload_n hx hb dX0_turn_28 rfl (lv_at hl 3 rfl) ?_
        refine gA S hi0 hK hH ok_a 4 (by decide) f23 (v := va_rf (P 1 a)) rfl dX0_turn_29 ?_
        refine cV S (c_X0_hangLeft (l := l) (D := D) (lo := lo) (Γ := Γ) (sz := sz) (si := si) (P := P) (bi := bi) (tu := tu) (M := M) (V := V) (r := P 1 a) ok_p okr) (cwV 1 hts gX0_turn_X0_hangLeft rfl rfl rfl (by decide +kernel) ⟨Nat.le_of_ble_eq_true rfl, Nat.le_of_ble_eq_true rfl⟩) hK hH (Hp_recv hK hH ok_p.1 ok_p.2 rfl) hS rfl hl.1 rfl (Nat.le_of_ble_eq_true rfl) dX0_turn_32 ⟨Nat.le_of_ble_eq_true rfl, Nat.le_of_ble_eq_true rfl⟩ (fun v Z1 H locs hpost hH hS => ?_)
        obtain ⟨rfl, rfl⟩ := hpost
        refine lv_aload_n hx hb dX0_turn_35 rfl (lv_at hl 3 rfl) ?_
        refine lv_aload_n hx hb dX0_turn_36 rfl (lv_at hl 2 rfl) ?_
        refine cV S (c_X0_hangRight (l := l) (D := D) (lo := lo) (Γ := Γ) (sz := sz) (si := si) (P := (hng P (P 1 a) (some p) 0)) (bi := bi) (tu := tu) (M := M) (V := V) (r := some p) ok_a (fun b h => by cases h; exact ok_p)) (cwV 1 hts gX0_turn_X0_hangRight rfl rfl rfl (by decide +kernel) ⟨Nat.le_of_ble_eq_true rfl, Nat.le_of_ble_eq_true rfl⟩) hK hH (Hp_recv hK hH ok_a.1 ok_a.2 rfl) hS rfl hl.1 rfl (Nat.le_of_ble_eq_true rfl) dX0_turn_37 ⟨Nat.le_of_ble_eq_true rfl, Nat.le_of_ble_eq_true rfl⟩ (fun v Z1 H locs hpost hH hS => ?_)
        obtain ⟨rfl, rfl⟩ := hpost
        refine lv_goto (tgt := 56) hx hb dX0_turn_40 (by decide) ?_
        refine lv_aload_n hx hb dX0_turn_56 rfl (lv_at hl 3 rfl) ?_
        refine lv_aload_n hx hb dX0_turn_57 rfl (lv_at hl 1 rfl) ?_
        refine pA S hi0 hK hH hS ok_a 2 (some q) (fun b h => by cases h; exact ok_q) 2 (by decide) (by decide) f20 rfl dX0_turn_58 (fun H locs hH hS => ?_)
        refine lv_aload_n hx hb dX0_turn_61 rfl (lv_at hl 1 rfl) ?_
        refine lv_ifnull hx hb dX0_turn_62 ?_
        refine lv_iload_n hx hb dX0_turn_65 rfl (lv_at hl 0 rfl) ?_
        refine lv_if_eq (tgt := 77) hx hb dX0_turn_66 (by decide) (fun h2 => ?_) (fun h2 => ?_)
        · skip
          have h2 := ite0 h2
          have hs2 : sdd P p q = 1 := iol_sdd0 hg h2
          refine lv_aload_n hx hb dX0_turn_77 rfl (lv_at hl 1 rfl) ?_
          refine lv_ifnull hx hb dX0_turn_78 ?_
          refine lv_aload_n hx hb dX0_turn_81 rfl (lv_at hl 1 rfl) ?_
          refine lv_aload_n hx hb dX0_turn_82 rfl (lv_at hl 3 rfl) ?_
          refine cV S (c_X0_hangRight (l := l) (D := D) (lo := lo) (Γ := Γ) (sz := sz) (si := si) (P := (sP (hng (hng P (P 1 a) (some p) 0) (some p) (some a) 1) 2 a (some q))) (bi := bi) (tu := tu) (M := M) (V := V) (r := some a) ok_q (fun b h => by cases h; exact ok_a)) (cwV 1 hts gX0_turn_X0_hangRight rfl rfl rfl (by decide +kernel) ⟨Nat.le_of_ble_eq_true rfl, Nat.le_of_ble_eq_true rfl⟩) hK hH (Hp_recv hK hH ok_q.1 ok_q.2 rfl) hS rfl hl.1 rfl (Nat.le_of_ble_eq_true rfl) dX0_turn_83 ⟨Nat.le_of_ble_eq_true rfl, Nat.le_of_ble_eq_true rfl⟩ (fun v Z1 H locs hpost hH hS => ?_)
          obtain ⟨rfl, rfl⟩ := hpost
          exact eV S hr hlocks hH hS ⟨rfl, by rw [trn, hp]; dsimp only; rw [hg, hs]; dsimp only; rw [hs2]; exact congrArg (fun X => ((L, K, sz, si, X, bi, tu), M, V)) (hng_tw (s := 1) (by decide))⟩ dX0_turn_86
        · skip
          have h2 := ite1 h2
          have hs2 : sdd P p q = 0 := iol_sdd1 hg h2
          refine lv_aload_n hx hb dX0_turn_69 rfl (lv_at hl 1 rfl) ?_
          refine lv_aload_n hx hb dX0_turn_70 rfl (lv_at hl 3 rfl) ?_
          refine cV S (c_X0_hangLeft (l := l) (D := D) (lo := lo) (Γ := Γ) (sz := sz) (si := si) (P := (sP (hng (hng P (P 1 a) (some p) 0) (some p) (some a) 1) 2 a (some q))) (bi := bi) (tu := tu) (M := M) (V := V) (r := some a) ok_q (fun b h => by cases h; exact ok_a)) (cwV 1 hts gX0_turn_X0_hangLeft rfl rfl rfl (by decide +kernel) ⟨Nat.le_of_ble_eq_true rfl, Nat.le_of_ble_eq_true rfl⟩) hK hH (Hp_recv hK hH ok_q.1 ok_q.2 rfl) hS rfl hl.1 rfl (Nat.le_of_ble_eq_true rfl) dX0_turn_71 ⟨Nat.le_of_ble_eq_true rfl, Nat.le_of_ble_eq_true rfl⟩ (fun v Z1 H locs hpost hH hS => ?_)
          obtain ⟨rfl, rfl⟩ := hpost
          refine lv_goto (tgt := 86) hx hb dX0_turn_74 (by decide) ?_
          exact eV S hr hlocks hH hS ⟨rfl, by rw [trn, hp]; dsimp only; rw [hg, hs]; dsimp only; rw [hs2]; exact congrArg (fun X => ((L, K, sz, si, X, bi, tu), M, V)) (hng_tw (s := 0) (by decide))⟩ dX0_turn_86

set_option maxRecDepth 100000 in
set_option maxHeartbeats 4000000 in
/-- the next greater one -/
theorem c_X0_next {a : Nat} {lt rt0 : Tr} {C : Cx} (ok_a : okA L K a) (hz : Zp P (.branch a lt rt0) C) (hn : (tids (plug (.branch a lt rt0) C)).Nodup) : Md l yX0_next wsX0_next (rmL 2 0 0) D lo Γ [.ref a] ((L, K, sz, si, P, bi, tu), M, V) (some (va_rf (tids rt0 ++ cR C).head?)) ((L, K, sz, si, P, bi, tu), M, V) := by
  refine Mz_of (cc := cX0_next) (maxL := 2) (ret := (some (.object "SplayOrchard$Apple"))) (by decide) rfl (Nat.le_of_ble_eq_true rfl) ?_
  intro p e s m args below meth c ls S hr hlocks hK hH hS hl
  have hx := S.1
  have hb := S.2.1
  have hts := S.2.2.2.2
  have f23 : (Cond.fieldLink RX0 23 (TX0 4).1 (TX0 4).2.1 (TX0 4).2.2.1).before args s = true := hts _ (List.mem_of_getElem? (i := 1) rfl)
  have f20 : (Cond.fieldLink RX0 20 (TX0 2).1 (TX0 2).2.1 (TX0 2).2.2.1).before args s = true := hts _ (List.mem_of_getElem? (i := 2) rfl)
  have hi0 : ∀ w ∈ wsX00, w ∈ wsX0_next := by decide +kernel
  have hl : lv_has ls 2 [(0, .ref a)] := hl
  obtain ⟨⟨z2, z0, z1, zl, zr⟩, zC⟩ := hz
  rcases hq : P 1 a with _ | u
  · skip
    refine lv_aload_n hx hb dX0_next_0 rfl (lv_at hl 0 rfl) ?_
    refine gA S hi0 hK hH ok_a 4 (by decide) f23 (v := .null) (by show some (va_rf (P 1 a)) = _; rw [hq]; rfl) dX0_next_1 ?_
    refine lv_ifnullN hx hb dX0_next_4 (tgt := 15) (by decide) ?_
    refine lv_aload_n hx hb dX0_next_15 rfl (lv_at hl 0 rfl) ?_
    refine lv_astore_n (lv' := [(1, .ref a), (0, .ref a)]) hx hb dX0_next_16 rfl hl (by decide) rfl (fun ls hl => ?_)
    have hrt0 : rt0 = .leaf () := rt_none (by rw [← z1, hq])
    have loop : ∀ (C' : Cx) (b : Nat), P 2 b = parC C' → repC P (some b) C' → (b ∉ cL C' ∧ b ∉ cR C') → (cL C' ++ cR C').Nodup → okA L K b → (cR C').head? = (tids rt0 ++ cR C).head? → ∀ ls, lv_has ls 2 [(1, .ref b)] → W p l e (rmL 2 0 0) s m args below meth c s.heap [] 0 0 (MQ below (Qz D lo Γ (fun v Z' => v = (some (va_rf (tids rt0 ++ cR C).head?)) ∧ Z' = ((L, K, sz, si, P, bi, tu), M, V))) args s ((rmL 2 0 0) : Room).cells ((rmL 2 0 0) : Room).slots (lA lo)) (F0 m 17 ls []) := by
      intro C'
      induction C' with
      | nil =>
        intro b h2 hC hnb hnd ok_b h3 ls hl
        have hq2 : P 2 b = none := h2
        refine lv_aload_n hx hb dX0_next_17 rfl (lv_at hl 0 rfl) ?_
        refine gA S hi0 hK hH ok_b 2 (by decide) f20 (v := .null) (by show some (va_rf (P 2 b)) = _; rw [hq2]; rfl) dX0_next_18 ?_
        refine lv_ifnullN hx hb dX0_next_21 (tgt := 43) (by decide) ?_
        refine lv_aload_n hx hb dX0_next_43 rfl (lv_at hl 0 rfl) ?_
        refine gA S hi0 hK hH ok_b 2 (by decide) f20 (v := .null) (by show some (va_rf (P 2 b)) = _; rw [hq2]; rfl) dX0_next_44 ?_
        exact eA S hr hlocks none rfl hH hS ⟨by rw [← h3]; rfl, rfl⟩ dX0_next_47
      | cons f C' ih =>
        intro b h2 hC hnb hnd ok_b h3 ls hl
        obtain ⟨s0, p0, u0⟩ := f
        have hq2 : P 2 b = some p0 := h2
        have ok_p0 := hH.2.2.2.1 b ok_b 2 (by decide) p0 hq2
        obtain ⟨d1, d2, d3, d4, d5⟩ := hC
        refine lv_aload_n hx hb dX0_next_17 rfl (lv_at hl 0 rfl) ?_
        refine gA S hi0 hK hH ok_b 2 (by decide) f20 (v := .ref p0) (by show some (va_rf (P 2 b)) = _; rw [hq2]; rfl) dX0_next_18 ?_
        refine lv_ifnull hx hb dX0_next_21 ?_
        refine lv_aload_n hx hb dX0_next_24 rfl (lv_at hl 0 rfl) ?_
        refine gA S hi0 hK hH ok_b 2 (by decide) f20 (v := .ref p0) (by show some (va_rf (P 2 b)) = _; rw [hq2]; rfl) dX0_next_25 ?_
        refine gA S hi0 hK hH ok_p0 4 (by decide) f23 (v := va_rf (P 1 p0)) rfl dX0_next_28 ?_
        refine lv_aload_n hx hb dX0_next_31 rfl (lv_at hl 0 rfl) ?_
        refine lv_acmp_ne (rx := P 1 p0) (ry := some b) (tgt := 43) hx hb dX0_next_32 (by decide) (fun hq3 => ?_) (fun hq3 => ?_)
        · skip
          refine lv_aload_n hx hb dX0_next_43 rfl (lv_at hl 0 rfl) ?_
          refine gA S hi0 hK hH ok_b 2 (by decide) f20 (v := .ref p0) (by show some (va_rf (P 2 b)) = _; rw [hq2]; rfl) dX0_next_44 ?_
          have hs0 : s0 = false := by
            cases s0
            · rfl
            · exact absurd d1 hq3
          subst hs0
          exact eA S hr hlocks (some p0) rfl hH hS ⟨by rw [← h3]; rfl, rfl⟩ dX0_next_47
        · skip
          refine lv_aload_n hx hb dX0_next_35 rfl (lv_at hl 0 rfl) ?_
          refine gA S hi0 hK hH ok_b 2 (by decide) f20 (v := .ref p0) (by show some (va_rf (P 2 b)) = _; rw [hq2]; rfl) dX0_next_36 ?_
          refine lv_astore_n (lv' := [(1, .ref p0)]) hx hb dX0_next_39 rfl hl (by decide) rfl (fun ls hl => ?_)
          refine lv_goto (tgt := 17) hx hb dX0_next_40 (by decide) ?_
          have hs0 : s0 = true := by
            cases s0
            · exact absurd (rt_mem (d2.symm.trans hq3)) (fun q => hnb.2 (by simp [cR, q]))
            · rfl
          subst hs0
          have hnp : p0 ∉ cL C' ∧ p0 ∉ cR C' := by
            simp only [cL, cR, cond_true, List.nil_append, List.nodup_append, List.mem_append, List.mem_cons] at hnd
            refine ⟨?_, ?_⟩ <;> grind (splits := 20)
          have hnd' : (cL C' ++ cR C').Nodup := by
            simp only [cL, cR, cond_true, List.nil_append, List.nodup_append, List.mem_append, List.mem_cons] at hnd ⊢
            refine ⟨?_, ?_, ?_⟩ <;> grind (splits := 20)
          exact ih p0 d4 d5 hnp hnd' ok_p0 h3 ls (lv_sub hl [0] rfl)
    rw [tids_plug, hrt0] at hn
    have hna : (a ∉ cL C ∧ a ∉ cR C) ∧ (cL C ++ cR C).Nodup := by
      simp only [tids, List.nodup_append, List.mem_append, List.mem_cons] at hn ⊢
      refine ⟨⟨?_, ?_⟩, ?_, ?_, ?_⟩ <;> grind (splits := 20)
    exact loop C a z2 zC hna.1 hna.2 ok_a (by rw [hrt0]; rfl) ls (lv_sub hl [0] rfl)
  · skip
    have ok_u := hH.2.2.2.1 a ok_a 1 (by decide) u hq
    refine lv_aload_n hx hb dX0_next_0 rfl (lv_at hl 0 rfl) ?_
    refine gA S hi0 hK hH ok_a 4 (by decide) f23 (v := .ref u) (by show some (va_rf (P 1 a)) = _; rw [hq]; rfl) dX0_next_1 ?_
    refine lv_ifnull hx hb dX0_next_4 ?_
    refine lv_aload_n hx hb dX0_next_7 rfl (lv_at hl 0 rfl) ?_
    refine gA S hi0 hK hH ok_a 4 (by decide) f23 (v := .ref u) (by show some (va_rf (P 1 a)) = _; rw [hq]; rfl) dX0_next_8 ?_
    have hru : rt rt0 = some u := by rw [← z1, hq]
    refine cV S (c_X0_leastUnder (l := l) (D := D) (lo := lo) (Γ := Γ) (sz := sz) (si := si) (P := P) (bi := bi) (tu := tu) (M := M) (V := V) ok_u hru zr) (cwV 0 hts gX0_next_X0_leastUnder rfl rfl rfl (by decide +kernel) ⟨Nat.le_of_ble_eq_true rfl, Nat.le_of_ble_eq_true rfl⟩) hK hH (Hp_recv hK hH ok_u.1 ok_u.2 rfl) hS rfl hl.1 rfl (Nat.le_of_ble_eq_true rfl) dX0_next_11 ⟨Nat.le_of_ble_eq_true rfl, Nat.le_of_ble_eq_true rfl⟩ (fun v Z1 H locs hpost hH hS => ?_)
    obtain ⟨rfl, rfl⟩ := hpost
    exact eA S hr hlocks _ rfl hH hS ⟨by rw [hd_app (fun h0 => by have := rt_mem hru; rw [h0] at this; cases this)], rfl⟩ dX0_next_14

set_option maxRecDepth 100000 in
set_option maxHeartbeats 4000000 in
/-- who stands in for it -/
theorem c_X0_standInOf {r : Option Nat} (okq : ∀ b, r = some b → okA L K b) : Md l yX0_standInOf wsX0_standInOf (rmL 1 0 0) D lo Γ [va_rf r] ((L, K, sz, si, P, bi, tu), M, V) (some (va_rf (r.bind si))) ((L, K, sz, si, P, bi, tu), M, V) := by
  refine Mz_of (cc := cX0_standInOf) (maxL := 1) (ret := (some (.object "SplayOrchard$Apple"))) (by decide) rfl (by cases r <;> exact Nat.le_of_ble_eq_true rfl) ?_
  intro p e s m args below meth c ls S hr hlocks hK hH hS hl
  have hx := S.1
  have hb := S.2.1
  have hts := S.2.2.2.2
  have f13 : (Cond.fieldLink RX0 13 (TX0 1).1 (TX0 1).2.1 (TX0 1).2.2.1).before args s = true := hts _ (List.mem_of_getElem? (i := 1) rfl)
  have hi0 : ∀ w ∈ wsX00, w ∈ wsX0_standInOf := by decide +kernel
  have hl : lv_has ls 1 [(0, va_rf r)] := hl
  refine lq_aload_n S dX0_standInOf_0 rfl (lv_at hl 0 rfl) ?_
  refine lq_ifnonnull S dX0_standInOf_1 (tgt := 8) (by decide) (fun x hq => ?_) (fun hq => ?_)
  · skip
    subst hq
    have ok_x := okq x rfl
    refine lv_aload_n hx hb dX0_standInOf_8 rfl (lv_at hl 0 rfl) ?_
    refine gA S hi0 hK hH ok_x 1 (by decide) f13 (v := va_rf (si x)) rfl dX0_standInOf_9 ?_
    exact eA S hr hlocks (si x) rfl hH hS ⟨rfl, rfl⟩ dX0_standInOf_12
  · skip
    subst hq
    refine lv_null hx hb dX0_standInOf_4 ?_
    refine lv_goto (tgt := 12) hx hb dX0_standInOf_5 (by decide) ?_
    exact eA S hr hlocks none rfl hH hS ⟨rfl, rfl⟩ dX0_standInOf_12

set_option maxRecDepth 100000 in
set_option maxHeartbeats 4000000 in
/-- the stand-in hangs as a does -/
theorem c_X0_linkStandIn {a b : Nat} (ok_a : okA L K a) (hsi : si a = some b) : Md l yX0_linkStandIn wsX0_linkStandIn (rmL 2 0 0) D lo Γ [.ref a] ((L, K, sz, si, P, bi, tu), M, V) none ((L, K, sz, si, (lnk P si a b), bi, tu), M, V) := by
  refine Mz_of (cc := cX0_linkStandIn) (maxL := 1) (ret := none) (by decide) rfl (Nat.le_of_ble_eq_true rfl) ?_
  intro p e s m args below meth c ls S hr hlocks hK hH hS hl
  have hx := S.1
  have hb := S.2.1
  have hts := S.2.2.2.2
  have f13 : (Cond.fieldLink RX0 13 (TX0 1).1 (TX0 1).2.1 (TX0 1).2.2.1).before args s = true := hts _ (List.mem_of_getElem? (i := 1) rfl)
  have f20 : (Cond.fieldLink RX0 20 (TX0 2).1 (TX0 2).2.1 (TX0 2).2.2.1).before args s = true := hts _ (List.mem_of_getElem? (i := 2) rfl)
  have f17 : (Cond.fieldLink RX0 17 (TX0 3).1 (TX0 3).2.1 (TX0 3).2.2.1).before args s = true := hts _ (List.mem_of_getElem? (i := 3) rfl)
  have f23 : (Cond.fieldLink RX0 23 (TX0 4).1 (TX0 4).2.1 (TX0 4).2.2.1).before args s = true := hts _ (List.mem_of_getElem? (i := 4) rfl)
  have hi0 : ∀ w ∈ wsX00, w ∈ wsX0_linkStandIn := by decide +kernel
  have hl : lv_has ls 1 [(0, .ref a)] := hl
  have ok_b := hH.2.2.2.2.1 a ok_a b hsi
  refine lv_aload_n hx hb dX0_linkStandIn_0 rfl (lv_at hl 0 rfl) ?_
  refine gA S hi0 hK hH ok_a 1 (by decide) f13 (v := .ref b) (by show some (va_rf (si a)) = _; rw [hsi]; rfl) dX0_linkStandIn_1 ?_
  refine lv_ifnull hx hb dX0_linkStandIn_4 ?_
  refine lv_aload_n hx hb dX0_linkStandIn_7 rfl (lv_at hl 0 rfl) ?_
  refine gA S hi0 hK hH ok_a 1 (by decide) f13 (v := .ref b) (by show some (va_rf (si a)) = _; rw [hsi]; rfl) dX0_linkStandIn_8 ?_
  refine lv_aload_n hx hb dX0_linkStandIn_11 rfl (lv_at hl 0 rfl) ?_
  refine gA S hi0 hK hH ok_a 2 (by decide) f20 (v := va_rf (P 2 a)) rfl dX0_linkStandIn_12 ?_
  have e_0 : va_rf (P 2 a) = va_rf (P 2 a) := rfl
  refine cSt S (c_X0_standInOf (l := l) (D := D) (lo := lo) (Γ := Γ) (sz := sz) (si := si) (P := P) (bi := bi) (tu := tu) (M := M) (V := V) (r := P 2 a) (fun x h => hH.2.2.2.1 a ok_a 2 (by decide) x h)) (va_cwS 1 hts gX0_linkStandIn_X0_standInOf rfl rfl rfl (by decide +kernel) ⟨Nat.le_of_ble_eq_true rfl, Nat.le_of_ble_eq_true rfl⟩) hK hH hS rfl hl.1 rfl (Nat.le_of_ble_eq_true rfl) dX0_linkStandIn_15 ⟨Nat.le_of_ble_eq_true rfl, Nat.le_of_ble_eq_true rfl⟩ (fun v Z1 H locs hpost hH hS => ?_)
  obtain ⟨rfl, rfl⟩ := hpost
  refine pA S hi0 hK hH hS ok_b 2 ((P 2 a).bind si) (fun x h => by obtain ⟨y, h1, h2⟩ := Option.bind_eq_some_iff.mp h; exact hH.2.2.2.2.1 y (hH.2.2.2.1 a ok_a 2 (by decide) y h1) x h2) 2 (by decide) (by decide) f20 rfl dX0_linkStandIn_18 (fun H locs hH hS => ?_)
  refine lv_aload_n hx hb dX0_linkStandIn_21 rfl (lv_at hl 0 rfl) ?_
  refine gA S hi0 hK hH ok_a 1 (by decide) f13 (v := .ref b) (by show some (va_rf (si a)) = _; rw [hsi]; rfl) dX0_linkStandIn_22 ?_
  refine lv_aload_n hx hb dX0_linkStandIn_25 rfl (lv_at hl 0 rfl) ?_
  refine gA S hi0 hK hH ok_a 3 (by decide) f17 (v := va_rf ((sP P 2 b ((P 2 a).bind si)) 0 a)) rfl dX0_linkStandIn_26 ?_
  refine cSt S (c_X0_standInOf (l := l) (D := D) (lo := lo) (Γ := Γ) (sz := sz) (si := si) (P := (sP P 2 b ((P 2 a).bind si))) (bi := bi) (tu := tu) (M := M) (V := V) (r := (sP P 2 b ((P 2 a).bind si)) 0 a) (fun x h => hH.2.2.2.1 a ok_a 0 (by decide) x h)) (va_cwS 1 hts gX0_linkStandIn_X0_standInOf rfl rfl rfl (by decide +kernel) ⟨Nat.le_of_ble_eq_true rfl, Nat.le_of_ble_eq_true rfl⟩) hK hH hS rfl hl.1 rfl (Nat.le_of_ble_eq_true rfl) dX0_linkStandIn_29 ⟨Nat.le_of_ble_eq_true rfl, Nat.le_of_ble_eq_true rfl⟩ (fun v Z1 H locs hpost hH hS => ?_)
  obtain ⟨rfl, rfl⟩ := hpost
  refine pA S hi0 hK hH hS ok_b 0 (((sP P 2 b ((P 2 a).bind si)) 0 a).bind si) (fun x h => by obtain ⟨y, h1, h2⟩ := Option.bind_eq_some_iff.mp h; exact hH.2.2.2.2.1 y (hH.2.2.2.1 a ok_a 0 (by decide) y h1) x h2) 3 (by decide) (by decide) f17 rfl dX0_linkStandIn_32 (fun H locs hH hS => ?_)
  refine lv_aload_n hx hb dX0_linkStandIn_35 rfl (lv_at hl 0 rfl) ?_
  refine gA S hi0 hK hH ok_a 1 (by decide) f13 (v := .ref b) (by show some (va_rf (si a)) = _; rw [hsi]; rfl) dX0_linkStandIn_36 ?_
  refine lv_aload_n hx hb dX0_linkStandIn_39 rfl (lv_at hl 0 rfl) ?_
  refine gA S hi0 hK hH ok_a 4 (by decide) f23 (v := va_rf ((sP (sP P 2 b ((P 2 a).bind si)) 0 b (((sP P 2 b ((P 2 a).bind si)) 0 a).bind si)) 1 a)) rfl dX0_linkStandIn_40 ?_
  refine cSt S (c_X0_standInOf (l := l) (D := D) (lo := lo) (Γ := Γ) (sz := sz) (si := si) (P := (sP (sP P 2 b ((P 2 a).bind si)) 0 b (((sP P 2 b ((P 2 a).bind si)) 0 a).bind si))) (bi := bi) (tu := tu) (M := M) (V := V) (r := (sP (sP P 2 b ((P 2 a).bind si)) 0 b (((sP P 2 b ((P 2 a).bind si)) 0 a).bind si)) 1 a) (fun x h => hH.2.2.2.1 a ok_a 1 (by decide) x h)) (va_cwS 1 hts gX0_linkStandIn_X0_standInOf rfl rfl rfl (by decide +kernel) ⟨Nat.le_of_ble_eq_true rfl, Nat.le_of_ble_eq_true rfl⟩) hK hH hS rfl hl.1 rfl (Nat.le_of_ble_eq_true rfl) dX0_linkStandIn_43 ⟨Nat.le_of_ble_eq_true rfl, Nat.le_of_ble_eq_true rfl⟩ (fun v Z1 H locs hpost hH hS => ?_)
  obtain ⟨rfl, rfl⟩ := hpost
  refine pA S hi0 hK hH hS ok_b 1 (((sP (sP P 2 b ((P 2 a).bind si)) 0 b (((sP P 2 b ((P 2 a).bind si)) 0 a).bind si)) 1 a).bind si) (fun x h => by obtain ⟨y, h1, h2⟩ := Option.bind_eq_some_iff.mp h; exact hH.2.2.2.2.1 y (hH.2.2.2.1 a ok_a 1 (by decide) y h1) x h2) 4 (by decide) (by decide) f23 rfl dX0_linkStandIn_46 (fun H locs hH hS => ?_)
  exact eV S hr hlocks hH hS ⟨rfl, rfl⟩ dX0_linkStandIn_49
end MApple2
