/-! THE LAW: one thing done to both -/
theorem PxJ_no {Γ : GT} {o r q : Nat} {T : Nat → Tr} {sz bi : Nat → Nat} {tu : Nat} {M : MW} {V : Int64 × UInt64} {row x : Int32} {en : Nat → String} {E : String} {Z : WS} (h : PxI Γ o T sz bi tu M V (qj T sz row x) en E Z) (h1 : rowN row = some r) (h2 : rowN x = some q) : False := by
  have h3 := h.1
  simp only [qj, h1, h2] at h3
  exact h3 rfl
section MLaw2
variable {l : Launch} {D : va_G} {lo : Nat} {Γ : GT} {C : CW} {V : Int64 × UInt64} {U : List Nat} {E : Nat → va_E} {zz ee : Nat → Nat}
set_option maxRecDepth 100000 in
set_option maxHeartbeats 4000000 in
theorem c_L_act {o sa ta k : Nat} {x : Int32} {Z : WS} (hst : l.stackTraces = false) (hZ : JX Γ o sa ta k V Z) : My l yL_act wsL_act (rmL 50 1010 40200) D lo Γ [.ref o, .ref sa, .int x] Z (fun v Z' => v = some (.int 1) ∧ JX Γ o sa ta (k + 1) V Z') := by
  obtain ⟨T, L, K, sz, si, P, bi, tu, U, E, zz, ee, φ, rfl, hc, hI, hJ⟩ := hZ
  refine My_ofW (cc := cL_act) (maxL := 10) (ret := (some .boolean)) (hh := [(116, 254, 495, 73), (255, 308, 495, 73), (309, 362, 495, 73), (363, 430, 495, 73), (431, 453, 495, 73), (454, 494, 495, 73)]) (by decide) rfl (Nat.le_of_ble_eq_true rfl) ?_
  intro p e s m args below meth c ls S hr hlocks hK hH hS hX ht hl
  have hx := S.1
  have hb := S.2.1
  have hts := S.2.2.2.2
  have f15 : (Cond.fieldLink RL 15 (TX4 0).1 (TX4 0).2.1 (TX4 0).2.2.1).before args s = true := hts _ (List.mem_of_getElem? (i := 2) rfl)
  have f31 : (Cond.fieldLink RL 31 (TX3 0).1 (TX3 0).2.1 (TX3 0).2.2.1).before args s = true := hts _ (List.mem_of_getElem? (i := 4) rfl)
  have hi3 : ∀ w ∈ wsX30, w ∈ wsL_act := by decide +kernel
  have hi4 : ∀ w ∈ wsX40, w ∈ wsL_act := by decide +kernel
  have hlo : lo ≤ s.heap.size := hH.2.2.1.1
  have hOc := CI_SO hc
  have hOm := JR_SO hJ hOc
  have hlen : (gids (mpT φ T)).length = (gids T).length := by rw [gids_mp, List.length_map]
  have hh40 : ∀ i, i < 6 → hgt (mpT φ T i) ≤ 40 := fun i hi => (SO_at hOm hi).2.2.2.2.1
  have hw40 : ∀ i n, i < 6 → (wy zz n (mpT φ T i)).length ≤ 40 := fun i n hi => (SO_at hOm hi).2.2.2.2.2 n
  have hz1 : ∀ i, i < 6 → ∀ b ∈ tids (mpT φ T i), zz b < 1000 := fun i hi => (SO_at hOm hi).2.2.1
  have hlink : (Cond.classLink RL 73 "java/lang/IllegalStateException").before args s = true := hts _ (List.mem_of_getElem? (i := 1) rfl)
  have hl : lv_has ls 10 [(0, .ref o), (1, .ref sa), (2, .int x)] := hl
  have k184 : ∀ (r n9 q n7 : Nat), r < 6 → n9 < 1000 → q < 6 → n7 < 1000 → ∀ (L : List Nat) (K : Nat → Nat) (U : List Nat) (E : Nat → va_E), CI Γ o T L K sz si P → SI Γ (U, E) sa ta (mpT φ T) zz ee tu → ∀ H locs, Hp D lo Γ ((L, K, sz, si, P, bi, tu), (U, E), V) H → va_S (lA lo) s.heap H locs → ∀ ls, lv_has ls 10 [(8, .int 1), (7, .int (nI n7)), (5, .int (nI q)), (4, .int (nI n9)), (3, .int (nI r)), (0, .ref o), (1, .ref sa)] → W p l e (rmL 50 1010 40200) s m args below meth c H locs 1 40 (MQ below (Qz D lo Γ (fun v Z' => v = some (.int 1) ∧ JX Γ o sa ta (k + 1) V Z')) args s ((rmL 50 1010 40200) : Room).cells ((rmL 50 1010 40200) : Room).slots (lA lo)) (F0 m 184 ls []) := by
    intro r n9 q n7 hr6 hn9 hq6 hn7 L K U E hc hI H locs hH hS ls hl
    have hfm := J_fnd hJ hr6 (n9 : Int)
    have kno : ¬ ((gids T).length < 40 ∧ fnd sz (n9 : Int) (T r) = none) → ∀ (L : List Nat) (K : Nat → Nat) (U : List Nat) (E : Nat → va_E), CI Γ o T L K sz si P → SI Γ (U, E) sa ta (mpT φ T) zz ee tu → ∀ H locs, Hp D lo Γ ((L, K, sz, si, P, bi, tu), (U, E), V) H → va_S (lA lo) s.heap H locs → ∀ ls, lv_has ls 10 [(7, .int (nI n7)), (5, .int (nI q)), (4, .int (nI n9)), (3, .int (nI r)), (0, .ref o), (1, .ref sa)] → W p l e (rmL 50 1010 40200) s m args below meth c H locs 2 80 (MQ below (Qz D lo Γ (fun v Z' => v = some (.int 1) ∧ JX Γ o sa ta (k + 1) V Z')) args s ((rmL 50 1010 40200) : Room).cells ((rmL 50 1010 40200) : Room).slots (lA lo)) (F0 m 212 ls [.int 0]) := by
      intro hno
      intro L K U E hc hI H locs hH hS ls hl
      have m_sa := hI.1
      have e_sa := hI.2.1
      have m_ta := hI.2.2.1
      have e_ta := hI.2.2.2.1
      have hY := hI.2.2.2.2
      refine lv_istore (lv' := [(8, .int 0), (7, .int (nI n7)), (5, .int (nI q)), (4, .int (nI n9)), (3, .int (nI r)), (0, .ref o), (1, .ref sa)]) hx hb dL_act_212 hl (by decide) rfl (fun ls hl => ?_)
      refine lv_iload hx hb dL_act_214 (lv_at hl 0 rfl) ?_
      refine lv_if_eq (tgt := 229) hx hb dL_act_216 (by decide) (fun _ => ?_) (fun h1 => absurd (by decide) h1)
      refine lv_iconst (v := -1) hx hb dL_act_229 (by decide) ?_
      refine lv_istore (lv' := [(9, .int (-1)), (8, .int 0), (7, .int (nI n7)), (5, .int (nI q)), (4, .int (nI n9)), (3, .int (nI r)), (0, .ref o), (1, .ref sa)]) hx hb dL_act_230 hl (by decide) rfl (fun ls hl => ?_)
      refine lv_aload_n hx hb dL_act_232 rfl (lv_at hl 6 rfl) ?_
      refine lv_iload_n hx hb dL_act_233 rfl (lv_at hl 5 rfl) ?_
      refine lv_iload hx hb dL_act_234 (lv_at hl 4 rfl) ?_
      refine cVx S (c_X2_plant (row := nI r) (x := nI n9) hst hc) (cwV 2 hts gL_act_X2_plant rfl rfl rfl (by decide +kernel) ⟨Nat.le_of_ble_eq_true rfl, Nat.le_of_ble_eq_true rfl⟩) hK hH hX.1 (Hp_recv hK hH hc.1.1.1 hc.1.1.2 rfl) hS rfl hl.1 rfl (by simp [cat_rf, Value.category]) dL_act_236 ⟨Nat.le_of_ble_eq_true rfl, Nat.le_of_ble_eq_true rfl⟩ (fun E9 Z1 H locs ce q9 hpx hH hS hce hcv hcl => ?_) (fun v Z1 H locs hpost hH hS => ?_)
      · skip
        have hE9 : E9 = "java/lang/IllegalStateException" ∧ Z1 = ((L, K, sz, si, P, bi, tu), (U, E), V) := by
          obtain ⟨hp, hz⟩ := hpx
          refine ⟨?_, hz⟩
          rcases hp with ⟨-, h1⟩ | ⟨-, -, h1⟩ | ⟨h1, -⟩
          · rw [rowN_nI hr6] at h1; cases h1
          · rw [szN_nI hn9] at h1; cases h1
          · exact h1
        obtain ⟨rfl, rfl⟩ := hE9
        refine catS (pre := []) (suf := [(255, 308, 495, 73), (309, 362, 495, 73), (363, 430, 495, 73), (431, 453, 495, 73), (454, 494, 495, 73)]) (a := 116) (b := 254) (h := 495) (c1 := 73) S hX ht (by decide) (by decide) (by decide) (by simp [xcl]) hlink hce hcv hcl ?_
        refine lv_astore (lv' := [(9, .ref q9), (8, .int 0), (7, .int (nI n7)), (5, .int (nI q)), (4, .int (nI n9)), (3, .int (nI r)), (0, .ref o), (1, .ref sa)]) hx hb dL_act_495 hl (by decide) rfl (fun ls hl => ?_)
        refine lv_iload hx hb dL_act_497 (lv_at hl 1 rfl) ?_
        refine lv_if_ne (tgt := 506) hx hb dL_act_499 (by decide) (fun h1 => absurd h1 (fun h => h rfl)) (fun _ => ?_)
        refine lv_iconst (v := 1) hx hb dL_act_502 (by decide) ?_
        refine lv_goto (tgt := 507) hx hb dL_act_503 (by decide) ?_
        refine W.widen (k := ((rmL 50 1010 40200) : Room).cells) (n := ((rmL 50 1010 40200) : Room).slots) (Nat.le_of_ble_eq_true rfl) (Nat.le_of_ble_eq_true rfl) ?_
        exact eZ S hr hlocks (Or.inr rfl) hH hS ⟨rfl, JX_up ⟨T, L, K, sz, si, P, bi, tu, U, E, zz, ee, φ, rfl, hc, hI, hJ⟩ (Nat.le_succ k)⟩ dL_act_507
      obtain ⟨r1, n1, a1, sz1, bi1, e1, e2, e3, e4, -⟩ := hpost
      rw [rowN_nI hr6] at e1
      cases e1
      rw [szN_nI hn9] at e2
      cases e2
      exact absurd ⟨e3, e4⟩ hno
    have kcan : (gids T).length < 40 → fnd sz (n9 : Int) (T r) = none → ∀ (L : List Nat) (K : Nat → Nat) (U : List Nat) (E : Nat → va_E), CI Γ o T L K sz si P → SI Γ (U, E) sa ta (mpT φ T) zz ee tu → ∀ H locs, Hp D lo Γ ((L, K, sz, si, P, bi, tu), (U, E), V) H → va_S (lA lo) s.heap H locs → ∀ ls, lv_has ls 10 [(7, .int (nI n7)), (5, .int (nI q)), (4, .int (nI n9)), (3, .int (nI r)), (0, .ref o), (1, .ref sa)] → W p l e (rmL 50 1010 40200) s m args below meth c H locs 2 80 (MQ below (Qz D lo Γ (fun v Z' => v = some (.int 1) ∧ JX Γ o sa ta (k + 1) V Z')) args s ((rmL 50 1010 40200) : Room).cells ((rmL 50 1010 40200) : Room).slots (lA lo)) (F0 m 212 ls [.int 1]) := by
      intro h40 hf
      intro L K U E hc hI H locs hH hS ls hl
      have m_sa := hI.1
      have e_sa := hI.2.1
      have m_ta := hI.2.2.1
      have e_ta := hI.2.2.2.1
      have hY := hI.2.2.2.2
      have hI0 := hI
      have hfm : fnd zz (n9 : Int) (mpT φ T r) = none := by rw [hfm, hf]; rfl
      have hinc : (inc zz (n9 : Int) (mpT φ T r) []).length = (inc sz (n9 : Int) (T r) []).length := by rw [J_inc hJ hr6]; exact mpC_length φ _
      refine lv_istore (lv' := [(8, .int 1), (7, .int (nI n7)), (5, .int (nI q)), (4, .int (nI n9)), (3, .int (nI r)), (0, .ref o), (1, .ref sa)]) hx hb dL_act_212 hl (by decide) rfl (fun ls hl => ?_)
      refine lv_iload hx hb dL_act_214 (lv_at hl 0 rfl) ?_
      refine lv_if_eq (tgt := 229) hx hb dL_act_216 (by decide) (fun h1 => absurd h1 (by decide)) (fun _ => ?_)
      refine lv_aload_n hx hb dL_act_219 rfl (lv_at hl 6 rfl) ?_
      refine lv_iload_n hx hb dL_act_220 rfl (lv_at hl 4 rfl) ?_
      refine lv_iload hx hb dL_act_221 (lv_at hl 3 rfl) ?_
      have rc9 := rec9 hK hH hI.1 hI.2.1 (q := (RX4, TX4, 2)) rfl
      refine cyV S (c_X4_plant hI hOm hr6 hn9 hfm (by rw [hlen]; exact h40)) (cwV 2 hts gL_act_X4_plant rfl rfl rfl (by decide +kernel) ⟨Nat.le_of_ble_eq_true rfl, Nat.le_of_ble_eq_true rfl⟩) hK hH hX rc9 hS rfl hl.1 rfl (by simp [cat_rf, Value.category]) dL_act_223 ⟨Nat.le_of_ble_eq_true rfl, Nat.le_of_ble_eq_true rfl⟩ (fun v Z1 H locs hpost hH hS => ?_)
      obtain ⟨rfl, C1, U1, E1, a2, rfl, hx9, hg9, fra, hI⟩ := hpost
      obtain ⟨L, K, rfl, hce⟩ := Ext_open hx9
      have hc := hce _ _ _ hc
      refine lv_goto (tgt := 230) hx hb dL_act_226 (by decide) ?_
      refine lv_istore (lv' := [(9, .int (nI (inc zz (n9 : Int) (mpT φ T r) []).length)), (8, .int 1), (7, .int (nI n7)), (5, .int (nI q)), (4, .int (nI n9)), (3, .int (nI r)), (0, .ref o), (1, .ref sa)]) hx hb dL_act_230 hl (by decide) rfl (fun ls hl => ?_)
      refine lv_aload_n hx hb dL_act_232 rfl (lv_at hl 6 rfl) ?_
      refine lv_iload_n hx hb dL_act_233 rfl (lv_at hl 5 rfl) ?_
      refine lv_iload hx hb dL_act_234 (lv_at hl 4 rfl) ?_
      refine cVx S (c_X2_plant (row := nI r) (x := nI n9) hst hc) (cwV 2 hts gL_act_X2_plant rfl rfl rfl (by decide +kernel) ⟨Nat.le_of_ble_eq_true rfl, Nat.le_of_ble_eq_true rfl⟩) hK hH hX.1 (Hp_recv hK hH hc.1.1.1 hc.1.1.2 rfl) hS rfl hl.1 rfl (by simp [cat_rf, Value.category]) dL_act_236 ⟨Nat.le_of_ble_eq_true rfl, Nat.le_of_ble_eq_true rfl⟩ (fun E9 Z1 H locs ce q9 hpx hH hS hce hcv hcl => ?_) (fun v Z1 H locs hpost hH hS => ?_)
      · skip
        obtain ⟨hp, -⟩ := hpx
        rcases hp with ⟨-, h1⟩ | ⟨-, -, h1⟩ | ⟨-, r1, n1, h1, h2, h3⟩
        · rw [rowN_nI hr6] at h1; cases h1
        · rw [szN_nI hn9] at h1; cases h1
        · rw [rowN_nI hr6] at h1
          cases h1
          rw [szN_nI hn9] at h2
          cases h2
          rcases h3 with h3 | ⟨a1, h3⟩
          · exact absurd h40 h3
          · rw [hf] at h3; cases h3
      obtain ⟨r1, n1, a1, sz1, bi1, e1, e2, e3, e4, e5, e6, e7, e8, e9, L2, K2, si2, P2, rfl, hc2⟩ := hpost
      rw [rowN_nI hr6] at e1
      cases e1
      rw [szN_nI hn9] at e2
      cases e2
      subst e5
      obtain ⟨hJ2, hY2⟩ := JR_plant (a' := a2) hJ hr6 e6 e7 e8 e9 (fun b hb9 h9 => by
        obtain ⟨i, hi, hm⟩ := gids_mem.mp hb9
        exact fra (by rw [← h9]; exact (sT_at _ (hI0.2.2.2.2 i hi) (φ b) (by show φ b ∈ tids (mp φ (T i)); rw [mp_tids]; exact List.mem_map.mpr ⟨b, hm, rfl⟩)).1))
      rw [hinc] at hI
      have hI : SI Γ (U1, E1) sa ta (mpT (va_up φ a1 a2) (va_up T r (spl a1 (inc sz (n9 : Int) (T r) []) (.leaf ()) (.leaf ())))) (va_up zz a2 n9) (va_up ee a2 0) (tu + (inc sz (n9 : Int) (T r) []).length) := by rw [hY2]; exact hI
      refine lv_iload hx hb dL_act_239 (lv_at hl 0 rfl) ?_
      refine lv_icmp_ne (tgt := 253) hx hb dL_act_241 (by decide) (fun h1 => absurd h1 (fun h => h (by rw [hinc]))) (fun _ => ?_)
      refine lv_iload hx hb dL_act_244 (lv_at hl 1 rfl) ?_
      refine lv_if_eq (tgt := 253) hx hb dL_act_246 (by decide) (fun h1 => absurd h1 (by decide)) (fun _ => ?_)
      refine lv_iconst (v := 1) hx hb dL_act_249 (by decide) ?_
      refine lv_goto (tgt := 254) hx hb dL_act_250 (by decide) ?_
      refine W.widen (k := ((rmL 50 1010 40200) : Room).cells) (n := ((rmL 50 1010 40200) : Room).slots) (Nat.le_of_ble_eq_true rfl) (Nat.le_of_ble_eq_true rfl) ?_
      exact eZ S hr hlocks (Or.inr rfl) hH hS ⟨rfl, JX_up ⟨_, L2, K2, sz1, si2, P2, bi1, _, U1, E1, _, _, _, rfl, hc2, hI, hJ2⟩ (Nat.le_succ k)⟩ dL_act_254
    have m_sa := hI.1
    have e_sa := hI.2.1
    have m_ta := hI.2.2.1
    have e_ta := hI.2.2.2.1
    have hY := hI.2.2.2.2
    refine lv_aload_n hx hb dL_act_184 rfl (lv_at hl 6 rfl) ?_
    have rc9 := rec9 hK hH hI.1 hI.2.1 (q := (RX4, TX4, 2)) rfl
    refine cyV S (c_X4_all hI hOm.2.2.2 hh40) (cwV 0 hts gL_act_X4_all rfl rfl rfl (by decide +kernel) ⟨Nat.le_of_ble_eq_true rfl, Nat.le_of_ble_eq_true rfl⟩) hK hH hX rc9 hS rfl hl.1 rfl (by simp [cat_rf, Value.category]) dL_act_185 ⟨Nat.le_of_ble_eq_true rfl, Nat.le_of_ble_eq_true rfl⟩ (fun v Z1 H locs hpost hH hS => ?_)
    obtain ⟨rfl, rfl⟩ := hpost
    refine lv_bipush (v := 40) hx hb dL_act_188 (by decide +kernel) ?_
    refine lv_icmp_ge (tgt := 211) hx hb dL_act_190 (by decide) (fun h1 => ?_) (fun h1 => ?_)
    · skip
      have hno : ¬ ((gids T).length < 40 ∧ fnd sz (n9 : Int) (T r) = none) := fun h9 => by
        have := hOc.2.2.2
        rw [hlen] at h1
        exact absurd h1 (nI_ge h9.1 (by decide))
      refine lv_iconst (v := 0) hx hb dL_act_211 (by decide) ?_
      refine W.widen (k := 2) (n := 80) (Nat.le_of_ble_eq_true rfl) (Nat.le_of_ble_eq_true rfl) ?_
      exact kno hno L K U E hc hI H locs hH hS ls (lv_sub hl [1, 2, 3, 4, 5, 6] rfl)
    · skip
      have h40 : (gids T).length < 40 := Nat.lt_of_not_le (fun h9 => h1 (by rw [hlen]; exact nI_le h9 (by have := hOc.2.2.2; omega)))
      refine lv_aload_n hx hb dL_act_193 rfl (lv_at hl 6 rfl) ?_
      refine gM S hi4 hK hH m_sa e_sa 0 (by decide) f15 (v := .ref ta) rfl dL_act_194 ?_
      refine lv_iload_n hx hb dL_act_197 rfl (lv_at hl 4 rfl) ?_
      refine gQ S hK hH m_ta e_ta (j := r) rfl hr6 (by decide) (r := (rt (mpT φ T r))) rfl dL_act_198 ?_
      refine lv_iload hx hb dL_act_199 (lv_at hl 3 rfl) ?_
      refine cyS S (c_X4_has (hI.2.2.2.2 r hr6) (hz1 r hr6) (n := n9) hn9 (hw40 r _ hr6)) (va_cwS 2 hts gL_act_X4_has rfl rfl rfl (by decide +kernel) ⟨Nat.le_of_ble_eq_true rfl, Nat.le_of_ble_eq_true rfl⟩) hK hH hX hS rfl hl.1 rfl (by simp [cat_rf, Value.category]) dL_act_201 ⟨Nat.le_of_ble_eq_true rfl, Nat.le_of_ble_eq_true rfl⟩ (fun v Z1 H locs hpost hH hS => ?_)
      obtain ⟨rfl, C1, U1, E1, rfl, hx9, hg9⟩ := hpost
      obtain ⟨L, K, rfl, hce⟩ := Ext_open hx9
      have hc := hce _ _ _ hc
      have hI := SI_gr hI hg9
      generalize U1 = U at hI hH
      generalize E1 = E at hI hH
      cases hf : fnd sz (n9 : Int) (T r) with
      | none =>
        have hfm2 : fnd zz (n9 : Int) (mpT φ T r) = none := by rw [hfm, hf]; rfl
        rw [hfm2]
        show W p l e _ s m args below meth c H locs _ _ _ (F0 m 204 ls [.int 0])
        refine lv_if_ne (tgt := 211) hx hb dL_act_204 (by decide) (fun h1 => absurd h1 (fun h => h rfl)) (fun _ => ?_)
        refine lv_iconst (v := 1) hx hb dL_act_207 (by decide) ?_
        refine lv_goto (tgt := 212) hx hb dL_act_208 (by decide) ?_
        refine W.widen (k := 2) (n := 80) (Nat.le_of_ble_eq_true rfl) (Nat.le_of_ble_eq_true rfl) ?_
        exact kcan h40 hf L K U E hc hI H locs hH hS ls (lv_sub hl [1, 2, 3, 4, 5, 6] rfl)
      | some a1 =>
        have hfm2 : fnd zz (n9 : Int) (mpT φ T r) = some (φ a1) := by rw [hfm, hf]; rfl
        rw [hfm2]
        show W p l e _ s m args below meth c H locs _ _ _ (F0 m 204 ls [.int 1])
        refine lv_if_ne (tgt := 211) hx hb dL_act_204 (by decide) (fun _ => ?_) (fun h1 => absurd h1 (by decide))
        refine lv_iconst (v := 0) hx hb dL_act_211 (by decide) ?_
        refine W.widen (k := 2) (n := 80) (Nat.le_of_ble_eq_true rfl) (Nat.le_of_ble_eq_true rfl) ?_
        exact kno (fun h9 => by rw [hf] at h9; cases h9.2) L K U E hc hI H locs hH hS ls (lv_sub hl [1, 2, 3, 4, 5, 6] rfl)
  have k255 : ∀ (r n9 q n7 : Nat), r < 6 → n9 < 1000 → q < 6 → n7 < 1000 → ∀ (L : List Nat) (K : Nat → Nat) (U : List Nat) (E : Nat → va_E), CI Γ o T L K sz si P → SI Γ (U, E) sa ta (mpT φ T) zz ee tu → ∀ H locs, Hp D lo Γ ((L, K, sz, si, P, bi, tu), (U, E), V) H → va_S (lA lo) s.heap H locs → ∀ ls, lv_has ls 10 [(8, .int 1), (7, .int (nI n7)), (5, .int (nI q)), (4, .int (nI n9)), (3, .int (nI r)), (0, .ref o), (1, .ref sa)] → W p l e (rmL 50 1010 40200) s m args below meth c H locs 1 40 (MQ below (Qz D lo Γ (fun v Z' => v = some (.int 1) ∧ JX Γ o sa ta (k + 1) V Z')) args s ((rmL 50 1010 40200) : Room).cells ((rmL 50 1010 40200) : Room).slots (lA lo)) (F0 m 255 ls []) := by
    intro r n9 q n7 hr6 hn9 hq6 hn7 L K U E hc hI H locs hH hS ls hl
    have hfm := J_fnd hJ hr6 (n7 : Int)
    have hti : (nI n7).toInt = (n7 : Int) := nI_toInt (by omega)
    have m_sa := hI.1
    have e_sa := hI.2.1
    have m_ta := hI.2.2.1
    have e_ta := hI.2.2.2.1
    have hY := hI.2.2.2.2
    refine lv_aload_n hx hb dL_act_255 rfl (lv_at hl 6 rfl) ?_
    refine gM S hi4 hK hH m_sa e_sa 0 (by decide) f15 (v := .ref ta) rfl dL_act_256 ?_
    refine lv_iload_n hx hb dL_act_259 rfl (lv_at hl 4 rfl) ?_
    refine gQ S hK hH m_ta e_ta (j := r) rfl hr6 (by decide) (r := (rt (mpT φ T r))) rfl dL_act_260 ?_
    refine lv_iload hx hb dL_act_261 (lv_at hl 1 rfl) ?_
    refine cyS S (c_X4_has (hI.2.2.2.2 r hr6) (hz1 r hr6) (n := n7) hn7 (hw40 r _ hr6)) (va_cwS 2 hts gL_act_X4_has rfl rfl rfl (by decide +kernel) ⟨Nat.le_of_ble_eq_true rfl, Nat.le_of_ble_eq_true rfl⟩) hK hH hX hS rfl hl.1 rfl (by simp [cat_rf, Value.category]) dL_act_263 ⟨Nat.le_of_ble_eq_true rfl, Nat.le_of_ble_eq_true rfl⟩ (fun v Z1 H locs hpost hH hS => ?_)
    obtain ⟨rfl, C1, U1, E1, rfl, hx9, hg9⟩ := hpost
    obtain ⟨L, K, rfl, hce⟩ := Ext_open hx9
    have hc := hce _ _ _ hc
    have hI := SI_gr hI hg9
    generalize U1 = U at hI hH
    generalize E1 = E at hI hH
    cases hf : fnd sz (n7 : Int) (T r) with
    | none =>
      have hfm2 : fnd zz (n7 : Int) (mpT φ T r) = none := by rw [hfm, hf]; rfl
      rw [hfm2]
      show W p l e _ s m args below meth c H locs _ _ _ (F0 m 266 ls [.int 0])
      have m_sa := hI.1
      have e_sa := hI.2.1
      have m_ta := hI.2.2.1
      have e_ta := hI.2.2.2.1
      have hY := hI.2.2.2.2
      refine lv_istore (lv' := [(8, .int 0), (7, .int (nI n7)), (5, .int (nI q)), (4, .int (nI n9)), (3, .int (nI r)), (0, .ref o), (1, .ref sa)]) hx hb dL_act_266 hl (by decide) rfl (fun ls hl => ?_)
      refine lv_iload hx hb dL_act_268 (lv_at hl 0 rfl) ?_
      refine lv_if_eq (tgt := 283) hx hb dL_act_270 (by decide) (fun _ => ?_) (fun h1 => absurd (by decide) h1)
      refine lv_iconst (v := -1) hx hb dL_act_283 (by decide) ?_
      refine lv_istore (lv' := [(9, .int (-1)), (8, .int 0), (7, .int (nI n7)), (5, .int (nI q)), (4, .int (nI n9)), (3, .int (nI r)), (0, .ref o), (1, .ref sa)]) hx hb dL_act_284 hl (by decide) rfl (fun ls hl => ?_)
      refine lv_aload_n hx hb dL_act_286 rfl (lv_at hl 6 rfl) ?_
      refine lv_iload_n hx hb dL_act_287 rfl (lv_at hl 5 rfl) ?_
      refine lv_iload hx hb dL_act_288 (lv_at hl 2 rfl) ?_
      refine cVx S (c_X2_eat (row := nI r) (x := nI n7) hst hc) (cwV 2 hts gL_act_X2_eat rfl rfl rfl (by decide +kernel) ⟨Nat.le_of_ble_eq_true rfl, Nat.le_of_ble_eq_true rfl⟩) hK hH hX.1 (Hp_recv hK hH hc.1.1.1 hc.1.1.2 rfl) hS rfl hl.1 rfl (by simp [cat_rf, Value.category]) dL_act_290 ⟨Nat.le_of_ble_eq_true rfl, Nat.le_of_ble_eq_true rfl⟩ (fun E9 Z1 H locs ce q9 hpx hH hS hce hcv hcl => ?_) (fun v Z1 H locs hpost hH hS => ?_)
      · skip
        have hE9 : E9 = "java/lang/IllegalStateException" ∧ Z1 = ((L, K, sz, si, P, bi, tu), (U, E), V) := by
          obtain ⟨hp, hz⟩ := hpx
          refine ⟨?_, hz⟩
          rcases hp with ⟨-, h1⟩ | ⟨h1, -⟩
          · rw [rowN_nI hr6] at h1; cases h1
          · exact h1
        obtain ⟨rfl, rfl⟩ := hE9
        refine catS (pre := [(116, 254, 495, 73)]) (suf := [(309, 362, 495, 73), (363, 430, 495, 73), (431, 453, 495, 73), (454, 494, 495, 73)]) (a := 255) (b := 308) (h := 495) (c1 := 73) S hX ht (by decide) (by decide) (by decide) (by simp [xcl]) hlink hce hcv hcl ?_
        refine lv_astore (lv' := [(9, .ref q9), (8, .int 0), (7, .int (nI n7)), (5, .int (nI q)), (4, .int (nI n9)), (3, .int (nI r)), (0, .ref o), (1, .ref sa)]) hx hb dL_act_495 hl (by decide) rfl (fun ls hl => ?_)
        refine lv_iload hx hb dL_act_497 (lv_at hl 1 rfl) ?_
        refine lv_if_ne (tgt := 506) hx hb dL_act_499 (by decide) (fun h1 => absurd h1 (fun h => h rfl)) (fun _ => ?_)
        refine lv_iconst (v := 1) hx hb dL_act_502 (by decide) ?_
        refine lv_goto (tgt := 507) hx hb dL_act_503 (by decide) ?_
        refine W.widen (k := ((rmL 50 1010 40200) : Room).cells) (n := ((rmL 50 1010 40200) : Room).slots) (Nat.le_of_ble_eq_true rfl) (Nat.le_of_ble_eq_true rfl) ?_
        exact eZ S hr hlocks (Or.inr rfl) hH hS ⟨rfl, JX_up ⟨T, L, K, sz, si, P, bi, tu, U, E, zz, ee, φ, rfl, hc, hI, hJ⟩ (Nat.le_succ k)⟩ dL_act_507
      obtain ⟨r1, a1, e1, e2, -⟩ := hpost
      rw [rowN_nI hr6] at e1
      cases e1
      rw [hti, hf] at e2
      cases e2
    | some a1 =>
      have hfm2 : fnd zz (n7 : Int) (mpT φ T r) = some (φ a1) := by rw [hfm, hf]; rfl
      rw [hfm2]
      show W p l e _ s m args below meth c H locs _ _ _ (F0 m 266 ls [.int 1])
      have ha1 := (fnd_mem _ _ hf).1
      obtain ⟨j1, j2, j3⟩ := J_spz hJ hOc hr6 ha1
      have m_sa := hI.1
      have e_sa := hI.2.1
      have m_ta := hI.2.2.1
      have e_ta := hI.2.2.2.1
      have hY := hI.2.2.2.2
      refine lv_istore (lv' := [(8, .int 1), (7, .int (nI n7)), (5, .int (nI q)), (4, .int (nI n9)), (3, .int (nI r)), (0, .ref o), (1, .ref sa)]) hx hb dL_act_266 hl (by decide) rfl (fun ls hl => ?_)
      refine lv_iload hx hb dL_act_268 (lv_at hl 0 rfl) ?_
      refine lv_if_eq (tgt := 283) hx hb dL_act_270 (by decide) (fun h1 => absurd h1 (by decide)) (fun _ => ?_)
      refine lv_aload_n hx hb dL_act_273 rfl (lv_at hl 6 rfl) ?_
      refine lv_iload_n hx hb dL_act_274 rfl (lv_at hl 4 rfl) ?_
      refine lv_iload hx hb dL_act_275 (lv_at hl 1 rfl) ?_
      have rc9 := rec9 hK hH hI.1 hI.2.1 (q := (RX4, TX4, 2)) rfl
      refine cyV S (c_X4_eat hI hOm hr6 hn7 hfm2) (cwV 2 hts gL_act_X4_eat rfl rfl rfl (by decide +kernel) ⟨Nat.le_of_ble_eq_true rfl, Nat.le_of_ble_eq_true rfl⟩) hK hH hX rc9 hS rfl hl.1 rfl (by simp [cat_rf, Value.category]) dL_act_277 ⟨Nat.le_of_ble_eq_true rfl, Nat.le_of_ble_eq_true rfl⟩ (fun v Z1 H locs hpost hH hS => ?_)
      obtain ⟨rfl, C1, U1, E1, rfl, hx9, hg9, hI⟩ := hpost
      obtain ⟨L, K, rfl, hce⟩ := Ext_open hx9
      have hc := hce _ _ _ hc
      refine lv_goto (tgt := 284) hx hb dL_act_280 (by decide) ?_
      refine lv_istore (lv' := [(9, .int (nI (zof (mpT φ T r) (φ a1)).2.2.2.length)), (8, .int 1), (7, .int (nI n7)), (5, .int (nI q)), (4, .int (nI n9)), (3, .int (nI r)), (0, .ref o), (1, .ref sa)]) hx hb dL_act_284 hl (by decide) rfl (fun ls hl => ?_)
      refine lv_aload_n hx hb dL_act_286 rfl (lv_at hl 6 rfl) ?_
      refine lv_iload_n hx hb dL_act_287 rfl (lv_at hl 5 rfl) ?_
      refine lv_iload hx hb dL_act_288 (lv_at hl 2 rfl) ?_
      refine cVx S (c_X2_eat (row := nI r) (x := nI n7) hst hc) (cwV 2 hts gL_act_X2_eat rfl rfl rfl (by decide +kernel) ⟨Nat.le_of_ble_eq_true rfl, Nat.le_of_ble_eq_true rfl⟩) hK hH hX.1 (Hp_recv hK hH hc.1.1.1 hc.1.1.2 rfl) hS rfl hl.1 rfl (by simp [cat_rf, Value.category]) dL_act_290 ⟨Nat.le_of_ble_eq_true rfl, Nat.le_of_ble_eq_true rfl⟩ (fun E9 Z1 H locs ce q9 hpx hH hS hce hcv hcl => ?_) (fun v Z1 H locs hpost hH hS => ?_)
      · skip
        obtain ⟨hp, -⟩ := hpx
        rcases hp with ⟨-, h1⟩ | ⟨-, r1, h1, h2⟩
        · rw [rowN_nI hr6] at h1; cases h1
        · rw [rowN_nI hr6] at h1
          cases h1
          rw [hti, hf] at h2
          cases h2
      obtain ⟨r1, a2, e1, e2, e3, L2, K2, si2, P2, rfl, hc2⟩ := hpost
      rw [rowN_nI hr6] at e1
      cases e1
      rw [hti, hf] at e2
      cases e2
      subst e3
      have hJ2 := JR_eat hJ hr6 ha1
      have hI : SI Γ (U1, E1) sa ta (mpT φ (va_up T r (spz (zof (T r) a1)))) zz (va_up ee (φ a1) (ee (φ a1) + 1)) (tu + (zof (T r) a1).2.2.2.length) := by
        have q1 : mpT φ (va_up T r (spz (zof (T r) a1))) = va_up (mpT φ T) r (spz (zof (mp φ (T r)) (φ a1))) := by rw [j2]; exact va_mp
        rw [q1, ← j3]
        exact hI
      refine lv_iload hx hb dL_act_293 (lv_at hl 0 rfl) ?_
      refine lv_icmp_ne (tgt := 307) hx hb dL_act_295 (by decide) (fun h1 => absurd h1 (fun h => h (congrArg nI j3.symm))) (fun _ => ?_)
      refine lv_iload hx hb dL_act_298 (lv_at hl 1 rfl) ?_
      refine lv_if_eq (tgt := 307) hx hb dL_act_300 (by decide) (fun h1 => absurd h1 (by decide)) (fun _ => ?_)
      refine lv_iconst (v := 1) hx hb dL_act_303 (by decide) ?_
      refine lv_goto (tgt := 308) hx hb dL_act_304 (by decide) ?_
      refine W.widen (k := ((rmL 50 1010 40200) : Room).cells) (n := ((rmL 50 1010 40200) : Room).slots) (Nat.le_of_ble_eq_true rfl) (Nat.le_of_ble_eq_true rfl) ?_
      exact eZ S hr hlocks (Or.inr rfl) hH hS ⟨rfl, ⟨_, L2, K2, sz, si2, P2, _, _, U1, E1, _, _, _, rfl, hc2, hI, hJ2⟩⟩ dL_act_308
  have k309 : ∀ (r n9 q n7 : Nat), r < 6 → n9 < 1000 → q < 6 → n7 < 1000 → ∀ (L : List Nat) (K : Nat → Nat) (U : List Nat) (E : Nat → va_E), CI Γ o T L K sz si P → SI Γ (U, E) sa ta (mpT φ T) zz ee tu → ∀ H locs, Hp D lo Γ ((L, K, sz, si, P, bi, tu), (U, E), V) H → va_S (lA lo) s.heap H locs → ∀ ls, lv_has ls 10 [(8, .int 1), (7, .int (nI n7)), (5, .int (nI q)), (4, .int (nI n9)), (3, .int (nI r)), (0, .ref o), (1, .ref sa)] → W p l e (rmL 50 1010 40200) s m args below meth c H locs 1 40 (MQ below (Qz D lo Γ (fun v Z' => v = some (.int 1) ∧ JX Γ o sa ta (k + 1) V Z')) args s ((rmL 50 1010 40200) : Room).cells ((rmL 50 1010 40200) : Room).slots (lA lo)) (F0 m 309 ls []) := by
    intro r n9 q n7 hr6 hn9 hq6 hn7 L K U E hc hI H locs hH hS ls hl
    have hfm := J_fnd hJ hr6 (n7 : Int)
    have hti : (nI n7).toInt = (n7 : Int) := nI_toInt (by omega)
    have m_sa := hI.1
    have e_sa := hI.2.1
    have m_ta := hI.2.2.1
    have e_ta := hI.2.2.2.1
    have hY := hI.2.2.2.2
    refine lv_aload_n hx hb dL_act_309 rfl (lv_at hl 6 rfl) ?_
    refine gM S hi4 hK hH m_sa e_sa 0 (by decide) f15 (v := .ref ta) rfl dL_act_310 ?_
    refine lv_iload_n hx hb dL_act_313 rfl (lv_at hl 4 rfl) ?_
    refine gQ S hK hH m_ta e_ta (j := r) rfl hr6 (by decide) (r := (rt (mpT φ T r))) rfl dL_act_314 ?_
    refine lv_iload hx hb dL_act_315 (lv_at hl 1 rfl) ?_
    refine cyS S (c_X4_has (hI.2.2.2.2 r hr6) (hz1 r hr6) (n := n7) hn7 (hw40 r _ hr6)) (va_cwS 2 hts gL_act_X4_has rfl rfl rfl (by decide +kernel) ⟨Nat.le_of_ble_eq_true rfl, Nat.le_of_ble_eq_true rfl⟩) hK hH hX hS rfl hl.1 rfl (by simp [cat_rf, Value.category]) dL_act_317 ⟨Nat.le_of_ble_eq_true rfl, Nat.le_of_ble_eq_true rfl⟩ (fun v Z1 H locs hpost hH hS => ?_)
    obtain ⟨rfl, C1, U1, E1, rfl, hx9, hg9⟩ := hpost
    obtain ⟨L, K, rfl, hce⟩ := Ext_open hx9
    have hc := hce _ _ _ hc
    have hI := SI_gr hI hg9
    generalize U1 = U at hI hH
    generalize E1 = E at hI hH
    cases hf : fnd sz (n7 : Int) (T r) with
    | none =>
      have hfm2 : fnd zz (n7 : Int) (mpT φ T r) = none := by rw [hfm, hf]; rfl
      rw [hfm2]
      show W p l e _ s m args below meth c H locs _ _ _ (F0 m 320 ls [.int 0])
      have m_sa := hI.1
      have e_sa := hI.2.1
      have m_ta := hI.2.2.1
      have e_ta := hI.2.2.2.1
      have hY := hI.2.2.2.2
      refine lv_istore (lv' := [(8, .int 0), (7, .int (nI n7)), (5, .int (nI q)), (4, .int (nI n9)), (3, .int (nI r)), (0, .ref o), (1, .ref sa)]) hx hb dL_act_320 hl (by decide) rfl (fun ls hl => ?_)
      refine lv_iload hx hb dL_act_322 (lv_at hl 0 rfl) ?_
      refine lv_if_eq (tgt := 337) hx hb dL_act_324 (by decide) (fun _ => ?_) (fun h1 => absurd (by decide) h1)
      refine lv_iconst (v := -1) hx hb dL_act_337 (by decide) ?_
      refine lv_istore (lv' := [(9, .int (-1)), (8, .int 0), (7, .int (nI n7)), (5, .int (nI q)), (4, .int (nI n9)), (3, .int (nI r)), (0, .ref o), (1, .ref sa)]) hx hb dL_act_338 hl (by decide) rfl (fun ls hl => ?_)
      refine lv_aload_n hx hb dL_act_340 rfl (lv_at hl 6 rfl) ?_
      refine lv_iload_n hx hb dL_act_341 rfl (lv_at hl 5 rfl) ?_
      refine lv_iload hx hb dL_act_342 (lv_at hl 2 rfl) ?_
      refine cVx S (c_X2_pick (row := nI r) (x := nI n7) hst hc) (cwV 2 hts gL_act_X2_pick rfl rfl rfl (by decide +kernel) ⟨Nat.le_of_ble_eq_true rfl, Nat.le_of_ble_eq_true rfl⟩) hK hH hX.1 (Hp_recv hK hH hc.1.1.1 hc.1.1.2 rfl) hS rfl hl.1 rfl (by simp [cat_rf, Value.category]) dL_act_344 ⟨Nat.le_of_ble_eq_true rfl, Nat.le_of_ble_eq_true rfl⟩ (fun E9 Z1 H locs ce q9 hpx hH hS hce hcv hcl => ?_) (fun v Z1 H locs hpost hH hS => ?_)
      · skip
        have hE9 : E9 = "java/lang/IllegalStateException" ∧ Z1 = ((L, K, sz, si, P, bi, tu), (U, E), V) := by
          obtain ⟨hp, hz⟩ := hpx
          refine ⟨?_, hz⟩
          rcases hp with ⟨-, h1⟩ | ⟨h1, -⟩
          · rw [rowN_nI hr6] at h1; cases h1
          · exact h1
        obtain ⟨rfl, rfl⟩ := hE9
        refine catS (pre := [(116, 254, 495, 73), (255, 308, 495, 73)]) (suf := [(363, 430, 495, 73), (431, 453, 495, 73), (454, 494, 495, 73)]) (a := 309) (b := 362) (h := 495) (c1 := 73) S hX ht (by decide) (by decide) (by decide) (by simp [xcl]) hlink hce hcv hcl ?_
        refine lv_astore (lv' := [(9, .ref q9), (8, .int 0), (7, .int (nI n7)), (5, .int (nI q)), (4, .int (nI n9)), (3, .int (nI r)), (0, .ref o), (1, .ref sa)]) hx hb dL_act_495 hl (by decide) rfl (fun ls hl => ?_)
        refine lv_iload hx hb dL_act_497 (lv_at hl 1 rfl) ?_
        refine lv_if_ne (tgt := 506) hx hb dL_act_499 (by decide) (fun h1 => absurd h1 (fun h => h rfl)) (fun _ => ?_)
        refine lv_iconst (v := 1) hx hb dL_act_502 (by decide) ?_
        refine lv_goto (tgt := 507) hx hb dL_act_503 (by decide) ?_
        refine W.widen (k := ((rmL 50 1010 40200) : Room).cells) (n := ((rmL 50 1010 40200) : Room).slots) (Nat.le_of_ble_eq_true rfl) (Nat.le_of_ble_eq_true rfl) ?_
        exact eZ S hr hlocks (Or.inr rfl) hH hS ⟨rfl, JX_up ⟨T, L, K, sz, si, P, bi, tu, U, E, zz, ee, φ, rfl, hc, hI, hJ⟩ (Nat.le_succ k)⟩ dL_act_507
      obtain ⟨r1, a1, L9, R9, e1, e2, -⟩ := hpost
      rw [rowN_nI hr6] at e1
      cases e1
      rw [hti, hf] at e2
      cases e2
    | some a1 =>
      have hfm2 : fnd zz (n7 : Int) (mpT φ T r) = some (φ a1) := by rw [hfm, hf]; rfl
      rw [hfm2]
      show W p l e _ s m args below meth c H locs _ _ _ (F0 m 320 ls [.int 1])
      have ha1 := (fnd_mem _ _ hf).1
      obtain ⟨j1, j2, j3⟩ := J_spz hJ hOc hr6 ha1
      have m_sa := hI.1
      have e_sa := hI.2.1
      have m_ta := hI.2.2.1
      have e_ta := hI.2.2.2.1
      have hY := hI.2.2.2.2
      refine lv_istore (lv' := [(8, .int 1), (7, .int (nI n7)), (5, .int (nI q)), (4, .int (nI n9)), (3, .int (nI r)), (0, .ref o), (1, .ref sa)]) hx hb dL_act_320 hl (by decide) rfl (fun ls hl => ?_)
      refine lv_iload hx hb dL_act_322 (lv_at hl 0 rfl) ?_
      refine lv_if_eq (tgt := 337) hx hb dL_act_324 (by decide) (fun h1 => absurd h1 (by decide)) (fun _ => ?_)
      refine lv_aload_n hx hb dL_act_327 rfl (lv_at hl 6 rfl) ?_
      refine lv_iload_n hx hb dL_act_328 rfl (lv_at hl 4 rfl) ?_
      refine lv_iload hx hb dL_act_329 (lv_at hl 1 rfl) ?_
      obtain ⟨L9, R9, hsp, -, htd⟩ := spz_rt ha1
      have hspm : spz (zof (mpT φ T r) (φ a1)) = .branch (φ a1) (mp φ L9) (mp φ R9) := by rw [show spz (zof (mpT φ T r) (φ a1)) = mp φ (spz (zof (T r) a1)) from j2, hsp]; rfl
      have hnL : ((tids L9).map φ).Nodup := by
        have q1 := JR_nd hJ hOc hr6
        rw [← htd, List.map_append, List.nodup_append] at q1
        exact q1.1
      have rc9 := rec9 hK hH hI.1 hI.2.1 (q := (RX4, TX4, 2)) rfl
      refine cyV S (c_X4_pick hI hOm hr6 hn7 hfm2 hspm) (cwV 2 hts gL_act_X4_pick rfl rfl rfl (by decide +kernel) ⟨Nat.le_of_ble_eq_true rfl, Nat.le_of_ble_eq_true rfl⟩) hK hH hX rc9 hS rfl hl.1 rfl (by simp [cat_rf, Value.category]) dL_act_331 ⟨Nat.le_of_ble_eq_true rfl, Nat.le_of_ble_eq_true rfl⟩ (fun v Z1 H locs hpost hH hS => ?_)
      obtain ⟨rfl, C1, U1, E1, rfl, hx9, hg9, hI⟩ := hpost
      obtain ⟨L, K, rfl, hce⟩ := Ext_open hx9
      have hc := hce _ _ _ hc
      refine lv_goto (tgt := 338) hx hb dL_act_334 (by decide) ?_
      refine lv_istore (lv' := [(9, .int (nI (ee (φ a1)))), (8, .int 1), (7, .int (nI n7)), (5, .int (nI q)), (4, .int (nI n9)), (3, .int (nI r)), (0, .ref o), (1, .ref sa)]) hx hb dL_act_338 hl (by decide) rfl (fun ls hl => ?_)
      refine lv_aload_n hx hb dL_act_340 rfl (lv_at hl 6 rfl) ?_
      refine lv_iload_n hx hb dL_act_341 rfl (lv_at hl 5 rfl) ?_
      refine lv_iload hx hb dL_act_342 (lv_at hl 2 rfl) ?_
      refine cVx S (c_X2_pick (row := nI r) (x := nI n7) hst hc) (cwV 2 hts gL_act_X2_pick rfl rfl rfl (by decide +kernel) ⟨Nat.le_of_ble_eq_true rfl, Nat.le_of_ble_eq_true rfl⟩) hK hH hX.1 (Hp_recv hK hH hc.1.1.1 hc.1.1.2 rfl) hS rfl hl.1 rfl (by simp [cat_rf, Value.category]) dL_act_344 ⟨Nat.le_of_ble_eq_true rfl, Nat.le_of_ble_eq_true rfl⟩ (fun E9 Z1 H locs ce q9 hpx hH hS hce hcv hcl => ?_) (fun v Z1 H locs hpost hH hS => ?_)
      · skip
        obtain ⟨hp, -⟩ := hpx
        rcases hp with ⟨-, h1⟩ | ⟨-, r1, h1, h2⟩
        · rw [rowN_nI hr6] at h1; cases h1
        · rw [rowN_nI hr6] at h1
          cases h1
          rw [hti, hf] at h2
          cases h2
      obtain ⟨r1, a2, L8, R8, e1, e2, e3, e4, L2, K2, si2, P2, rfl, hc2⟩ := hpost
      rw [rowN_nI hr6] at e1
      cases e1
      rw [hti, hf] at e2
      cases e2
      rw [hsp] at e3
      cases e3
      subst e4
      have hJ2 : JR (va_up T r (jn L9 R9)) sz bi zz ee φ k := JR_sub hJ (gids_up1 hr6 (fun b hb9 => by
        have q1 : (tids L9).Nodup := nd_map hnL
        rw [jn_tids q1] at hb9
        rw [← htd]
        rcases List.mem_append.mp hb9 with h | h
        · simp [h]
        · simp [h])) (up6 hJ.2.2.2 hr6) (Nat.le_refl _)
      have hI : SI Γ (U1, E1) sa ta (mpT φ (va_up T r (jn L9 R9))) zz ee (tu + (zof (T r) a1).2.2.2.length + appN L9) := by
        have q1 : mpT φ (va_up T r (jn L9 R9)) = va_up (mpT φ T) r (jn (mp φ L9) (mp φ R9)) := by rw [jn_mp hnL]; exact va_mp
        rw [q1, ← j3, ← appN_mp (φ := φ) hnL]
        exact hI
      refine lv_iload hx hb dL_act_347 (lv_at hl 0 rfl) ?_
      refine lv_icmp_ne (tgt := 361) hx hb dL_act_349 (by decide) (fun h1 => absurd h1 (fun h => h (congrArg nI ((JR_at hJ hr6).2.1 a1 ha1).symm))) (fun _ => ?_)
      refine lv_iload hx hb dL_act_352 (lv_at hl 1 rfl) ?_
      refine lv_if_eq (tgt := 361) hx hb dL_act_354 (by decide) (fun h1 => absurd h1 (by decide)) (fun _ => ?_)
      refine lv_iconst (v := 1) hx hb dL_act_357 (by decide) ?_
      refine lv_goto (tgt := 362) hx hb dL_act_358 (by decide) ?_
      refine W.widen (k := ((rmL 50 1010 40200) : Room).cells) (n := ((rmL 50 1010 40200) : Room).slots) (Nat.le_of_ble_eq_true rfl) (Nat.le_of_ble_eq_true rfl) ?_
      exact eZ S hr hlocks (Or.inr rfl) hH hS ⟨rfl, JX_up ⟨_, L2, K2, sz, si2, P2, _, _, U1, E1, _, _, _, rfl, hc2, hI, hJ2⟩ (Nat.le_succ k)⟩ dL_act_362
  have k363 : ∀ (r n9 q n7 : Nat), r < 6 → n9 < 1000 → q < 6 → n7 < 1000 → ∀ (L : List Nat) (K : Nat → Nat) (U : List Nat) (E : Nat → va_E), CI Γ o T L K sz si P → SI Γ (U, E) sa ta (mpT φ T) zz ee tu → ∀ H locs, Hp D lo Γ ((L, K, sz, si, P, bi, tu), (U, E), V) H → va_S (lA lo) s.heap H locs → ∀ ls, lv_has ls 10 [(8, .int 1), (7, .int (nI n7)), (5, .int (nI q)), (4, .int (nI n9)), (3, .int (nI r)), (0, .ref o), (1, .ref sa)] → W p l e (rmL 50 1010 40200) s m args below meth c H locs 1 40 (MQ below (Qz D lo Γ (fun v Z' => v = some (.int 1) ∧ JX Γ o sa ta (k + 1) V Z')) args s ((rmL 50 1010 40200) : Room).cells ((rmL 50 1010 40200) : Room).slots (lA lo)) (F0 m 363 ls []) := by
    intro r n9 q n7 hr6 hn9 hq6 hn7 L K U E hc hI H locs hH hS ls hl
    have hti : rowN (nI r) = some r := rowN_nI hr6
    have htq : rowN (nI q) = some q := rowN_nI hq6
    have kno : ¬ (r ≠ q ∧ T q = .leaf ()) → ∀ (L : List Nat) (K : Nat → Nat) (U : List Nat) (E : Nat → va_E), CI Γ o T L K sz si P → SI Γ (U, E) sa ta (mpT φ T) zz ee tu → ∀ H locs, Hp D lo Γ ((L, K, sz, si, P, bi, tu), (U, E), V) H → va_S (lA lo) s.heap H locs → ∀ ls, lv_has ls 10 [(7, .int (nI n7)), (5, .int (nI q)), (4, .int (nI n9)), (3, .int (nI r)), (0, .ref o), (1, .ref sa)] → W p l e (rmL 50 1010 40200) s m args below meth c H locs 1 40 (MQ below (Qz D lo Γ (fun v Z' => v = some (.int 1) ∧ JX Γ o sa ta (k + 1) V Z')) args s ((rmL 50 1010 40200) : Room).cells ((rmL 50 1010 40200) : Room).slots (lA lo)) (F0 m 384 ls [.int 0]) := by
      intro hno
      intro L K U E hc hI H locs hH hS ls hl
      have m_sa := hI.1
      have e_sa := hI.2.1
      have m_ta := hI.2.2.1
      have e_ta := hI.2.2.2.1
      have hY := hI.2.2.2.2
      refine lv_istore (lv' := [(8, .int 0), (7, .int (nI n7)), (5, .int (nI q)), (4, .int (nI n9)), (3, .int (nI r)), (0, .ref o), (1, .ref sa)]) hx hb dL_act_384 hl (by decide) rfl (fun ls hl => ?_)
      refine lv_iload hx hb dL_act_386 (lv_at hl 0 rfl) ?_
      refine lv_if_eq (tgt := 403) hx hb dL_act_388 (by decide) (fun _ => ?_) (fun h1 => absurd (by decide) h1)
      refine lv_iconst (v := -1) hx hb dL_act_403 (by decide) ?_
      refine lv_istore (lv' := [(9, .int (-1)), (8, .int 0), (7, .int (nI n7)), (5, .int (nI q)), (4, .int (nI n9)), (3, .int (nI r)), (0, .ref o), (1, .ref sa)]) hx hb dL_act_404 hl (by decide) rfl (fun ls hl => ?_)
      refine lv_aload_n hx hb dL_act_406 rfl (lv_at hl 6 rfl) ?_
      refine lv_iload_n hx hb dL_act_407 rfl (lv_at hl 5 rfl) ?_
      refine lv_iload hx hb dL_act_408 (lv_at hl 4 rfl) ?_
      refine lv_iload hx hb dL_act_410 (lv_at hl 3 rfl) ?_
      refine cVx S (c_X2_split (row := nI r) (x := nI n9) (y := nI q) hst hc) (cwV 3 hts gL_act_X2_split rfl rfl rfl (by decide +kernel) ⟨Nat.le_of_ble_eq_true rfl, Nat.le_of_ble_eq_true rfl⟩) hK hH hX.1 (Hp_recv hK hH hc.1.1.1 hc.1.1.2 rfl) hS rfl hl.1 rfl (by simp [cat_rf, Value.category]) dL_act_412 ⟨Nat.le_of_ble_eq_true rfl, Nat.le_of_ble_eq_true rfl⟩ (fun E9 Z1 H locs ce q9 hpx hH hS hce hcv hcl => ?_) (fun v Z1 H locs hpost hH hS => ?_)
      · skip
        have hE9 : E9 = "java/lang/IllegalStateException" ∧ Z1 = ((L, K, sz, si, P, bi, tu), (U, E), V) := by
          obtain ⟨hp, hz⟩ := hpx
          refine ⟨?_, hz⟩
          rcases hp with ⟨-, h1⟩ | ⟨-, -, h1⟩ | ⟨h1, -⟩
          · rw [hti, htq] at h1; rcases h1 with h1 | h1 <;> cases h1
          · rw [szN_nI hn9] at h1; cases h1
          · exact h1
        obtain ⟨rfl, rfl⟩ := hE9
        refine catS (pre := [(116, 254, 495, 73), (255, 308, 495, 73), (309, 362, 495, 73)]) (suf := [(431, 453, 495, 73), (454, 494, 495, 73)]) (a := 363) (b := 430) (h := 495) (c1 := 73) S hX ht (by decide) (by decide) (by decide) (by simp [xcl]) hlink hce hcv hcl ?_
        refine lv_astore (lv' := [(9, .ref q9), (8, .int 0), (7, .int (nI n7)), (5, .int (nI q)), (4, .int (nI n9)), (3, .int (nI r)), (0, .ref o), (1, .ref sa)]) hx hb dL_act_495 hl (by decide) rfl (fun ls hl => ?_)
        refine lv_iload hx hb dL_act_497 (lv_at hl 1 rfl) ?_
        refine lv_if_ne (tgt := 506) hx hb dL_act_499 (by decide) (fun h1 => absurd h1 (fun h => h rfl)) (fun _ => ?_)
        refine lv_iconst (v := 1) hx hb dL_act_502 (by decide) ?_
        refine lv_goto (tgt := 507) hx hb dL_act_503 (by decide) ?_
        refine W.widen (k := ((rmL 50 1010 40200) : Room).cells) (n := ((rmL 50 1010 40200) : Room).slots) (Nat.le_of_ble_eq_true rfl) (Nat.le_of_ble_eq_true rfl) ?_
        exact eZ S hr hlocks (Or.inr rfl) hH hS ⟨rfl, JX_up ⟨T, L, K, sz, si, P, bi, tu, U, E, zz, ee, φ, rfl, hc, hI, hJ⟩ (Nat.le_succ k)⟩ dL_act_507
      obtain ⟨r1, q1, n1, e1, e2, e3, e4, e5, -⟩ := hpost
      rw [hti] at e1
      cases e1
      rw [htq] at e2
      cases e2
      exact absurd ⟨e4, e5⟩ hno
    have kcan : r ≠ q → T q = .leaf () → ∀ (L : List Nat) (K : Nat → Nat) (U : List Nat) (E : Nat → va_E), CI Γ o T L K sz si P → SI Γ (U, E) sa ta (mpT φ T) zz ee tu → ∀ H locs, Hp D lo Γ ((L, K, sz, si, P, bi, tu), (U, E), V) H → va_S (lA lo) s.heap H locs → ∀ ls, lv_has ls 10 [(7, .int (nI n7)), (5, .int (nI q)), (4, .int (nI n9)), (3, .int (nI r)), (0, .ref o), (1, .ref sa)] → W p l e (rmL 50 1010 40200) s m args below meth c H locs 1 40 (MQ below (Qz D lo Γ (fun v Z' => v = some (.int 1) ∧ JX Γ o sa ta (k + 1) V Z')) args s ((rmL 50 1010 40200) : Room).cells ((rmL 50 1010 40200) : Room).slots (lA lo)) (F0 m 384 ls [.int 1]) := by
      intro hrq hTq
      intro L K U E hc hI H locs hH hS ls hl
      have m_sa := hI.1
      have e_sa := hI.2.1
      have m_ta := hI.2.2.1
      have e_ta := hI.2.2.2.1
      have hY := hI.2.2.2.2
      have hYq : mpT φ T q = .leaf () := by show mp φ (T q) = _; rw [hTq]; rfl
      have hbl : blw zz (n9 : Int) (mpT φ T r) = (blw sz (n9 : Int) (T r)).map φ := blw_mp (JR_at hJ hr6).1
      have hI0 := hI
      refine lv_istore (lv' := [(8, .int 1), (7, .int (nI n7)), (5, .int (nI q)), (4, .int (nI n9)), (3, .int (nI r)), (0, .ref o), (1, .ref sa)]) hx hb dL_act_384 hl (by decide) rfl (fun ls hl => ?_)
      refine lv_iload hx hb dL_act_386 (lv_at hl 0 rfl) ?_
      refine lv_if_eq (tgt := 403) hx hb dL_act_388 (by decide) (fun h1 => absurd h1 (by decide)) (fun _ => ?_)
      refine lv_aload_n hx hb dL_act_391 rfl (lv_at hl 6 rfl) ?_
      refine lv_iload_n hx hb dL_act_392 rfl (lv_at hl 4 rfl) ?_
      refine lv_iload hx hb dL_act_393 (lv_at hl 3 rfl) ?_
      refine lv_iload hx hb dL_act_395 (lv_at hl 2 rfl) ?_
      have rc9 := rec9 hK hH hI.1 hI.2.1 (q := (RX4, TX4, 2)) rfl
      refine cyV S (c_X4_split hI hOm hr6 hq6 hrq hn9 hYq) (cwV 3 hts gL_act_X4_split rfl rfl rfl (by decide +kernel) ⟨Nat.le_of_ble_eq_true rfl, Nat.le_of_ble_eq_true rfl⟩) hK hH hX rc9 hS rfl hl.1 rfl (by simp [cat_rf, Value.category]) dL_act_397 ⟨Nat.le_of_ble_eq_true rfl, Nat.le_of_ble_eq_true rfl⟩ (fun v Z1 H locs hpost hH hS => ?_)
      obtain ⟨C1, U1, E1, rfl, hx9, hg9, hsp9⟩ := hpost
      obtain ⟨L, K, rfl, hce⟩ := Ext_open hx9
      have hc := hce _ _ _ hc
      have hsp8 : (∃ b L9 R9, (blw sz (n9 : Int) (T r)).getLast? = some b ∧ b ∈ tids (T r) ∧ spz (zof (T r) b) = .branch b L9 R9 ∧ v = some (.int (nI (tids R9).length)) ∧ SI Γ (U1, E1) sa ta (mpT φ (va_up (va_up T r (.branch b L9 (.leaf ()))) q R9)) zz ee (tu + (zof (T r) b).2.2.2.length)) ∨ ((blw sz (n9 : Int) (T r)).getLast? = none ∧ v = some (.int (nI (tids (T r)).length)) ∧ SI Γ (U1, E1) sa ta (mpT φ (va_up (va_up T r (.leaf ())) q (T r))) zz ee tu) := by
        rcases hsp9 with ⟨b2, L8, R8, f1, f2, f3, f4⟩ | ⟨f1, f3, f4⟩
        · rw [hbl, List.getLast?_map] at f1
          obtain ⟨b, g1, rfl⟩ := Option.map_eq_some_iff.mp f1
          have hb1 := blw_in (List.mem_of_getLast? g1)
          obtain ⟨L9, R9, hsp, -, -⟩ := spz_rt hb1
          obtain ⟨j1, j2, j3⟩ := J_spz hJ hOc hr6 hb1
          have f2 : spz (zof (mp φ (T r)) (φ b)) = .branch (φ b) L8 R8 := f2
          rw [j2, hsp] at f2
          injection f2 with h0 h1 h2
          subst h1
          subst h2
          have f4 : SI Γ (U1, E1) sa ta (va_up (va_up (mpT φ T) r (.branch (φ b) (mp φ L9) (.leaf ()))) q (mp φ R9)) zz ee (tu + (zof (mp φ (T r)) (φ b)).2.2.2.length) := f4
          rw [j3] at f4
          refine Or.inl ⟨b, L9, R9, g1, hb1, hsp, by rw [f3, mp_tids, List.length_map], ?_⟩
          have q1 : mpT φ (va_up (va_up T r (.branch b L9 (.leaf ()))) q R9) = va_up (va_up (mpT φ T) r (.branch (φ b) (mp φ L9) (.leaf ()))) q (mp φ R9) := va_mp.trans (congrArg (fun f => va_up f q (mp φ R9)) va_mp)
          rw [q1]
          exact f4
        · rw [hbl, List.getLast?_map] at f1
          have f1 := Option.map_eq_none_iff.mp f1
          refine Or.inr ⟨f1, by rw [f3]; show some (Value.int (nI (tids (mp φ (T r))).length)) = _; rw [mp_tids, List.length_map], ?_⟩
          have q1 : mpT φ (va_up (va_up T r (.leaf ())) q (T r)) = va_up (va_up (mpT φ T) r (.leaf ())) q (mp φ (T r)) := va_mp.trans (congrArg (fun f => va_up f q (mp φ (T r))) va_mp)
          rw [q1]
          exact f4
      have hv9 : ∃ n, v = some (.int (nI n)) := by rcases hsp8 with ⟨b, L9, R9, f1, f0, f2, f3, f4⟩ | ⟨f1, f3, f4⟩; exact ⟨_, f3⟩; exact ⟨_, f3⟩
      obtain ⟨nv, rfl⟩ := hv9
      refine lv_goto (tgt := 404) hx hb dL_act_400 (by decide) ?_
      refine lv_istore (lv' := [(9, .int (nI nv)), (8, .int 1), (7, .int (nI n7)), (5, .int (nI q)), (4, .int (nI n9)), (3, .int (nI r)), (0, .ref o), (1, .ref sa)]) hx hb dL_act_404 hl (by decide) rfl (fun ls hl => ?_)
      refine lv_aload_n hx hb dL_act_406 rfl (lv_at hl 6 rfl) ?_
      refine lv_iload_n hx hb dL_act_407 rfl (lv_at hl 5 rfl) ?_
      refine lv_iload hx hb dL_act_408 (lv_at hl 4 rfl) ?_
      refine lv_iload hx hb dL_act_410 (lv_at hl 3 rfl) ?_
      refine cVx S (c_X2_split (row := nI r) (x := nI n9) (y := nI q) hst hc) (cwV 3 hts gL_act_X2_split rfl rfl rfl (by decide +kernel) ⟨Nat.le_of_ble_eq_true rfl, Nat.le_of_ble_eq_true rfl⟩) hK hH hX.1 (Hp_recv hK hH hc.1.1.1 hc.1.1.2 rfl) hS rfl hl.1 rfl (by simp [cat_rf, Value.category]) dL_act_412 ⟨Nat.le_of_ble_eq_true rfl, Nat.le_of_ble_eq_true rfl⟩ (fun E9 Z1 H locs ce q9 hpx hH hS hce hcv hcl => ?_) (fun v Z1 H locs hpost hH hS => ?_)
      · skip
        obtain ⟨hp, -⟩ := hpx
        rcases hp with ⟨-, h1⟩ | ⟨-, -, h1⟩ | ⟨-, r1, q1, n1, h1, h2, h3, h4⟩
        · rw [hti, htq] at h1; rcases h1 with h1 | h1 <;> cases h1
        · rw [szN_nI hn9] at h1; cases h1
        · rw [hti] at h1
          cases h1
          rw [htq] at h2
          cases h2
          exact absurd ⟨hrq, hTq⟩ h4
      obtain ⟨r1, q1, n1, e1, e2, e3, e4, e5, -, e6⟩ := hpost
      rw [hti] at e1
      cases e1
      rw [htq] at e2
      cases e2
      rw [szN_nI hn9] at e3
      cases e3
      have fin9 : v = some (.int (nI nv)) ∧ JX Γ o sa ta k V Z1 := by
        rcases e6 with ⟨b, L9, R9, f1, f2, f3, L2, K2, si2, P2, rfl, hc2⟩ | ⟨f1, f3, L2, K2, si2, P2, rfl, hc2⟩ <;> rcases hsp8 with ⟨b3, L3, R3, g1, g0, g2, g3, g4⟩ | ⟨g1, g3, g4⟩
        · rw [g1] at f1
          cases f1
          rw [g2] at f2
          cases f2
          refine ⟨f3.trans g3.symm, _, L2, K2, sz, si2, P2, bi, _, U1, E1, zz, ee, φ, rfl, hc2, g4, JR_sub hJ (gids_up2 hr6 hq6 (fun b hb9 => Or.inl ?_)) (up6 (up6 hJ.2.2.2 hr6) hq6) (Nat.le_refl _)⟩
          rw [← spz_tids g0, g2, tids_branch]
          rcases hb9 with h | h
          · simp only [tids, List.mem_append, List.mem_cons, List.not_mem_nil, or_false] at h ⊢
            rcases h with h | h <;> simp [h]
          · simp [h]
        · rw [g1] at f1; cases f1
        · rw [g1] at f1; cases f1
        · refine ⟨f3.trans g3.symm, _, L2, K2, sz, si2, P2, bi, _, U1, E1, zz, ee, φ, rfl, hc2, g4, JR_sub hJ (gids_up2 hr6 hq6 (fun b hb9 => Or.inl ?_)) (up6 (up6 hJ.2.2.2 hr6) hq6) (Nat.le_refl _)⟩
          rcases hb9 with h | h
          · cases h
          · exact h
      obtain ⟨rfl, hfin⟩ := fin9
      refine lv_iload hx hb dL_act_415 (lv_at hl 0 rfl) ?_
      refine lv_icmp_ne (tgt := 429) hx hb dL_act_417 (by decide) (fun h1 => absurd h1 (fun h => h rfl)) (fun _ => ?_)
      refine lv_iload hx hb dL_act_420 (lv_at hl 1 rfl) ?_
      refine lv_if_eq (tgt := 429) hx hb dL_act_422 (by decide) (fun h1 => absurd h1 (by decide)) (fun _ => ?_)
      refine lv_iconst (v := 1) hx hb dL_act_425 (by decide) ?_
      refine lv_goto (tgt := 430) hx hb dL_act_426 (by decide) ?_
      refine W.widen (k := ((rmL 50 1010 40200) : Room).cells) (n := ((rmL 50 1010 40200) : Room).slots) (Nat.le_of_ble_eq_true rfl) (Nat.le_of_ble_eq_true rfl) ?_
      exact eZ S hr hlocks (Or.inr rfl) hH hS ⟨rfl, JX_up hfin (Nat.le_succ k)⟩ dL_act_430
    have m_sa := hI.1
    have e_sa := hI.2.1
    have m_ta := hI.2.2.1
    have e_ta := hI.2.2.2.1
    have hY := hI.2.2.2.2
    refine lv_aload_n hx hb dL_act_363 rfl (lv_at hl 6 rfl) ?_
    refine gM S hi4 hK hH m_sa e_sa 0 (by decide) f15 (v := .ref ta) rfl dL_act_364 ?_
    refine lv_iload hx hb dL_act_367 (lv_at hl 2 rfl) ?_
    rcases hTq : T q with u9 | ⟨k8, x8, y8⟩
    · skip
      have hYq : (fun i => rt (mpT φ T i)) q = none := by show rt (mp φ (T q)) = none; rw [hTq]; rfl
      refine gQ S hK hH m_ta e_ta (j := q) rfl hq6 (by decide) (r := none) hYq dL_act_369 ?_
      refine lv_ifnonnullN hx hb dL_act_370 ?_
      refine lv_iload hx hb dL_act_373 (lv_at hl 2 rfl) ?_
      refine lv_iload_n hx hb dL_act_375 rfl (lv_at hl 4 rfl) ?_
      refine lv_icmp_eq (tgt := 383) hx hb dL_act_376 (by decide) (fun h1 => ?_) (fun h1 => ?_)
      · skip
        have h1 : q = r := (nI_eq (by omega) (by omega)).mp h1
        refine lv_iconst (v := 0) hx hb dL_act_383 (by decide) ?_
        exact kno (fun h9 => h9.1 h1.symm) L K U E hc hI H locs hH hS ls (lv_sub hl [1, 2, 3, 4, 5, 6] rfl)
      · skip
        refine lv_iconst (v := 1) hx hb dL_act_379 (by decide) ?_
        refine lv_goto (tgt := 384) hx hb dL_act_380 (by decide) ?_
        exact kcan (fun h9 => h1 (by rw [h9])) hTq L K U E hc hI H locs hH hS ls (lv_sub hl [1, 2, 3, 4, 5, 6] rfl)
    · skip
      have hYq : (fun i => rt (mpT φ T i)) q = some (φ k8) := by show rt (mp φ (T q)) = _; rw [hTq]; rfl
      refine gQ S hK hH m_ta e_ta (j := q) rfl hq6 (by decide) (r := (some (φ k8))) hYq dL_act_369 ?_
      refine lv_ifnonnull hx hb dL_act_370 (tgt := 383) (by decide) ?_
      refine lv_iconst (v := 0) hx hb dL_act_383 (by decide) ?_
      exact kno (fun h9 => by rw [hTq] at h9; cases h9.2) L K U E hc hI H locs hH hS ls (lv_sub hl [1, 2, 3, 4, 5, 6] rfl)
  have k431 : ∀ (r n9 q n7 : Nat), r < 6 → n9 < 1000 → q < 6 → n7 < 1000 → ∀ (L : List Nat) (K : Nat → Nat) (U : List Nat) (E : Nat → va_E), CI Γ o T L K sz si P → SI Γ (U, E) sa ta (mpT φ T) zz ee tu → ∀ H locs, Hp D lo Γ ((L, K, sz, si, P, bi, tu), (U, E), V) H → va_S (lA lo) s.heap H locs → ∀ ls, lv_has ls 10 [(8, .int 1), (7, .int (nI n7)), (5, .int (nI q)), (4, .int (nI n9)), (3, .int (nI r)), (0, .ref o), (1, .ref sa)] → W p l e (rmL 50 1010 40200) s m args below meth c H locs 1 40 (MQ below (Qz D lo Γ (fun v Z' => v = some (.int 1) ∧ JX Γ o sa ta (k + 1) V Z')) args s ((rmL 50 1010 40200) : Room).cells ((rmL 50 1010 40200) : Room).slots (lA lo)) (F0 m 431 ls []) := by
    intro r n9 q n7 hr6 hn9 hq6 hn7 L K U E hc hI H locs hH hS ls hl
    have hti : rowN (nI r) = some r := rowN_nI hr6
    have htq : rowN (nI q) = some q := rowN_nI hq6
    have hmj : mayJ zz (mpT φ T r) (mpT φ T q) = mayJ sz (T r) (T q) := mayJ_mp (fun a ha => ha.elim (fun h => (JR_at hJ hr6).1 a h) (fun h => (JR_at hJ hq6).1 a h))
    have m_sa := hI.1
    have e_sa := hI.2.1
    have m_ta := hI.2.2.1
    have e_ta := hI.2.2.2.1
    have hY := hI.2.2.2.2
    refine lv_aload_n hx hb dL_act_431 rfl (lv_at hl 6 rfl) ?_
    refine lv_iload_n hx hb dL_act_432 rfl (lv_at hl 4 rfl) ?_
    refine lv_iload hx hb dL_act_433 (lv_at hl 2 rfl) ?_
    have rc9 := rec9 hK hH hI.1 hI.2.1 (q := (RX4, TX4, 2)) rfl
    refine cyV S (c_X4_fits hI hOm hr6 hq6) (cwV 2 hts gL_act_X4_fits rfl rfl rfl (by decide +kernel) ⟨Nat.le_of_ble_eq_true rfl, Nat.le_of_ble_eq_true rfl⟩) hK hH hX rc9 hS rfl hl.1 rfl (by simp [cat_rf, Value.category]) dL_act_435 ⟨Nat.le_of_ble_eq_true rfl, Nat.le_of_ble_eq_true rfl⟩ (fun v Z1 H locs hpost hH hS => ?_)
    obtain ⟨rfl, rfl⟩ := hpost
    rw [hmj]
    by_cases hcan : r ≠ q ∧ mayJ sz (T r) (T q) = true
    · skip
      rw [if_pos hcan]
      show W p l e _ s m args below meth c H locs _ _ _ (F0 m 438 ls [.int 1])
      refine lv_istore (lv' := [(8, .int 1), (7, .int (nI n7)), (5, .int (nI q)), (4, .int (nI n9)), (3, .int (nI r)), (0, .ref o), (1, .ref sa)]) hx hb dL_act_438 hl (by decide) rfl (fun ls hl => ?_)
      refine lv_aload_n hx hb dL_act_440 rfl (lv_at hl 5 rfl) ?_
      refine lv_iload_n hx hb dL_act_441 rfl (lv_at hl 4 rfl) ?_
      refine lv_iload hx hb dL_act_442 (lv_at hl 2 rfl) ?_
      refine cVx S (c_X2_canJoin (row := nI r) (x := nI q) hst hc) (cwV 2 hts gL_act_X2_canJoin rfl rfl rfl (by decide +kernel) ⟨Nat.le_of_ble_eq_true rfl, Nat.le_of_ble_eq_true rfl⟩) hK hH hX.1 (Hp_recv hK hH hc.1.1.1 hc.1.1.2 rfl) hS rfl hl.1 rfl (by simp [cat_rf, Value.category]) dL_act_444 ⟨Nat.le_of_ble_eq_true rfl, Nat.le_of_ble_eq_true rfl⟩ (fun E9 Z1 H locs ce q9 hpx hH hS hce hcv hcl => ?_) (fun v Z1 H locs hpost hH hS => ?_)
      · skip
        exact (PxJ_no hpx hti htq).elim
      have hv9 : v = some (.int 1) ∧ CSW Γ o T sz bi tu (U, E) V Z1 := by
        have h1 := hpost.2
        refine ⟨?_, h1.2⟩
        rw [h1.1]
        simp only [qj, hti, htq]
        rw [if_pos hcan]
      obtain ⟨rfl, L, K, si, P, rfl, hc⟩ := hv9
      refine lv_iload hx hb dL_act_447 (lv_at hl 0 rfl) ?_
      refine lv_icmp_eq (tgt := 454) hx hb dL_act_449 (by decide) (fun _ => ?_) (fun h1 => absurd rfl h1)
      refine lv_iload hx hb dL_act_454 (lv_at hl 0 rfl) ?_
      refine lv_if_eq (tgt := 469) hx hb dL_act_456 (by decide) (fun h1 => absurd h1 (by decide)) (fun _ => ?_)
      refine lv_aload_n hx hb dL_act_459 rfl (lv_at hl 6 rfl) ?_
      refine lv_iload_n hx hb dL_act_460 rfl (lv_at hl 4 rfl) ?_
      refine lv_iload hx hb dL_act_461 (lv_at hl 2 rfl) ?_
      have hnr : ((tids (T r)).map φ).Nodup := JR_nd hJ hOc hr6
      have rc9 := rec9 hK hH hI.1 hI.2.1 (q := (RX4, TX4, 2)) rfl
      refine cyV S (c_X4_join hI hOm hr6 hq6 hcan.1) (cwV 2 hts gL_act_X4_join rfl rfl rfl (by decide +kernel) ⟨Nat.le_of_ble_eq_true rfl, Nat.le_of_ble_eq_true rfl⟩) hK hH hX rc9 hS rfl hl.1 rfl (by simp [cat_rf, Value.category]) dL_act_463 ⟨Nat.le_of_ble_eq_true rfl, Nat.le_of_ble_eq_true rfl⟩ (fun v Z1 H locs hpost hH hS => ?_)
      obtain ⟨rfl, C1, U1, E1, rfl, hx9, hg9, hI⟩ := hpost
      obtain ⟨L, K, rfl, hce⟩ := Ext_open hx9
      have hc := hce _ _ _ hc
      refine lv_goto (tgt := 470) hx hb dL_act_466 (by decide) ?_
      refine lv_istore (lv' := [(9, .int (nI (tids (jn (mpT φ T r) (mpT φ T q))).length)), (8, .int 1), (7, .int (nI n7)), (5, .int (nI q)), (4, .int (nI n9)), (3, .int (nI r)), (0, .ref o), (1, .ref sa)]) hx hb dL_act_470 hl (by decide) rfl (fun ls hl => ?_)
      refine lv_aload_n hx hb dL_act_472 rfl (lv_at hl 6 rfl) ?_
      refine lv_iload_n hx hb dL_act_473 rfl (lv_at hl 5 rfl) ?_
      refine lv_iload hx hb dL_act_474 (lv_at hl 3 rfl) ?_
      refine cVx S (c_X2_join (row := nI r) (x := nI q) hst hc) (cwV 2 hts gL_act_X2_join rfl rfl rfl (by decide +kernel) ⟨Nat.le_of_ble_eq_true rfl, Nat.le_of_ble_eq_true rfl⟩) hK hH hX.1 (Hp_recv hK hH hc.1.1.1 hc.1.1.2 rfl) hS rfl hl.1 rfl (by simp [cat_rf, Value.category]) dL_act_476 ⟨Nat.le_of_ble_eq_true rfl, Nat.le_of_ble_eq_true rfl⟩ (fun E9 Z1 H locs ce q9 hpx hH hS hce hcv hcl => ?_) (fun v Z1 H locs hpost hH hS => ?_)
      · skip
        obtain ⟨hp, -⟩ := hpx
        rcases hp with ⟨-, h1⟩ | ⟨-, r1, q1, h1, h2, h3⟩
        · rw [hti, htq] at h1; rcases h1 with h1 | h1 <;> cases h1
        · rw [hti] at h1
          cases h1
          rw [htq] at h2
          cases h2
          exact absurd hcan h3
      obtain ⟨r1, q1, e1, e2, e3, e4, L2, K2, si2, P2, rfl, hc2⟩ := hpost
      rw [hti] at e1
      cases e1
      rw [htq] at e2
      cases e2
      subst e4
      have j1 : jn (mp φ (T r)) (mp φ (T q)) = mp φ (jn (T r) (T q)) := jn_mp hnr
      have jl : (tids (jn (mpT φ T r) (mpT φ T q))).length = (tids (jn (T r) (T q))).length := by show (tids (jn (mp φ (T r)) (mp φ (T q)))).length = _; rw [j1, mp_tids, List.length_map]
      have hJ2 : JR (va_up (va_up T r (jn (T r) (T q))) q (.leaf ())) sz bi zz ee φ k := JR_sub hJ (gids_up2 hr6 hq6 (fun b hb9 => by
        rw [jn_tids (SO_at hOc hr6).1] at hb9
        rcases hb9 with h | h
        · exact List.mem_append.mp h
        · cases h)) (up6 (up6 hJ.2.2.2 hr6) hq6) (Nat.le_refl _)
      have hI : SI Γ (U1, E1) sa ta (mpT φ (va_up (va_up T r (jn (T r) (T q))) q (.leaf ()))) zz ee (tu + appN (T r)) := by
        have q1 : mpT φ (va_up (va_up T r (jn (T r) (T q))) q (.leaf ())) = va_up (va_up (mpT φ T) r (jn (mp φ (T r)) (mp φ (T q)))) q (.leaf ()) := by rw [j1]; exact va_mp.trans (congrArg (fun f => va_up f q (.leaf ())) va_mp)
        rw [q1, ← appN_mp (φ := φ) hnr]
        exact hI
      refine lv_iload hx hb dL_act_479 (lv_at hl 0 rfl) ?_
      refine lv_icmp_ne (tgt := 493) hx hb dL_act_481 (by decide) (fun h1 => absurd h1 (fun h => h (congrArg nI jl.symm))) (fun _ => ?_)
      refine lv_iload hx hb dL_act_484 (lv_at hl 1 rfl) ?_
      refine lv_if_eq (tgt := 493) hx hb dL_act_486 (by decide) (fun h1 => absurd h1 (by decide)) (fun _ => ?_)
      refine lv_iconst (v := 1) hx hb dL_act_489 (by decide) ?_
      refine lv_goto (tgt := 494) hx hb dL_act_490 (by decide) ?_
      refine W.widen (k := ((rmL 50 1010 40200) : Room).cells) (n := ((rmL 50 1010 40200) : Room).slots) (Nat.le_of_ble_eq_true rfl) (Nat.le_of_ble_eq_true rfl) ?_
      exact eZ S hr hlocks (Or.inr rfl) hH hS ⟨rfl, JX_up ⟨_, L2, K2, sz, si2, P2, _, _, U1, E1, _, _, _, rfl, hc2, hI, hJ2⟩ (Nat.le_succ k)⟩ dL_act_494
    · skip
      rw [if_neg hcan]
      show W p l e _ s m args below meth c H locs _ _ _ (F0 m 438 ls [.int 0])
      refine lv_istore (lv' := [(8, .int 0), (7, .int (nI n7)), (5, .int (nI q)), (4, .int (nI n9)), (3, .int (nI r)), (0, .ref o), (1, .ref sa)]) hx hb dL_act_438 hl (by decide) rfl (fun ls hl => ?_)
      refine lv_aload_n hx hb dL_act_440 rfl (lv_at hl 5 rfl) ?_
      refine lv_iload_n hx hb dL_act_441 rfl (lv_at hl 4 rfl) ?_
      refine lv_iload hx hb dL_act_442 (lv_at hl 2 rfl) ?_
      refine cVx S (c_X2_canJoin (row := nI r) (x := nI q) hst hc) (cwV 2 hts gL_act_X2_canJoin rfl rfl rfl (by decide +kernel) ⟨Nat.le_of_ble_eq_true rfl, Nat.le_of_ble_eq_true rfl⟩) hK hH hX.1 (Hp_recv hK hH hc.1.1.1 hc.1.1.2 rfl) hS rfl hl.1 rfl (by simp [cat_rf, Value.category]) dL_act_444 ⟨Nat.le_of_ble_eq_true rfl, Nat.le_of_ble_eq_true rfl⟩ (fun E9 Z1 H locs ce q9 hpx hH hS hce hcv hcl => ?_) (fun v Z1 H locs hpost hH hS => ?_)
      · skip
        exact (PxJ_no hpx hti htq).elim
      have hv9 : v = some (.int 0) ∧ CSW Γ o T sz bi tu (U, E) V Z1 := by
        have h1 := hpost.2
        refine ⟨?_, h1.2⟩
        rw [h1.1]
        simp only [qj, hti, htq]
        rw [if_neg hcan]
      obtain ⟨rfl, L, K, si, P, rfl, hc⟩ := hv9
      refine lv_iload hx hb dL_act_447 (lv_at hl 0 rfl) ?_
      refine lv_icmp_eq (tgt := 454) hx hb dL_act_449 (by decide) (fun _ => ?_) (fun h1 => absurd rfl h1)
      refine lv_iload hx hb dL_act_454 (lv_at hl 0 rfl) ?_
      refine lv_if_eq (tgt := 469) hx hb dL_act_456 (by decide) (fun _ => ?_) (fun h1 => absurd (by decide) h1)
      refine lv_iconst (v := -1) hx hb dL_act_469 (by decide) ?_
      refine lv_istore (lv' := [(9, .int (-1)), (8, .int 0), (7, .int (nI n7)), (5, .int (nI q)), (4, .int (nI n9)), (3, .int (nI r)), (0, .ref o), (1, .ref sa)]) hx hb dL_act_470 hl (by decide) rfl (fun ls hl => ?_)
      refine lv_aload_n hx hb dL_act_472 rfl (lv_at hl 6 rfl) ?_
      refine lv_iload_n hx hb dL_act_473 rfl (lv_at hl 5 rfl) ?_
      refine lv_iload hx hb dL_act_474 (lv_at hl 3 rfl) ?_
      refine cVx S (c_X2_join (row := nI r) (x := nI q) hst hc) (cwV 2 hts gL_act_X2_join rfl rfl rfl (by decide +kernel) ⟨Nat.le_of_ble_eq_true rfl, Nat.le_of_ble_eq_true rfl⟩) hK hH hX.1 (Hp_recv hK hH hc.1.1.1 hc.1.1.2 rfl) hS rfl hl.1 rfl (by simp [cat_rf, Value.category]) dL_act_476 ⟨Nat.le_of_ble_eq_true rfl, Nat.le_of_ble_eq_true rfl⟩ (fun E9 Z1 H locs ce q9 hpx hH hS hce hcv hcl => ?_) (fun v Z1 H locs hpost hH hS => ?_)
      · skip
        have hE9 : E9 = "java/lang/IllegalStateException" ∧ Z1 = ((L, K, sz, si, P, bi, tu), (U, E), V) := by
          obtain ⟨hp, hz⟩ := hpx
          refine ⟨?_, hz⟩
          rcases hp with ⟨-, h1⟩ | ⟨h1, -⟩
          · rw [hti, htq] at h1; rcases h1 with h1 | h1 <;> cases h1
          · exact h1
        obtain ⟨rfl, rfl⟩ := hE9
        refine catS (pre := [(116, 254, 495, 73), (255, 308, 495, 73), (309, 362, 495, 73), (363, 430, 495, 73), (431, 453, 495, 73)]) (suf := []) (a := 454) (b := 494) (h := 495) (c1 := 73) S hX ht (by decide) (by decide) (by decide) (by simp [xcl]) hlink hce hcv hcl ?_
        refine lv_astore (lv' := [(9, .ref q9), (8, .int 0), (7, .int (nI n7)), (5, .int (nI q)), (4, .int (nI n9)), (3, .int (nI r)), (0, .ref o), (1, .ref sa)]) hx hb dL_act_495 hl (by decide) rfl (fun ls hl => ?_)
        refine lv_iload hx hb dL_act_497 (lv_at hl 1 rfl) ?_
        refine lv_if_ne (tgt := 506) hx hb dL_act_499 (by decide) (fun h1 => absurd h1 (fun h => h rfl)) (fun _ => ?_)
        refine lv_iconst (v := 1) hx hb dL_act_502 (by decide) ?_
        refine lv_goto (tgt := 507) hx hb dL_act_503 (by decide) ?_
        refine W.widen (k := ((rmL 50 1010 40200) : Room).cells) (n := ((rmL 50 1010 40200) : Room).slots) (Nat.le_of_ble_eq_true rfl) (Nat.le_of_ble_eq_true rfl) ?_
        exact eZ S hr hlocks (Or.inr rfl) hH hS ⟨rfl, JX_up ⟨T, L, K, sz, si, P, bi, tu, U, E, zz, ee, φ, rfl, hc, hI, hJ⟩ (Nat.le_succ k)⟩ dL_act_507
      obtain ⟨r1, q1, e1, e2, e3, -⟩ := hpost
      rw [hti] at e1
      cases e1
      rw [htq] at e2
      cases e2
      exact absurd e3 hcan
  have k111 : ∀ (r n9 q n7 : Nat), r < 6 → n9 < 1000 → q < 6 → n7 < 1000 → ∀ (L : List Nat) (K : Nat → Nat) (U : List Nat) (E : Nat → va_E), CI Γ o T L K sz si P → SI Γ (U, E) sa ta (mpT φ T) zz ee tu → ∀ H locs, Hp D lo Γ ((L, K, sz, si, P, bi, tu), (U, E), V) H → va_S (lA lo) s.heap H locs → ∀ ls, lv_has ls 10 [(5, .int (nI q)), (4, .int (nI n9)), (3, .int (nI r)), (0, .ref o), (1, .ref sa), (2, .int x)] → W p l e (rmL 50 1010 40200) s m args below meth c H locs 1 40 (MQ below (Qz D lo Γ (fun v Z' => v = some (.int 1) ∧ JX Γ o sa ta (k + 1) V Z')) args s ((rmL 50 1010 40200) : Room).cells ((rmL 50 1010 40200) : Room).slots (lA lo)) (F0 m 111 ls [.int (nI n7)]) := by
    intro r n9 q n7 hr6 hn9 hq6 hn7 L K U E hc hI H locs hH hS ls hl
    have m_sa := hI.1
    have e_sa := hI.2.1
    have m_ta := hI.2.2.1
    have e_ta := hI.2.2.2.1
    have hY := hI.2.2.2.2
    refine lv_istore (lv' := [(7, .int (nI n7)), (5, .int (nI q)), (4, .int (nI n9)), (3, .int (nI r)), (0, .ref o), (1, .ref sa), (2, .int x)]) hx hb dL_act_111 hl (by decide) rfl (fun ls hl => ?_)
    refine lv_iconst (v := 1) hx hb dL_act_113 (by decide) ?_
    refine lv_istore (lv' := [(8, .int 1), (7, .int (nI n7)), (5, .int (nI q)), (4, .int (nI n9)), (3, .int (nI r)), (0, .ref o), (1, .ref sa), (2, .int x)]) hx hb dL_act_114 hl (by decide) rfl (fun ls hl => ?_)
    refine lv_iload_n hx hb dL_act_116 rfl (lv_at hl 7 rfl) ?_
    refine lv_bipush (v := 14) hx hb dL_act_117 (by decide +kernel) ?_
    refine cyS S (c_L_below (x := x) (n := 14) (by decide) (by decide)) (va_cwS 2 hts gL_act_L_below rfl rfl rfl (by decide +kernel) ⟨Nat.le_of_ble_eq_true rfl, Nat.le_of_ble_eq_true rfl⟩) hK hH hX hS rfl hl.1 rfl (by simp [cat_rf, Value.category]) dL_act_119 ⟨Nat.le_of_ble_eq_true rfl, Nat.le_of_ble_eq_true rfl⟩ (fun v Z1 H locs hpost hH hS => ?_)
    obtain ⟨j9, hj9, rfl, rfl⟩ := hpost
    have hj : j9 = 0 ∨ j9 = 1 ∨ j9 = 2 ∨ j9 = 3 ∨ j9 = 4 ∨ j9 = 5 ∨ j9 = 6 ∨ j9 = 7 ∨ j9 = 8 ∨ j9 = 9 ∨ j9 = 10 ∨ j9 = 11 ∨ j9 = 12 ∨ j9 = 13 := by omega
    rcases hj with rfl | rfl | rfl | rfl | rfl | rfl | rfl | rfl | rfl | rfl | rfl | rfl | rfl | rfl
    · refine lv_tableIn hx hb dL_act_122 (by decide +kernel) (by decide +kernel) (off := 62) (by decide +kernel) (tgt := 184) (by decide) ?_
      exact k184 r n9 q n7 hr6 hn9 hq6 hn7 L K U E hc hI H locs hH hS ls (lv_sub hl [0, 1, 2, 3, 4, 5, 6] rfl)
    · refine lv_tableIn hx hb dL_act_122 (by decide +kernel) (by decide +kernel) (off := 62) (by decide +kernel) (tgt := 184) (by decide) ?_
      exact k184 r n9 q n7 hr6 hn9 hq6 hn7 L K U E hc hI H locs hH hS ls (lv_sub hl [0, 1, 2, 3, 4, 5, 6] rfl)
    · refine lv_tableIn hx hb dL_act_122 (by decide +kernel) (by decide +kernel) (off := 62) (by decide +kernel) (tgt := 184) (by decide) ?_
      exact k184 r n9 q n7 hr6 hn9 hq6 hn7 L K U E hc hI H locs hH hS ls (lv_sub hl [0, 1, 2, 3, 4, 5, 6] rfl)
    · refine lv_tableIn hx hb dL_act_122 (by decide +kernel) (by decide +kernel) (off := 62) (by decide +kernel) (tgt := 184) (by decide) ?_
      exact k184 r n9 q n7 hr6 hn9 hq6 hn7 L K U E hc hI H locs hH hS ls (lv_sub hl [0, 1, 2, 3, 4, 5, 6] rfl)
    · refine lv_tableIn hx hb dL_act_122 (by decide +kernel) (by decide +kernel) (off := 62) (by decide +kernel) (tgt := 184) (by decide) ?_
      exact k184 r n9 q n7 hr6 hn9 hq6 hn7 L K U E hc hI H locs hH hS ls (lv_sub hl [0, 1, 2, 3, 4, 5, 6] rfl)
    · refine lv_tableIn hx hb dL_act_122 (by decide +kernel) (by decide +kernel) (off := 133) (by decide +kernel) (tgt := 255) (by decide) ?_
      exact k255 r n9 q n7 hr6 hn9 hq6 hn7 L K U E hc hI H locs hH hS ls (lv_sub hl [0, 1, 2, 3, 4, 5, 6] rfl)
    · refine lv_tableIn hx hb dL_act_122 (by decide +kernel) (by decide +kernel) (off := 133) (by decide +kernel) (tgt := 255) (by decide) ?_
      exact k255 r n9 q n7 hr6 hn9 hq6 hn7 L K U E hc hI H locs hH hS ls (lv_sub hl [0, 1, 2, 3, 4, 5, 6] rfl)
    · refine lv_tableIn hx hb dL_act_122 (by decide +kernel) (by decide +kernel) (off := 133) (by decide +kernel) (tgt := 255) (by decide) ?_
      exact k255 r n9 q n7 hr6 hn9 hq6 hn7 L K U E hc hI H locs hH hS ls (lv_sub hl [0, 1, 2, 3, 4, 5, 6] rfl)
    · refine lv_tableIn hx hb dL_act_122 (by decide +kernel) (by decide +kernel) (off := 133) (by decide +kernel) (tgt := 255) (by decide) ?_
      exact k255 r n9 q n7 hr6 hn9 hq6 hn7 L K U E hc hI H locs hH hS ls (lv_sub hl [0, 1, 2, 3, 4, 5, 6] rfl)
    · refine lv_tableIn hx hb dL_act_122 (by decide +kernel) (by decide +kernel) (off := 187) (by decide +kernel) (tgt := 309) (by decide) ?_
      exact k309 r n9 q n7 hr6 hn9 hq6 hn7 L K U E hc hI H locs hH hS ls (lv_sub hl [0, 1, 2, 3, 4, 5, 6] rfl)
    · refine lv_tableIn hx hb dL_act_122 (by decide +kernel) (by decide +kernel) (off := 187) (by decide +kernel) (tgt := 309) (by decide) ?_
      exact k309 r n9 q n7 hr6 hn9 hq6 hn7 L K U E hc hI H locs hH hS ls (lv_sub hl [0, 1, 2, 3, 4, 5, 6] rfl)
    · refine lv_tableIn hx hb dL_act_122 (by decide +kernel) (by decide +kernel) (off := 241) (by decide +kernel) (tgt := 363) (by decide) ?_
      exact k363 r n9 q n7 hr6 hn9 hq6 hn7 L K U E hc hI H locs hH hS ls (lv_sub hl [0, 1, 2, 3, 4, 5, 6] rfl)
    · refine lv_tableOut hx hb dL_act_122 (by decide +kernel) (tgt := 431) (by decide) ?_
      exact k431 r n9 q n7 hr6 hn9 hq6 hn7 L K U E hc hI H locs hH hS ls (lv_sub hl [0, 1, 2, 3, 4, 5, 6] rfl)
    · refine lv_tableOut hx hb dL_act_122 (by decide +kernel) (tgt := 431) (by decide) ?_
      exact k431 r n9 q n7 hr6 hn9 hq6 hn7 L K U E hc hI H locs hH hS ls (lv_sub hl [0, 1, 2, 3, 4, 5, 6] rfl)
  have k32 : ∀ (r n9 : Nat), r < 6 → n9 < 1000 → ∀ (L : List Nat) (K : Nat → Nat) (U : List Nat) (E : Nat → va_E), CI Γ o T L K sz si P → SI Γ (U, E) sa ta (mpT φ T) zz ee tu → ∀ H locs, Hp D lo Γ ((L, K, sz, si, P, bi, tu), (U, E), V) H → va_S (lA lo) s.heap H locs → ∀ ls, lv_has ls 10 [(3, .int (nI r)), (0, .ref o), (1, .ref sa), (2, .int x)] → W p l e (rmL 50 1010 40200) s m args below meth c H locs 0 0 (MQ below (Qz D lo Γ (fun v Z' => v = some (.int 1) ∧ JX Γ o sa ta (k + 1) V Z')) args s ((rmL 50 1010 40200) : Room).cells ((rmL 50 1010 40200) : Room).slots (lA lo)) (F0 m 35 ls [.int (nI n9)]) := by
    intro r n9 hr6 hn9 L K U E hc hI H locs hH hS ls hl
    have m_sa := hI.1
    have e_sa := hI.2.1
    have m_ta := hI.2.2.1
    have e_ta := hI.2.2.2.1
    have hY := hI.2.2.2.2
    refine lv_istore (lv' := [(4, .int (nI n9)), (3, .int (nI r)), (0, .ref o), (1, .ref sa), (2, .int x)]) hx hb dL_act_35 hl (by decide) rfl (fun ls hl => ?_)
    refine lv_iload_n hx hb dL_act_37 rfl (lv_at hl 4 rfl) ?_
    refine lv_bipush (v := 7) hx hb dL_act_38 (by decide +kernel) ?_
    refine lv_ishr hx hb dL_act_40 ?_
    refine lv_bipush (v := 6) hx hb dL_act_41 (by decide +kernel) ?_
    refine cyS S (c_L_below (n := 6) (by decide) (by decide)) (va_cwS 2 hts gL_act_L_below rfl rfl rfl (by decide +kernel) ⟨Nat.le_of_ble_eq_true rfl, Nat.le_of_ble_eq_true rfl⟩) hK hH hX hS rfl hl.1 rfl (by simp [cat_rf, Value.category]) dL_act_43 ⟨Nat.le_of_ble_eq_true rfl, Nat.le_of_ble_eq_true rfl⟩ (fun v Z1 H locs hpost hH hS => ?_)
    obtain ⟨q, hq6, rfl, rfl⟩ := hpost
    refine lv_istore (lv' := [(5, .int (nI q)), (4, .int (nI n9)), (3, .int (nI r)), (0, .ref o), (1, .ref sa), (2, .int x)]) hx hb dL_act_46 hl (by decide) rfl (fun ls hl => ?_)
    refine lv_aload_n hx hb dL_act_48 rfl (lv_at hl 4 rfl) ?_
    refine gM S hi4 hK hH m_sa e_sa 0 (by decide) f15 (v := .ref ta) rfl dL_act_49 ?_
    refine lv_iload_n hx hb dL_act_52 rfl (lv_at hl 2 rfl) ?_
    refine gQ S hK hH m_ta e_ta (j := r) rfl hr6 (by decide) (r := (rt (mpT φ T r))) rfl dL_act_53 ?_
    have htr : sT (U, E) zz ee (mpT φ T r) := hI.2.2.2.2 r hr6
    have hl40 : (tids (mpT φ T r)).length ≤ 40 := (SO_at hOm hr6).2.2.2.1
    refine cyS S (c_X4_count (mpT φ T r) 40 (hh40 r hr6) htr) (va_cwS 1 hts gL_act_X4_count rfl rfl rfl (by decide +kernel) ⟨Nat.le_of_ble_eq_true rfl, Nat.le_of_ble_eq_true rfl⟩) hK hH hX hS rfl hl.1 rfl (by simp [cat_rf, Value.category]) dL_act_54 ⟨Nat.le_of_ble_eq_true rfl, Nat.le_of_ble_eq_true rfl⟩ (fun v Z1 H locs hpost hH hS => ?_)
    obtain ⟨rfl, rfl⟩ := hpost
    have hg : Gr (U, E) (U, E) [] := Gr.rf _ _
    have hE : Ext (L, K, sz, si, P, bi, tu) (L, K, sz, si, P, bi, tu) := Ext.rf _
    refine nQ S (hts _ (List.mem_of_getElem? (i := 3) rfl)) hX hK hH hlo hS (n := (tids (mpT φ T r)).length) rfl (by omega) (Nat.le_of_ble_eq_true rfl) (by show 0 + 0 + 0 + (tids (mpT φ T r)).length ≤ 40200; omega) dL_act_57 (fun row C4 U3 E2 H fr hx9 m_row su e_row ho hH hS => ?_)
    have n9_sa : sa ≠ row := fun e9 => fr (by rw [← e9]; exact m_sa)
    have e_sa : E2 sa = .inr (4, [.ref ta, .int (nI tu)]) := (ho sa n9_sa).trans e_sa
    have m_sa := su sa m_sa
    have n9_sa_row := n9_sa
    have n9_ta : ta ≠ row := fun e9 => fr (by rw [← e9]; exact m_ta)
    have e_ta : E2 ta = qE Γ 6 (fun i => rt (mpT φ T i)) := (ho ta n9_ta).trans e_ta
    have m_ta := su ta m_ta
    have n9_ta_row := n9_ta
    have hg := hg.new fr su ho
    have hE := hE.tr hx9
    have w_row : row ∉ (U, E).1 := fr
    have htr := sT_gr htr hg (by simp)
    refine lv_astore (lv' := [(6, .ref row), (5, .int (nI q)), (4, .int (nI n9)), (3, .int (nI r)), (0, .ref o), (1, .ref sa), (2, .int x)]) hx hb dL_act_60 hl (by decide) rfl (fun ls hl => ?_)
    refine lv_aload_n hx hb dL_act_62 rfl (lv_at hl 5 rfl) ?_
    refine gM S hi4 hK hH m_sa e_sa 0 (by decide) f15 (v := .ref ta) rfl dL_act_63 ?_
    refine lv_iload_n hx hb dL_act_66 rfl (lv_at hl 3 rfl) ?_
    refine gQ S hK hH m_ta e_ta (j := r) rfl hr6 (by decide) (r := (rt (mpT φ T r))) rfl dL_act_67 ?_
    refine lv_aload hx hb dL_act_68 (lv_at hl 0 rfl) ?_
    refine lv_iconst (v := 0) hx hb dL_act_70 (by decide) ?_
    refine cyS S (c_X4_order (mpT φ T r) 40 0 E2 (fun _ => none) (hh40 r hr6) htr m_row e_row (by omega) (by omega)) (va_cwS 3 hts gL_act_X4_order rfl rfl rfl (by decide +kernel) ⟨Nat.le_of_ble_eq_true rfl, Nat.le_of_ble_eq_true rfl⟩) hK hH hX hS rfl hl.1 rfl (by simp [cat_rf, Value.category]) dL_act_71 ⟨Nat.le_of_ble_eq_true rfl, (by show 0 + 0 + 0 + (tids (mpT φ T r)).length + 0 ≤ 40200; omega)⟩ (fun v Z1 H locs hpost hH hS => ?_)
    obtain ⟨rfl, E9, rfl, e_row, ho⟩ := hpost
    have hg := hg.put' w_row ho
    obtain ⟨L1, K1, e9c, hce⟩ := Ext_open hE
    have hc := hce _ _ _ hc
    rw [e9c] at hH
    have hI := SI_gr hI hg
    refine W.widen (k := 1) (n := 40) (Nat.le_of_ble_eq_true rfl) (by show 0 + 0 + 0 + (tids (mpT φ T r)).length + 0 ≤ 40; omega) ?_
    have e_row : E9 row = qE Γ (tids (mpT φ T r)).length (oF (fun _ => none) 0 (tids (mpT φ T r))) := e_row
    have m_row : row ∈ U3 := m_row
    generalize U3 = U at hI hH m_row
    generalize E9 = E at hI hH e_row
    generalize L1 = L at hc hH
    generalize K1 = K at hc hH
    have m_sa := hI.1
    have e_sa := hI.2.1
    have m_ta := hI.2.2.1
    have e_ta := hI.2.2.2.1
    have hY := hI.2.2.2.2
    refine lv_pop hx hb dL_act_74 rfl ?_
    refine lv_aload hx hb dL_act_75 (lv_at hl 0 rfl) ?_
    refine lQ S hK hH m_row e_row dL_act_77 ?_
    refine lv_if_le (tgt := 109) hx hb dL_act_78 (by decide) (fun h1 => ?_) (fun h1 => ?_)
    · skip
      refine lv_iload hx hb dL_act_109 (lv_at hl 2 rfl) ?_
      exact k111 r n9 q n9 hr6 hn9 hq6 hn9 L K U E hc hI H locs hH hS ls (lv_sub hl [1, 2, 3, 4, 5, 6] rfl)
    · skip
      have hpos : 0 < (tids (mpT φ T r)).length := Nat.pos_of_ne_zero (fun h9 => h1 (by rw [h9]; decide))
      refine lv_iload_n hx hb dL_act_81 rfl (lv_at hl 6 rfl) ?_
      refine lv_iconst (v := 3) hx hb dL_act_82 (by decide) ?_
      refine lv_ishr hx hb dL_act_83 ?_
      refine lv_iconst (v := 4) hx hb dL_act_84 (by decide) ?_
      refine cyS S (c_L_below (n := 4) (by decide) (by decide)) (va_cwS 2 hts gL_act_L_below rfl rfl rfl (by decide +kernel) ⟨Nat.le_of_ble_eq_true rfl, Nat.le_of_ble_eq_true rfl⟩) hK hH hX hS rfl hl.1 rfl (by simp [cat_rf, Value.category]) dL_act_85 ⟨Nat.le_of_ble_eq_true rfl, Nat.le_of_ble_eq_true rfl⟩ (fun v Z1 H locs hpost hH hS => ?_)
      obtain ⟨j4, hj4, rfl, rfl⟩ := hpost
      refine lv_if_le (tgt := 109) hx hb dL_act_88 (by decide) (fun h2 => ?_) (fun h2 => ?_)
      · skip
        refine lv_iload hx hb dL_act_109 (lv_at hl 2 rfl) ?_
        exact k111 r n9 q n9 hr6 hn9 hq6 hn9 L K U E hc hI H locs hH hS ls (lv_sub hl [1, 2, 3, 4, 5, 6] rfl)
      · skip
        refine lv_aload hx hb dL_act_91 (lv_at hl 0 rfl) ?_
        refine lv_iload_n hx hb dL_act_93 rfl (lv_at hl 6 rfl) ?_
        refine lv_iconst (v := 5) hx hb dL_act_94 (by decide) ?_
        refine lv_ishr hx hb dL_act_95 ?_
        refine lv_aload hx hb dL_act_96 (lv_at hl 0 rfl) ?_
        refine lQ S hK hH m_row e_row dL_act_98 ?_
        refine cyS S (c_L_below (n := (tids (mpT φ T r)).length) hpos (by omega)) (va_cwS 2 hts gL_act_L_below rfl rfl rfl (by decide +kernel) ⟨Nat.le_of_ble_eq_true rfl, Nat.le_of_ble_eq_true rfl⟩) hK hH hX hS rfl hl.1 rfl (by simp [cat_rf, Value.category]) dL_act_99 ⟨Nat.le_of_ble_eq_true rfl, Nat.le_of_ble_eq_true rfl⟩ (fun v Z1 H locs hpost hH hS => ?_)
        obtain ⟨j5, hj5, rfl, rfl⟩ := hpost
        obtain ⟨a5, ha5⟩ : ∃ a5, (tids (mpT φ T r))[j5]? = some a5 := ⟨_, List.getElem?_eq_getElem hj5⟩
        have ho5 : oF (fun _ => none) 0 (tids (mpT φ T r)) j5 = some a5 := by have h9 := oF_at (tids (mpT φ T r)) (fun _ => none) 0 j5 hj5; rw [Nat.zero_add] at h9; rw [h9]; exact ha5
        have hm5 := List.mem_of_getElem? ha5
        obtain ⟨m_a5, x5, y5, e_a5⟩ := sT_at _ (hI.2.2.2.2 r hr6) a5 hm5
        have z5 := hz1 r hr6 a5 hm5
        refine gQ S hK hH m_row e_row (j := j5) rfl hj5 (by omega) (r := (some a5)) ho5 dL_act_102 ?_
        refine gB S hi3 hK hH m_a5 e_a5 0 (by decide) f31 (v := .int (nI (zz a5))) rfl dL_act_103 ?_
        refine lv_goto (tgt := 111) hx hb dL_act_106 (by decide) ?_
        exact k111 r n9 q (zz a5) hr6 hn9 hq6 z5 L K U E hc hI H locs hH hS ls (lv_sub hl [1, 2, 3, 4, 5, 6] rfl)
  refine lv_iload_n hx hb dL_act_0 rfl (lv_at hl 2 rfl) ?_
  refine lv_iconst (v := 4) hx hb dL_act_1 (by decide) ?_
  refine lv_ishr hx hb dL_act_2 ?_
  refine lv_bipush (v := 6) hx hb dL_act_3 (by decide +kernel) ?_
  refine cyS S (c_L_below (n := 6) (by decide) (by decide)) (va_cwS 2 hts gL_act_L_below rfl rfl rfl (by decide +kernel) ⟨Nat.le_of_ble_eq_true rfl, Nat.le_of_ble_eq_true rfl⟩) hK hH hX hS rfl hl.1 rfl (by simp [cat_rf, Value.category]) dL_act_5 ⟨Nat.le_of_ble_eq_true rfl, Nat.le_of_ble_eq_true rfl⟩ (fun v Z1 H locs hpost hH hS => ?_)
  obtain ⟨r, hr6, rfl, rfl⟩ := hpost
  refine lv_istore_n (lv' := [(3, .int (nI r)), (0, .ref o), (1, .ref sa), (2, .int x)]) hx hb dL_act_8 rfl hl (by decide) rfl (fun ls hl => ?_)
  refine lv_iload_n hx hb dL_act_9 rfl (lv_at hl 3 rfl) ?_
  refine lv_bipush (v := 6) hx hb dL_act_10 (by decide +kernel) ?_
  refine lv_ishr hx hb dL_act_12 ?_
  refine lv_iload_n hx hb dL_act_13 rfl (lv_at hl 3 rfl) ?_
  refine lv_bipush (v := 9) hx hb dL_act_14 (by decide +kernel) ?_
  refine lv_ishr hx hb dL_act_16 ?_
  refine lv_iconst (v := 3) hx hb dL_act_17 (by decide) ?_
  refine cyS S (c_L_below (n := 3) (by decide) (by decide)) (va_cwS 2 hts gL_act_L_below rfl rfl rfl (by decide +kernel) ⟨Nat.le_of_ble_eq_true rfl, Nat.le_of_ble_eq_true rfl⟩) hK hH hX hS rfl hl.1 rfl (by simp [cat_rf, Value.category]) dL_act_18 ⟨Nat.le_of_ble_eq_true rfl, Nat.le_of_ble_eq_true rfl⟩ (fun v Z1 H locs hpost hH hS => ?_)
  obtain ⟨j3, hj3, rfl, rfl⟩ := hpost
  refine lv_if_ne (tgt := 30) hx hb dL_act_21 (by decide) (fun h1 => ?_) (fun h1 => ?_)
  · skip
    refine lv_bipush (v := 30) hx hb dL_act_30 (by decide +kernel) ?_
    refine cyS S (c_L_below (n := 30) (by decide) (by decide)) (va_cwS 2 hts gL_act_L_below rfl rfl rfl (by decide +kernel) ⟨Nat.le_of_ble_eq_true rfl, Nat.le_of_ble_eq_true rfl⟩) hK hH hX hS rfl hl.1 rfl (by simp [cat_rf, Value.category]) dL_act_32 ⟨Nat.le_of_ble_eq_true rfl, Nat.le_of_ble_eq_true rfl⟩ (fun v Z1 H locs hpost hH hS => ?_)
    obtain ⟨n9, hn9, rfl, rfl⟩ := hpost
    exact k32 r n9 hr6 (by omega) L K U E hc hI H locs hH hS ls (lv_sub hl [0, 1, 2, 3] rfl)
  · skip
    refine lv_sipush (v := 1000) hx hb dL_act_24 (by decide +kernel) ?_
    refine lv_goto (tgt := 32) hx hb dL_act_27 (by decide) ?_
    refine cyS S (c_L_below (n := 1000) (by decide) (by decide)) (va_cwS 2 hts gL_act_L_below rfl rfl rfl (by decide +kernel) ⟨Nat.le_of_ble_eq_true rfl, Nat.le_of_ble_eq_true rfl⟩) hK hH hX hS rfl hl.1 rfl (by simp [cat_rf, Value.category]) dL_act_32 ⟨Nat.le_of_ble_eq_true rfl, Nat.le_of_ble_eq_true rfl⟩ (fun v Z1 H locs hpost hH hS => ?_)
    obtain ⟨n9, hn9, rfl, rfl⟩ := hpost
    exact k32 r n9 hr6 (by omega) L K U E hc hI H locs hH hS ls (lv_sub hl [0, 1, 2, 3] rfl)
end MLaw2
