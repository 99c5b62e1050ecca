section Wrap
variable {l : Launch} {D : va_G} {lo : Nat} {Γ : GT} {C : CW} {M : MW} {V : Int64 × UInt64} {o : Nat} {post : Option Value → WS → Prop} {px : String → WS → Prop}
set_option maxRecDepth 100000 in
set_option maxHeartbeats 4000000 in
theorem w_plant {row x : Int32} (ok_o : o ∈ C.1 ∧ C.2.1 o = 2) (hM : Mx l yX2_plant wsX2_plant (rmL 7 4 24) D lo Γ [.ref o, .int row, .int x] (C, M, V) post px) (hpost : ∀ v Z', post v Z' → (∃ (n : Int32) (C' : CW), v = some (.int n) ∧ Z' = (C', M, V))) (hpx : ∀ E Z', px E Z' → (E = "java/lang/IndexOutOfBoundsException" ∨ E = "java/lang/IllegalArgumentException" ∨ E = "java/lang/IllegalStateException") ∧ ∃ C' : CW, Z' = (C', M, V)) : My l yL_plant wsL_plant (rmL 8 4 24) D lo Γ [.ref o, .int row, .int x, .ref (gxa Γ 7)] (C, M, V) (WQ post px M V cd3) := by
  refine My_of (cc := cL_plant) (maxL := 5) (ret := some .int) (by decide) rfl (Nat.le_of_ble_eq_true rfl) ?_
  intro p e s m args below meth c ls S hr hlocks hK hH hS hX ht hl
  have hx := S.1
  have hb := S.2.1
  have hts := S.2.2.2.2
  have hl : lv_has ls 5 [(0, .ref o), (1, .int row), (2, .int x), (3, .ref (gxa Γ 7))] := hl
  have k1 := hts (.classLink RL 13 "java/lang/IndexOutOfBoundsException") (List.mem_of_getElem? (i := 1) rfl)
  have k2 := hts (.classLink RL 15 "java/lang/IllegalArgumentException") (List.mem_of_getElem? (i := 2) rfl)
  have k3 := hts (.classLink RL 17 "java/lang/IllegalStateException") (List.mem_of_getElem? (i := 3) rfl)
  refine lv_aload_n hx hb dL_plant_0 rfl (lv_at hl 3 rfl) ?_
  refine lv_iconst (v := 0) hx hb dL_plant_1 (by decide) ?_
  refine lv_aload_n hx hb dL_plant_2 rfl (lv_at hl 0 rfl) ?_
  refine lv_iload_n hx hb dL_plant_3 rfl (lv_at hl 1 rfl) ?_
  refine lv_iload_n hx hb dL_plant_4 rfl (lv_at hl 2 rfl) ?_
  refine cVx S hM (cwV 2 hts gL_plant_X2_plant rfl rfl rfl (by decide +kernel) ⟨Nat.le_of_ble_eq_true rfl, Nat.le_of_ble_eq_true rfl⟩) hK hH hX.1 (Hp_recv hK hH ok_o.1 ok_o.2 rfl) hS rfl hl.1 rfl (by simp [cat_rf, Value.category]) dL_plant_5 ⟨Nat.le_of_ble_eq_true rfl, Nat.le_of_ble_eq_true rfl⟩ (fun E Z1 H locs ce q9 hpx9 hH hS hce hcv hcl => ?_) (fun v Z1 H locs hpost9 hH hS => ?_)
  · obtain ⟨hE, C1, rfl⟩ := hpx _ _ hpx9
    rcases hE with rfl | rfl | rfl
    · refine catA S hX ht (by decide) (by decide) (by decide) k1 hce hcv hcl ?_
      refine lv_astore (lv' := [(4, .ref q9), (0, .ref o), (1, .int row), (2, .int x), (3, .ref (gxa Γ 7))]) hx hb dL_plant_13 hl (by decide) rfl (fun ls hl => ?_)
      refine lv_iconst (v := 1) hx hb dL_plant_15 (by decide) ?_
      refine W.widen (k := 4) (n := 24) (Nat.le_of_ble_eq_true rfl) (Nat.le_of_ble_eq_true rfl) ?_
      exact eI S hr hlocks hH hS (Or.inr ⟨_, C1, hpx9, by rw [← cd3_a], rfl⟩) dL_plant_16
    · refine catB S hX ht (by decide) (by decide) (by decide) (by decide) k1 k2 hX.2.2.2 hce hcv hcl ?_
      refine lv_astore (lv' := [(4, .ref q9), (0, .ref o), (1, .int row), (2, .int x), (3, .ref (gxa Γ 7))]) hx hb dL_plant_17 hl (by decide) rfl (fun ls hl => ?_)
      refine lv_iconst (v := 2) hx hb dL_plant_19 (by decide) ?_
      refine W.widen (k := 4) (n := 24) (Nat.le_of_ble_eq_true rfl) (Nat.le_of_ble_eq_true rfl) ?_
      exact eI S hr hlocks hH hS (Or.inr ⟨_, C1, hpx9, by rw [← cd3_b], rfl⟩) dL_plant_20
    · refine catC S hX ht (by decide) (by decide) (by decide) (by decide) (by decide) k1 k2 k3 hX.2.1 hX.2.2.1 hce hcv hcl ?_
      refine lv_astore (lv' := [(4, .ref q9), (0, .ref o), (1, .int row), (2, .int x), (3, .ref (gxa Γ 7))]) hx hb dL_plant_21 hl (by decide) rfl (fun ls hl => ?_)
      refine lv_iconst (v := 3) hx hb dL_plant_23 (by decide) ?_
      refine W.widen (k := 4) (n := 24) (Nat.le_of_ble_eq_true rfl) (Nat.le_of_ble_eq_true rfl) ?_
      exact eI S hr hlocks hH hS (Or.inr ⟨_, C1, hpx9, by rw [← cd3_c], rfl⟩) dL_plant_24
  obtain ⟨n9, C1, rfl, rfl⟩ := hpost _ _ hpost9
  refine lv_i2l hx hb dL_plant_8 rfl ?_
  refine pLg S hK hH hS dL_plant_9 (fun H locs hH hS => ?_)
  refine lv_goto hx hb dL_plant_10 (tgt := 25) rfl ?_
  refine lv_iconst (v := 0) hx hb dL_plant_25 (by decide) ?_
  refine W.widen (k := 4) (n := 24) (Nat.le_of_ble_eq_true rfl) (Nat.le_of_ble_eq_true rfl) ?_
  exact eI S hr hlocks hH hS (Or.inl ⟨n9, C1, hpost9, rfl, rfl⟩) dL_plant_26
set_option maxRecDepth 100000 in
set_option maxHeartbeats 4000000 in
theorem w_eat {row x : Int32} (ok_o : o ∈ C.1 ∧ C.2.1 o = 2) (hM : Mx l yX2_eat wsX2_eat (rmL 7 2 12) D lo Γ [.ref o, .int row, .int x] (C, M, V) post px) (hpost : ∀ v Z', post v Z' → (∃ (n : Int32) (C' : CW), v = some (.int n) ∧ Z' = (C', M, V))) (hpx : ∀ E Z', px E Z' → (E = "java/lang/IndexOutOfBoundsException" ∨ E = "java/lang/IllegalStateException") ∧ ∃ C' : CW, Z' = (C', M, V)) : My l yL_eat wsL_eat (rmL 8 2 12) D lo Γ [.ref o, .int row, .int x, .ref (gxa Γ 7)] (C, M, V) (WQ post px M V cd2) := by
  refine My_of (cc := cL_eat) (maxL := 5) (ret := some .int) (by decide) rfl (Nat.le_of_ble_eq_true rfl) ?_
  intro p e s m args below meth c ls S hr hlocks hK hH hS hX ht hl
  have hx := S.1
  have hb := S.2.1
  have hts := S.2.2.2.2
  have hl : lv_has ls 5 [(0, .ref o), (1, .int row), (2, .int x), (3, .ref (gxa Γ 7))] := hl
  have k1 := hts (.classLink RL 13 "java/lang/IndexOutOfBoundsException") (List.mem_of_getElem? (i := 1) rfl)
  have k2 := hts (.classLink RL 17 "java/lang/IllegalStateException") (List.mem_of_getElem? (i := 2) rfl)
  refine lv_aload_n hx hb dL_eat_0 rfl (lv_at hl 3 rfl) ?_
  refine lv_iconst (v := 0) hx hb dL_eat_1 (by decide) ?_
  refine lv_aload_n hx hb dL_eat_2 rfl (lv_at hl 0 rfl) ?_
  refine lv_iload_n hx hb dL_eat_3 rfl (lv_at hl 1 rfl) ?_
  refine lv_iload_n hx hb dL_eat_4 rfl (lv_at hl 2 rfl) ?_
  refine cVx S hM (cwV 2 hts gL_eat_X2_eat rfl rfl rfl (by decide +kernel) ⟨Nat.le_of_ble_eq_true rfl, Nat.le_of_ble_eq_true rfl⟩) hK hH hX.1 (Hp_recv hK hH ok_o.1 ok_o.2 rfl) hS rfl hl.1 rfl (by simp [cat_rf, Value.category]) dL_eat_5 ⟨Nat.le_of_ble_eq_true rfl, Nat.le_of_ble_eq_true rfl⟩ (fun E Z1 H locs ce q9 hpx9 hH hS hce hcv hcl => ?_) (fun v Z1 H locs hpost9 hH hS => ?_)
  · obtain ⟨hE, C1, rfl⟩ := hpx _ _ hpx9
    rcases hE with rfl | rfl
    · refine catA S hX ht (by decide) (by decide) (by decide) k1 hce hcv hcl ?_
      refine lv_astore (lv' := [(4, .ref q9), (0, .ref o), (1, .int row), (2, .int x), (3, .ref (gxa Γ 7))]) hx hb dL_eat_13 hl (by decide) rfl (fun ls hl => ?_)
      refine lv_iconst (v := 1) hx hb dL_eat_15 (by decide) ?_
      refine W.widen (k := 2) (n := 12) (Nat.le_of_ble_eq_true rfl) (Nat.le_of_ble_eq_true rfl) ?_
      exact eI S hr hlocks hH hS (Or.inr ⟨_, C1, hpx9, by rw [← cd2_a], rfl⟩) dL_eat_16
    · refine catB S hX ht (by decide) (by decide) (by decide) (by decide) k1 k2 hX.2.1 hce hcv hcl ?_
      refine lv_astore (lv' := [(4, .ref q9), (0, .ref o), (1, .int row), (2, .int x), (3, .ref (gxa Γ 7))]) hx hb dL_eat_17 hl (by decide) rfl (fun ls hl => ?_)
      refine lv_iconst (v := 2) hx hb dL_eat_19 (by decide) ?_
      refine W.widen (k := 2) (n := 12) (Nat.le_of_ble_eq_true rfl) (Nat.le_of_ble_eq_true rfl) ?_
      exact eI S hr hlocks hH hS (Or.inr ⟨_, C1, hpx9, by rw [← cd2_c], rfl⟩) dL_eat_20
  obtain ⟨n9, C1, rfl, rfl⟩ := hpost _ _ hpost9
  refine lv_i2l hx hb dL_eat_8 rfl ?_
  refine pLg S hK hH hS dL_eat_9 (fun H locs hH hS => ?_)
  refine lv_goto hx hb dL_eat_10 (tgt := 21) rfl ?_
  refine lv_iconst (v := 0) hx hb dL_eat_21 (by decide) ?_
  refine W.widen (k := 2) (n := 12) (Nat.le_of_ble_eq_true rfl) (Nat.le_of_ble_eq_true rfl) ?_
  exact eI S hr hlocks hH hS (Or.inl ⟨n9, C1, hpost9, rfl, rfl⟩) dL_eat_22
set_option maxRecDepth 100000 in
set_option maxHeartbeats 4000000 in
theorem w_pick {row x : Int32} (ok_o : o ∈ C.1 ∧ C.2.1 o = 2) (hM : Mx l yX2_pick wsX2_pick (rmL 7 2 12) D lo Γ [.ref o, .int row, .int x] (C, M, V) post px) (hpost : ∀ v Z', post v Z' → (∃ (n : Int32) (C' : CW), v = some (.int n) ∧ Z' = (C', M, V))) (hpx : ∀ E Z', px E Z' → (E = "java/lang/IndexOutOfBoundsException" ∨ E = "java/lang/IllegalStateException") ∧ ∃ C' : CW, Z' = (C', M, V)) : My l yL_pick wsL_pick (rmL 8 2 12) D lo Γ [.ref o, .int row, .int x, .ref (gxa Γ 7)] (C, M, V) (WQ post px M V cd2) := by
  refine My_of (cc := cL_pick) (maxL := 5) (ret := some .int) (by decide) rfl (Nat.le_of_ble_eq_true rfl) ?_
  intro p e s m args below meth c ls S hr hlocks hK hH hS hX ht hl
  have hx := S.1
  have hb := S.2.1
  have hts := S.2.2.2.2
  have hl : lv_has ls 5 [(0, .ref o), (1, .int row), (2, .int x), (3, .ref (gxa Γ 7))] := hl
  have k1 := hts (.classLink RL 13 "java/lang/IndexOutOfBoundsException") (List.mem_of_getElem? (i := 1) rfl)
  have k2 := hts (.classLink RL 17 "java/lang/IllegalStateException") (List.mem_of_getElem? (i := 2) rfl)
  refine lv_aload_n hx hb dL_pick_0 rfl (lv_at hl 3 rfl) ?_
  refine lv_iconst (v := 0) hx hb dL_pick_1 (by decide) ?_
  refine lv_aload_n hx hb dL_pick_2 rfl (lv_at hl 0 rfl) ?_
  refine lv_iload_n hx hb dL_pick_3 rfl (lv_at hl 1 rfl) ?_
  refine lv_iload_n hx hb dL_pick_4 rfl (lv_at hl 2 rfl) ?_
  refine cVx S hM (cwV 2 hts gL_pick_X2_pick rfl rfl rfl (by decide +kernel) ⟨Nat.le_of_ble_eq_true rfl, Nat.le_of_ble_eq_true rfl⟩) hK hH hX.1 (Hp_recv hK hH ok_o.1 ok_o.2 rfl) hS rfl hl.1 rfl (by simp [cat_rf, Value.category]) dL_pick_5 ⟨Nat.le_of_ble_eq_true rfl, Nat.le_of_ble_eq_true rfl⟩ (fun E Z1 H locs ce q9 hpx9 hH hS hce hcv hcl => ?_) (fun v Z1 H locs hpost9 hH hS => ?_)
  · obtain ⟨hE, C1, rfl⟩ := hpx _ _ hpx9
    rcases hE with rfl | rfl
    · refine catA S hX ht (by decide) (by decide) (by decide) k1 hce hcv hcl ?_
      refine lv_astore (lv' := [(4, .ref q9), (0, .ref o), (1, .int row), (2, .int x), (3, .ref (gxa Γ 7))]) hx hb dL_pick_13 hl (by decide) rfl (fun ls hl => ?_)
      refine lv_iconst (v := 1) hx hb dL_pick_15 (by decide) ?_
      refine W.widen (k := 2) (n := 12) (Nat.le_of_ble_eq_true rfl) (Nat.le_of_ble_eq_true rfl) ?_
      exact eI S hr hlocks hH hS (Or.inr ⟨_, C1, hpx9, by rw [← cd2_a], rfl⟩) dL_pick_16
    · refine catB S hX ht (by decide) (by decide) (by decide) (by decide) k1 k2 hX.2.1 hce hcv hcl ?_
      refine lv_astore (lv' := [(4, .ref q9), (0, .ref o), (1, .int row), (2, .int x), (3, .ref (gxa Γ 7))]) hx hb dL_pick_17 hl (by decide) rfl (fun ls hl => ?_)
      refine lv_iconst (v := 2) hx hb dL_pick_19 (by decide) ?_
      refine W.widen (k := 2) (n := 12) (Nat.le_of_ble_eq_true rfl) (Nat.le_of_ble_eq_true rfl) ?_
      exact eI S hr hlocks hH hS (Or.inr ⟨_, C1, hpx9, by rw [← cd2_c], rfl⟩) dL_pick_20
  obtain ⟨n9, C1, rfl, rfl⟩ := hpost _ _ hpost9
  refine lv_i2l hx hb dL_pick_8 rfl ?_
  refine pLg S hK hH hS dL_pick_9 (fun H locs hH hS => ?_)
  refine lv_goto hx hb dL_pick_10 (tgt := 21) rfl ?_
  refine lv_iconst (v := 0) hx hb dL_pick_21 (by decide) ?_
  refine W.widen (k := 2) (n := 12) (Nat.le_of_ble_eq_true rfl) (Nat.le_of_ble_eq_true rfl) ?_
  exact eI S hr hlocks hH hS (Or.inl ⟨n9, C1, hpost9, rfl, rfl⟩) dL_pick_22
set_option maxRecDepth 100000 in
set_option maxHeartbeats 4000000 in
theorem w_split {row x y : Int32} (ok_o : o ∈ C.1 ∧ C.2.1 o = 2) (hM : Mx l yX2_split wsX2_split (rmL 7 4 24) D lo Γ [.ref o, .int row, .int x, .int y] (C, M, V) post px) (hpost : ∀ v Z', post v Z' → (∃ (n : Int32) (C' : CW), v = some (.int n) ∧ Z' = (C', M, V))) (hpx : ∀ E Z', px E Z' → (E = "java/lang/IndexOutOfBoundsException" ∨ E = "java/lang/IllegalArgumentException" ∨ E = "java/lang/IllegalStateException") ∧ ∃ C' : CW, Z' = (C', M, V)) : My l yL_split wsL_split (rmL 8 4 24) D lo Γ [.ref o, .int row, .int x, .int y, .ref (gxa Γ 7)] (C, M, V) (WQ post px M V cd3) := by
  refine My_of (cc := cL_split) (maxL := 6) (ret := some .int) (by decide) rfl (Nat.le_of_ble_eq_true rfl) ?_
  intro p e s m args below meth c ls S hr hlocks hK hH hS hX ht hl
  have hx := S.1
  have hb := S.2.1
  have hts := S.2.2.2.2
  have hl : lv_has ls 6 [(0, .ref o), (1, .int row), (2, .int x), (3, .int y), (4, .ref (gxa Γ 7))] := hl
  have k1 := hts (.classLink RL 13 "java/lang/IndexOutOfBoundsException") (List.mem_of_getElem? (i := 1) rfl)
  have k2 := hts (.classLink RL 15 "java/lang/IllegalArgumentException") (List.mem_of_getElem? (i := 2) rfl)
  have k3 := hts (.classLink RL 17 "java/lang/IllegalStateException") (List.mem_of_getElem? (i := 3) rfl)
  refine lv_aload hx hb dL_split_0 (lv_at hl 4 rfl) ?_
  refine lv_iconst (v := 0) hx hb dL_split_2 (by decide) ?_
  refine lv_aload_n hx hb dL_split_3 rfl (lv_at hl 0 rfl) ?_
  refine lv_iload_n hx hb dL_split_4 rfl (lv_at hl 1 rfl) ?_
  refine lv_iload_n hx hb dL_split_5 rfl (lv_at hl 2 rfl) ?_
  refine lv_iload_n hx hb dL_split_6 rfl (lv_at hl 3 rfl) ?_
  refine cVx S hM (cwV 3 hts gL_split_X2_split rfl rfl rfl (by decide +kernel) ⟨Nat.le_of_ble_eq_true rfl, Nat.le_of_ble_eq_true rfl⟩) hK hH hX.1 (Hp_recv hK hH ok_o.1 ok_o.2 rfl) hS rfl hl.1 rfl (by simp [cat_rf, Value.category]) dL_split_7 ⟨Nat.le_of_ble_eq_true rfl, Nat.le_of_ble_eq_true rfl⟩ (fun E Z1 H locs ce q9 hpx9 hH hS hce hcv hcl => ?_) (fun v Z1 H locs hpost9 hH hS => ?_)
  · obtain ⟨hE, C1, rfl⟩ := hpx _ _ hpx9
    rcases hE with rfl | rfl | rfl
    · refine catA S hX ht (by decide) (by decide) (by decide) k1 hce hcv hcl ?_
      refine lv_astore (lv' := [(5, .ref q9), (0, .ref o), (1, .int row), (2, .int x), (3, .int y), (4, .ref (gxa Γ 7))]) hx hb dL_split_15 hl (by decide) rfl (fun ls hl => ?_)
      refine lv_iconst (v := 1) hx hb dL_split_17 (by decide) ?_
      refine W.widen (k := 4) (n := 24) (Nat.le_of_ble_eq_true rfl) (Nat.le_of_ble_eq_true rfl) ?_
      exact eI S hr hlocks hH hS (Or.inr ⟨_, C1, hpx9, by rw [← cd3_a], rfl⟩) dL_split_18
    · refine catB S hX ht (by decide) (by decide) (by decide) (by decide) k1 k2 hX.2.2.2 hce hcv hcl ?_
      refine lv_astore (lv' := [(5, .ref q9), (0, .ref o), (1, .int row), (2, .int x), (3, .int y), (4, .ref (gxa Γ 7))]) hx hb dL_split_19 hl (by decide) rfl (fun ls hl => ?_)
      refine lv_iconst (v := 2) hx hb dL_split_21 (by decide) ?_
      refine W.widen (k := 4) (n := 24) (Nat.le_of_ble_eq_true rfl) (Nat.le_of_ble_eq_true rfl) ?_
      exact eI S hr hlocks hH hS (Or.inr ⟨_, C1, hpx9, by rw [← cd3_b], rfl⟩) dL_split_22
    · refine catC S hX ht (by decide) (by decide) (by decide) (by decide) (by decide) k1 k2 k3 hX.2.1 hX.2.2.1 hce hcv hcl ?_
      refine lv_astore (lv' := [(5, .ref q9), (0, .ref o), (1, .int row), (2, .int x), (3, .int y), (4, .ref (gxa Γ 7))]) hx hb dL_split_23 hl (by decide) rfl (fun ls hl => ?_)
      refine lv_iconst (v := 3) hx hb dL_split_25 (by decide) ?_
      refine W.widen (k := 4) (n := 24) (Nat.le_of_ble_eq_true rfl) (Nat.le_of_ble_eq_true rfl) ?_
      exact eI S hr hlocks hH hS (Or.inr ⟨_, C1, hpx9, by rw [← cd3_c], rfl⟩) dL_split_26
  obtain ⟨n9, C1, rfl, rfl⟩ := hpost _ _ hpost9
  refine lv_i2l hx hb dL_split_10 rfl ?_
  refine pLg S hK hH hS dL_split_11 (fun H locs hH hS => ?_)
  refine lv_goto hx hb dL_split_12 (tgt := 27) rfl ?_
  refine lv_iconst (v := 0) hx hb dL_split_27 (by decide) ?_
  refine W.widen (k := 4) (n := 24) (Nat.le_of_ble_eq_true rfl) (Nat.le_of_ble_eq_true rfl) ?_
  exact eI S hr hlocks hH hS (Or.inl ⟨n9, C1, hpost9, rfl, rfl⟩) dL_split_28
set_option maxRecDepth 100000 in
set_option maxHeartbeats 4000000 in
theorem w_join {row x : Int32} (ok_o : o ∈ C.1 ∧ C.2.1 o = 2) (hM : Mx l yX2_join wsX2_join (rmL 7 3 18) D lo Γ [.ref o, .int row, .int x] (C, M, V) post px) (hpost : ∀ v Z', post v Z' → (∃ (n : Int32) (C' : CW), v = some (.int n) ∧ Z' = (C', M, V))) (hpx : ∀ E Z', px E Z' → (E = "java/lang/IndexOutOfBoundsException" ∨ E = "java/lang/IllegalStateException") ∧ ∃ C' : CW, Z' = (C', M, V)) : My l yL_join wsL_join (rmL 8 3 18) D lo Γ [.ref o, .int row, .int x, .ref (gxa Γ 7)] (C, M, V) (WQ post px M V cd2) := by
  refine My_of (cc := cL_join) (maxL := 5) (ret := some .int) (by decide) rfl (Nat.le_of_ble_eq_true rfl) ?_
  intro p e s m args below meth c ls S hr hlocks hK hH hS hX ht hl
  have hx := S.1
  have hb := S.2.1
  have hts := S.2.2.2.2
  have hl : lv_has ls 5 [(0, .ref o), (1, .int row), (2, .int x), (3, .ref (gxa Γ 7))] := hl
  have k1 := hts (.classLink RL 13 "java/lang/IndexOutOfBoundsException") (List.mem_of_getElem? (i := 1) rfl)
  have k2 := hts (.classLink RL 17 "java/lang/IllegalStateException") (List.mem_of_getElem? (i := 2) rfl)
  refine lv_aload_n hx hb dL_join_0 rfl (lv_at hl 3 rfl) ?_
  refine lv_iconst (v := 0) hx hb dL_join_1 (by decide) ?_
  refine lv_aload_n hx hb dL_join_2 rfl (lv_at hl 0 rfl) ?_
  refine lv_iload_n hx hb dL_join_3 rfl (lv_at hl 1 rfl) ?_
  refine lv_iload_n hx hb dL_join_4 rfl (lv_at hl 2 rfl) ?_
  refine cVx S hM (cwV 2 hts gL_join_X2_join rfl rfl rfl (by decide +kernel) ⟨Nat.le_of_ble_eq_true rfl, Nat.le_of_ble_eq_true rfl⟩) hK hH hX.1 (Hp_recv hK hH ok_o.1 ok_o.2 rfl) hS rfl hl.1 rfl (by simp [cat_rf, Value.category]) dL_join_5 ⟨Nat.le_of_ble_eq_true rfl, Nat.le_of_ble_eq_true rfl⟩ (fun E Z1 H locs ce q9 hpx9 hH hS hce hcv hcl => ?_) (fun v Z1 H locs hpost9 hH hS => ?_)
  · obtain ⟨hE, C1, rfl⟩ := hpx _ _ hpx9
    rcases hE with rfl | rfl
    · refine catA S hX ht (by decide) (by decide) (by decide) k1 hce hcv hcl ?_
      refine lv_astore (lv' := [(4, .ref q9), (0, .ref o), (1, .int row), (2, .int x), (3, .ref (gxa Γ 7))]) hx hb dL_join_13 hl (by decide) rfl (fun ls hl => ?_)
      refine lv_iconst (v := 1) hx hb dL_join_15 (by decide) ?_
      refine W.widen (k := 3) (n := 18) (Nat.le_of_ble_eq_true rfl) (Nat.le_of_ble_eq_true rfl) ?_
      exact eI S hr hlocks hH hS (Or.inr ⟨_, C1, hpx9, by rw [← cd2_a], rfl⟩) dL_join_16
    · refine catB S hX ht (by decide) (by decide) (by decide) (by decide) k1 k2 hX.2.1 hce hcv hcl ?_
      refine lv_astore (lv' := [(4, .ref q9), (0, .ref o), (1, .int row), (2, .int x), (3, .ref (gxa Γ 7))]) hx hb dL_join_17 hl (by decide) rfl (fun ls hl => ?_)
      refine lv_iconst (v := 2) hx hb dL_join_19 (by decide) ?_
      refine W.widen (k := 3) (n := 18) (Nat.le_of_ble_eq_true rfl) (Nat.le_of_ble_eq_true rfl) ?_
      exact eI S hr hlocks hH hS (Or.inr ⟨_, C1, hpx9, by rw [← cd2_c], rfl⟩) dL_join_20
  obtain ⟨n9, C1, rfl, rfl⟩ := hpost _ _ hpost9
  refine lv_i2l hx hb dL_join_8 rfl ?_
  refine pLg S hK hH hS dL_join_9 (fun H locs hH hS => ?_)
  refine lv_goto hx hb dL_join_10 (tgt := 21) rfl ?_
  refine lv_iconst (v := 0) hx hb dL_join_21 (by decide) ?_
  refine W.widen (k := 3) (n := 18) (Nat.le_of_ble_eq_true rfl) (Nat.le_of_ble_eq_true rfl) ?_
  exact eI S hr hlocks hH hS (Or.inl ⟨n9, C1, hpost9, rfl, rfl⟩) dL_join_22
set_option maxRecDepth 100000 in
set_option maxHeartbeats 4000000 in
theorem w_sizeOf {row : Int32} (ok_o : o ∈ C.1 ∧ C.2.1 o = 2) (hM : Mx l yX2_sizeOf wsX2_sizeOf (rmL 7 1 6) D lo Γ [.ref o, .int row] (C, M, V) post px) (hpost : ∀ v Z', post v Z' → (∃ (n : Int32) (C' : CW), v = some (.int n) ∧ Z' = (C', M, V))) (hpx : ∀ E Z', px E Z' → E = "java/lang/IndexOutOfBoundsException" ∧ ∃ C' : CW, Z' = (C', M, V)) : My l yL_sizeOf wsL_sizeOf (rmL 8 1 6) D lo Γ [.ref o, .int row, .ref (gxa Γ 7)] (C, M, V) (WQ post px M V cd1) := by
  refine My_of (cc := cL_sizeOf) (maxL := 4) (ret := some .int) (by decide) rfl (Nat.le_of_ble_eq_true rfl) ?_
  intro p e s m args below meth c ls S hr hlocks hK hH hS hX ht hl
  have hx := S.1
  have hb := S.2.1
  have hts := S.2.2.2.2
  have hl : lv_has ls 4 [(0, .ref o), (1, .int row), (2, .ref (gxa Γ 7))] := hl
  have k1 := hts (.classLink RL 13 "java/lang/IndexOutOfBoundsException") (List.mem_of_getElem? (i := 1) rfl)
  refine lv_aload_n hx hb dL_sizeOf_0 rfl (lv_at hl 2 rfl) ?_
  refine lv_iconst (v := 0) hx hb dL_sizeOf_1 (by decide) ?_
  refine lv_aload_n hx hb dL_sizeOf_2 rfl (lv_at hl 0 rfl) ?_
  refine lv_iload_n hx hb dL_sizeOf_3 rfl (lv_at hl 1 rfl) ?_
  refine cVx S hM (cwV 1 hts gL_sizeOf_X2_sizeOf rfl rfl rfl (by decide +kernel) ⟨Nat.le_of_ble_eq_true rfl, Nat.le_of_ble_eq_true rfl⟩) hK hH hX.1 (Hp_recv hK hH ok_o.1 ok_o.2 rfl) hS rfl hl.1 rfl (by simp [cat_rf, Value.category]) dL_sizeOf_4 ⟨Nat.le_of_ble_eq_true rfl, Nat.le_of_ble_eq_true rfl⟩ (fun E Z1 H locs ce q9 hpx9 hH hS hce hcv hcl => ?_) (fun v Z1 H locs hpost9 hH hS => ?_)
  · obtain ⟨hE, C1, rfl⟩ := hpx _ _ hpx9
    subst hE
    refine catA S hX ht (by decide) (by decide) (by decide) k1 hce hcv hcl ?_
    refine lv_astore_n (lv' := [(3, .ref q9), (0, .ref o), (1, .int row), (2, .ref (gxa Γ 7))]) hx hb dL_sizeOf_12 rfl hl (by decide) rfl (fun ls hl => ?_)
    refine lv_iconst (v := 1) hx hb dL_sizeOf_13 (by decide) ?_
    refine W.widen (k := 1) (n := 6) (Nat.le_of_ble_eq_true rfl) (Nat.le_of_ble_eq_true rfl) ?_
    exact eI S hr hlocks hH hS (Or.inr ⟨_, C1, hpx9, rfl, rfl⟩) dL_sizeOf_14
  obtain ⟨n9, C1, rfl, rfl⟩ := hpost _ _ hpost9
  refine lv_i2l hx hb dL_sizeOf_7 rfl ?_
  refine pLg S hK hH hS dL_sizeOf_8 (fun H locs hH hS => ?_)
  refine lv_goto hx hb dL_sizeOf_9 (tgt := 15) rfl ?_
  refine lv_iconst (v := 0) hx hb dL_sizeOf_15 (by decide) ?_
  refine W.widen (k := 1) (n := 6) (Nat.le_of_ble_eq_true rfl) (Nat.le_of_ble_eq_true rfl) ?_
  exact eI S hr hlocks hH hS (Or.inl ⟨n9, C1, hpost9, rfl, rfl⟩) dL_sizeOf_16
set_option maxRecDepth 100000 in
set_option maxHeartbeats 4000000 in
theorem w_top {row : Int32} (ok_o : o ∈ C.1 ∧ C.2.1 o = 2) (hM : Mx l yX2_top wsX2_top (rmL 7 1 6) D lo Γ [.ref o, .int row] (C, M, V) post px) (hpost : ∀ v Z', post v Z' → (∃ (n : Int32) (C' : CW), v = some (.int n) ∧ Z' = (C', M, V))) (hpx : ∀ E Z', px E Z' → E = "java/lang/IndexOutOfBoundsException" ∧ ∃ C' : CW, Z' = (C', M, V)) : My l yL_top wsL_top (rmL 8 1 6) D lo Γ [.ref o, .int row, .ref (gxa Γ 7)] (C, M, V) (WQ post px M V cd1) := by
  refine My_of (cc := cL_top) (maxL := 4) (ret := some .int) (by decide) rfl (Nat.le_of_ble_eq_true rfl) ?_
  intro p e s m args below meth c ls S hr hlocks hK hH hS hX ht hl
  have hx := S.1
  have hb := S.2.1
  have hts := S.2.2.2.2
  have hl : lv_has ls 4 [(0, .ref o), (1, .int row), (2, .ref (gxa Γ 7))] := hl
  have k1 := hts (.classLink RL 13 "java/lang/IndexOutOfBoundsException") (List.mem_of_getElem? (i := 1) rfl)
  refine lv_aload_n hx hb dL_top_0 rfl (lv_at hl 2 rfl) ?_
  refine lv_iconst (v := 0) hx hb dL_top_1 (by decide) ?_
  refine lv_aload_n hx hb dL_top_2 rfl (lv_at hl 0 rfl) ?_
  refine lv_iload_n hx hb dL_top_3 rfl (lv_at hl 1 rfl) ?_
  refine cVx S hM (cwV 1 hts gL_top_X2_top rfl rfl rfl (by decide +kernel) ⟨Nat.le_of_ble_eq_true rfl, Nat.le_of_ble_eq_true rfl⟩) hK hH hX.1 (Hp_recv hK hH ok_o.1 ok_o.2 rfl) hS rfl hl.1 rfl (by simp [cat_rf, Value.category]) dL_top_4 ⟨Nat.le_of_ble_eq_true rfl, Nat.le_of_ble_eq_true rfl⟩ (fun E Z1 H locs ce q9 hpx9 hH hS hce hcv hcl => ?_) (fun v Z1 H locs hpost9 hH hS => ?_)
  · obtain ⟨hE, C1, rfl⟩ := hpx _ _ hpx9
    subst hE
    refine catA S hX ht (by decide) (by decide) (by decide) k1 hce hcv hcl ?_
    refine lv_astore_n (lv' := [(3, .ref q9), (0, .ref o), (1, .int row), (2, .ref (gxa Γ 7))]) hx hb dL_top_12 rfl hl (by decide) rfl (fun ls hl => ?_)
    refine lv_iconst (v := 1) hx hb dL_top_13 (by decide) ?_
    refine W.widen (k := 1) (n := 6) (Nat.le_of_ble_eq_true rfl) (Nat.le_of_ble_eq_true rfl) ?_
    exact eI S hr hlocks hH hS (Or.inr ⟨_, C1, hpx9, rfl, rfl⟩) dL_top_14
  obtain ⟨n9, C1, rfl, rfl⟩ := hpost _ _ hpost9
  refine lv_i2l hx hb dL_top_7 rfl ?_
  refine pLg S hK hH hS dL_top_8 (fun H locs hH hS => ?_)
  refine lv_goto hx hb dL_top_9 (tgt := 15) rfl ?_
  refine lv_iconst (v := 0) hx hb dL_top_15 (by decide) ?_
  refine W.widen (k := 1) (n := 6) (Nat.le_of_ble_eq_true rfl) (Nat.le_of_ble_eq_true rfl) ?_
  exact eI S hr hlocks hH hS (Or.inl ⟨n9, C1, hpost9, rfl, rfl⟩) dL_top_16
set_option maxRecDepth 100000 in
set_option maxHeartbeats 4000000 in
theorem w_height {row : Int32} (ok_o : o ∈ C.1 ∧ C.2.1 o = 2) (hM : Mx l yX2_height wsX2_height (rmL 7 1 6) D lo Γ [.ref o, .int row] (C, M, V) post px) (hpost : ∀ v Z', post v Z' → (∃ (n : Int32) (C' : CW), v = some (.int n) ∧ Z' = (C', M, V))) (hpx : ∀ E Z', px E Z' → E = "java/lang/IndexOutOfBoundsException" ∧ ∃ C' : CW, Z' = (C', M, V)) : My l yL_height wsL_height (rmL 8 1 6) D lo Γ [.ref o, .int row, .ref (gxa Γ 7)] (C, M, V) (WQ post px M V cd1) := by
  refine My_of (cc := cL_height) (maxL := 4) (ret := some .int) (by decide) rfl (Nat.le_of_ble_eq_true rfl) ?_
  intro p e s m args below meth c ls S hr hlocks hK hH hS hX ht hl
  have hx := S.1
  have hb := S.2.1
  have hts := S.2.2.2.2
  have hl : lv_has ls 4 [(0, .ref o), (1, .int row), (2, .ref (gxa Γ 7))] := hl
  have k1 := hts (.classLink RL 13 "java/lang/IndexOutOfBoundsException") (List.mem_of_getElem? (i := 1) rfl)
  refine lv_aload_n hx hb dL_height_0 rfl (lv_at hl 2 rfl) ?_
  refine lv_iconst (v := 0) hx hb dL_height_1 (by decide) ?_
  refine lv_aload_n hx hb dL_height_2 rfl (lv_at hl 0 rfl) ?_
  refine lv_iload_n hx hb dL_height_3 rfl (lv_at hl 1 rfl) ?_
  refine cVx S hM (cwV 1 hts gL_height_X2_height rfl rfl rfl (by decide +kernel) ⟨Nat.le_of_ble_eq_true rfl, Nat.le_of_ble_eq_true rfl⟩) hK hH hX.1 (Hp_recv hK hH ok_o.1 ok_o.2 rfl) hS rfl hl.1 rfl (by simp [cat_rf, Value.category]) dL_height_4 ⟨Nat.le_of_ble_eq_true rfl, Nat.le_of_ble_eq_true rfl⟩ (fun E Z1 H locs ce q9 hpx9 hH hS hce hcv hcl => ?_) (fun v Z1 H locs hpost9 hH hS => ?_)
  · obtain ⟨hE, C1, rfl⟩ := hpx _ _ hpx9
    subst hE
    refine catA S hX ht (by decide) (by decide) (by decide) k1 hce hcv hcl ?_
    refine lv_astore_n (lv' := [(3, .ref q9), (0, .ref o), (1, .int row), (2, .ref (gxa Γ 7))]) hx hb dL_height_12 rfl hl (by decide) rfl (fun ls hl => ?_)
    refine lv_iconst (v := 1) hx hb dL_height_13 (by decide) ?_
    refine W.widen (k := 1) (n := 6) (Nat.le_of_ble_eq_true rfl) (Nat.le_of_ble_eq_true rfl) ?_
    exact eI S hr hlocks hH hS (Or.inr ⟨_, C1, hpx9, rfl, rfl⟩) dL_height_14
  obtain ⟨n9, C1, rfl, rfl⟩ := hpost _ _ hpost9
  refine lv_i2l hx hb dL_height_7 rfl ?_
  refine pLg S hK hH hS dL_height_8 (fun H locs hH hS => ?_)
  refine lv_goto hx hb dL_height_9 (tgt := 15) rfl ?_
  refine lv_iconst (v := 0) hx hb dL_height_15 (by decide) ?_
  refine W.widen (k := 1) (n := 6) (Nat.le_of_ble_eq_true rfl) (Nat.le_of_ble_eq_true rfl) ?_
  exact eI S hr hlocks hH hS (Or.inl ⟨n9, C1, hpost9, rfl, rfl⟩) dL_height_16
set_option maxRecDepth 100000 in
set_option maxHeartbeats 4000000 in
theorem w_leastHeight {row : Int32} (ok_o : o ∈ C.1 ∧ C.2.1 o = 2) (hM : Mx l yX2_leastHeight wsX2_leastHeight (rmL 7 1 6) D lo Γ [.ref o, .int row] (C, M, V) post px) (hpost : ∀ v Z', post v Z' → (∃ (n : Int32) (C' : CW), v = some (.int n) ∧ Z' = (C', M, V))) (hpx : ∀ E Z', px E Z' → E = "java/lang/IndexOutOfBoundsException" ∧ ∃ C' : CW, Z' = (C', M, V)) : My l yL_leastHeight wsL_leastHeight (rmL 8 1 6) D lo Γ [.ref o, .int row, .ref (gxa Γ 7)] (C, M, V) (WQ post px M V cd1) := by
  refine My_of (cc := cL_leastHeight) (maxL := 4) (ret := some .int) (by decide) rfl (Nat.le_of_ble_eq_true rfl) ?_
  intro p e s m args below meth c ls S hr hlocks hK hH hS hX ht hl
  have hx := S.1
  have hb := S.2.1
  have hts := S.2.2.2.2
  have hl : lv_has ls 4 [(0, .ref o), (1, .int row), (2, .ref (gxa Γ 7))] := hl
  have k1 := hts (.classLink RL 13 "java/lang/IndexOutOfBoundsException") (List.mem_of_getElem? (i := 1) rfl)
  refine lv_aload_n hx hb dL_leastHeight_0 rfl (lv_at hl 2 rfl) ?_
  refine lv_iconst (v := 0) hx hb dL_leastHeight_1 (by decide) ?_
  refine lv_aload_n hx hb dL_leastHeight_2 rfl (lv_at hl 0 rfl) ?_
  refine lv_iload_n hx hb dL_leastHeight_3 rfl (lv_at hl 1 rfl) ?_
  refine cVx S hM (cwV 1 hts gL_leastHeight_X2_leastHeight rfl rfl rfl (by decide +kernel) ⟨Nat.le_of_ble_eq_true rfl, Nat.le_of_ble_eq_true rfl⟩) hK hH hX.1 (Hp_recv hK hH ok_o.1 ok_o.2 rfl) hS rfl hl.1 rfl (by simp [cat_rf, Value.category]) dL_leastHeight_4 ⟨Nat.le_of_ble_eq_true rfl, Nat.le_of_ble_eq_true rfl⟩ (fun E Z1 H locs ce q9 hpx9 hH hS hce hcv hcl => ?_) (fun v Z1 H locs hpost9 hH hS => ?_)
  · obtain ⟨hE, C1, rfl⟩ := hpx _ _ hpx9
    subst hE
    refine catA S hX ht (by decide) (by decide) (by decide) k1 hce hcv hcl ?_
    refine lv_astore_n (lv' := [(3, .ref q9), (0, .ref o), (1, .int row), (2, .ref (gxa Γ 7))]) hx hb dL_leastHeight_12 rfl hl (by decide) rfl (fun ls hl => ?_)
    refine lv_iconst (v := 1) hx hb dL_leastHeight_13 (by decide) ?_
    refine W.widen (k := 1) (n := 6) (Nat.le_of_ble_eq_true rfl) (Nat.le_of_ble_eq_true rfl) ?_
    exact eI S hr hlocks hH hS (Or.inr ⟨_, C1, hpx9, rfl, rfl⟩) dL_leastHeight_14
  obtain ⟨n9, C1, rfl, rfl⟩ := hpost _ _ hpost9
  refine lv_i2l hx hb dL_leastHeight_7 rfl ?_
  refine pLg S hK hH hS dL_leastHeight_8 (fun H locs hH hS => ?_)
  refine lv_goto hx hb dL_leastHeight_9 (tgt := 15) rfl ?_
  refine lv_iconst (v := 0) hx hb dL_leastHeight_15 (by decide) ?_
  refine W.widen (k := 1) (n := 6) (Nat.le_of_ble_eq_true rfl) (Nat.le_of_ble_eq_true rfl) ?_
  exact eI S hr hlocks hH hS (Or.inl ⟨n9, C1, hpost9, rfl, rfl⟩) dL_leastHeight_16
set_option maxRecDepth 100000 in
set_option maxHeartbeats 4000000 in
theorem w_depths {row : Int32} (ok_o : o ∈ C.1 ∧ C.2.1 o = 2) (hM : Mx l yX2_depths wsX2_depths (rmL 7 1 6) D lo Γ [.ref o, .int row] (C, M, V) post px) (hpost : ∀ v Z', post v Z' → (∃ (n : Int32) (C' : CW), v = some (.int n) ∧ Z' = (C', M, V))) (hpx : ∀ E Z', px E Z' → E = "java/lang/IndexOutOfBoundsException" ∧ ∃ C' : CW, Z' = (C', M, V)) : My l yL_depths wsL_depths (rmL 8 1 6) D lo Γ [.ref o, .int row, .ref (gxa Γ 7)] (C, M, V) (WQ post px M V cd1) := by
  refine My_of (cc := cL_depths) (maxL := 4) (ret := some .int) (by decide) rfl (Nat.le_of_ble_eq_true rfl) ?_
  intro p e s m args below meth c ls S hr hlocks hK hH hS hX ht hl
  have hx := S.1
  have hb := S.2.1
  have hts := S.2.2.2.2
  have hl : lv_has ls 4 [(0, .ref o), (1, .int row), (2, .ref (gxa Γ 7))] := hl
  have k1 := hts (.classLink RL 13 "java/lang/IndexOutOfBoundsException") (List.mem_of_getElem? (i := 1) rfl)
  refine lv_aload_n hx hb dL_depths_0 rfl (lv_at hl 2 rfl) ?_
  refine lv_iconst (v := 0) hx hb dL_depths_1 (by decide) ?_
  refine lv_aload_n hx hb dL_depths_2 rfl (lv_at hl 0 rfl) ?_
  refine lv_iload_n hx hb dL_depths_3 rfl (lv_at hl 1 rfl) ?_
  refine cVx S hM (cwV 1 hts gL_depths_X2_depths rfl rfl rfl (by decide +kernel) ⟨Nat.le_of_ble_eq_true rfl, Nat.le_of_ble_eq_true rfl⟩) hK hH hX.1 (Hp_recv hK hH ok_o.1 ok_o.2 rfl) hS rfl hl.1 rfl (by simp [cat_rf, Value.category]) dL_depths_4 ⟨Nat.le_of_ble_eq_true rfl, Nat.le_of_ble_eq_true rfl⟩ (fun E Z1 H locs ce q9 hpx9 hH hS hce hcv hcl => ?_) (fun v Z1 H locs hpost9 hH hS => ?_)
  · obtain ⟨hE, C1, rfl⟩ := hpx _ _ hpx9
    subst hE
    refine catA S hX ht (by decide) (by decide) (by decide) k1 hce hcv hcl ?_
    refine lv_astore_n (lv' := [(3, .ref q9), (0, .ref o), (1, .int row), (2, .ref (gxa Γ 7))]) hx hb dL_depths_12 rfl hl (by decide) rfl (fun ls hl => ?_)
    refine lv_iconst (v := 1) hx hb dL_depths_13 (by decide) ?_
    refine W.widen (k := 1) (n := 6) (Nat.le_of_ble_eq_true rfl) (Nat.le_of_ble_eq_true rfl) ?_
    exact eI S hr hlocks hH hS (Or.inr ⟨_, C1, hpx9, rfl, rfl⟩) dL_depths_14
  obtain ⟨n9, C1, rfl, rfl⟩ := hpost _ _ hpost9
  refine lv_i2l hx hb dL_depths_7 rfl ?_
  refine pLg S hK hH hS dL_depths_8 (fun H locs hH hS => ?_)
  refine lv_goto hx hb dL_depths_9 (tgt := 15) rfl ?_
  refine lv_iconst (v := 0) hx hb dL_depths_15 (by decide) ?_
  refine W.widen (k := 1) (n := 6) (Nat.le_of_ble_eq_true rfl) (Nat.le_of_ble_eq_true rfl) ?_
  exact eI S hr hlocks hH hS (Or.inl ⟨n9, C1, hpost9, rfl, rfl⟩) dL_depths_16
set_option maxRecDepth 100000 in
set_option maxHeartbeats 4000000 in
theorem w_smallest {row : Int32} (ok_o : o ∈ C.1 ∧ C.2.1 o = 2) (hM : Mx l yX2_smallest wsX2_smallest (rmL 7 1 6) D lo Γ [.ref o, .int row] (C, M, V) post px) (hpost : ∀ v Z', post v Z' → (∃ (n : Int32) (C' : CW), v = some (.int n) ∧ Z' = (C', M, V))) (hpx : ∀ E Z', px E Z' → E = "java/lang/IndexOutOfBoundsException" ∧ ∃ C' : CW, Z' = (C', M, V)) : My l yL_smallest wsL_smallest (rmL 8 1 6) D lo Γ [.ref o, .int row, .ref (gxa Γ 7)] (C, M, V) (WQ post px M V cd1) := by
  refine My_of (cc := cL_smallest) (maxL := 4) (ret := some .int) (by decide) rfl (Nat.le_of_ble_eq_true rfl) ?_
  intro p e s m args below meth c ls S hr hlocks hK hH hS hX ht hl
  have hx := S.1
  have hb := S.2.1
  have hts := S.2.2.2.2
  have hl : lv_has ls 4 [(0, .ref o), (1, .int row), (2, .ref (gxa Γ 7))] := hl
  have k1 := hts (.classLink RL 13 "java/lang/IndexOutOfBoundsException") (List.mem_of_getElem? (i := 1) rfl)
  refine lv_aload_n hx hb dL_smallest_0 rfl (lv_at hl 2 rfl) ?_
  refine lv_iconst (v := 0) hx hb dL_smallest_1 (by decide) ?_
  refine lv_aload_n hx hb dL_smallest_2 rfl (lv_at hl 0 rfl) ?_
  refine lv_iload_n hx hb dL_smallest_3 rfl (lv_at hl 1 rfl) ?_
  refine cVx S hM (cwV 1 hts gL_smallest_X2_smallest rfl rfl rfl (by decide +kernel) ⟨Nat.le_of_ble_eq_true rfl, Nat.le_of_ble_eq_true rfl⟩) hK hH hX.1 (Hp_recv hK hH ok_o.1 ok_o.2 rfl) hS rfl hl.1 rfl (by simp [cat_rf, Value.category]) dL_smallest_4 ⟨Nat.le_of_ble_eq_true rfl, Nat.le_of_ble_eq_true rfl⟩ (fun E Z1 H locs ce q9 hpx9 hH hS hce hcv hcl => ?_) (fun v Z1 H locs hpost9 hH hS => ?_)
  · obtain ⟨hE, C1, rfl⟩ := hpx _ _ hpx9
    subst hE
    refine catA S hX ht (by decide) (by decide) (by decide) k1 hce hcv hcl ?_
    refine lv_astore_n (lv' := [(3, .ref q9), (0, .ref o), (1, .int row), (2, .ref (gxa Γ 7))]) hx hb dL_smallest_12 rfl hl (by decide) rfl (fun ls hl => ?_)
    refine lv_iconst (v := 1) hx hb dL_smallest_13 (by decide) ?_
    refine W.widen (k := 1) (n := 6) (Nat.le_of_ble_eq_true rfl) (Nat.le_of_ble_eq_true rfl) ?_
    exact eI S hr hlocks hH hS (Or.inr ⟨_, C1, hpx9, rfl, rfl⟩) dL_smallest_14
  obtain ⟨n9, C1, rfl, rfl⟩ := hpost _ _ hpost9
  refine lv_i2l hx hb dL_smallest_7 rfl ?_
  refine pLg S hK hH hS dL_smallest_8 (fun H locs hH hS => ?_)
  refine lv_goto hx hb dL_smallest_9 (tgt := 15) rfl ?_
  refine lv_iconst (v := 0) hx hb dL_smallest_15 (by decide) ?_
  refine W.widen (k := 1) (n := 6) (Nat.le_of_ble_eq_true rfl) (Nat.le_of_ble_eq_true rfl) ?_
  exact eI S hr hlocks hH hS (Or.inl ⟨n9, C1, hpost9, rfl, rfl⟩) dL_smallest_16
set_option maxRecDepth 100000 in
set_option maxHeartbeats 4000000 in
theorem w_greatest {row : Int32} (ok_o : o ∈ C.1 ∧ C.2.1 o = 2) (hM : Mx l yX2_greatest wsX2_greatest (rmL 7 1 6) D lo Γ [.ref o, .int row] (C, M, V) post px) (hpost : ∀ v Z', post v Z' → (∃ (n : Int32) (C' : CW), v = some (.int n) ∧ Z' = (C', M, V))) (hpx : ∀ E Z', px E Z' → E = "java/lang/IndexOutOfBoundsException" ∧ ∃ C' : CW, Z' = (C', M, V)) : My l yL_greatest wsL_greatest (rmL 8 1 6) D lo Γ [.ref o, .int row, .ref (gxa Γ 7)] (C, M, V) (WQ post px M V cd1) := by
  refine My_of (cc := cL_greatest) (maxL := 4) (ret := some .int) (by decide) rfl (Nat.le_of_ble_eq_true rfl) ?_
  intro p e s m args below meth c ls S hr hlocks hK hH hS hX ht hl
  have hx := S.1
  have hb := S.2.1
  have hts := S.2.2.2.2
  have hl : lv_has ls 4 [(0, .ref o), (1, .int row), (2, .ref (gxa Γ 7))] := hl
  have k1 := hts (.classLink RL 13 "java/lang/IndexOutOfBoundsException") (List.mem_of_getElem? (i := 1) rfl)
  refine lv_aload_n hx hb dL_greatest_0 rfl (lv_at hl 2 rfl) ?_
  refine lv_iconst (v := 0) hx hb dL_greatest_1 (by decide) ?_
  refine lv_aload_n hx hb dL_greatest_2 rfl (lv_at hl 0 rfl) ?_
  refine lv_iload_n hx hb dL_greatest_3 rfl (lv_at hl 1 rfl) ?_
  refine cVx S hM (cwV 1 hts gL_greatest_X2_greatest rfl rfl rfl (by decide +kernel) ⟨Nat.le_of_ble_eq_true rfl, Nat.le_of_ble_eq_true rfl⟩) hK hH hX.1 (Hp_recv hK hH ok_o.1 ok_o.2 rfl) hS rfl hl.1 rfl (by simp [cat_rf, Value.category]) dL_greatest_4 ⟨Nat.le_of_ble_eq_true rfl, Nat.le_of_ble_eq_true rfl⟩ (fun E Z1 H locs ce q9 hpx9 hH hS hce hcv hcl => ?_) (fun v Z1 H locs hpost9 hH hS => ?_)
  · obtain ⟨hE, C1, rfl⟩ := hpx _ _ hpx9
    subst hE
    refine catA S hX ht (by decide) (by decide) (by decide) k1 hce hcv hcl ?_
    refine lv_astore_n (lv' := [(3, .ref q9), (0, .ref o), (1, .int row), (2, .ref (gxa Γ 7))]) hx hb dL_greatest_12 rfl hl (by decide) rfl (fun ls hl => ?_)
    refine lv_iconst (v := 1) hx hb dL_greatest_13 (by decide) ?_
    refine W.widen (k := 1) (n := 6) (Nat.le_of_ble_eq_true rfl) (Nat.le_of_ble_eq_true rfl) ?_
    exact eI S hr hlocks hH hS (Or.inr ⟨_, C1, hpx9, rfl, rfl⟩) dL_greatest_14
  obtain ⟨n9, C1, rfl, rfl⟩ := hpost _ _ hpost9
  refine lv_i2l hx hb dL_greatest_7 rfl ?_
  refine pLg S hK hH hS dL_greatest_8 (fun H locs hH hS => ?_)
  refine lv_goto hx hb dL_greatest_9 (tgt := 15) rfl ?_
  refine lv_iconst (v := 0) hx hb dL_greatest_15 (by decide) ?_
  refine W.widen (k := 1) (n := 6) (Nat.le_of_ble_eq_true rfl) (Nat.le_of_ble_eq_true rfl) ?_
  exact eI S hr hlocks hH hS (Or.inl ⟨n9, C1, hpost9, rfl, rfl⟩) dL_greatest_16
set_option maxRecDepth 100000 in
set_option maxHeartbeats 4000000 in
theorem w_inOrder {row x : Int32} (ok_o : o ∈ C.1 ∧ C.2.1 o = 2) (hM : Mx l yX2_inOrder wsX2_inOrder (rmL 7 2 12) D lo Γ [.ref o, .int row, .int x] (C, M, V) post px) (hpost : ∀ v Z', post v Z' → (∃ (n : Int32) (C' : CW), v = some (.int n) ∧ Z' = (C', M, V))) (hpx : ∀ E Z', px E Z' → E = "java/lang/IndexOutOfBoundsException" ∧ ∃ C' : CW, Z' = (C', M, V)) : My l yL_inOrder wsL_inOrder (rmL 8 2 12) D lo Γ [.ref o, .int row, .int x, .ref (gxa Γ 7)] (C, M, V) (WQ post px M V cd1) := by
  refine My_of (cc := cL_inOrder) (maxL := 5) (ret := some .int) (by decide) rfl (Nat.le_of_ble_eq_true rfl) ?_
  intro p e s m args below meth c ls S hr hlocks hK hH hS hX ht hl
  have hx := S.1
  have hb := S.2.1
  have hts := S.2.2.2.2
  have hl : lv_has ls 5 [(0, .ref o), (1, .int row), (2, .int x), (3, .ref (gxa Γ 7))] := hl
  have k1 := hts (.classLink RL 13 "java/lang/IndexOutOfBoundsException") (List.mem_of_getElem? (i := 1) rfl)
  refine lv_aload_n hx hb dL_inOrder_0 rfl (lv_at hl 3 rfl) ?_
  refine lv_iconst (v := 0) hx hb dL_inOrder_1 (by decide) ?_
  refine lv_aload_n hx hb dL_inOrder_2 rfl (lv_at hl 0 rfl) ?_
  refine lv_iload_n hx hb dL_inOrder_3 rfl (lv_at hl 1 rfl) ?_
  refine lv_iload_n hx hb dL_inOrder_4 rfl (lv_at hl 2 rfl) ?_
  refine cVx S hM (cwV 2 hts gL_inOrder_X2_inOrder rfl rfl rfl (by decide +kernel) ⟨Nat.le_of_ble_eq_true rfl, Nat.le_of_ble_eq_true rfl⟩) hK hH hX.1 (Hp_recv hK hH ok_o.1 ok_o.2 rfl) hS rfl hl.1 rfl (by simp [cat_rf, Value.category]) dL_inOrder_5 ⟨Nat.le_of_ble_eq_true rfl, Nat.le_of_ble_eq_true rfl⟩ (fun E Z1 H locs ce q9 hpx9 hH hS hce hcv hcl => ?_) (fun v Z1 H locs hpost9 hH hS => ?_)
  · obtain ⟨hE, C1, rfl⟩ := hpx _ _ hpx9
    subst hE
    refine catA S hX ht (by decide) (by decide) (by decide) k1 hce hcv hcl ?_
    refine lv_astore (lv' := [(4, .ref q9), (0, .ref o), (1, .int row), (2, .int x), (3, .ref (gxa Γ 7))]) hx hb dL_inOrder_13 hl (by decide) rfl (fun ls hl => ?_)
    refine lv_iconst (v := 1) hx hb dL_inOrder_15 (by decide) ?_
    refine W.widen (k := 2) (n := 12) (Nat.le_of_ble_eq_true rfl) (Nat.le_of_ble_eq_true rfl) ?_
    exact eI S hr hlocks hH hS (Or.inr ⟨_, C1, hpx9, rfl, rfl⟩) dL_inOrder_16
  obtain ⟨n9, C1, rfl, rfl⟩ := hpost _ _ hpost9
  refine lv_i2l hx hb dL_inOrder_8 rfl ?_
  refine pLg S hK hH hS dL_inOrder_9 (fun H locs hH hS => ?_)
  refine lv_goto hx hb dL_inOrder_10 (tgt := 17) rfl ?_
  refine lv_iconst (v := 0) hx hb dL_inOrder_17 (by decide) ?_
  refine W.widen (k := 2) (n := 12) (Nat.le_of_ble_eq_true rfl) (Nat.le_of_ble_eq_true rfl) ?_
  exact eI S hr hlocks hH hS (Or.inl ⟨n9, C1, hpost9, rfl, rfl⟩) dL_inOrder_18
set_option maxRecDepth 100000 in
set_option maxHeartbeats 4000000 in
theorem w_leaves {row : Int32} (ok_o : o ∈ C.1 ∧ C.2.1 o = 2) (hM : Mx l yX2_leaves wsX2_leaves (rmL 7 1 6) D lo Γ [.ref o, .int row] (C, M, V) post px) (hpost : ∀ v Z', post v Z' → (∃ (n : Int32) (C' : CW), v = some (.int n) ∧ Z' = (C', M, V))) (hpx : ∀ E Z', px E Z' → E = "java/lang/IndexOutOfBoundsException" ∧ ∃ C' : CW, Z' = (C', M, V)) : My l yL_leaves wsL_leaves (rmL 8 1 6) D lo Γ [.ref o, .int row, .ref (gxa Γ 7)] (C, M, V) (WQ post px M V cd1) := by
  refine My_of (cc := cL_leaves) (maxL := 4) (ret := some .int) (by decide) rfl (Nat.le_of_ble_eq_true rfl) ?_
  intro p e s m args below meth c ls S hr hlocks hK hH hS hX ht hl
  have hx := S.1
  have hb := S.2.1
  have hts := S.2.2.2.2
  have hl : lv_has ls 4 [(0, .ref o), (1, .int row), (2, .ref (gxa Γ 7))] := hl
  have k1 := hts (.classLink RL 13 "java/lang/IndexOutOfBoundsException") (List.mem_of_getElem? (i := 1) rfl)
  refine lv_aload_n hx hb dL_leaves_0 rfl (lv_at hl 2 rfl) ?_
  refine lv_iconst (v := 0) hx hb dL_leaves_1 (by decide) ?_
  refine lv_aload_n hx hb dL_leaves_2 rfl (lv_at hl 0 rfl) ?_
  refine lv_iload_n hx hb dL_leaves_3 rfl (lv_at hl 1 rfl) ?_
  refine cVx S hM (cwV 1 hts gL_leaves_X2_leaves rfl rfl rfl (by decide +kernel) ⟨Nat.le_of_ble_eq_true rfl, Nat.le_of_ble_eq_true rfl⟩) hK hH hX.1 (Hp_recv hK hH ok_o.1 ok_o.2 rfl) hS rfl hl.1 rfl (by simp [cat_rf, Value.category]) dL_leaves_4 ⟨Nat.le_of_ble_eq_true rfl, Nat.le_of_ble_eq_true rfl⟩ (fun E Z1 H locs ce q9 hpx9 hH hS hce hcv hcl => ?_) (fun v Z1 H locs hpost9 hH hS => ?_)
  · obtain ⟨hE, C1, rfl⟩ := hpx _ _ hpx9
    subst hE
    refine catA S hX ht (by decide) (by decide) (by decide) k1 hce hcv hcl ?_
    refine lv_astore_n (lv' := [(3, .ref q9), (0, .ref o), (1, .int row), (2, .ref (gxa Γ 7))]) hx hb dL_leaves_12 rfl hl (by decide) rfl (fun ls hl => ?_)
    refine lv_iconst (v := 1) hx hb dL_leaves_13 (by decide) ?_
    refine W.widen (k := 1) (n := 6) (Nat.le_of_ble_eq_true rfl) (Nat.le_of_ble_eq_true rfl) ?_
    exact eI S hr hlocks hH hS (Or.inr ⟨_, C1, hpx9, rfl, rfl⟩) dL_leaves_14
  obtain ⟨n9, C1, rfl, rfl⟩ := hpost _ _ hpost9
  refine lv_i2l hx hb dL_leaves_7 rfl ?_
  refine pLg S hK hH hS dL_leaves_8 (fun H locs hH hS => ?_)
  refine lv_goto hx hb dL_leaves_9 (tgt := 15) rfl ?_
  refine lv_iconst (v := 0) hx hb dL_leaves_15 (by decide) ?_
  refine W.widen (k := 1) (n := 6) (Nat.le_of_ble_eq_true rfl) (Nat.le_of_ble_eq_true rfl) ?_
  exact eI S hr hlocks hH hS (Or.inl ⟨n9, C1, hpost9, rfl, rfl⟩) dL_leaves_16
set_option maxRecDepth 100000 in
set_option maxHeartbeats 4000000 in
theorem w_has {row x : Int32} (ok_o : o ∈ C.1 ∧ C.2.1 o = 2) (hM : Mx l yX2_has wsX2_has (rmL 7 1 6) D lo Γ [.ref o, .int row, .int x] (C, M, V) post px) (hpost : ∀ v Z', post v Z' → (∃ (n : Int32) (C' : CW), (n = 0 ∨ n = 1) ∧ v = some (.int n) ∧ Z' = (C', M, V))) (hpx : ∀ E Z', px E Z' → E = "java/lang/IndexOutOfBoundsException" ∧ ∃ C' : CW, Z' = (C', M, V)) : My l yL_has wsL_has (rmL 8 1 6) D lo Γ [.ref o, .int row, .int x, .ref (gxa Γ 7)] (C, M, V) (WQ post px M V cd1) := by
  refine My_of (cc := cL_has) (maxL := 5) (ret := some .int) (by decide) rfl (Nat.le_of_ble_eq_true rfl) ?_
  intro p e s m args below meth c ls S hr hlocks hK hH hS hX ht hl
  have hx := S.1
  have hb := S.2.1
  have hts := S.2.2.2.2
  have hl : lv_has ls 5 [(0, .ref o), (1, .int row), (2, .int x), (3, .ref (gxa Γ 7))] := hl
  have k1 := hts (.classLink RL 13 "java/lang/IndexOutOfBoundsException") (List.mem_of_getElem? (i := 1) rfl)
  refine lv_aload_n hx hb dL_has_0 rfl (lv_at hl 3 rfl) ?_
  refine lv_iconst (v := 0) hx hb dL_has_1 (by decide) ?_
  refine lv_aload_n hx hb dL_has_2 rfl (lv_at hl 0 rfl) ?_
  refine lv_iload_n hx hb dL_has_3 rfl (lv_at hl 1 rfl) ?_
  refine lv_iload_n hx hb dL_has_4 rfl (lv_at hl 2 rfl) ?_
  refine cVx S hM (cwV 2 hts gL_has_X2_has rfl rfl rfl (by decide +kernel) ⟨Nat.le_of_ble_eq_true rfl, Nat.le_of_ble_eq_true rfl⟩) hK hH hX.1 (Hp_recv hK hH ok_o.1 ok_o.2 rfl) hS rfl hl.1 rfl (by simp [cat_rf, Value.category]) dL_has_5 ⟨Nat.le_of_ble_eq_true rfl, Nat.le_of_ble_eq_true rfl⟩ (fun E Z1 H locs ce q9 hpx9 hH hS hce hcv hcl => ?_) (fun v Z1 H locs hpost9 hH hS => ?_)
  · obtain ⟨hE, C1, rfl⟩ := hpx _ _ hpx9
    subst hE
    refine catA S hX ht (by decide) (by decide) (by decide) k1 hce hcv hcl ?_
    refine lv_astore (lv' := [(4, .ref q9), (0, .ref o), (1, .int row), (2, .int x), (3, .ref (gxa Γ 7))]) hx hb dL_has_20 hl (by decide) rfl (fun ls hl => ?_)
    refine lv_iconst (v := 1) hx hb dL_has_22 (by decide) ?_
    refine W.widen (k := 1) (n := 6) (Nat.le_of_ble_eq_true rfl) (Nat.le_of_ble_eq_true rfl) ?_
    exact eI S hr hlocks hH hS (Or.inr ⟨_, C1, hpx9, rfl, rfl⟩) dL_has_23
  obtain ⟨n9, C1, hn9, rfl, rfl⟩ := hpost _ _ hpost9
  refine lv_if_eq hx hb dL_has_8 (tgt := 15) rfl (fun h0 => ?_) (fun h0 => ?_)
  · subst h0
    refine lv_lconst (v := (0 : Int32).toInt64) hx hb dL_has_15 (by decide) ?_
    refine pLg S hK hH hS dL_has_16 (fun H locs hH hS => ?_)
    refine lv_goto hx hb dL_has_17 (tgt := 24) rfl ?_
    refine lv_iconst (v := 0) hx hb dL_has_24 (by decide) ?_
    refine W.widen (k := 1) (n := 6) (Nat.le_of_ble_eq_true rfl) (Nat.le_of_ble_eq_true rfl) ?_
    exact eI S hr hlocks hH hS (Or.inl ⟨0, C1, hpost9, rfl, rfl⟩) dL_has_25
  · have h1 : n9 = 1 := hn9.resolve_left h0
    subst h1
    refine lv_lconst (v := (1 : Int32).toInt64) hx hb dL_has_11 (by decide) ?_
    refine lv_goto hx hb dL_has_12 (tgt := 16) rfl ?_
    refine pLg S hK hH hS dL_has_16 (fun H locs hH hS => ?_)
    refine lv_goto hx hb dL_has_17 (tgt := 24) rfl ?_
    refine lv_iconst (v := 0) hx hb dL_has_24 (by decide) ?_
    refine W.widen (k := 1) (n := 6) (Nat.le_of_ble_eq_true rfl) (Nat.le_of_ble_eq_true rfl) ?_
    exact eI S hr hlocks hH hS (Or.inl ⟨1, C1, hpost9, rfl, rfl⟩) dL_has_25
set_option maxRecDepth 100000 in
set_option maxHeartbeats 4000000 in
theorem w_smaller {row x : Int32} (ok_o : o ∈ C.1 ∧ C.2.1 o = 2) (hM : Mx l yX2_smaller wsX2_smaller (rmL 7 1 6) D lo Γ [.ref o, .int row, .int x] (C, M, V) post px) (hpost : ∀ v Z', post v Z' → (∃ (n : Int32) (C' : CW), v = some (.int n) ∧ Z' = (C', M, V))) (hpx : ∀ E Z', px E Z' → E = "java/lang/IndexOutOfBoundsException" ∧ ∃ C' : CW, Z' = (C', M, V)) : My l yL_smaller wsL_smaller (rmL 8 1 6) D lo Γ [.ref o, .int row, .int x, .ref (gxa Γ 7)] (C, M, V) (WQ post px M V cd1) := by
  refine My_of (cc := cL_smaller) (maxL := 5) (ret := some .int) (by decide) rfl (Nat.le_of_ble_eq_true rfl) ?_
  intro p e s m args below meth c ls S hr hlocks hK hH hS hX ht hl
  have hx := S.1
  have hb := S.2.1
  have hts := S.2.2.2.2
  have hl : lv_has ls 5 [(0, .ref o), (1, .int row), (2, .int x), (3, .ref (gxa Γ 7))] := hl
  have k1 := hts (.classLink RL 13 "java/lang/IndexOutOfBoundsException") (List.mem_of_getElem? (i := 1) rfl)
  refine lv_aload_n hx hb dL_smaller_0 rfl (lv_at hl 3 rfl) ?_
  refine lv_iconst (v := 0) hx hb dL_smaller_1 (by decide) ?_
  refine lv_aload_n hx hb dL_smaller_2 rfl (lv_at hl 0 rfl) ?_
  refine lv_iload_n hx hb dL_smaller_3 rfl (lv_at hl 1 rfl) ?_
  refine lv_iload_n hx hb dL_smaller_4 rfl (lv_at hl 2 rfl) ?_
  refine cVx S hM (cwV 2 hts gL_smaller_X2_smaller rfl rfl rfl (by decide +kernel) ⟨Nat.le_of_ble_eq_true rfl, Nat.le_of_ble_eq_true rfl⟩) hK hH hX.1 (Hp_recv hK hH ok_o.1 ok_o.2 rfl) hS rfl hl.1 rfl (by simp [cat_rf, Value.category]) dL_smaller_5 ⟨Nat.le_of_ble_eq_true rfl, Nat.le_of_ble_eq_true rfl⟩ (fun E Z1 H locs ce q9 hpx9 hH hS hce hcv hcl => ?_) (fun v Z1 H locs hpost9 hH hS => ?_)
  · obtain ⟨hE, C1, rfl⟩ := hpx _ _ hpx9
    subst hE
    refine catA S hX ht (by decide) (by decide) (by decide) k1 hce hcv hcl ?_
    refine lv_astore (lv' := [(4, .ref q9), (0, .ref o), (1, .int row), (2, .int x), (3, .ref (gxa Γ 7))]) hx hb dL_smaller_13 hl (by decide) rfl (fun ls hl => ?_)
    refine lv_iconst (v := 1) hx hb dL_smaller_15 (by decide) ?_
    refine W.widen (k := 1) (n := 6) (Nat.le_of_ble_eq_true rfl) (Nat.le_of_ble_eq_true rfl) ?_
    exact eI S hr hlocks hH hS (Or.inr ⟨_, C1, hpx9, rfl, rfl⟩) dL_smaller_16
  obtain ⟨n9, C1, rfl, rfl⟩ := hpost _ _ hpost9
  refine lv_i2l hx hb dL_smaller_8 rfl ?_
  refine pLg S hK hH hS dL_smaller_9 (fun H locs hH hS => ?_)
  refine lv_goto hx hb dL_smaller_10 (tgt := 17) rfl ?_
  refine lv_iconst (v := 0) hx hb dL_smaller_17 (by decide) ?_
  refine W.widen (k := 1) (n := 6) (Nat.le_of_ble_eq_true rfl) (Nat.le_of_ble_eq_true rfl) ?_
  exact eI S hr hlocks hH hS (Or.inl ⟨n9, C1, hpost9, rfl, rfl⟩) dL_smaller_18
set_option maxRecDepth 100000 in
set_option maxHeartbeats 4000000 in
theorem w_depthOf {row x : Int32} (ok_o : o ∈ C.1 ∧ C.2.1 o = 2) (hM : Mx l yX2_depthOf wsX2_depthOf (rmL 7 2 12) D lo Γ [.ref o, .int row, .int x] (C, M, V) post px) (hpost : ∀ v Z', post v Z' → (∃ (n : Int32) (C' : CW), v = some (.int n) ∧ Z' = (C', M, V))) (hpx : ∀ E Z', px E Z' → (E = "java/lang/IndexOutOfBoundsException" ∨ E = "java/lang/IllegalStateException") ∧ ∃ C' : CW, Z' = (C', M, V)) : My l yL_depthOf wsL_depthOf (rmL 8 2 12) D lo Γ [.ref o, .int row, .int x, .ref (gxa Γ 7)] (C, M, V) (WQ post px M V cd2) := by
  refine My_of (cc := cL_depthOf) (maxL := 5) (ret := some .int) (by decide) rfl (Nat.le_of_ble_eq_true rfl) ?_
  intro p e s m args below meth c ls S hr hlocks hK hH hS hX ht hl
  have hx := S.1
  have hb := S.2.1
  have hts := S.2.2.2.2
  have hl : lv_has ls 5 [(0, .ref o), (1, .int row), (2, .int x), (3, .ref (gxa Γ 7))] := hl
  have k1 := hts (.classLink RL 13 "java/lang/IndexOutOfBoundsException") (List.mem_of_getElem? (i := 1) rfl)
  have k2 := hts (.classLink RL 17 "java/lang/IllegalStateException") (List.mem_of_getElem? (i := 2) rfl)
  refine lv_aload_n hx hb dL_depthOf_0 rfl (lv_at hl 3 rfl) ?_
  refine lv_iconst (v := 0) hx hb dL_depthOf_1 (by decide) ?_
  refine lv_aload_n hx hb dL_depthOf_2 rfl (lv_at hl 0 rfl) ?_
  refine lv_iload_n hx hb dL_depthOf_3 rfl (lv_at hl 1 rfl) ?_
  refine lv_iload_n hx hb dL_depthOf_4 rfl (lv_at hl 2 rfl) ?_
  refine cVx S hM (cwV 2 hts gL_depthOf_X2_depthOf rfl rfl rfl (by decide +kernel) ⟨Nat.le_of_ble_eq_true rfl, Nat.le_of_ble_eq_true rfl⟩) hK hH hX.1 (Hp_recv hK hH ok_o.1 ok_o.2 rfl) hS rfl hl.1 rfl (by simp [cat_rf, Value.category]) dL_depthOf_5 ⟨Nat.le_of_ble_eq_true rfl, Nat.le_of_ble_eq_true rfl⟩ (fun E Z1 H locs ce q9 hpx9 hH hS hce hcv hcl => ?_) (fun v Z1 H locs hpost9 hH hS => ?_)
  · obtain ⟨hE, C1, rfl⟩ := hpx _ _ hpx9
    rcases hE with rfl | rfl
    · refine catA S hX ht (by decide) (by decide) (by decide) k1 hce hcv hcl ?_
      refine lv_astore (lv' := [(4, .ref q9), (0, .ref o), (1, .int row), (2, .int x), (3, .ref (gxa Γ 7))]) hx hb dL_depthOf_13 hl (by decide) rfl (fun ls hl => ?_)
      refine lv_iconst (v := 1) hx hb dL_depthOf_15 (by decide) ?_
      refine W.widen (k := 2) (n := 12) (Nat.le_of_ble_eq_true rfl) (Nat.le_of_ble_eq_true rfl) ?_
      exact eI S hr hlocks hH hS (Or.inr ⟨_, C1, hpx9, by rw [← cd2_a], rfl⟩) dL_depthOf_16
    · refine catB S hX ht (by decide) (by decide) (by decide) (by decide) k1 k2 hX.2.1 hce hcv hcl ?_
      refine lv_astore (lv' := [(4, .ref q9), (0, .ref o), (1, .int row), (2, .int x), (3, .ref (gxa Γ 7))]) hx hb dL_depthOf_17 hl (by decide) rfl (fun ls hl => ?_)
      refine lv_iconst (v := 2) hx hb dL_depthOf_19 (by decide) ?_
      refine W.widen (k := 2) (n := 12) (Nat.le_of_ble_eq_true rfl) (Nat.le_of_ble_eq_true rfl) ?_
      exact eI S hr hlocks hH hS (Or.inr ⟨_, C1, hpx9, by rw [← cd2_c], rfl⟩) dL_depthOf_20
  obtain ⟨n9, C1, rfl, rfl⟩ := hpost _ _ hpost9
  refine lv_i2l hx hb dL_depthOf_8 rfl ?_
  refine pLg S hK hH hS dL_depthOf_9 (fun H locs hH hS => ?_)
  refine lv_goto hx hb dL_depthOf_10 (tgt := 21) rfl ?_
  refine lv_iconst (v := 0) hx hb dL_depthOf_21 (by decide) ?_
  refine W.widen (k := 2) (n := 12) (Nat.le_of_ble_eq_true rfl) (Nat.le_of_ble_eq_true rfl) ?_
  exact eI S hr hlocks hH hS (Or.inl ⟨n9, C1, hpost9, rfl, rfl⟩) dL_depthOf_22
set_option maxRecDepth 100000 in
set_option maxHeartbeats 4000000 in
theorem w_above {row x : Int32} (ok_o : o ∈ C.1 ∧ C.2.1 o = 2) (hM : Mx l yX2_above wsX2_above (rmL 7 2 12) D lo Γ [.ref o, .int row, .int x] (C, M, V) post px) (hpost : ∀ v Z', post v Z' → (∃ (n : Int32) (C' : CW), v = some (.int n) ∧ Z' = (C', M, V))) (hpx : ∀ E Z', px E Z' → (E = "java/lang/IndexOutOfBoundsException" ∨ E = "java/lang/IllegalStateException") ∧ ∃ C' : CW, Z' = (C', M, V)) : My l yL_above wsL_above (rmL 8 2 12) D lo Γ [.ref o, .int row, .int x, .ref (gxa Γ 7)] (C, M, V) (WQ post px M V cd2) := by
  refine My_of (cc := cL_above) (maxL := 5) (ret := some .int) (by decide) rfl (Nat.le_of_ble_eq_true rfl) ?_
  intro p e s m args below meth c ls S hr hlocks hK hH hS hX ht hl
  have hx := S.1
  have hb := S.2.1
  have hts := S.2.2.2.2
  have hl : lv_has ls 5 [(0, .ref o), (1, .int row), (2, .int x), (3, .ref (gxa Γ 7))] := hl
  have k1 := hts (.classLink RL 13 "java/lang/IndexOutOfBoundsException") (List.mem_of_getElem? (i := 1) rfl)
  have k2 := hts (.classLink RL 17 "java/lang/IllegalStateException") (List.mem_of_getElem? (i := 2) rfl)
  refine lv_aload_n hx hb dL_above_0 rfl (lv_at hl 3 rfl) ?_
  refine lv_iconst (v := 0) hx hb dL_above_1 (by decide) ?_
  refine lv_aload_n hx hb dL_above_2 rfl (lv_at hl 0 rfl) ?_
  refine lv_iload_n hx hb dL_above_3 rfl (lv_at hl 1 rfl) ?_
  refine lv_iload_n hx hb dL_above_4 rfl (lv_at hl 2 rfl) ?_
  refine cVx S hM (cwV 2 hts gL_above_X2_above rfl rfl rfl (by decide +kernel) ⟨Nat.le_of_ble_eq_true rfl, Nat.le_of_ble_eq_true rfl⟩) hK hH hX.1 (Hp_recv hK hH ok_o.1 ok_o.2 rfl) hS rfl hl.1 rfl (by simp [cat_rf, Value.category]) dL_above_5 ⟨Nat.le_of_ble_eq_true rfl, Nat.le_of_ble_eq_true rfl⟩ (fun E Z1 H locs ce q9 hpx9 hH hS hce hcv hcl => ?_) (fun v Z1 H locs hpost9 hH hS => ?_)
  · obtain ⟨hE, C1, rfl⟩ := hpx _ _ hpx9
    rcases hE with rfl | rfl
    · refine catA S hX ht (by decide) (by decide) (by decide) k1 hce hcv hcl ?_
      refine lv_astore (lv' := [(4, .ref q9), (0, .ref o), (1, .int row), (2, .int x), (3, .ref (gxa Γ 7))]) hx hb dL_above_13 hl (by decide) rfl (fun ls hl => ?_)
      refine lv_iconst (v := 1) hx hb dL_above_15 (by decide) ?_
      refine W.widen (k := 2) (n := 12) (Nat.le_of_ble_eq_true rfl) (Nat.le_of_ble_eq_true rfl) ?_
      exact eI S hr hlocks hH hS (Or.inr ⟨_, C1, hpx9, by rw [← cd2_a], rfl⟩) dL_above_16
    · refine catB S hX ht (by decide) (by decide) (by decide) (by decide) k1 k2 hX.2.1 hce hcv hcl ?_
      refine lv_astore (lv' := [(4, .ref q9), (0, .ref o), (1, .int row), (2, .int x), (3, .ref (gxa Γ 7))]) hx hb dL_above_17 hl (by decide) rfl (fun ls hl => ?_)
      refine lv_iconst (v := 2) hx hb dL_above_19 (by decide) ?_
      refine W.widen (k := 2) (n := 12) (Nat.le_of_ble_eq_true rfl) (Nat.le_of_ble_eq_true rfl) ?_
      exact eI S hr hlocks hH hS (Or.inr ⟨_, C1, hpx9, by rw [← cd2_c], rfl⟩) dL_above_20
  obtain ⟨n9, C1, rfl, rfl⟩ := hpost _ _ hpost9
  refine lv_i2l hx hb dL_above_8 rfl ?_
  refine pLg S hK hH hS dL_above_9 (fun H locs hH hS => ?_)
  refine lv_goto hx hb dL_above_10 (tgt := 21) rfl ?_
  refine lv_iconst (v := 0) hx hb dL_above_21 (by decide) ?_
  refine W.widen (k := 2) (n := 12) (Nat.le_of_ble_eq_true rfl) (Nat.le_of_ble_eq_true rfl) ?_
  exact eI S hr hlocks hH hS (Or.inl ⟨n9, C1, hpost9, rfl, rfl⟩) dL_above_22
set_option maxRecDepth 100000 in
set_option maxHeartbeats 4000000 in
theorem w_leftOf {row x : Int32} (ok_o : o ∈ C.1 ∧ C.2.1 o = 2) (hM : Mx l yX2_leftOf wsX2_leftOf (rmL 7 2 12) D lo Γ [.ref o, .int row, .int x] (C, M, V) post px) (hpost : ∀ v Z', post v Z' → (∃ (n : Int32) (C' : CW), v = some (.int n) ∧ Z' = (C', M, V))) (hpx : ∀ E Z', px E Z' → (E = "java/lang/IndexOutOfBoundsException" ∨ E = "java/lang/IllegalStateException") ∧ ∃ C' : CW, Z' = (C', M, V)) : My l yL_leftOf wsL_leftOf (rmL 8 2 12) D lo Γ [.ref o, .int row, .int x, .ref (gxa Γ 7)] (C, M, V) (WQ post px M V cd2) := by
  refine My_of (cc := cL_leftOf) (maxL := 5) (ret := some .int) (by decide) rfl (Nat.le_of_ble_eq_true rfl) ?_
  intro p e s m args below meth c ls S hr hlocks hK hH hS hX ht hl
  have hx := S.1
  have hb := S.2.1
  have hts := S.2.2.2.2
  have hl : lv_has ls 5 [(0, .ref o), (1, .int row), (2, .int x), (3, .ref (gxa Γ 7))] := hl
  have k1 := hts (.classLink RL 13 "java/lang/IndexOutOfBoundsException") (List.mem_of_getElem? (i := 1) rfl)
  have k2 := hts (.classLink RL 17 "java/lang/IllegalStateException") (List.mem_of_getElem? (i := 2) rfl)
  refine lv_aload_n hx hb dL_leftOf_0 rfl (lv_at hl 3 rfl) ?_
  refine lv_iconst (v := 0) hx hb dL_leftOf_1 (by decide) ?_
  refine lv_aload_n hx hb dL_leftOf_2 rfl (lv_at hl 0 rfl) ?_
  refine lv_iload_n hx hb dL_leftOf_3 rfl (lv_at hl 1 rfl) ?_
  refine lv_iload_n hx hb dL_leftOf_4 rfl (lv_at hl 2 rfl) ?_
  refine cVx S hM (cwV 2 hts gL_leftOf_X2_leftOf rfl rfl rfl (by decide +kernel) ⟨Nat.le_of_ble_eq_true rfl, Nat.le_of_ble_eq_true rfl⟩) hK hH hX.1 (Hp_recv hK hH ok_o.1 ok_o.2 rfl) hS rfl hl.1 rfl (by simp [cat_rf, Value.category]) dL_leftOf_5 ⟨Nat.le_of_ble_eq_true rfl, Nat.le_of_ble_eq_true rfl⟩ (fun E Z1 H locs ce q9 hpx9 hH hS hce hcv hcl => ?_) (fun v Z1 H locs hpost9 hH hS => ?_)
  · obtain ⟨hE, C1, rfl⟩ := hpx _ _ hpx9
    rcases hE with rfl | rfl
    · refine catA S hX ht (by decide) (by decide) (by decide) k1 hce hcv hcl ?_
      refine lv_astore (lv' := [(4, .ref q9), (0, .ref o), (1, .int row), (2, .int x), (3, .ref (gxa Γ 7))]) hx hb dL_leftOf_13 hl (by decide) rfl (fun ls hl => ?_)
      refine lv_iconst (v := 1) hx hb dL_leftOf_15 (by decide) ?_
      refine W.widen (k := 2) (n := 12) (Nat.le_of_ble_eq_true rfl) (Nat.le_of_ble_eq_true rfl) ?_
      exact eI S hr hlocks hH hS (Or.inr ⟨_, C1, hpx9, by rw [← cd2_a], rfl⟩) dL_leftOf_16
    · refine catB S hX ht (by decide) (by decide) (by decide) (by decide) k1 k2 hX.2.1 hce hcv hcl ?_
      refine lv_astore (lv' := [(4, .ref q9), (0, .ref o), (1, .int row), (2, .int x), (3, .ref (gxa Γ 7))]) hx hb dL_leftOf_17 hl (by decide) rfl (fun ls hl => ?_)
      refine lv_iconst (v := 2) hx hb dL_leftOf_19 (by decide) ?_
      refine W.widen (k := 2) (n := 12) (Nat.le_of_ble_eq_true rfl) (Nat.le_of_ble_eq_true rfl) ?_
      exact eI S hr hlocks hH hS (Or.inr ⟨_, C1, hpx9, by rw [← cd2_c], rfl⟩) dL_leftOf_20
  obtain ⟨n9, C1, rfl, rfl⟩ := hpost _ _ hpost9
  refine lv_i2l hx hb dL_leftOf_8 rfl ?_
  refine pLg S hK hH hS dL_leftOf_9 (fun H locs hH hS => ?_)
  refine lv_goto hx hb dL_leftOf_10 (tgt := 21) rfl ?_
  refine lv_iconst (v := 0) hx hb dL_leftOf_21 (by decide) ?_
  refine W.widen (k := 2) (n := 12) (Nat.le_of_ble_eq_true rfl) (Nat.le_of_ble_eq_true rfl) ?_
  exact eI S hr hlocks hH hS (Or.inl ⟨n9, C1, hpost9, rfl, rfl⟩) dL_leftOf_22
set_option maxRecDepth 100000 in
set_option maxHeartbeats 4000000 in
theorem w_rightOf {row x : Int32} (ok_o : o ∈ C.1 ∧ C.2.1 o = 2) (hM : Mx l yX2_rightOf wsX2_rightOf (rmL 7 2 12) D lo Γ [.ref o, .int row, .int x] (C, M, V) post px) (hpost : ∀ v Z', post v Z' → (∃ (n : Int32) (C' : CW), v = some (.int n) ∧ Z' = (C', M, V))) (hpx : ∀ E Z', px E Z' → (E = "java/lang/IndexOutOfBoundsException" ∨ E = "java/lang/IllegalStateException") ∧ ∃ C' : CW, Z' = (C', M, V)) : My l yL_rightOf wsL_rightOf (rmL 8 2 12) D lo Γ [.ref o, .int row, .int x, .ref (gxa Γ 7)] (C, M, V) (WQ post px M V cd2) := by
  refine My_of (cc := cL_rightOf) (maxL := 5) (ret := some .int) (by decide) rfl (Nat.le_of_ble_eq_true rfl) ?_
  intro p e s m args below meth c ls S hr hlocks hK hH hS hX ht hl
  have hx := S.1
  have hb := S.2.1
  have hts := S.2.2.2.2
  have hl : lv_has ls 5 [(0, .ref o), (1, .int row), (2, .int x), (3, .ref (gxa Γ 7))] := hl
  have k1 := hts (.classLink RL 13 "java/lang/IndexOutOfBoundsException") (List.mem_of_getElem? (i := 1) rfl)
  have k2 := hts (.classLink RL 17 "java/lang/IllegalStateException") (List.mem_of_getElem? (i := 2) rfl)
  refine lv_aload_n hx hb dL_rightOf_0 rfl (lv_at hl 3 rfl) ?_
  refine lv_iconst (v := 0) hx hb dL_rightOf_1 (by decide) ?_
  refine lv_aload_n hx hb dL_rightOf_2 rfl (lv_at hl 0 rfl) ?_
  refine lv_iload_n hx hb dL_rightOf_3 rfl (lv_at hl 1 rfl) ?_
  refine lv_iload_n hx hb dL_rightOf_4 rfl (lv_at hl 2 rfl) ?_
  refine cVx S hM (cwV 2 hts gL_rightOf_X2_rightOf rfl rfl rfl (by decide +kernel) ⟨Nat.le_of_ble_eq_true rfl, Nat.le_of_ble_eq_true rfl⟩) hK hH hX.1 (Hp_recv hK hH ok_o.1 ok_o.2 rfl) hS rfl hl.1 rfl (by simp [cat_rf, Value.category]) dL_rightOf_5 ⟨Nat.le_of_ble_eq_true rfl, Nat.le_of_ble_eq_true rfl⟩ (fun E Z1 H locs ce q9 hpx9 hH hS hce hcv hcl => ?_) (fun v Z1 H locs hpost9 hH hS => ?_)
  · obtain ⟨hE, C1, rfl⟩ := hpx _ _ hpx9
    rcases hE with rfl | rfl
    · refine catA S hX ht (by decide) (by decide) (by decide) k1 hce hcv hcl ?_
      refine lv_astore (lv' := [(4, .ref q9), (0, .ref o), (1, .int row), (2, .int x), (3, .ref (gxa Γ 7))]) hx hb dL_rightOf_13 hl (by decide) rfl (fun ls hl => ?_)
      refine lv_iconst (v := 1) hx hb dL_rightOf_15 (by decide) ?_
      refine W.widen (k := 2) (n := 12) (Nat.le_of_ble_eq_true rfl) (Nat.le_of_ble_eq_true rfl) ?_
      exact eI S hr hlocks hH hS (Or.inr ⟨_, C1, hpx9, by rw [← cd2_a], rfl⟩) dL_rightOf_16
    · refine catB S hX ht (by decide) (by decide) (by decide) (by decide) k1 k2 hX.2.1 hce hcv hcl ?_
      refine lv_astore (lv' := [(4, .ref q9), (0, .ref o), (1, .int row), (2, .int x), (3, .ref (gxa Γ 7))]) hx hb dL_rightOf_17 hl (by decide) rfl (fun ls hl => ?_)
      refine lv_iconst (v := 2) hx hb dL_rightOf_19 (by decide) ?_
      refine W.widen (k := 2) (n := 12) (Nat.le_of_ble_eq_true rfl) (Nat.le_of_ble_eq_true rfl) ?_
      exact eI S hr hlocks hH hS (Or.inr ⟨_, C1, hpx9, by rw [← cd2_c], rfl⟩) dL_rightOf_20
  obtain ⟨n9, C1, rfl, rfl⟩ := hpost _ _ hpost9
  refine lv_i2l hx hb dL_rightOf_8 rfl ?_
  refine pLg S hK hH hS dL_rightOf_9 (fun H locs hH hS => ?_)
  refine lv_goto hx hb dL_rightOf_10 (tgt := 21) rfl ?_
  refine lv_iconst (v := 0) hx hb dL_rightOf_21 (by decide) ?_
  refine W.widen (k := 2) (n := 12) (Nat.le_of_ble_eq_true rfl) (Nat.le_of_ble_eq_true rfl) ?_
  exact eI S hr hlocks hH hS (Or.inl ⟨n9, C1, hpost9, rfl, rfl⟩) dL_rightOf_22
set_option maxRecDepth 100000 in
set_option maxHeartbeats 4000000 in
theorem w_below {row x : Int32} (ok_o : o ∈ C.1 ∧ C.2.1 o = 2) (hM : Mx l yX2_below wsX2_below (rmL 7 2 12) D lo Γ [.ref o, .int row, .int x] (C, M, V) post px) (hpost : ∀ v Z', post v Z' → (∃ (n : Int32) (C' : CW), v = some (.int n) ∧ Z' = (C', M, V))) (hpx : ∀ E Z', px E Z' → (E = "java/lang/IndexOutOfBoundsException" ∨ E = "java/lang/IllegalStateException") ∧ ∃ C' : CW, Z' = (C', M, V)) : My l yL_below wsL_below (rmL 8 2 12) D lo Γ [.ref o, .int row, .int x, .ref (gxa Γ 7)] (C, M, V) (WQ post px M V cd2) := by
  refine My_of (cc := cL_below) (maxL := 5) (ret := some .int) (by decide) rfl (Nat.le_of_ble_eq_true rfl) ?_
  intro p e s m args below meth c ls S hr hlocks hK hH hS hX ht hl
  have hx := S.1
  have hb := S.2.1
  have hts := S.2.2.2.2
  have hl : lv_has ls 5 [(0, .ref o), (1, .int row), (2, .int x), (3, .ref (gxa Γ 7))] := hl
  have k1 := hts (.classLink RL 13 "java/lang/IndexOutOfBoundsException") (List.mem_of_getElem? (i := 1) rfl)
  have k2 := hts (.classLink RL 17 "java/lang/IllegalStateException") (List.mem_of_getElem? (i := 2) rfl)
  refine lv_aload_n hx hb dL_below_0 rfl (lv_at hl 3 rfl) ?_
  refine lv_iconst (v := 0) hx hb dL_below_1 (by decide) ?_
  refine lv_aload_n hx hb dL_below_2 rfl (lv_at hl 0 rfl) ?_
  refine lv_iload_n hx hb dL_below_3 rfl (lv_at hl 1 rfl) ?_
  refine lv_iload_n hx hb dL_below_4 rfl (lv_at hl 2 rfl) ?_
  refine cVx S hM (cwV 2 hts gL_below_X2_below rfl rfl rfl (by decide +kernel) ⟨Nat.le_of_ble_eq_true rfl, Nat.le_of_ble_eq_true rfl⟩) hK hH hX.1 (Hp_recv hK hH ok_o.1 ok_o.2 rfl) hS rfl hl.1 rfl (by simp [cat_rf, Value.category]) dL_below_5 ⟨Nat.le_of_ble_eq_true rfl, Nat.le_of_ble_eq_true rfl⟩ (fun E Z1 H locs ce q9 hpx9 hH hS hce hcv hcl => ?_) (fun v Z1 H locs hpost9 hH hS => ?_)
  · obtain ⟨hE, C1, rfl⟩ := hpx _ _ hpx9
    rcases hE with rfl | rfl
    · refine catA S hX ht (by decide) (by decide) (by decide) k1 hce hcv hcl ?_
      refine lv_astore (lv' := [(4, .ref q9), (0, .ref o), (1, .int row), (2, .int x), (3, .ref (gxa Γ 7))]) hx hb dL_below_13 hl (by decide) rfl (fun ls hl => ?_)
      refine lv_iconst (v := 1) hx hb dL_below_15 (by decide) ?_
      refine W.widen (k := 2) (n := 12) (Nat.le_of_ble_eq_true rfl) (Nat.le_of_ble_eq_true rfl) ?_
      exact eI S hr hlocks hH hS (Or.inr ⟨_, C1, hpx9, by rw [← cd2_a], rfl⟩) dL_below_16
    · refine catB S hX ht (by decide) (by decide) (by decide) (by decide) k1 k2 hX.2.1 hce hcv hcl ?_
      refine lv_astore (lv' := [(4, .ref q9), (0, .ref o), (1, .int row), (2, .int x), (3, .ref (gxa Γ 7))]) hx hb dL_below_17 hl (by decide) rfl (fun ls hl => ?_)
      refine lv_iconst (v := 2) hx hb dL_below_19 (by decide) ?_
      refine W.widen (k := 2) (n := 12) (Nat.le_of_ble_eq_true rfl) (Nat.le_of_ble_eq_true rfl) ?_
      exact eI S hr hlocks hH hS (Or.inr ⟨_, C1, hpx9, by rw [← cd2_c], rfl⟩) dL_below_20
  obtain ⟨n9, C1, rfl, rfl⟩ := hpost _ _ hpost9
  refine lv_i2l hx hb dL_below_8 rfl ?_
  refine pLg S hK hH hS dL_below_9 (fun H locs hH hS => ?_)
  refine lv_goto hx hb dL_below_10 (tgt := 21) rfl ?_
  refine lv_iconst (v := 0) hx hb dL_below_21 (by decide) ?_
  refine W.widen (k := 2) (n := 12) (Nat.le_of_ble_eq_true rfl) (Nat.le_of_ble_eq_true rfl) ?_
  exact eI S hr hlocks hH hS (Or.inl ⟨n9, C1, hpost9, rfl, rfl⟩) dL_below_22
set_option maxRecDepth 100000 in
set_option maxHeartbeats 4000000 in
theorem w_eaten {row x : Int32} (ok_o : o ∈ C.1 ∧ C.2.1 o = 2) (hM : Mx l yX2_eaten wsX2_eaten (rmL 7 2 12) D lo Γ [.ref o, .int row, .int x] (C, M, V) post px) (hpost : ∀ v Z', post v Z' → (∃ (n : Int32) (C' : CW), v = some (.int n) ∧ Z' = (C', M, V))) (hpx : ∀ E Z', px E Z' → (E = "java/lang/IndexOutOfBoundsException" ∨ E = "java/lang/IllegalStateException") ∧ ∃ C' : CW, Z' = (C', M, V)) : My l yL_eaten wsL_eaten (rmL 8 2 12) D lo Γ [.ref o, .int row, .int x, .ref (gxa Γ 7)] (C, M, V) (WQ post px M V cd2) := by
  refine My_of (cc := cL_eaten) (maxL := 5) (ret := some .int) (by decide) rfl (Nat.le_of_ble_eq_true rfl) ?_
  intro p e s m args below meth c ls S hr hlocks hK hH hS hX ht hl
  have hx := S.1
  have hb := S.2.1
  have hts := S.2.2.2.2
  have hl : lv_has ls 5 [(0, .ref o), (1, .int row), (2, .int x), (3, .ref (gxa Γ 7))] := hl
  have k1 := hts (.classLink RL 13 "java/lang/IndexOutOfBoundsException") (List.mem_of_getElem? (i := 1) rfl)
  have k2 := hts (.classLink RL 17 "java/lang/IllegalStateException") (List.mem_of_getElem? (i := 2) rfl)
  refine lv_aload_n hx hb dL_eaten_0 rfl (lv_at hl 3 rfl) ?_
  refine lv_iconst (v := 0) hx hb dL_eaten_1 (by decide) ?_
  refine lv_aload_n hx hb dL_eaten_2 rfl (lv_at hl 0 rfl) ?_
  refine lv_iload_n hx hb dL_eaten_3 rfl (lv_at hl 1 rfl) ?_
  refine lv_iload_n hx hb dL_eaten_4 rfl (lv_at hl 2 rfl) ?_
  refine cVx S hM (cwV 2 hts gL_eaten_X2_eaten rfl rfl rfl (by decide +kernel) ⟨Nat.le_of_ble_eq_true rfl, Nat.le_of_ble_eq_true rfl⟩) hK hH hX.1 (Hp_recv hK hH ok_o.1 ok_o.2 rfl) hS rfl hl.1 rfl (by simp [cat_rf, Value.category]) dL_eaten_5 ⟨Nat.le_of_ble_eq_true rfl, Nat.le_of_ble_eq_true rfl⟩ (fun E Z1 H locs ce q9 hpx9 hH hS hce hcv hcl => ?_) (fun v Z1 H locs hpost9 hH hS => ?_)
  · obtain ⟨hE, C1, rfl⟩ := hpx _ _ hpx9
    rcases hE with rfl | rfl
    · refine catA S hX ht (by decide) (by decide) (by decide) k1 hce hcv hcl ?_
      refine lv_astore (lv' := [(4, .ref q9), (0, .ref o), (1, .int row), (2, .int x), (3, .ref (gxa Γ 7))]) hx hb dL_eaten_13 hl (by decide) rfl (fun ls hl => ?_)
      refine lv_iconst (v := 1) hx hb dL_eaten_15 (by decide) ?_
      refine W.widen (k := 2) (n := 12) (Nat.le_of_ble_eq_true rfl) (Nat.le_of_ble_eq_true rfl) ?_
      exact eI S hr hlocks hH hS (Or.inr ⟨_, C1, hpx9, by rw [← cd2_a], rfl⟩) dL_eaten_16
    · refine catB S hX ht (by decide) (by decide) (by decide) (by decide) k1 k2 hX.2.1 hce hcv hcl ?_
      refine lv_astore (lv' := [(4, .ref q9), (0, .ref o), (1, .int row), (2, .int x), (3, .ref (gxa Γ 7))]) hx hb dL_eaten_17 hl (by decide) rfl (fun ls hl => ?_)
      refine lv_iconst (v := 2) hx hb dL_eaten_19 (by decide) ?_
      refine W.widen (k := 2) (n := 12) (Nat.le_of_ble_eq_true rfl) (Nat.le_of_ble_eq_true rfl) ?_
      exact eI S hr hlocks hH hS (Or.inr ⟨_, C1, hpx9, by rw [← cd2_c], rfl⟩) dL_eaten_20
  obtain ⟨n9, C1, rfl, rfl⟩ := hpost _ _ hpost9
  refine lv_i2l hx hb dL_eaten_8 rfl ?_
  refine pLg S hK hH hS dL_eaten_9 (fun H locs hH hS => ?_)
  refine lv_goto hx hb dL_eaten_10 (tgt := 21) rfl ?_
  refine lv_iconst (v := 0) hx hb dL_eaten_21 (by decide) ?_
  refine W.widen (k := 2) (n := 12) (Nat.le_of_ble_eq_true rfl) (Nat.le_of_ble_eq_true rfl) ?_
  exact eI S hr hlocks hH hS (Or.inl ⟨n9, C1, hpost9, rfl, rfl⟩) dL_eaten_22
set_option maxRecDepth 100000 in
set_option maxHeartbeats 4000000 in
theorem w_favourite {row : Int32} (ok_o : o ∈ C.1 ∧ C.2.1 o = 2) (hM : Mx l yX2_favourite wsX2_favourite (rmL 7 1 6) D lo Γ [.ref o, .int row] (C, M, V) post px) (hpost : ∀ v Z', post v Z' → (∃ (n : Int32) (C' : CW), v = some (.int n) ∧ Z' = (C', M, V))) (hpx : ∀ E Z', px E Z' → E = "java/lang/IndexOutOfBoundsException" ∧ ∃ C' : CW, Z' = (C', M, V)) : My l yL_favourite wsL_favourite (rmL 8 1 6) D lo Γ [.ref o, .int row, .ref (gxa Γ 7)] (C, M, V) (WQ post px M V cd1) := by
  refine My_of (cc := cL_favourite) (maxL := 4) (ret := some .int) (by decide) rfl (Nat.le_of_ble_eq_true rfl) ?_
  intro p e s m args below meth c ls S hr hlocks hK hH hS hX ht hl
  have hx := S.1
  have hb := S.2.1
  have hts := S.2.2.2.2
  have hl : lv_has ls 4 [(0, .ref o), (1, .int row), (2, .ref (gxa Γ 7))] := hl
  have k1 := hts (.classLink RL 13 "java/lang/IndexOutOfBoundsException") (List.mem_of_getElem? (i := 1) rfl)
  refine lv_aload_n hx hb dL_favourite_0 rfl (lv_at hl 2 rfl) ?_
  refine lv_iconst (v := 0) hx hb dL_favourite_1 (by decide) ?_
  refine lv_aload_n hx hb dL_favourite_2 rfl (lv_at hl 0 rfl) ?_
  refine lv_iload_n hx hb dL_favourite_3 rfl (lv_at hl 1 rfl) ?_
  refine cVx S hM (cwV 1 hts gL_favourite_X2_favourite rfl rfl rfl (by decide +kernel) ⟨Nat.le_of_ble_eq_true rfl, Nat.le_of_ble_eq_true rfl⟩) hK hH hX.1 (Hp_recv hK hH ok_o.1 ok_o.2 rfl) hS rfl hl.1 rfl (by simp [cat_rf, Value.category]) dL_favourite_4 ⟨Nat.le_of_ble_eq_true rfl, Nat.le_of_ble_eq_true rfl⟩ (fun E Z1 H locs ce q9 hpx9 hH hS hce hcv hcl => ?_) (fun v Z1 H locs hpost9 hH hS => ?_)
  · obtain ⟨hE, C1, rfl⟩ := hpx _ _ hpx9
    subst hE
    refine catA S hX ht (by decide) (by decide) (by decide) k1 hce hcv hcl ?_
    refine lv_astore_n (lv' := [(3, .ref q9), (0, .ref o), (1, .int row), (2, .ref (gxa Γ 7))]) hx hb dL_favourite_12 rfl hl (by decide) rfl (fun ls hl => ?_)
    refine lv_iconst (v := 1) hx hb dL_favourite_13 (by decide) ?_
    refine W.widen (k := 1) (n := 6) (Nat.le_of_ble_eq_true rfl) (Nat.le_of_ble_eq_true rfl) ?_
    exact eI S hr hlocks hH hS (Or.inr ⟨_, C1, hpx9, rfl, rfl⟩) dL_favourite_14
  obtain ⟨n9, C1, rfl, rfl⟩ := hpost _ _ hpost9
  refine lv_i2l hx hb dL_favourite_7 rfl ?_
  refine pLg S hK hH hS dL_favourite_8 (fun H locs hH hS => ?_)
  refine lv_goto hx hb dL_favourite_9 (tgt := 15) rfl ?_
  refine lv_iconst (v := 0) hx hb dL_favourite_15 (by decide) ?_
  refine W.widen (k := 1) (n := 6) (Nat.le_of_ble_eq_true rfl) (Nat.le_of_ble_eq_true rfl) ?_
  exact eI S hr hlocks hH hS (Or.inl ⟨n9, C1, hpost9, rfl, rfl⟩) dL_favourite_16
set_option maxRecDepth 100000 in
set_option maxHeartbeats 4000000 in
theorem w_meet {row x y : Int32} (ok_o : o ∈ C.1 ∧ C.2.1 o = 2) (hM : Mx l yX2_meet wsX2_meet (rmL 7 3 18) D lo Γ [.ref o, .int row, .int x, .int y] (C, M, V) post px) (hpost : ∀ v Z', post v Z' → (∃ (n : Int32) (C' : CW), v = some (.int n) ∧ Z' = (C', M, V))) (hpx : ∀ E Z', px E Z' → (E = "java/lang/IndexOutOfBoundsException" ∨ E = "java/lang/IllegalStateException") ∧ ∃ C' : CW, Z' = (C', M, V)) : My l yL_meet wsL_meet (rmL 8 3 18) D lo Γ [.ref o, .int row, .int x, .int y, .ref (gxa Γ 7)] (C, M, V) (WQ post px M V cd2) := by
  refine My_of (cc := cL_meet) (maxL := 6) (ret := some .int) (by decide) rfl (Nat.le_of_ble_eq_true rfl) ?_
  intro p e s m args below meth c ls S hr hlocks hK hH hS hX ht hl
  have hx := S.1
  have hb := S.2.1
  have hts := S.2.2.2.2
  have hl : lv_has ls 6 [(0, .ref o), (1, .int row), (2, .int x), (3, .int y), (4, .ref (gxa Γ 7))] := hl
  have k1 := hts (.classLink RL 13 "java/lang/IndexOutOfBoundsException") (List.mem_of_getElem? (i := 1) rfl)
  have k2 := hts (.classLink RL 17 "java/lang/IllegalStateException") (List.mem_of_getElem? (i := 2) rfl)
  refine lv_aload hx hb dL_meet_0 (lv_at hl 4 rfl) ?_
  refine lv_iconst (v := 0) hx hb dL_meet_2 (by decide) ?_
  refine lv_aload_n hx hb dL_meet_3 rfl (lv_at hl 0 rfl) ?_
  refine lv_iload_n hx hb dL_meet_4 rfl (lv_at hl 1 rfl) ?_
  refine lv_iload_n hx hb dL_meet_5 rfl (lv_at hl 2 rfl) ?_
  refine lv_iload_n hx hb dL_meet_6 rfl (lv_at hl 3 rfl) ?_
  refine cVx S hM (cwV 3 hts gL_meet_X2_meet rfl rfl rfl (by decide +kernel) ⟨Nat.le_of_ble_eq_true rfl, Nat.le_of_ble_eq_true rfl⟩) hK hH hX.1 (Hp_recv hK hH ok_o.1 ok_o.2 rfl) hS rfl hl.1 rfl (by simp [cat_rf, Value.category]) dL_meet_7 ⟨Nat.le_of_ble_eq_true rfl, Nat.le_of_ble_eq_true rfl⟩ (fun E Z1 H locs ce q9 hpx9 hH hS hce hcv hcl => ?_) (fun v Z1 H locs hpost9 hH hS => ?_)
  · obtain ⟨hE, C1, rfl⟩ := hpx _ _ hpx9
    rcases hE with rfl | rfl
    · refine catA S hX ht (by decide) (by decide) (by decide) k1 hce hcv hcl ?_
      refine lv_astore (lv' := [(5, .ref q9), (0, .ref o), (1, .int row), (2, .int x), (3, .int y), (4, .ref (gxa Γ 7))]) hx hb dL_meet_15 hl (by decide) rfl (fun ls hl => ?_)
      refine lv_iconst (v := 1) hx hb dL_meet_17 (by decide) ?_
      refine W.widen (k := 3) (n := 18) (Nat.le_of_ble_eq_true rfl) (Nat.le_of_ble_eq_true rfl) ?_
      exact eI S hr hlocks hH hS (Or.inr ⟨_, C1, hpx9, by rw [← cd2_a], rfl⟩) dL_meet_18
    · refine catB S hX ht (by decide) (by decide) (by decide) (by decide) k1 k2 hX.2.1 hce hcv hcl ?_
      refine lv_astore (lv' := [(5, .ref q9), (0, .ref o), (1, .int row), (2, .int x), (3, .int y), (4, .ref (gxa Γ 7))]) hx hb dL_meet_19 hl (by decide) rfl (fun ls hl => ?_)
      refine lv_iconst (v := 2) hx hb dL_meet_21 (by decide) ?_
      refine W.widen (k := 3) (n := 18) (Nat.le_of_ble_eq_true rfl) (Nat.le_of_ble_eq_true rfl) ?_
      exact eI S hr hlocks hH hS (Or.inr ⟨_, C1, hpx9, by rw [← cd2_c], rfl⟩) dL_meet_22
  obtain ⟨n9, C1, rfl, rfl⟩ := hpost _ _ hpost9
  refine lv_i2l hx hb dL_meet_10 rfl ?_
  refine pLg S hK hH hS dL_meet_11 (fun H locs hH hS => ?_)
  refine lv_goto hx hb dL_meet_12 (tgt := 23) rfl ?_
  refine lv_iconst (v := 0) hx hb dL_meet_23 (by decide) ?_
  refine W.widen (k := 3) (n := 18) (Nat.le_of_ble_eq_true rfl) (Nat.le_of_ble_eq_true rfl) ?_
  exact eI S hr hlocks hH hS (Or.inl ⟨n9, C1, hpost9, rfl, rfl⟩) dL_meet_24
set_option maxRecDepth 100000 in
set_option maxHeartbeats 4000000 in
theorem w_depthBehind {row x y : Int32} (ok_o : o ∈ C.1 ∧ C.2.1 o = 2) (hM : Mx l yX2_depthBehind wsX2_depthBehind (rmL 7 3 18) D lo Γ [.ref o, .int row, .int x, .int y] (C, M, V) post px) (hpost : ∀ v Z', post v Z' → (∃ (n : Int32) (C' : CW), v = some (.int n) ∧ Z' = (C', M, V))) (hpx : ∀ E Z', px E Z' → (E = "java/lang/IndexOutOfBoundsException" ∨ E = "java/lang/IllegalStateException") ∧ ∃ C' : CW, Z' = (C', M, V)) : My l yL_depthBehind wsL_depthBehind (rmL 8 3 18) D lo Γ [.ref o, .int row, .int x, .int y, .ref (gxa Γ 7)] (C, M, V) (WQ post px M V cd2) := by
  refine My_of (cc := cL_depthBehind) (maxL := 6) (ret := some .int) (by decide) rfl (Nat.le_of_ble_eq_true rfl) ?_
  intro p e s m args below meth c ls S hr hlocks hK hH hS hX ht hl
  have hx := S.1
  have hb := S.2.1
  have hts := S.2.2.2.2
  have hl : lv_has ls 6 [(0, .ref o), (1, .int row), (2, .int x), (3, .int y), (4, .ref (gxa Γ 7))] := hl
  have k1 := hts (.classLink RL 13 "java/lang/IndexOutOfBoundsException") (List.mem_of_getElem? (i := 1) rfl)
  have k2 := hts (.classLink RL 17 "java/lang/IllegalStateException") (List.mem_of_getElem? (i := 2) rfl)
  refine lv_aload hx hb dL_depthBehind_0 (lv_at hl 4 rfl) ?_
  refine lv_iconst (v := 0) hx hb dL_depthBehind_2 (by decide) ?_
  refine lv_aload_n hx hb dL_depthBehind_3 rfl (lv_at hl 0 rfl) ?_
  refine lv_iload_n hx hb dL_depthBehind_4 rfl (lv_at hl 1 rfl) ?_
  refine lv_iload_n hx hb dL_depthBehind_5 rfl (lv_at hl 2 rfl) ?_
  refine lv_iload_n hx hb dL_depthBehind_6 rfl (lv_at hl 3 rfl) ?_
  refine cVx S hM (cwV 3 hts gL_depthBehind_X2_depthBehind rfl rfl rfl (by decide +kernel) ⟨Nat.le_of_ble_eq_true rfl, Nat.le_of_ble_eq_true rfl⟩) hK hH hX.1 (Hp_recv hK hH ok_o.1 ok_o.2 rfl) hS rfl hl.1 rfl (by simp [cat_rf, Value.category]) dL_depthBehind_7 ⟨Nat.le_of_ble_eq_true rfl, Nat.le_of_ble_eq_true rfl⟩ (fun E Z1 H locs ce q9 hpx9 hH hS hce hcv hcl => ?_) (fun v Z1 H locs hpost9 hH hS => ?_)
  · obtain ⟨hE, C1, rfl⟩ := hpx _ _ hpx9
    rcases hE with rfl | rfl
    · refine catA S hX ht (by decide) (by decide) (by decide) k1 hce hcv hcl ?_
      refine lv_astore (lv' := [(5, .ref q9), (0, .ref o), (1, .int row), (2, .int x), (3, .int y), (4, .ref (gxa Γ 7))]) hx hb dL_depthBehind_15 hl (by decide) rfl (fun ls hl => ?_)
      refine lv_iconst (v := 1) hx hb dL_depthBehind_17 (by decide) ?_
      refine W.widen (k := 3) (n := 18) (Nat.le_of_ble_eq_true rfl) (Nat.le_of_ble_eq_true rfl) ?_
      exact eI S hr hlocks hH hS (Or.inr ⟨_, C1, hpx9, by rw [← cd2_a], rfl⟩) dL_depthBehind_18
    · refine catB S hX ht (by decide) (by decide) (by decide) (by decide) k1 k2 hX.2.1 hce hcv hcl ?_
      refine lv_astore (lv' := [(5, .ref q9), (0, .ref o), (1, .int row), (2, .int x), (3, .int y), (4, .ref (gxa Γ 7))]) hx hb dL_depthBehind_19 hl (by decide) rfl (fun ls hl => ?_)
      refine lv_iconst (v := 2) hx hb dL_depthBehind_21 (by decide) ?_
      refine W.widen (k := 3) (n := 18) (Nat.le_of_ble_eq_true rfl) (Nat.le_of_ble_eq_true rfl) ?_
      exact eI S hr hlocks hH hS (Or.inr ⟨_, C1, hpx9, by rw [← cd2_c], rfl⟩) dL_depthBehind_22
  obtain ⟨n9, C1, rfl, rfl⟩ := hpost _ _ hpost9
  refine lv_i2l hx hb dL_depthBehind_10 rfl ?_
  refine pLg S hK hH hS dL_depthBehind_11 (fun H locs hH hS => ?_)
  refine lv_goto hx hb dL_depthBehind_12 (tgt := 23) rfl ?_
  refine lv_iconst (v := 0) hx hb dL_depthBehind_23 (by decide) ?_
  refine W.widen (k := 3) (n := 18) (Nat.le_of_ble_eq_true rfl) (Nat.le_of_ble_eq_true rfl) ?_
  exact eI S hr hlocks hH hS (Or.inl ⟨n9, C1, hpost9, rfl, rfl⟩) dL_depthBehind_24
set_option maxRecDepth 100000 in
set_option maxHeartbeats 4000000 in
theorem w_heightBehind {row x : Int32} (ok_o : o ∈ C.1 ∧ C.2.1 o = 2) (hM : Mx l yX2_heightBehind wsX2_heightBehind (rmL 7 2 12) D lo Γ [.ref o, .int row, .int x] (C, M, V) post px) (hpost : ∀ v Z', post v Z' → (∃ (n : Int32) (C' : CW), v = some (.int n) ∧ Z' = (C', M, V))) (hpx : ∀ E Z', px E Z' → (E = "java/lang/IndexOutOfBoundsException" ∨ E = "java/lang/IllegalStateException") ∧ ∃ C' : CW, Z' = (C', M, V)) : My l yL_heightBehind wsL_heightBehind (rmL 8 2 12) D lo Γ [.ref o, .int row, .int x, .ref (gxa Γ 7)] (C, M, V) (WQ post px M V cd2) := by
  refine My_of (cc := cL_heightBehind) (maxL := 5) (ret := some .int) (by decide) rfl (Nat.le_of_ble_eq_true rfl) ?_
  intro p e s m args below meth c ls S hr hlocks hK hH hS hX ht hl
  have hx := S.1
  have hb := S.2.1
  have hts := S.2.2.2.2
  have hl : lv_has ls 5 [(0, .ref o), (1, .int row), (2, .int x), (3, .ref (gxa Γ 7))] := hl
  have k1 := hts (.classLink RL 13 "java/lang/IndexOutOfBoundsException") (List.mem_of_getElem? (i := 1) rfl)
  have k2 := hts (.classLink RL 17 "java/lang/IllegalStateException") (List.mem_of_getElem? (i := 2) rfl)
  refine lv_aload_n hx hb dL_heightBehind_0 rfl (lv_at hl 3 rfl) ?_
  refine lv_iconst (v := 0) hx hb dL_heightBehind_1 (by decide) ?_
  refine lv_aload_n hx hb dL_heightBehind_2 rfl (lv_at hl 0 rfl) ?_
  refine lv_iload_n hx hb dL_heightBehind_3 rfl (lv_at hl 1 rfl) ?_
  refine lv_iload_n hx hb dL_heightBehind_4 rfl (lv_at hl 2 rfl) ?_
  refine cVx S hM (cwV 2 hts gL_heightBehind_X2_heightBehind rfl rfl rfl (by decide +kernel) ⟨Nat.le_of_ble_eq_true rfl, Nat.le_of_ble_eq_true rfl⟩) hK hH hX.1 (Hp_recv hK hH ok_o.1 ok_o.2 rfl) hS rfl hl.1 rfl (by simp [cat_rf, Value.category]) dL_heightBehind_5 ⟨Nat.le_of_ble_eq_true rfl, Nat.le_of_ble_eq_true rfl⟩ (fun E Z1 H locs ce q9 hpx9 hH hS hce hcv hcl => ?_) (fun v Z1 H locs hpost9 hH hS => ?_)
  · obtain ⟨hE, C1, rfl⟩ := hpx _ _ hpx9
    rcases hE with rfl | rfl
    · refine catA S hX ht (by decide) (by decide) (by decide) k1 hce hcv hcl ?_
      refine lv_astore (lv' := [(4, .ref q9), (0, .ref o), (1, .int row), (2, .int x), (3, .ref (gxa Γ 7))]) hx hb dL_heightBehind_13 hl (by decide) rfl (fun ls hl => ?_)
      refine lv_iconst (v := 1) hx hb dL_heightBehind_15 (by decide) ?_
      refine W.widen (k := 2) (n := 12) (Nat.le_of_ble_eq_true rfl) (Nat.le_of_ble_eq_true rfl) ?_
      exact eI S hr hlocks hH hS (Or.inr ⟨_, C1, hpx9, by rw [← cd2_a], rfl⟩) dL_heightBehind_16
    · refine catB S hX ht (by decide) (by decide) (by decide) (by decide) k1 k2 hX.2.1 hce hcv hcl ?_
      refine lv_astore (lv' := [(4, .ref q9), (0, .ref o), (1, .int row), (2, .int x), (3, .ref (gxa Γ 7))]) hx hb dL_heightBehind_17 hl (by decide) rfl (fun ls hl => ?_)
      refine lv_iconst (v := 2) hx hb dL_heightBehind_19 (by decide) ?_
      refine W.widen (k := 2) (n := 12) (Nat.le_of_ble_eq_true rfl) (Nat.le_of_ble_eq_true rfl) ?_
      exact eI S hr hlocks hH hS (Or.inr ⟨_, C1, hpx9, by rw [← cd2_c], rfl⟩) dL_heightBehind_20
  obtain ⟨n9, C1, rfl, rfl⟩ := hpost _ _ hpost9
  refine lv_i2l hx hb dL_heightBehind_8 rfl ?_
  refine pLg S hK hH hS dL_heightBehind_9 (fun H locs hH hS => ?_)
  refine lv_goto hx hb dL_heightBehind_10 (tgt := 21) rfl ?_
  refine lv_iconst (v := 0) hx hb dL_heightBehind_21 (by decide) ?_
  refine W.widen (k := 2) (n := 12) (Nat.le_of_ble_eq_true rfl) (Nat.le_of_ble_eq_true rfl) ?_
  exact eI S hr hlocks hH hS (Or.inl ⟨n9, C1, hpost9, rfl, rfl⟩) dL_heightBehind_22
set_option maxRecDepth 100000 in
set_option maxHeartbeats 4000000 in
theorem w_bestToEat {row : Int32} (ok_o : o ∈ C.1 ∧ C.2.1 o = 2) (hM : Mx l yX2_bestToEat wsX2_bestToEat (rmL 7 1 6) D lo Γ [.ref o, .int row] (C, M, V) post px) (hpost : ∀ v Z', post v Z' → (∃ (n : Int32) (C' : CW), v = some (.int n) ∧ Z' = (C', M, V))) (hpx : ∀ E Z', px E Z' → E = "java/lang/IndexOutOfBoundsException" ∧ ∃ C' : CW, Z' = (C', M, V)) : My l yL_bestToEat wsL_bestToEat (rmL 8 1 6) D lo Γ [.ref o, .int row, .ref (gxa Γ 7)] (C, M, V) (WQ post px M V cd1) := by
  refine My_of (cc := cL_bestToEat) (maxL := 4) (ret := some .int) (by decide) rfl (Nat.le_of_ble_eq_true rfl) ?_
  intro p e s m args below meth c ls S hr hlocks hK hH hS hX ht hl
  have hx := S.1
  have hb := S.2.1
  have hts := S.2.2.2.2
  have hl : lv_has ls 4 [(0, .ref o), (1, .int row), (2, .ref (gxa Γ 7))] := hl
  have k1 := hts (.classLink RL 13 "java/lang/IndexOutOfBoundsException") (List.mem_of_getElem? (i := 1) rfl)
  refine lv_aload_n hx hb dL_bestToEat_0 rfl (lv_at hl 2 rfl) ?_
  refine lv_iconst (v := 0) hx hb dL_bestToEat_1 (by decide) ?_
  refine lv_aload_n hx hb dL_bestToEat_2 rfl (lv_at hl 0 rfl) ?_
  refine lv_iload_n hx hb dL_bestToEat_3 rfl (lv_at hl 1 rfl) ?_
  refine cVx S hM (cwV 1 hts gL_bestToEat_X2_bestToEat rfl rfl rfl (by decide +kernel) ⟨Nat.le_of_ble_eq_true rfl, Nat.le_of_ble_eq_true rfl⟩) hK hH hX.1 (Hp_recv hK hH ok_o.1 ok_o.2 rfl) hS rfl hl.1 rfl (by simp [cat_rf, Value.category]) dL_bestToEat_4 ⟨Nat.le_of_ble_eq_true rfl, Nat.le_of_ble_eq_true rfl⟩ (fun E Z1 H locs ce q9 hpx9 hH hS hce hcv hcl => ?_) (fun v Z1 H locs hpost9 hH hS => ?_)
  · obtain ⟨hE, C1, rfl⟩ := hpx _ _ hpx9
    subst hE
    refine catA S hX ht (by decide) (by decide) (by decide) k1 hce hcv hcl ?_
    refine lv_astore_n (lv' := [(3, .ref q9), (0, .ref o), (1, .int row), (2, .ref (gxa Γ 7))]) hx hb dL_bestToEat_12 rfl hl (by decide) rfl (fun ls hl => ?_)
    refine lv_iconst (v := 1) hx hb dL_bestToEat_13 (by decide) ?_
    refine W.widen (k := 1) (n := 6) (Nat.le_of_ble_eq_true rfl) (Nat.le_of_ble_eq_true rfl) ?_
    exact eI S hr hlocks hH hS (Or.inr ⟨_, C1, hpx9, rfl, rfl⟩) dL_bestToEat_14
  obtain ⟨n9, C1, rfl, rfl⟩ := hpost _ _ hpost9
  refine lv_i2l hx hb dL_bestToEat_7 rfl ?_
  refine pLg S hK hH hS dL_bestToEat_8 (fun H locs hH hS => ?_)
  refine lv_goto hx hb dL_bestToEat_9 (tgt := 15) rfl ?_
  refine lv_iconst (v := 0) hx hb dL_bestToEat_15 (by decide) ?_
  refine W.widen (k := 1) (n := 6) (Nat.le_of_ble_eq_true rfl) (Nat.le_of_ble_eq_true rfl) ?_
  exact eI S hr hlocks hH hS (Or.inl ⟨n9, C1, hpost9, rfl, rfl⟩) dL_bestToEat_16
set_option maxRecDepth 100000 in
set_option maxHeartbeats 4000000 in
theorem w_plantDepth {row x : Int32} (ok_o : o ∈ C.1 ∧ C.2.1 o = 2) (hM : Mx l yX2_plantDepth wsX2_plantDepth (rmL 7 2 12) D lo Γ [.ref o, .int row, .int x] (C, M, V) post px) (hpost : ∀ v Z', post v Z' → (∃ (n : Int32) (C' : CW), v = some (.int n) ∧ Z' = (C', M, V))) (hpx : ∀ E Z', px E Z' → (E = "java/lang/IndexOutOfBoundsException" ∨ E = "java/lang/IllegalArgumentException") ∧ ∃ C' : CW, Z' = (C', M, V)) : My l yL_plantDepth wsL_plantDepth (rmL 8 2 12) D lo Γ [.ref o, .int row, .int x, .ref (gxa Γ 7)] (C, M, V) (WQ post px M V cd2) := by
  refine My_of (cc := cL_plantDepth) (maxL := 5) (ret := some .int) (by decide) rfl (Nat.le_of_ble_eq_true rfl) ?_
  intro p e s m args below meth c ls S hr hlocks hK hH hS hX ht hl
  have hx := S.1
  have hb := S.2.1
  have hts := S.2.2.2.2
  have hl : lv_has ls 5 [(0, .ref o), (1, .int row), (2, .int x), (3, .ref (gxa Γ 7))] := hl
  have k1 := hts (.classLink RL 13 "java/lang/IndexOutOfBoundsException") (List.mem_of_getElem? (i := 1) rfl)
  have k2 := hts (.classLink RL 15 "java/lang/IllegalArgumentException") (List.mem_of_getElem? (i := 2) rfl)
  refine lv_aload_n hx hb dL_plantDepth_0 rfl (lv_at hl 3 rfl) ?_
  refine lv_iconst (v := 0) hx hb dL_plantDepth_1 (by decide) ?_
  refine lv_aload_n hx hb dL_plantDepth_2 rfl (lv_at hl 0 rfl) ?_
  refine lv_iload_n hx hb dL_plantDepth_3 rfl (lv_at hl 1 rfl) ?_
  refine lv_iload_n hx hb dL_plantDepth_4 rfl (lv_at hl 2 rfl) ?_
  refine cVx S hM (cwV 2 hts gL_plantDepth_X2_plantDepth rfl rfl rfl (by decide +kernel) ⟨Nat.le_of_ble_eq_true rfl, Nat.le_of_ble_eq_true rfl⟩) hK hH hX.1 (Hp_recv hK hH ok_o.1 ok_o.2 rfl) hS rfl hl.1 rfl (by simp [cat_rf, Value.category]) dL_plantDepth_5 ⟨Nat.le_of_ble_eq_true rfl, Nat.le_of_ble_eq_true rfl⟩ (fun E Z1 H locs ce q9 hpx9 hH hS hce hcv hcl => ?_) (fun v Z1 H locs hpost9 hH hS => ?_)
  · obtain ⟨hE, C1, rfl⟩ := hpx _ _ hpx9
    rcases hE with rfl | rfl
    · refine catA S hX ht (by decide) (by decide) (by decide) k1 hce hcv hcl ?_
      refine lv_astore (lv' := [(4, .ref q9), (0, .ref o), (1, .int row), (2, .int x), (3, .ref (gxa Γ 7))]) hx hb dL_plantDepth_13 hl (by decide) rfl (fun ls hl => ?_)
      refine lv_iconst (v := 1) hx hb dL_plantDepth_15 (by decide) ?_
      refine W.widen (k := 2) (n := 12) (Nat.le_of_ble_eq_true rfl) (Nat.le_of_ble_eq_true rfl) ?_
      exact eI S hr hlocks hH hS (Or.inr ⟨_, C1, hpx9, by rw [← cd2_a], rfl⟩) dL_plantDepth_16
    · refine catB S hX ht (by decide) (by decide) (by decide) (by decide) k1 k2 hX.2.2.2 hce hcv hcl ?_
      refine lv_astore (lv' := [(4, .ref q9), (0, .ref o), (1, .int row), (2, .int x), (3, .ref (gxa Γ 7))]) hx hb dL_plantDepth_17 hl (by decide) rfl (fun ls hl => ?_)
      refine lv_iconst (v := 2) hx hb dL_plantDepth_19 (by decide) ?_
      refine W.widen (k := 2) (n := 12) (Nat.le_of_ble_eq_true rfl) (Nat.le_of_ble_eq_true rfl) ?_
      exact eI S hr hlocks hH hS (Or.inr ⟨_, C1, hpx9, by rw [← cd2_b], rfl⟩) dL_plantDepth_20
  obtain ⟨n9, C1, rfl, rfl⟩ := hpost _ _ hpost9
  refine lv_i2l hx hb dL_plantDepth_8 rfl ?_
  refine pLg S hK hH hS dL_plantDepth_9 (fun H locs hH hS => ?_)
  refine lv_goto hx hb dL_plantDepth_10 (tgt := 21) rfl ?_
  refine lv_iconst (v := 0) hx hb dL_plantDepth_21 (by decide) ?_
  refine W.widen (k := 2) (n := 12) (Nat.le_of_ble_eq_true rfl) (Nat.le_of_ble_eq_true rfl) ?_
  exact eI S hr hlocks hH hS (Or.inl ⟨n9, C1, hpost9, rfl, rfl⟩) dL_plantDepth_22
set_option maxRecDepth 100000 in
set_option maxHeartbeats 4000000 in
theorem w_canJoin {row x : Int32} (ok_o : o ∈ C.1 ∧ C.2.1 o = 2) (hM : Mx l yX2_canJoin wsX2_canJoin (rmL 7 2 12) D lo Γ [.ref o, .int row, .int x] (C, M, V) post px) (hpost : ∀ v Z', post v Z' → (∃ (n : Int32) (C' : CW), (n = 0 ∨ n = 1) ∧ v = some (.int n) ∧ Z' = (C', M, V))) (hpx : ∀ E Z', px E Z' → E = "java/lang/IndexOutOfBoundsException" ∧ ∃ C' : CW, Z' = (C', M, V)) : My l yL_canJoin wsL_canJoin (rmL 8 2 12) D lo Γ [.ref o, .int row, .int x, .ref (gxa Γ 7)] (C, M, V) (WQ post px M V cd1) := by
  refine My_of (cc := cL_canJoin) (maxL := 5) (ret := some .int) (by decide) rfl (Nat.le_of_ble_eq_true rfl) ?_
  intro p e s m args below meth c ls S hr hlocks hK hH hS hX ht hl
  have hx := S.1
  have hb := S.2.1
  have hts := S.2.2.2.2
  have hl : lv_has ls 5 [(0, .ref o), (1, .int row), (2, .int x), (3, .ref (gxa Γ 7))] := hl
  have k1 := hts (.classLink RL 13 "java/lang/IndexOutOfBoundsException") (List.mem_of_getElem? (i := 1) rfl)
  refine lv_aload_n hx hb dL_canJoin_0 rfl (lv_at hl 3 rfl) ?_
  refine lv_iconst (v := 0) hx hb dL_canJoin_1 (by decide) ?_
  refine lv_aload_n hx hb dL_canJoin_2 rfl (lv_at hl 0 rfl) ?_
  refine lv_iload_n hx hb dL_canJoin_3 rfl (lv_at hl 1 rfl) ?_
  refine lv_iload_n hx hb dL_canJoin_4 rfl (lv_at hl 2 rfl) ?_
  refine cVx S hM (cwV 2 hts gL_canJoin_X2_canJoin rfl rfl rfl (by decide +kernel) ⟨Nat.le_of_ble_eq_true rfl, Nat.le_of_ble_eq_true rfl⟩) hK hH hX.1 (Hp_recv hK hH ok_o.1 ok_o.2 rfl) hS rfl hl.1 rfl (by simp [cat_rf, Value.category]) dL_canJoin_5 ⟨Nat.le_of_ble_eq_true rfl, Nat.le_of_ble_eq_true rfl⟩ (fun E Z1 H locs ce q9 hpx9 hH hS hce hcv hcl => ?_) (fun v Z1 H locs hpost9 hH hS => ?_)
  · obtain ⟨hE, C1, rfl⟩ := hpx _ _ hpx9
    subst hE
    refine catA S hX ht (by decide) (by decide) (by decide) k1 hce hcv hcl ?_
    refine lv_astore (lv' := [(4, .ref q9), (0, .ref o), (1, .int row), (2, .int x), (3, .ref (gxa Γ 7))]) hx hb dL_canJoin_20 hl (by decide) rfl (fun ls hl => ?_)
    refine lv_iconst (v := 1) hx hb dL_canJoin_22 (by decide) ?_
    refine W.widen (k := 2) (n := 12) (Nat.le_of_ble_eq_true rfl) (Nat.le_of_ble_eq_true rfl) ?_
    exact eI S hr hlocks hH hS (Or.inr ⟨_, C1, hpx9, rfl, rfl⟩) dL_canJoin_23
  obtain ⟨n9, C1, hn9, rfl, rfl⟩ := hpost _ _ hpost9
  refine lv_if_eq hx hb dL_canJoin_8 (tgt := 15) rfl (fun h0 => ?_) (fun h0 => ?_)
  · subst h0
    refine lv_lconst (v := (0 : Int32).toInt64) hx hb dL_canJoin_15 (by decide) ?_
    refine pLg S hK hH hS dL_canJoin_16 (fun H locs hH hS => ?_)
    refine lv_goto hx hb dL_canJoin_17 (tgt := 24) rfl ?_
    refine lv_iconst (v := 0) hx hb dL_canJoin_24 (by decide) ?_
    refine W.widen (k := 2) (n := 12) (Nat.le_of_ble_eq_true rfl) (Nat.le_of_ble_eq_true rfl) ?_
    exact eI S hr hlocks hH hS (Or.inl ⟨0, C1, hpost9, rfl, rfl⟩) dL_canJoin_25
  · have h1 : n9 = 1 := hn9.resolve_left h0
    subst h1
    refine lv_lconst (v := (1 : Int32).toInt64) hx hb dL_canJoin_11 (by decide) ?_
    refine lv_goto hx hb dL_canJoin_12 (tgt := 16) rfl ?_
    refine pLg S hK hH hS dL_canJoin_16 (fun H locs hH hS => ?_)
    refine lv_goto hx hb dL_canJoin_17 (tgt := 24) rfl ?_
    refine lv_iconst (v := 0) hx hb dL_canJoin_24 (by decide) ?_
    refine W.widen (k := 2) (n := 12) (Nat.le_of_ble_eq_true rfl) (Nat.le_of_ble_eq_true rfl) ?_
    exact eI S hr hlocks hH hS (Or.inl ⟨1, C1, hpost9, rfl, rfl⟩) dL_canJoin_25
set_option maxRecDepth 100000 in
set_option maxHeartbeats 4000000 in
theorem w_meanDepth {row : Int32} (ok_o : o ∈ C.1 ∧ C.2.1 o = 2) (hM : Mx l yX2_meanDepth wsX2_meanDepth (rmL 7 1 6) D lo Γ [.ref o, .int row] (C, M, V) post px) (hpost : ∀ v Z', post v Z' → (∃ (n : UInt64) (C' : CW), v = some (.double n) ∧ Z' = (C', M, V))) (hpx : ∀ E Z', px E Z' → E = "java/lang/IndexOutOfBoundsException" ∧ ∃ C' : CW, Z' = (C', M, V)) : My l yL_meanDepth wsL_meanDepth (rmL 8 1 6) D lo Γ [.ref o, .int row, .ref (gxa Γ 8)] (C, M, V) (WD post px M V cd1) := by
  refine My_of (cc := cL_meanDepth) (maxL := 4) (ret := some .int) (by decide) rfl (Nat.le_of_ble_eq_true rfl) ?_
  intro p e s m args below meth c ls S hr hlocks hK hH hS hX ht hl
  have hx := S.1
  have hb := S.2.1
  have hts := S.2.2.2.2
  have hl : lv_has ls 4 [(0, .ref o), (1, .int row), (2, .ref (gxa Γ 8))] := hl
  have k1 := hts (.classLink RL 13 "java/lang/IndexOutOfBoundsException") (List.mem_of_getElem? (i := 1) rfl)
  refine lv_aload_n hx hb dL_meanDepth_0 rfl (lv_at hl 2 rfl) ?_
  refine lv_iconst (v := 0) hx hb dL_meanDepth_1 (by decide) ?_
  refine lv_aload_n hx hb dL_meanDepth_2 rfl (lv_at hl 0 rfl) ?_
  refine lv_iload_n hx hb dL_meanDepth_3 rfl (lv_at hl 1 rfl) ?_
  refine cVx S hM (cwV 1 hts gL_meanDepth_X2_meanDepth rfl rfl rfl (by decide +kernel) ⟨Nat.le_of_ble_eq_true rfl, Nat.le_of_ble_eq_true rfl⟩) hK hH hX.1 (Hp_recv hK hH ok_o.1 ok_o.2 rfl) hS rfl hl.1 rfl (by simp [cat_rf, Value.category]) dL_meanDepth_4 ⟨Nat.le_of_ble_eq_true rfl, Nat.le_of_ble_eq_true rfl⟩ (fun E Z1 H locs ce q9 hpx9 hH hS hce hcv hcl => ?_) (fun v Z1 H locs hpost9 hH hS => ?_)
  · obtain ⟨hE, C1, rfl⟩ := hpx _ _ hpx9
    subst hE
    refine catA S hX ht (by decide) (by decide) (by decide) k1 hce hcv hcl ?_
    refine lv_astore_n (lv' := [(3, .ref q9), (0, .ref o), (1, .int row), (2, .ref (gxa Γ 8))]) hx hb dL_meanDepth_11 rfl hl (by decide) rfl (fun ls hl => ?_)
    refine lv_iconst (v := 1) hx hb dL_meanDepth_12 (by decide) ?_
    refine W.widen (k := 1) (n := 6) (Nat.le_of_ble_eq_true rfl) (Nat.le_of_ble_eq_true rfl) ?_
    exact eI S hr hlocks hH hS (Or.inr ⟨_, C1, hpx9, rfl, rfl⟩) dL_meanDepth_13
  obtain ⟨n9, C1, rfl, rfl⟩ := hpost _ _ hpost9
  refine pDb S hK hH hS dL_meanDepth_7 (fun H locs hH hS => ?_)
  refine lv_goto hx hb dL_meanDepth_8 (tgt := 14) rfl ?_
  refine lv_iconst (v := 0) hx hb dL_meanDepth_14 (by decide) ?_
  refine W.widen (k := 1) (n := 6) (Nat.le_of_ble_eq_true rfl) (Nat.le_of_ble_eq_true rfl) ?_
  exact eI S hr hlocks hH hS (Or.inl ⟨n9, C1, hpost9, rfl, rfl⟩) dL_meanDepth_15
end Wrap
