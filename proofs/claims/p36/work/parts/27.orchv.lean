/-! METHODS of SplayOrchard: plant, the mean depth, what an apple adds to the digest -/
theorem fnd_cg {sz sz' : Nat → Nat} {z : Int} : ∀ t : Tr, (∀ a ∈ tids t, sz' a = sz a) → fnd sz' z t = fnd sz z t := by
  intro t
  induction t with
  | leaf u => intro _; rfl
  | branch k l r ihl ihr =>
    intro h
    have hk := h k (by simp [tids])
    have e1 := ihl (fun a ha => h a (by simp [tids, ha]))
    have e2 := ihr (fun a ha => h a (by simp [tids, ha]))
    simp only [fnd, hk, e1, e2]
theorem inc_cg {sz sz' : Nat → Nat} {z : Int} : ∀ (t : Tr) (C : Cx), (∀ a ∈ tids t, sz' a = sz a) → inc sz' z t C = inc sz z t C := by
  intro t
  induction t with
  | leaf u => intro _ _; rfl
  | branch k l r ihl ihr =>
    intro C h
    have hk := h k (by simp [tids])
    have e1 := fun C => ihl C (fun a ha => h a (by simp [tids, ha]))
    have e2 := fun C => ihr C (fun a ha => h a (by simp [tids, ha]))
    simp only [inc, hk, e1, e2]
/-- a new node at an empty place -/
theorem hngT_ok {P : PF} {t0 a : Nat} {C : Cx} (h : rep P none (plug (.leaf ()) C)) (h0 : P 0 a = none) (h1 : P 1 a = none) (ha : a ∉ tids (plug (.leaf ()) C)) (hn : (tids (plug (.leaf ()) C)).Nodup) : Zp (hngT P t0 a C) (.branch a (.leaf ()) (.leaf ())) C ∧ (∀ j x, j < 3 → x ∉ tids (plug (.leaf ()) C) → x ≠ a → hngT P t0 a C j x = P j x) ∧ (∀ x, x ≠ t0 → hngT P t0 a C 3 x = P 3 x) := by
  cases C with
  | nil =>
    have hv : ∀ j x, hngT P t0 a [] j x = if j = 2 ∧ x = a then none else if j = 3 ∧ x = t0 then some a else P j x := fun j x => rfl
    refine ⟨⟨⟨?_, ?_, ?_, trivial, trivial⟩, trivial⟩, fun j x hj hx hxa => ?_, fun x hx => ?_⟩
    · rw [hv, if_pos ⟨rfl, rfl⟩]; rfl
    · rw [hv, if_neg (by omega), if_neg (by omega), h0]; rfl
    · rw [hv, if_neg (by omega), if_neg (by omega), h1]; rfl
    · rw [hv, if_neg (fun q => hxa q.2), if_neg (by omega)]
    · rw [hv, if_neg (by omega), if_neg (fun q => hx q.2)]
  | cons f C =>
    obtain ⟨s, p, u⟩ := f
    have hv : ∀ j x, hngT P t0 a ((s, p, u) :: C) j x = if j = 2 ∧ x = a then some p else if j = bt s ∧ x = p then some a else P j x := fun j x => rfl
    have hb : bt s < 2 ∧ bt (!s) < 2 ∧ bt s ≠ bt (!s) := by cases s <;> decide
    obtain ⟨-, g1, g2, g3, g4, g5⟩ := (Zp_plug _ _).mpr h
    have e : tids (plug (.leaf ()) ((s, p, u) :: C)) = cL C ++ tids (nd s p (.leaf ()) u) ++ cR C := tids_plug C _
    rw [e] at ha hn
    obtain ⟨n1, -, d1⟩ := List.nodup_append.mp hn
    obtain ⟨-, n3, d2⟩ := List.nodup_append.mp n1
    have hpu : p ∉ tids u := by
      cases s
      · exact (List.nodup_cons.mp (show (p :: tids u).Nodup from n3)).1
      · have h9 : (tids u ++ [p]).Nodup := n3
        exact fun q => (List.nodup_append.mp h9).2.2 p q p (by simp) rfl
    have hpin : p ∈ tids (nd s p (.leaf ()) u) := by cases s <;> simp [nd, tids]
    have huin : ∀ x ∈ tids u, x ∈ tids (nd s p (.leaf ()) u) := fun x hx => by cases s <;> simp [nd, tids, hx]
    have hpa : p ≠ a := fun q => ha (by rw [← q]; simp [hpin])
    have hother : ∀ x, x ≠ a → x ≠ p → ∀ j, hngT P t0 a ((s, p, u) :: C) j x = P j x := fun x q1 q2 j => by rw [hv, if_neg (fun q => q1 q.2), if_neg (fun q => q2 q.2)]
    refine ⟨⟨⟨?_, ?_, ?_, trivial, trivial⟩, ?_, ?_, ?_, ?_, ?_⟩, fun j x hj hx hxa => ?_, fun x hx => ?_⟩
    · rw [hv, if_pos ⟨rfl, rfl⟩]; rfl
    · rw [hv, if_neg (by omega), if_neg (fun q => hpa q.2.symm), h0]; rfl
    · rw [hv, if_neg (by omega), if_neg (fun q => hpa q.2.symm), h1]; rfl
    · rw [hv, if_neg (by omega), if_pos ⟨rfl, rfl⟩]; rfl
    · rw [hv, if_neg (by omega), if_neg (fun q => hb.2.2 q.1.symm)]; exact g2
    · exact rep_congr u _ g3 (fun x hx => by
        have q1 : x ≠ a := fun q => ha (by rw [← q]; simp [huin x hx])
        have q2 : x ≠ p := fun q => hpu (by rw [← q]; exact hx)
        exact ⟨hother x q1 q2 0, hother x q1 q2 1, hother x q1 q2 2⟩)
    · rw [hv, if_neg (fun q => hpa q.2), if_neg (by omega)]; exact g4
    · exact repC_congr C _ g5 (fun x hx => by
        have q1 : x ≠ a := fun q => ha (by rw [← q]; rcases hx with hx | hx <;> simp [hx])
        have q2 : x ≠ p := fun q => by
          rcases hx with hx | hx
          · exact d2 x hx p hpin q
          · exact d1 p (by simp [hpin]) x hx q.symm
        exact ⟨hother x q1 q2 0, hother x q1 q2 1, hother x q1 q2 2⟩)
    · exact hother x hxa (fun q => hx (by rw [e, q]; simp [hpin])) j
    · rw [hv, if_neg (by omega), if_neg (by omega)]
section MOrchV
variable {l : Launch} {D : va_G} {lo : Nat} {Γ : GT} {L : List Nat} {K : Nat → Nat} {sz : Nat → Nat} {si : Nat → Option Nat} {P : PF} {bi : Nat → Nat} {tu : Nat} {M : MW} {V : Int64 × UInt64}
/-- more in the world -/
theorem CI_ext {o : Nat} {T : Nat → Tr} {L' : List Nat} {K' sz' : Nat → Nat} {si' : Nat → Option Nat} {P' : PF} (hc : CI Γ o T L K sz si P) (hL : ∀ b ∈ L, b ∈ L' ∧ K' b = K b ∧ sz' b = sz b ∧ si' b = si b ∧ ∀ j, P' j b = P j b) (h2 : ∀ b, b ∈ L' → K' b = 2 → b ∈ L) : CI Γ o T L' K' sz' si' P' := by
  obtain ⟨⟨g1, g2, g3, g4, g5, g6⟩, c_t, c_nd, c_si, c_inj, c_40⟩ := hc
  have hk : ∀ b, b ∈ L → K' b = K b := fun b hb => (hL b hb).2.1
  have hin : ∀ a ∈ gids T, a ∈ L := fun a ha => by
    obtain ⟨r, hr, hm⟩ := gids_mem.mp ha
    exact ((c_t r hr).1.2.2.2.2.2 a hm).1.1
  have ok : ∀ b, okA L K b → okA L' K' b := fun b hb => ⟨(hL b hb.1).1, by rw [hk b hb.1]; exact hb.2⟩
  refine ⟨⟨⟨(hL _ g1.1).1, by rw [hk _ g1.1]; exact g1.2⟩, fun b hb hb2 => ?_, ⟨(hL _ g3.1).1, by rw [hk _ g3.1]; exact g3.2⟩, ⟨(hL _ g4.1).1, by rw [hk _ g4.1]; exact g4.2⟩, g5, g6⟩, fun r hr => ?_, c_nd, fun a ha => ?_, fun a ha a' ha' he => ?_, c_40⟩
  · have hbL := h2 b hb hb2
    exact g2 b hbL (by rw [← hk b hbL]; exact hb2)
  · obtain ⟨⟨a1, a2, a3, a4, a5, a6⟩, a7⟩ := c_t r hr
    have hm : ∀ x ∈ tids (T r), x ∈ L := fun x hx => (a6 x hx).1.1
    refine ⟨⟨(hL _ a1).1, by rw [hk _ a1]; exact a2, by rw [(hL _ a1).2.2.2.2]; exact a3, rep_congr _ _ a4 (fun x hx => ⟨(hL x (hm x hx)).2.2.2.2 0, (hL x (hm x hx)).2.2.2.2 1, (hL x (hm x hx)).2.2.2.2 2⟩), a5, fun x hx => ⟨ok x (a6 x hx).1, by rw [(hL x (hm x hx)).2.2.1]; exact (a6 x hx).2⟩⟩, ?_⟩
    unfold srt at a7 ⊢
    refine List.Pairwise.imp_of_mem (fun {x y} hx hy h => ?_) a7
    rw [(hL x (hm x hx)).2.2.1, (hL y (hm y hy)).2.2.1]
    exact h
  · obtain ⟨b, h1, h3, h4, h5⟩ := c_si a ha
    have := hL a (hin a ha)
    exact ⟨b, by rw [this.2.2.2.1]; exact h1, ok b h3, h4, by rw [(hL b h3.1).2.2.1, this.2.2.1]; exact h5⟩
  · rw [(hL a (hin a ha)).2.2.2.1, (hL a' (hin a' ha')).2.2.2.1] at he
    exact c_inj a ha a' ha' he
/-- two new apples, the second one the first one's stand-in -/
def NewA (T : Nat → Tr) (q b n : Nat) (sz bi : Nat → Nat) (L' : List Nat) (K' sz' : Nat → Nat) (si' : Nat → Option Nat) (P' : PF) (bi' : Nat → Nat) : Prop :=
  okA L' K' q ∧ okA L' K' b ∧ sz' q = n ∧ sz' b = n ∧ si' q = some b ∧ bi' q = 0 ∧ (∀ a ∈ gids T, sz' a = sz a ∧ bi' a = bi a) ∧ (∀ a ∈ gids T, si' a ≠ some q ∧ si' a ≠ some b) ∧ q ∉ gids T ∧ b ∉ gids T ∧ b ≠ q ∧ P' 0 q = none ∧ P' 1 q = none
theorem plant_new {o q1 q2 n : Nat} {T : Nat → Tr} {H : Heap} (hc : CI Γ o T L K sz si P) (h1 : q1 ∉ L) (h2 : q2 ∉ L ++ [q1])
    (hH : Hp D lo Γ ((L ++ [q1] ++ [q2], va_up (va_up K q1 0) q2 0, va_up (va_up (va_up (va_up sz q1 0) q2 0) q2 n) q1 n, va_up (va_up (va_up (va_up si q1 none) q2 none) q2 none) q1 (some q2), nwP (nwP P q1) q2, va_up (va_up bi q1 0) q2 0, tu), M, V) H) :
    ∃ L' K' sz' si' P' bi', Hp D lo Γ ((L', K', sz', si', P', bi', tu), M, V) H ∧ CI Γ o T L' K' sz' si' P' ∧ NewA T q1 q2 n sz bi L' K' sz' si' P' bi' := by
  have hin : ∀ a ∈ gids T, a ∈ L := fun a ha => by
    obtain ⟨r, hr, hm⟩ := gids_mem.mp ha
    exact ((hc.2.1 r hr).1.2.2.2.2.2 a hm).1.1
  have hq : q2 ≠ q1 := fun e => h2 (by simp [e])
  have h2' : q2 ∉ L := fun e => h2 (by simp [e])
  have n1 : ∀ b ∈ L, b ≠ q1 := fun b hb e => h1 (by rw [← e]; exact hb)
  have n2 : ∀ b ∈ L, b ≠ q2 := fun b hb e => h2' (by rw [← e]; exact hb)
  have hsi : ∀ a ∈ L, va_up (va_up (va_up (va_up si q1 none) q2 none) q2 none) q1 (some q2) a = si a := fun a ha => by rw [va_up_ne _ _ (n1 a ha), va_up_ne _ _ (n2 a ha), va_up_ne _ _ (n2 a ha), va_up_ne _ _ (n1 a ha)]
  refine ⟨_, _, _, _, _, _, hH, CI_ext hc (fun b hb => ⟨by simp [hb], by rw [va_up_ne _ _ (n2 b hb), va_up_ne _ _ (n1 b hb)], by rw [va_up_ne _ _ (n1 b hb), va_up_ne _ _ (n2 b hb), va_up_ne _ _ (n2 b hb), va_up_ne _ _ (n1 b hb)], hsi b hb, fun j => by rw [nwP_ne (n2 b hb), nwP_ne (n1 b hb)]⟩) (fun b hb hb2 => ?_), ⟨by simp, by rw [va_up_ne _ _ (Ne.symm hq), va_up_self]⟩, ⟨by simp, va_up_self _ _ _⟩, va_up_self _ _ _, by rw [va_up_ne _ _ hq, va_up_self], va_up_self _ _ _, by rw [va_up_ne _ _ (Ne.symm hq), va_up_self], fun a ha => ⟨by rw [va_up_ne _ _ (n1 a (hin a ha)), va_up_ne _ _ (n2 a (hin a ha)), va_up_ne _ _ (n2 a (hin a ha)), va_up_ne _ _ (n1 a (hin a ha))], by rw [va_up_ne _ _ (n2 a (hin a ha)), va_up_ne _ _ (n1 a (hin a ha))]⟩, fun a ha => ?_, fun e => h1 (hin _ e), fun e => h2' (hin _ e), hq, by rw [nwP_ne (Ne.symm hq), nwP_eq], by rw [nwP_ne (Ne.symm hq), nwP_eq]⟩
  · rcases List.mem_append.mp hb with h | h
    · rcases List.mem_append.mp h with h | h
      · exact h
      · rw [List.mem_singleton.mp h, va_up_ne _ _ (Ne.symm hq), va_up_self] at hb2; cases hb2
    · rw [List.mem_singleton.mp h, va_up_self] at hb2; cases hb2
  · rw [hsi a (hin a ha)]
    obtain ⟨b, g1, g2, -⟩ := hc.2.2.2.1 a ha
    rw [g1]
    exact ⟨fun e => n1 b g2.1 (Option.some.inj e), fun e => n2 b g2.1 (Option.some.inj e)⟩
theorem hang_zp {o r q b n : Nat} {T : Nat → Tr} {sz0 bi0 : Nat → Nat} (hc : CI Γ o T L K sz si P) (hr6 : r < 6) (hN : NewA T q b n sz0 bi0 L K sz si P bi) (hn : n < 1000) (hf : fnd sz (n : Int) (T r) = none) :
    Zp (hngT P (gta Γ r) q (inc sz (n : Int) (T r) [])) (.branch q (.leaf ()) (.leaf ())) (inc sz (n : Int) (T r) []) ∧ (tids (plug (.branch q (.leaf ()) (.leaf ())) (inc sz (n : Int) (T r) []))).Nodup ∧ (∀ x ∈ tids (plug (.branch q (.leaf ()) (.leaf ())) (inc sz (n : Int) (T r) [])), x = q ∨ x ∈ tids (T r)) ∧ (inc sz (n : Int) (T r) []).length ≤ (tids (T r)).length ∧ srt sz (plug (.branch q (.leaf ()) (.leaf ())) (inc sz (n : Int) (T r) [])) ∧ (tids (plug (.branch q (.leaf ()) (.leaf ())) (inc sz (n : Int) (T r) []))).length = (tids (T r)).length + 1 ∧ (∀ j x, j < 3 → x ∉ tids (T r) → x ≠ q → hngT P (gta Γ r) q (inc sz (n : Int) (T r) []) j x = P j x) ∧ (∀ x, x ≠ gta Γ r → hngT P (gta Γ r) q (inc sz (n : Int) (T r) []) 3 x = P 3 x) ∧ (∀ x, x ∈ tids (T r) → x ∈ tids (plug (.branch q (.leaf ()) (.leaf ())) (inc sz (n : Int) (T r) []))) := by
  obtain ⟨htr, hs⟩ := hc.2.1 r hr6
  obtain ⟨m1, m2, m3, m4, m5, m6, m7, m8, m9, m10, m11, m12, m13⟩ := hN
  have hp : plug (.leaf ()) (inc sz (n : Int) (T r) []) = T r := plug_inc (T r) []
  have hqr : q ∉ tids (T r) := fun e => m9 (gids_mem.mpr ⟨r, hr6, e⟩)
  obtain ⟨g1, g2, g3⟩ := hngT_ok (t0 := gta Γ r) (C := inc sz (n : Int) (T r) []) (by rw [hp]; exact htr.2.2.2.1) m12 m13 (by rw [hp]; exact hqr) (by rw [hp]; exact htr.2.2.2.2.1)
  rw [hp] at g2
  have hids : tids (T r) = cL (inc sz (n : Int) (T r) []) ++ cR (inc sz (n : Int) (T r) []) := by
    have h9 := tids_plug (inc sz (n : Int) (T r) []) (.leaf ())
    rw [hp] at h9
    rw [h9]
    simp [tids]
  have hnew : tids (plug (.branch q (.leaf ()) (.leaf ())) (inc sz (n : Int) (T r) [])) = cL (inc sz (n : Int) (T r) []) ++ q :: cR (inc sz (n : Int) (T r) []) := by
    rw [tids_plug]
    simp [tids]
  obtain ⟨l1, l2⟩ := inc_lr (z := (n : Int)) (T r) [] hs hf (fun a ha => by cases ha) (fun a ha => by cases ha)
  have hlen : (inc sz (n : Int) (T r) []).length ≤ (tids (T r)).length := by
    have := cx_len2 (inc sz (n : Int) (T r) [])
    rw [hids, List.length_append]
    exact this
  have hnd := htr.2.2.2.2.1
  rw [hids] at hnd
  obtain ⟨k1, k2, k3⟩ := List.nodup_append.mp hnd
  refine ⟨g1, ?_, fun x hx => ?_, hlen, ?_, by rw [hnew, hids]; simp only [List.length_append, List.length_cons]; omega, g2, g3, fun x hx => ?_⟩
  · rw [hnew]
    refine List.nodup_append.mpr ⟨k1, List.nodup_cons.mpr ⟨fun e => hqr (by rw [hids]; simp [e]), k2⟩, fun x hx y hy e => ?_⟩
    rcases List.mem_cons.mp hy with h | h
    · exact hqr (by rw [hids, ← h, ← e]; simp [hx])
    · exact k3 x hx y h e
  · rw [hnew] at hx
    rcases List.mem_append.mp hx with h | h
    · exact Or.inr (by rw [hids]; simp [h])
    · rcases List.mem_cons.mp h with h | h
      · exact Or.inl h
      · exact Or.inr (by rw [hids]; simp [h])
  · unfold srt
    rw [hnew]
    have hs' : (cL (inc sz (n : Int) (T r) []) ++ cR (inc sz (n : Int) (T r) [])).Pairwise (fun a b => sz a < sz b) := by rw [← hids]; exact hs
    obtain ⟨p1, p2, p3⟩ := List.pairwise_append.mp hs'
    refine List.pairwise_append.mpr ⟨p1, List.pairwise_cons.mpr ⟨fun y hy => ?_, p2⟩, fun x hx y hy => ?_⟩
    · have := l2 y hy
      rw [m3]; omega
    · rcases List.mem_cons.mp hy with h | h
      · have := l1 x hx
        rw [h, m3]; omega
      · exact p3 x hx y h
  · rw [hnew]
    rw [hids] at hx
    rcases List.mem_append.mp hx with h | h <;> simp [h]
theorem plant_ok {o r q b n : Nat} {T : Nat → Tr} {sz0 bi0 : Nat → Nat} (hc : CI Γ o T L K sz si P) (hr6 : r < 6) (hN : NewA T q b n sz0 bi0 L K sz si P bi) (hn : n < 1000) (hf : fnd sz (n : Int) (T r) = none) (h40 : (gids T).length < 40) :
    CI Γ o (va_up T r (spl q (inc sz (n : Int) (T r) []) (.leaf ()) (.leaf ()))) L K sz si (sP (rai q (inc sz (n : Int) (T r) []) (hngT P (gta Γ r) q (inc sz (n : Int) (T r) []))) 3 (gta Γ r) (some q)) := by
  obtain ⟨z1, z2, z3, z4, z5, z6, z7, z8, z9⟩ := hang_zp hc hr6 hN hn hf
  obtain ⟨m1, m2, m3, m4, m5, m6, m7, m8, m9, m10, m11, m12, m13⟩ := hN
  obtain ⟨C, hC⟩ : ∃ C, C = inc sz (n : Int) (T r) [] := ⟨_, rfl⟩
  rw [← hC] at z1 z2 z3 z4 z5 z6 z7 z8 z9 ⊢
  obtain ⟨g1, g2, g3, g4, g5⟩ := rai_zip (k := q) C.length C (hngT P (gta Γ r) q C) (.leaf ()) (.leaf ()) (Nat.le_refl _) z1 z2
  have hap := gids_apart hc.2.2.1
  obtain ⟨hg, c_t, c_nd, c_si, c_inj, c_40⟩ := hc
  have vr : va_up T r (spl q C (.leaf ()) (.leaf ())) r = spl q C (.leaf ()) (.leaf ()) := va_up_self _ _ _
  have vy : ∀ y, y ≠ r → va_up T r (spl q C (.leaf ()) (.leaf ())) y = T y := fun y hy => va_up_ne _ _ hy
  have hin : ∀ y, y < 6 → ∀ a, a ∈ tids (va_up T r (spl q C (.leaf ()) (.leaf ())) y) → (a = q ∧ y = r) ∨ a ∈ tids (T y) := fun y hy a ha => by
    by_cases e : y = r
    · subst e
      rw [vr, g3] at ha
      rcases z3 a ha with h | h
      · exact Or.inl ⟨h, rfl⟩
      · exact Or.inr h
    · rw [vy y e] at ha; exact Or.inr ha
  have hgm : ∀ a, a ∈ gids (va_up T r (spl q C (.leaf ()) (.leaf ()))) → a = q ∨ a ∈ gids T := fun a ha => by
    obtain ⟨y, hy, hm⟩ := gids_mem.mp ha
    rcases hin y hy a hm with h | h
    · exact Or.inl h.1
    · exact Or.inr (gids_mem.mpr ⟨y, hy, h⟩)
  have hqT : ∀ y, y < 6 → q ∉ tids (T y) := fun y hy e => m9 (gids_mem.mpr ⟨y, hy, e⟩)
  refine ⟨hg, fun y hy => ?_, gids_nodup (fun y hy => ?_) (fun y y' hy hy' hne a ha hb => ?_), fun a ha => ?_, fun a ha a' ha' he => ?_, ?_⟩
  · by_cases e : y = r
    · subst e
      rw [vr]
      obtain ⟨⟨a1, a2, -⟩, -⟩ := c_t y hy
      refine ⟨⟨a1, a2, by rw [sP_eq, g2], rep_congr _ _ g1 (fun x _ => ⟨by rw [sP_nk (by omega)], by rw [sP_nk (by omega)], by rw [sP_nk (by omega)]⟩), by rw [g3]; exact z2, fun x hx => ?_⟩, by unfold srt; rw [g3]; exact z5⟩
      rw [g3] at hx
      rcases z3 x hx with h | h
      · rw [h]; exact ⟨m1, by rw [m3]; exact hn⟩
      · exact (c_t y hy).1.2.2.2.2.2 x h
    · rw [vy y e]
      obtain ⟨⟨a1, a2, a3, a4, a5, a6⟩, a7⟩ := c_t y hy
      have hgne : gta Γ y ≠ gta Γ r := fun e9 => e (hg.2.2.2.2.2 y r hy hr6 e9)
      refine ⟨⟨a1, a2, by rw [sP_na hgne, g5 3 _ (by omega), z8 _ hgne, a3], rep_congr _ _ a4 (fun x hx => ?_), a5, a6⟩, a7⟩
      have hxr : x ∉ tids (T r) := hap.2 y r hy hr6 e x hx
      have hxq : x ≠ q := fun e9 => hqT y hy (by rw [← e9]; exact hx)
      have hxp : x ∉ tids (plug (.branch q (.leaf ()) (.leaf ())) C) := fun e9 => by
        rcases z3 x e9 with h | h
        · exact hxq h
        · exact hxr h
      exact ⟨by rw [sP_nk (by omega), g4 0 x hxp, z7 0 x (by omega) hxr hxq], by rw [sP_nk (by omega), g4 1 x hxp, z7 1 x (by omega) hxr hxq], by rw [sP_nk (by omega), g4 2 x hxp, z7 2 x (by omega) hxr hxq]⟩
  · by_cases e : y = r
    · subst e; rw [vr, g3]; exact z2
    · rw [vy y e]; exact hap.1 y hy
  · rcases hin y hy a ha with ⟨h, h'⟩ | h <;> rcases hin y' hy' a hb with ⟨k, k'⟩ | k
    · exact hne (by rw [h', k'])
    · exact hqT y' hy' (by rw [← h]; exact k)
    · exact hqT y hy (by rw [← k]; exact h)
    · exact hap.2 y y' hy hy' hne a h k
  · rcases hgm a ha with h | h
    · rw [h]
      exact ⟨b, m5, m2, fun e => by
        rcases hgm b e with h | h
        · exact m11 h
        · exact m10 h, by rw [m4, m3]⟩
    · obtain ⟨c, k1, k2, k3, k4⟩ := c_si a h
      exact ⟨c, k1, k2, fun e => by
        rcases hgm c e with h9 | h9
        · exact (m8 a h).1 (by rw [k1, h9])
        · exact k3 h9, k4⟩
  · rcases hgm a ha with h | h <;> rcases hgm a' ha' with h' | h'
    · rw [h, h']
    · rw [h, m5] at he; exact absurd he.symm (m8 a' h').2
    · rw [h', m5] at he; exact absurd he (m8 a h).2
    · exact c_inj a h a' h' he
  · have h5 := gids_len (T := T) (t := spl q C (.leaf ()) (.leaf ())) hr6
    rw [g3, z6] at h5
    omega
/-- the mean depth of a tree -/
def mdp (t : Tr) : UInt64 := if (tids t).length = 0 then FP.dconst0 else FP.ddiv (FP.i2d (nI (dsm t 0))) (FP.i2d (nI (tids t).length))
/-- a number put into the digest -/
def mxl (d : Int64) (x : Int32) : Int64 := d * 31 + x.toInt64
/-- what an apple adds to the digest -/
def mxA (t : Tr) (sz bi : Nat → Nat) (d : Int64) (a : Nat) : Int64 :=
  mxl (mxl (mxl (mxl (mxl (mxl (mxl d (nI (sz a))) (nI (zof t a).2.2.2.length)) (er ((parC (zof t a).2.2.2).map sz))) (er ((rt (zof t a).2.1).map sz))) (er ((rt (zof t a).2.2.1).map sz))) (nI ((tids (zof t a).2.1).length + (tids (zof t a).2.2.1).length))) (nI (bi a))
set_option maxRecDepth 100000 in
set_option maxHeartbeats 4000000 in
theorem c_X2_plant {o : Nat} {T : Nat → Tr} {row x : Int32} (hst : l.stackTraces = false) (hc : CI Γ o T L K sz si P) : Mx l yX2_plant wsX2_plant (rmL 7 4 24) D lo Γ [.ref o, .int row, .int x] ((L, K, sz, si, P, bi, tu), M, V) (fun v Z' => ∃ r n a sz' bi', rowN row = some r ∧ szN x = some n ∧ (gids T).length < 40 ∧ fnd sz (n : Int) (T r) = none ∧ v = some (.int (nI (inc sz (n : Int) (T r) []).length)) ∧ a ∉ gids T ∧ sz' a = n ∧ bi' a = 0 ∧ (∀ b ∈ gids T, sz' b = sz b ∧ bi' b = bi b) ∧ CSW Γ o (va_up T r (spl a (inc sz (n : Int) (T r) []) (.leaf ()) (.leaf ()))) sz' bi' (tu + (inc sz (n : Int) (T r) []).length) M V Z') (fun E Z' => ((E = "java/lang/IndexOutOfBoundsException" ∧ rowN row = none) ∨ (E = "java/lang/IllegalArgumentException" ∧ (∃ r, rowN row = some r) ∧ szN x = none) ∨ (E = "java/lang/IllegalStateException" ∧ ∃ r n, rowN row = some r ∧ szN x = some n ∧ (¬ (gids T).length < 40 ∨ ∃ a, fnd sz (n : Int) (T r) = some a))) ∧ Z' = ((L, K, sz, si, P, bi, tu), M, V)) := by
  refine Mx_of (cc := cX2_plant) (maxL := 5) (ret := (some .int)) (by decide) rfl (Nat.le_of_ble_eq_true rfl) ?_
  intro p e s m args below meth c ls S hr hlocks hK hH hS hX ht hl
  have hx := S.1
  have hb := S.2.1
  have hts := S.2.2.2.2
  have hl : lv_has ls 5 [(0, .ref o), (1, .int row), (2, .int x)] := hl
  have hc0 := hc
  obtain ⟨hg, c_t, c_nd, c_si, c_inj, c_40⟩ := hc
  obtain ⟨ok_o, o_u, ok_ra, ok_tt, tt_ne, ta_inj⟩ := hg
  have hlo := hH.2.2.1.1
  have hi0 : ∀ w ∈ wsX00, w ∈ wsX2_plant := by decide +kernel
  refine lv_aload_n hx hb dX2_plant_0 rfl (lv_at hl 0 rfl) ?_
  refine lv_iload_n hx hb dX2_plant_1 rfl (lv_at hl 1 rfl) ?_
  refine cVx S (c_X2_treeOf (l := l) (D := D) (lo := lo) (Γ := Γ) (sz := sz) (si := si) (P := P) (bi := bi) (tu := tu) (M := M) (V := V) (row := row) hst hc0) (cwV 1 hts gX2_plant_X2_treeOf rfl rfl rfl (by decide +kernel) ⟨Nat.le_of_ble_eq_true rfl, Nat.le_of_ble_eq_true rfl⟩) hK hH hX (Hp_recv hK hH ok_o.1 ok_o.2 rfl) hS rfl hl.1 rfl (by simp [cat_rf, Value.category]) dX2_plant_2 ⟨Nat.le_of_ble_eq_true rfl, Nat.le_of_ble_eq_true rfl⟩ (fun E Z1 H locs ce q9 hpx hH hS hce hcv hcl => ?_) (fun v Z1 H locs hpost hH hS => ?_)
  · obtain ⟨rfl, hrow, rfl⟩ := hpx
    exact xO ht hlocks ⟨Or.inl ⟨rfl, hrow⟩, rfl⟩ hH hS hce hcv hcl (Nat.le_of_ble_eq_true rfl) (Nat.le_of_ble_eq_true rfl)
  obtain ⟨r, hrow, rfl, rfl⟩ := hpost
  have hr6 := (rowN_some hrow).1
  have htr := (c_t r hr6).1
  have ok_t : gta Γ r ∈ L ∧ K (gta Γ r) = 1 := ⟨htr.1, htr.2.1⟩
  refine lv_astore_n (lv' := [(3, .ref (gta Γ r)), (0, .ref o), (1, .int row), (2, .int x)]) hx hb dX2_plant_5 rfl hl (by decide) rfl (fun ls hl => ?_)
  refine lv_iload_n hx hb dX2_plant_6 rfl (lv_at hl 3 rfl) ?_
  refine cSx S (c_X2_checkSize (l := l) (D := D) (lo := lo) (Γ := Γ) (sz := sz) (si := si) (P := P) (bi := bi) (tu := tu) (M := M) (V := V) (x := x) hst) (va_cwS 1 hts gX2_plant_X2_checkSize rfl rfl rfl (by decide +kernel) ⟨Nat.le_of_ble_eq_true rfl, Nat.le_of_ble_eq_true rfl⟩) hK hH hX hS rfl hl.1 rfl (by simp [cat_rf, Value.category]) dX2_plant_7 ⟨Nat.le_of_ble_eq_true rfl, Nat.le_of_ble_eq_true rfl⟩ (fun E Z1 H locs ce q9 hpx hH hS hce hcv hcl => ?_) (fun v Z1 H locs hpost hH hS => ?_)
  · obtain ⟨rfl, hsz, rfl⟩ := hpx
    exact xO ht hlocks ⟨Or.inr (Or.inl ⟨rfl, ⟨r, hrow⟩, hsz⟩), rfl⟩ hH hS hce hcv hcl (Nat.le_of_ble_eq_true rfl) (Nat.le_of_ble_eq_true rfl)
  obtain ⟨n, hsz, rfl, rfl⟩ := hpost
  obtain ⟨hn1000, hxn⟩ := szN_some hsz
  subst hxn
  have hzn : (nI n).toInt = (n : Int) := nI_toInt (by omega)
  refine lv_aload_n hx hb dX2_plant_10 rfl (lv_at hl 1 rfl) ?_
  refine cV S (c_X2_apples (l := l) (D := D) (lo := lo) (Γ := Γ) (sz := sz) (si := si) (P := P) (bi := bi) (tu := tu) (M := M) (V := V) hc0) (cwV 0 hts gX2_plant_X2_apples rfl rfl rfl (by decide +kernel) ⟨Nat.le_of_ble_eq_true rfl, Nat.le_of_ble_eq_true rfl⟩) hK hH (Hp_recv hK hH ok_o.1 ok_o.2 rfl) hS rfl hl.1 rfl (Nat.le_of_ble_eq_true rfl) dX2_plant_11 ⟨Nat.le_of_ble_eq_true rfl, Nat.le_of_ble_eq_true rfl⟩ (fun v Z1 H locs hpost hH hS => ?_)
  obtain ⟨rfl, rfl⟩ := hpost
  refine lv_bipush (v := 40) hx hb dX2_plant_14 (by decide +kernel) ?_
  refine lv_icmp_lt (tgt := 29) hx hb dX2_plant_16 (by decide) (fun h1 => ?_) (fun h1 => ?_)
  · skip
    have h40 : (gids T).length < 40 := (nI_ltI (b := 40) (by omega) (by omega)).mp h1
    refine lv_aload_n hx hb dX2_plant_29 rfl (lv_at hl 0 rfl) ?_
    refine lv_iload_n hx hb dX2_plant_30 rfl (lv_at hl 3 rfl) ?_
    refine cV S (c_X1_find (l := l) (D := D) (lo := lo) (Γ := Γ) (sz := sz) (si := si) (P := P) (bi := bi) (tu := tu) (M := M) (V := V) (x := nI n) htr) (cwV 1 hts gX2_plant_X1_find rfl rfl rfl (by decide +kernel) ⟨Nat.le_of_ble_eq_true rfl, Nat.le_of_ble_eq_true rfl⟩) hK hH (Hp_recv hK hH ok_t.1 ok_t.2 rfl) hS rfl hl.1 rfl (Nat.le_of_ble_eq_true rfl) dX2_plant_31 ⟨Nat.le_of_ble_eq_true rfl, Nat.le_of_ble_eq_true rfl⟩ (fun v Z1 H locs hpost hH hS => ?_)
    obtain ⟨rfl, rfl⟩ := hpost
    rw [hzn]
    refine lq_ifnull S dX2_plant_34 (tgt := 47) (by decide) (fun hf => ?_) (fun b hf => ?_)
    · skip
      refine nA S hi0 (hts _ (List.mem_of_getElem? (i := 3) rfl)) (hts _ (List.mem_of_getElem? (i := 4) rfl)) (hts _ (List.mem_of_getElem? (i := 5) rfl)) hK hH hlo hS (Nat.le_of_ble_eq_true rfl) (Nat.le_of_ble_eq_true rfl) dX2_plant_47 (fun q1 H hn_q1 hH hS => ?_)
      refine lv_dup hx hb dX2_plant_50 rfl ?_
      refine lv_iload_n hx hb dX2_plant_51 rfl (lv_at hl 3 rfl) ?_
      refine nA S hi0 (hts _ (List.mem_of_getElem? (i := 3) rfl)) (hts _ (List.mem_of_getElem? (i := 4) rfl)) (hts _ (List.mem_of_getElem? (i := 5) rfl)) hK hH hlo hS (Nat.le_of_ble_eq_true rfl) (Nat.le_of_ble_eq_true rfl) dX2_plant_52 (fun q2 H hn_q2 hH hS => ?_)
      refine lv_dup hx hb dX2_plant_55 rfl ?_
      refine lv_iload_n hx hb dX2_plant_56 rfl (lv_at hl 3 rfl) ?_
      refine lv_null hx hb dX2_plant_57 ?_
      have hq12 : q2 ≠ q1 := fun e => hn_q2 (by simp [e])
      refine cI S (c_X0_init (L := L ++ [q1] ++ [q2]) (K := va_up (va_up K q1 0) q2 0) (P := nwP (nwP P q1) q2) (bi := va_up (va_up bi q1 0) q2 0) (tu := tu) (M := M) (V := V) (sz := va_up (va_up sz q1 0) q2 0) (si := va_up (va_up si q1 none) q2 none) (a := q2) (n := n) (r := none) ⟨by simp, va_up_self _ _ _⟩ (fun b h => by cases h)) ⟨callB_of 2 hts gX2_plant_X0_init rfl rfl rfl (hts _ (List.mem_of_getElem? (i := 5) rfl)) (hts _ (List.mem_of_getElem? (i := 62) rfl)) (by decide +kernel) ⟨Nat.le_of_ble_eq_true rfl, Nat.le_of_ble_eq_true rfl⟩, rfl, (hts _ (List.mem_of_getElem? (i := 63) rfl))⟩ hK hH hS rfl hl.1 rfl (Nat.le_of_ble_eq_true rfl) dX2_plant_58 ⟨Nat.le_of_ble_eq_true rfl, Nat.le_of_ble_eq_true rfl⟩ (fun v Z1 H locs hpost hH hS => ?_)
      obtain ⟨rfl, rfl⟩ := hpost
      refine cI S (c_X0_init (L := L ++ [q1] ++ [q2]) (K := va_up (va_up K q1 0) q2 0) (P := nwP (nwP P q1) q2) (bi := va_up (va_up bi q1 0) q2 0) (tu := tu) (M := M) (V := V) (sz := va_up (va_up (va_up sz q1 0) q2 0) q2 n) (si := va_up (va_up (va_up si q1 none) q2 none) q2 none) (a := q1) (n := n) (r := some q2) ⟨by simp, by rw [va_up_ne _ _ (Ne.symm hq12), va_up_self]⟩ (fun b h => by cases h; exact ⟨by simp, va_up_self _ _ _⟩)) ⟨callB_of 2 hts gX2_plant_X0_init rfl rfl rfl (hts _ (List.mem_of_getElem? (i := 5) rfl)) (hts _ (List.mem_of_getElem? (i := 62) rfl)) (by decide +kernel) ⟨Nat.le_of_ble_eq_true rfl, Nat.le_of_ble_eq_true rfl⟩, rfl, (hts _ (List.mem_of_getElem? (i := 63) rfl))⟩ hK hH hS rfl hl.1 rfl (Nat.le_of_ble_eq_true rfl) dX2_plant_61 ⟨Nat.le_of_ble_eq_true rfl, Nat.le_of_ble_eq_true rfl⟩ (fun v Z1 H locs hpost hH hS => ?_)
      obtain ⟨rfl, rfl⟩ := hpost
      obtain ⟨L1, K1, sz1, si1, P1, bi1, hH, hc1, hN⟩ := plant_new hc0 hn_q1 hn_q2 hH
      have hszT : ∀ a ∈ tids (T r), sz1 a = sz a := fun a ha => (hN.2.2.2.2.2.2.1 a (gids_mem.mpr ⟨r, hr6, ha⟩)).1
      have hf1 : fnd sz1 (n : Int) (T r) = none := by rw [fnd_cg (T r) hszT]; exact hf
      have hic : inc sz1 (n : Int) (T r) [] = inc sz (n : Int) (T r) [] := inc_cg (T r) [] hszT
      obtain ⟨htr1, -⟩ := hc1.2.1 r hr6
      obtain ⟨ok_o1, o_u1, -⟩ := hc1.1
      have ok_t1 : gta Γ r ∈ L1 ∧ K1 (gta Γ r) = 1 := ⟨htr1.1, htr1.2.1⟩
      have ok_q1 := hN.1
      have e_sz : sz1 q1 = n := hN.2.2.1
      have hzp := hang_zp hc1 hr6 hN hn1000 hf1
      have hpl := plant_ok hc1 hr6 hN hn1000 hf1 h40
      rw [hic] at hzp hpl
      refine lv_astore (lv' := [(4, .ref q1), (3, .ref (gta Γ r)), (0, .ref o), (1, .int row), (2, .int (nI n))]) hx hb dX2_plant_64 hl (by decide) rfl (fun ls hl => ?_)
      refine lv_aload_n hx hb dX2_plant_66 rfl (lv_at hl 1 rfl) ?_
      refine lv_aload hx hb dX2_plant_67 (lv_at hl 0 rfl) ?_
      refine cV S (c_X1_hang (l := l) (D := D) (lo := lo) (Γ := Γ) (L := L1) (K := K1) (sz := sz1) (si := si1) (P := P1) (bi := bi1) (tu := tu) (M := M) (V := V) htr1 ok_q1 (by rw [e_sz]; exact hn1000) (by rw [e_sz]; exact hf1)) (cwV 1 hts gX2_plant_X1_hang rfl rfl rfl (by decide +kernel) ⟨Nat.le_of_ble_eq_true rfl, Nat.le_of_ble_eq_true rfl⟩) hK hH (Hp_recv hK hH ok_t1.1 ok_t1.2 rfl) hS rfl hl.1 rfl (Nat.le_of_ble_eq_true rfl) dX2_plant_69 ⟨Nat.le_of_ble_eq_true rfl, Nat.le_of_ble_eq_true rfl⟩ (fun v Z1 H locs hpost hH hS => ?_)
      obtain ⟨rfl, rfl⟩ := hpost
      rw [e_sz, hic] at hH
      refine lv_aload_n hx hb dX2_plant_72 rfl (lv_at hl 2 rfl) ?_
      refine lv_aload_n hx hb dX2_plant_73 rfl (lv_at hl 1 rfl) ?_
      refine lv_aload hx hb dX2_plant_74 (lv_at hl 0 rfl) ?_
      refine cV S (c_X2_bringUp (l := l) (D := D) (lo := lo) (Γ := Γ) (L := L1) (K := K1) (sz := sz1) (si := si1) (P := (hngT P1 (gta Γ r) q1 (inc sz (n : Int) (T r) []))) (bi := bi1) (tu := tu) (M := M) (V := V) (C := (inc sz (n : Int) (T r) [])) ok_o1 o_u1 ok_t1 hzp.1 hzp.2.1 (fun b hb9 => by rcases hzp.2.2.1 b hb9 with h | h; exact (by rw [h]; exact ok_q1); exact (htr1.2.2.2.2.2 b h).1) (Nat.lt_of_le_of_lt hzp.2.2.2.1 (by have := gids_le (T := T) hr6; omega))) (cwV 2 hts gX2_plant_X2_bringUp rfl rfl rfl (by decide +kernel) ⟨Nat.le_of_ble_eq_true rfl, Nat.le_of_ble_eq_true rfl⟩) hK hH (Hp_recv hK hH ok_o1.1 ok_o1.2 rfl) hS rfl hl.1 rfl (Nat.le_of_ble_eq_true rfl) dX2_plant_76 ⟨Nat.le_of_ble_eq_true rfl, Nat.le_of_ble_eq_true rfl⟩ (fun v Z1 H locs hpost hH hS => ?_)
      obtain ⟨rfl, rfl⟩ := hpost
      refine W.widen (k := 4) (n := 24) (Nat.le_of_ble_eq_true rfl) (Nat.le_of_ble_eq_true rfl) ?_
      exact vx_ret (eI S hr hlocks hH hS ⟨r, n, q1, sz1, bi1, hrow, hsz, h40, hf, rfl, hN.2.2.2.2.2.2.2.2.1, e_sz, hN.2.2.2.2.2.1, hN.2.2.2.2.2.2.1, L1, K1, si1, _, rfl, hpl⟩ dX2_plant_79)
    · skip
      exact tS (cls := "java/lang/IllegalStateException") (text := "there is an apple of this size in the row") (ik := 32) (is := 43) (ic := 36) S hst hX hlocks ht hH hS ⟨Or.inr (Or.inr ⟨rfl, r, n, hrow, hsz, Or.inr ⟨b, hf⟩⟩), rfl⟩ (by simp [xstr]) (by decide +kernel) (hts _ (List.mem_of_getElem? (i := 1) rfl)) (hts _ (List.mem_of_getElem? (i := 2) rfl)) (xg_all xg3 (hX.2.2.2.1 _ (by simp [xcl])) hX.2.2.2.2 (fun w h => hts w (List.mem_cons_of_mem _ (List.mem_append_left _ (List.mem_append_left _ (List.mem_append_right _ h)))))) (by decide +kernel) hl.1 dX2_plant_37 dX2_plant_40 dX2_plant_41 dX2_plant_43 dX2_plant_46 (Nat.le_of_ble_eq_true rfl) (Nat.le_of_ble_eq_true rfl) (Nat.le_of_ble_eq_true rfl) (Nat.le_of_ble_eq_true rfl) (Nat.le_of_ble_eq_true rfl) (Nat.le_of_ble_eq_true rfl)
  · skip
    exact tS (cls := "java/lang/IllegalStateException") (text := "the orchard is full") (ik := 32) (is := 34) (ic := 36) S hst hX hlocks ht hH hS ⟨Or.inr (Or.inr ⟨rfl, r, n, hrow, hsz, Or.inl (fun h => h1 ((nI_ltI (b := 40) (by omega) (by omega)).mpr h))⟩), rfl⟩ (by simp [xstr]) (by decide +kernel) (hts _ (List.mem_of_getElem? (i := 1) rfl)) (hts _ (List.mem_of_getElem? (i := 2) rfl)) (xg_all xg3 (hX.2.2.2.1 _ (by simp [xcl])) hX.2.2.2.2 (fun w h => hts w (List.mem_cons_of_mem _ (List.mem_append_left _ (List.mem_append_left _ (List.mem_append_right _ h)))))) (by decide +kernel) hl.1 dX2_plant_19 dX2_plant_22 dX2_plant_23 dX2_plant_25 dX2_plant_28 (Nat.le_of_ble_eq_true rfl) (Nat.le_of_ble_eq_true rfl) (Nat.le_of_ble_eq_true rfl) (Nat.le_of_ble_eq_true rfl) (Nat.le_of_ble_eq_true rfl) (Nat.le_of_ble_eq_true rfl)

set_option maxRecDepth 100000 in
set_option maxHeartbeats 4000000 in
theorem c_X2_meanDepth {o : Nat} {T : Nat → Tr} {row : Int32} (hst : l.stackTraces = false) (hc : CI Γ o T L K sz si P) : Mx l yX2_meanDepth wsX2_meanDepth (rmL 7 1 6) D lo Γ [.ref o, .int row] ((L, K, sz, si, P, bi, tu), M, V) (fun v Z' => ∃ r, rowN row = some r ∧ v = some (.double (mdp (T r))) ∧ CSW Γ o T sz bi tu M V Z') (fun E Z' => (E = "java/lang/IndexOutOfBoundsException" ∧ rowN row = none) ∧ Z' = ((L, K, sz, si, P, bi, tu), M, V)) := by
  refine Mx_of (cc := cX2_meanDepth) (maxL := 4) (ret := (some .double)) (by decide) rfl (Nat.le_of_ble_eq_true rfl) ?_
  intro p e s m args below meth c ls S hr hlocks hK hH hS hX ht hl
  have hx := S.1
  have hb := S.2.1
  have hts := S.2.2.2.2
  have hl : lv_has ls 4 [(0, .ref o), (1, .int row)] := hl
  have hc0 := hc
  obtain ⟨hg, c_t, c_nd, c_si, c_inj, c_40⟩ := hc
  obtain ⟨ok_o, o_u, ok_ra, ok_tt, tt_ne, ta_inj⟩ := hg
  refine lv_aload_n hx hb dX2_meanDepth_0 rfl (lv_at hl 0 rfl) ?_
  refine lv_iload_n hx hb dX2_meanDepth_1 rfl (lv_at hl 1 rfl) ?_
  refine cVx S (c_X2_treeOf (l := l) (D := D) (lo := lo) (Γ := Γ) (sz := sz) (si := si) (P := P) (bi := bi) (tu := tu) (M := M) (V := V) (row := row) hst hc0) (cwV 1 hts gX2_meanDepth_X2_treeOf rfl rfl rfl (by decide +kernel) ⟨Nat.le_of_ble_eq_true rfl, Nat.le_of_ble_eq_true rfl⟩) hK hH hX (Hp_recv hK hH ok_o.1 ok_o.2 rfl) hS rfl hl.1 rfl (by simp [cat_rf, Value.category]) dX2_meanDepth_2 ⟨Nat.le_of_ble_eq_true rfl, Nat.le_of_ble_eq_true rfl⟩ (fun E Z1 H locs ce q9 hpx hH hS hce hcv hcl => ?_) (fun v Z1 H locs hpost hH hS => ?_)
  · obtain ⟨rfl, hrow, rfl⟩ := hpx
    exact xO ht hlocks ⟨⟨rfl, hrow⟩, rfl⟩ hH hS hce hcv hcl (Nat.le_of_ble_eq_true rfl) (Nat.le_of_ble_eq_true rfl)
  obtain ⟨r, hrow, rfl, rfl⟩ := hpost
  have hr6 := (rowN_some hrow).1
  have htr := (c_t r hr6).1
  have ok_t : gta Γ r ∈ L ∧ K (gta Γ r) = 1 := ⟨htr.1, htr.2.1⟩
  refine lv_astore_n (lv' := [(2, .ref (gta Γ r)), (0, .ref o), (1, .int row)]) hx hb dX2_meanDepth_5 rfl hl (by decide) rfl (fun ls hl => ?_)
  refine lv_aload_n hx hb dX2_meanDepth_6 rfl (lv_at hl 0 rfl) ?_
  refine cV S (c_X1_count (l := l) (D := D) (lo := lo) (Γ := Γ) (sz := sz) (si := si) (P := P) (bi := bi) (tu := tu) (M := M) (V := V) htr) (cwV 0 hts gX2_meanDepth_X1_count rfl rfl rfl (by decide +kernel) ⟨Nat.le_of_ble_eq_true rfl, Nat.le_of_ble_eq_true rfl⟩) hK hH (Hp_recv hK hH ok_t.1 ok_t.2 rfl) hS rfl hl.1 rfl (Nat.le_of_ble_eq_true rfl) dX2_meanDepth_7 ⟨Nat.le_of_ble_eq_true rfl, Nat.le_of_ble_eq_true rfl⟩ (fun v Z1 H locs hpost hH hS => ?_)
  obtain ⟨rfl, rfl⟩ := hpost
  refine lv_istore_n (lv' := [(3, .int (nI (tids (T r)).length)), (2, .ref (gta Γ r)), (0, .ref o), (1, .int row)]) hx hb dX2_meanDepth_10 rfl hl (by decide) rfl (fun ls hl => ?_)
  refine lv_iload_n hx hb dX2_meanDepth_11 rfl (lv_at hl 0 rfl) ?_
  have hlen9 : (tids (T r)).length < 2 ^ 31 := by have := gids_le (T := T) hr6; omega
  refine lv_if_ne (tgt := 19) hx hb dX2_meanDepth_12 (by decide) (fun h1 => ?_) (fun h1 => ?_)
  · skip
    have h0 : (tids (T r)).length ≠ 0 := fun e => h1 (by rw [e]; rfl)
    refine lv_aload_n hx hb dX2_meanDepth_19 rfl (lv_at hl 1 rfl) ?_
    refine cV S (c_X1_depthSum (l := l) (D := D) (lo := lo) (Γ := Γ) (sz := sz) (si := si) (P := P) (bi := bi) (tu := tu) (M := M) (V := V) htr) (cwV 0 hts gX2_meanDepth_X1_depthSum rfl rfl rfl (by decide +kernel) ⟨Nat.le_of_ble_eq_true rfl, Nat.le_of_ble_eq_true rfl⟩) hK hH (Hp_recv hK hH ok_t.1 ok_t.2 rfl) hS rfl hl.1 rfl (Nat.le_of_ble_eq_true rfl) dX2_meanDepth_20 ⟨Nat.le_of_ble_eq_true rfl, Nat.le_of_ble_eq_true rfl⟩ (fun v Z1 H locs hpost hH hS => ?_)
    obtain ⟨rfl, rfl⟩ := hpost
    refine lv_i2d hx hb dX2_meanDepth_23 ?_
    refine lv_iload_n hx hb dX2_meanDepth_24 rfl (lv_at hl 0 rfl) ?_
    refine lv_i2d hx hb dX2_meanDepth_25 ?_
    refine lv_ddiv hx hb dX2_meanDepth_26 (Fl.ddiv_out (Fl.i2d_fin _).noNaN (Fl.i2d_fin _) (Fl.i2d_nz (nI_ne0 (Nat.pos_of_ne_zero h0) hlen9))) ?_
    refine W.widen (k := 1) (n := 6) (Nat.le_of_ble_eq_true rfl) (Nat.le_of_ble_eq_true rfl) ?_
    exact vx_ret (eD S hr hlocks hH hS ⟨r, hrow, by rw [mdp, if_neg h0], L, K, si, P, rfl, hc0⟩ dX2_meanDepth_27)
  · skip
    refine lv_dconst0 hx hb dX2_meanDepth_15 ?_
    refine lv_goto (tgt := 27) hx hb dX2_meanDepth_16 (by decide) ?_
    have h0 : (tids (T r)).length = 0 := Decidable.byContradiction fun e => absurd h1 (nI_ne0 (Nat.pos_of_ne_zero e) hlen9)
    refine W.widen (k := 1) (n := 6) (Nat.le_of_ble_eq_true rfl) (Nat.le_of_ble_eq_true rfl) ?_
    exact vx_ret (eD S hr hlocks hH hS ⟨r, hrow, by rw [mdp, if_pos h0], L, K, si, P, rfl, hc0⟩ dX2_meanDepth_27)

set_option maxRecDepth 100000 in
set_option maxHeartbeats 4000000 in
theorem c_X2_mix {d : Int64} {x : Int32} : Md l yX2_mix wsX2_mix (rmL 1 0 0) D lo Γ [.long d, .int x] ((L, K, sz, si, P, bi, tu), M, V) (some (.long (mxl d x))) ((L, K, sz, si, P, bi, tu), M, V) := by
  refine Mz_of (cc := cX2_mix) (maxL := 3) (ret := (some .long)) (by decide) rfl (Nat.le_of_ble_eq_true rfl) ?_
  intro p e s m args below meth c ls S hr hlocks hK hH hS hl
  have hx := S.1
  have hb := S.2.1
  have hts := S.2.2.2.2
  have hl : lv_has ls 3 [(0, .long d), (2, .int x)] := hl
  refine lv_lload_n hx hb dX2_mix_0 rfl (lv_at hl 0 rfl) ?_
  refine lv_ldc2 (v := 31) hx hb S.2.2.2.1 (hts _ (List.mem_of_getElem? (i := 1) rfl)) dX2_mix_1 ?_
  refine lv_lmul hx hb dX2_mix_4 ?_
  refine lv_iload_n hx hb dX2_mix_5 rfl (lv_at hl 1 rfl) ?_
  refine lv_i2l hx hb dX2_mix_6 rfl ?_
  refine lv_ladd hx hb dX2_mix_7 ?_
  exact eL S hr hlocks hH hS ⟨rfl, rfl⟩ dX2_mix_8

set_option maxRecDepth 100000 in
set_option maxHeartbeats 4000000 in
theorem c_X2_mixApple {t0 a : Nat} {t : Tr} {d : Int64} (h : TR L K sz P t0 t) (hin : a ∈ tids t) : Md l yX2_mixApple wsX2_mixApple (rmL 4 0 0) D lo Γ [.long d, .ref a] ((L, K, sz, si, P, bi, tu), M, V) (some (.long (mxA t sz bi d a))) ((L, K, sz, si, P, bi, tu), M, V) := by
  refine Mz_of (cc := cX2_mixApple) (maxL := 5) (ret := (some .long)) (by decide) rfl (Nat.le_of_ble_eq_true rfl) ?_
  intro p e s m args below meth c ls S hr hlocks hK hH hS hl
  have hx := S.1
  have hb := S.2.1
  have hts := S.2.2.2.2
  have f130 : (Cond.fieldLink RX2 130 (TX0 0).1 (TX0 0).2.1 (TX0 0).2.2.1).before args s = true := hts _ (List.mem_of_getElem? (i := 1) rfl)
  have f143 : (Cond.fieldLink RX2 143 (TX0 2).1 (TX0 2).2.1 (TX0 2).2.2.1).before args s = true := hts _ (List.mem_of_getElem? (i := 2) rfl)
  have f66 : (Cond.fieldLink RX2 66 (TX0 3).1 (TX0 3).2.1 (TX0 3).2.2.1).before args s = true := hts _ (List.mem_of_getElem? (i := 3) rfl)
  have f73 : (Cond.fieldLink RX2 73 (TX0 4).1 (TX0 4).2.1 (TX0 4).2.2.1).before args s = true := hts _ (List.mem_of_getElem? (i := 4) rfl)
  have f62 : (Cond.fieldLink RX2 62 (TX0 5).1 (TX0 5).2.1 (TX0 5).2.2.1).before args s = true := hts _ (List.mem_of_getElem? (i := 5) rfl)
  have hi0 : ∀ w ∈ wsX00, w ∈ wsX2_mixApple := by decide +kernel
  have hl : lv_has ls 5 [(0, .long d), (2, .ref a)] := hl
  have ok_a := (h.2.2.2.2.2 a hin).1
  obtain ⟨d9, hd9⟩ : ∃ x, x = d := ⟨_, rfl⟩
  refine lv_lload_n hx hb dX2_mixApple_0 rfl (lv_at hl 0 rfl) ?_
  refine lv_lstore_n (lv' := [(3, .long d), (0, .long d), (2, .ref a)]) hx hb dX2_mixApple_1 rfl hl (by decide) rfl (fun ls hl => ?_)
  refine lv_lload_n hx hb dX2_mixApple_2 rfl (lv_at hl 0 rfl) ?_
  refine lv_aload_n hx hb dX2_mixApple_3 rfl (lv_at hl 2 rfl) ?_
  refine gA S hi0 hK hH ok_a 0 (by decide) f130 (v := .int (nI (sz a))) rfl dX2_mixApple_4 ?_
  refine cSt S (c_X2_mix (l := l) (D := D) (lo := lo) (Γ := Γ) (sz := sz) (si := si) (P := P) (bi := bi) (tu := tu) (M := M) (V := V) (d := d) (x := nI (sz a))) (va_cwS 2 hts gX2_mixApple_X2_mix rfl rfl rfl (by decide +kernel) ⟨Nat.le_of_ble_eq_true rfl, Nat.le_of_ble_eq_true rfl⟩) hK hH hS rfl hl.1 rfl (by simp [cat_rf, Value.category]) dX2_mixApple_7 ⟨Nat.le_of_ble_eq_true rfl, Nat.le_of_ble_eq_true rfl⟩ (fun v Z1 H locs hpost hH hS => ?_)
  obtain ⟨rfl, rfl⟩ := hpost
  refine lv_lstore_n (lv' := [(3, .long (mxl d (nI (sz a)))), (0, .long d), (2, .ref a)]) hx hb dX2_mixApple_10 rfl hl (by decide) rfl (fun ls hl => ?_)
  refine lv_lload_n hx hb dX2_mixApple_11 rfl (lv_at hl 0 rfl) ?_
  refine lv_aload_n hx hb dX2_mixApple_12 rfl (lv_at hl 2 rfl) ?_
  refine cV S (c_X0_depthA (l := l) (D := D) (lo := lo) (Γ := Γ) (sz := sz) (si := si) (P := P) (bi := bi) (tu := tu) (M := M) (V := V) h hin) (cwV 0 hts gX2_mixApple_X0_depth rfl rfl rfl (by decide +kernel) ⟨Nat.le_of_ble_eq_true rfl, Nat.le_of_ble_eq_true rfl⟩) hK hH (Hp_recv hK hH ok_a.1 ok_a.2 rfl) hS rfl hl.1 rfl (by simp [cat_rf, Value.category]) dX2_mixApple_13 ⟨Nat.le_of_ble_eq_true rfl, Nat.le_of_ble_eq_true rfl⟩ (fun v Z1 H locs hpost hH hS => ?_)
  obtain ⟨rfl, rfl⟩ := hpost
  refine cSt S (c_X2_mix (l := l) (D := D) (lo := lo) (Γ := Γ) (sz := sz) (si := si) (P := P) (bi := bi) (tu := tu) (M := M) (V := V) (d := (mxl d (nI (sz a)))) (x := nI (zof t a).2.2.2.length)) (va_cwS 2 hts gX2_mixApple_X2_mix rfl rfl rfl (by decide +kernel) ⟨Nat.le_of_ble_eq_true rfl, Nat.le_of_ble_eq_true rfl⟩) hK hH hS rfl hl.1 rfl (by simp [cat_rf, Value.category]) dX2_mixApple_16 ⟨Nat.le_of_ble_eq_true rfl, Nat.le_of_ble_eq_true rfl⟩ (fun v Z1 H locs hpost hH hS => ?_)
  obtain ⟨rfl, rfl⟩ := hpost
  refine lv_lstore_n (lv' := [(3, .long (mxl (mxl d (nI (sz a))) (nI (zof t a).2.2.2.length))), (0, .long d), (2, .ref a)]) hx hb dX2_mixApple_19 rfl hl (by decide) rfl (fun ls hl => ?_)
  refine lv_lload_n hx hb dX2_mixApple_20 rfl (lv_at hl 0 rfl) ?_
  refine lv_aload_n hx hb dX2_mixApple_21 rfl (lv_at hl 2 rfl) ?_
  refine gA S hi0 hK hH ok_a 2 (by decide) f143 (v := va_rf (P 2 a)) rfl dX2_mixApple_22 ?_
  have e9 := (up_of h hin).1
  have okq9 : ∀ b, P 2 a = some b → okA L K b := fun b h => hH.2.2.2.1 a ok_a 2 (by decide) b h
  rw [e9] at okq9 ⊢
  refine cSt S (c_X2_sizeOrNone (l := l) (D := D) (lo := lo) (Γ := Γ) (sz := sz) (si := si) (P := P) (bi := bi) (tu := tu) (M := M) (V := V) (r := parC (zof t a).2.2.2) okq9) (va_cwS 1 hts gX2_mixApple_X2_sizeOrNone rfl rfl rfl (by decide +kernel) ⟨Nat.le_of_ble_eq_true rfl, Nat.le_of_ble_eq_true rfl⟩) hK hH hS rfl hl.1 rfl (by simp [cat_rf, Value.category]) dX2_mixApple_25 ⟨Nat.le_of_ble_eq_true rfl, Nat.le_of_ble_eq_true rfl⟩ (fun v Z1 H locs hpost hH hS => ?_)
  obtain ⟨rfl, rfl⟩ := hpost
  refine cSt S (c_X2_mix (l := l) (D := D) (lo := lo) (Γ := Γ) (sz := sz) (si := si) (P := P) (bi := bi) (tu := tu) (M := M) (V := V) (d := (mxl (mxl d (nI (sz a))) (nI (zof t a).2.2.2.length))) (x := er ((parC (zof t a).2.2.2).map sz))) (va_cwS 2 hts gX2_mixApple_X2_mix rfl rfl rfl (by decide +kernel) ⟨Nat.le_of_ble_eq_true rfl, Nat.le_of_ble_eq_true rfl⟩) hK hH hS rfl hl.1 rfl (by simp [cat_rf, Value.category]) dX2_mixApple_28 ⟨Nat.le_of_ble_eq_true rfl, Nat.le_of_ble_eq_true rfl⟩ (fun v Z1 H locs hpost hH hS => ?_)
  obtain ⟨rfl, rfl⟩ := hpost
  refine lv_lstore_n (lv' := [(3, .long (mxl (mxl (mxl d (nI (sz a))) (nI (zof t a).2.2.2.length)) (er ((parC (zof t a).2.2.2).map sz)))), (0, .long d), (2, .ref a)]) hx hb dX2_mixApple_31 rfl hl (by decide) rfl (fun ls hl => ?_)
  refine lv_lload_n hx hb dX2_mixApple_32 rfl (lv_at hl 0 rfl) ?_
  refine lv_aload_n hx hb dX2_mixApple_33 rfl (lv_at hl 2 rfl) ?_
  refine gA S hi0 hK hH ok_a 3 (by decide) f66 (v := va_rf (P 0 a)) rfl dX2_mixApple_34 ?_
  have e9 := (up_of h hin).2.1
  have okq9 : ∀ b, P 0 a = some b → okA L K b := fun b h => hH.2.2.2.1 a ok_a 0 (by decide) b h
  rw [e9] at okq9 ⊢
  refine cSt S (c_X2_sizeOrNone (l := l) (D := D) (lo := lo) (Γ := Γ) (sz := sz) (si := si) (P := P) (bi := bi) (tu := tu) (M := M) (V := V) (r := rt (zof t a).2.1) okq9) (va_cwS 1 hts gX2_mixApple_X2_sizeOrNone rfl rfl rfl (by decide +kernel) ⟨Nat.le_of_ble_eq_true rfl, Nat.le_of_ble_eq_true rfl⟩) hK hH hS rfl hl.1 rfl (by simp [cat_rf, Value.category]) dX2_mixApple_37 ⟨Nat.le_of_ble_eq_true rfl, Nat.le_of_ble_eq_true rfl⟩ (fun v Z1 H locs hpost hH hS => ?_)
  obtain ⟨rfl, rfl⟩ := hpost
  refine cSt S (c_X2_mix (l := l) (D := D) (lo := lo) (Γ := Γ) (sz := sz) (si := si) (P := P) (bi := bi) (tu := tu) (M := M) (V := V) (d := (mxl (mxl (mxl d (nI (sz a))) (nI (zof t a).2.2.2.length)) (er ((parC (zof t a).2.2.2).map sz)))) (x := er ((rt (zof t a).2.1).map sz))) (va_cwS 2 hts gX2_mixApple_X2_mix rfl rfl rfl (by decide +kernel) ⟨Nat.le_of_ble_eq_true rfl, Nat.le_of_ble_eq_true rfl⟩) hK hH hS rfl hl.1 rfl (by simp [cat_rf, Value.category]) dX2_mixApple_40 ⟨Nat.le_of_ble_eq_true rfl, Nat.le_of_ble_eq_true rfl⟩ (fun v Z1 H locs hpost hH hS => ?_)
  obtain ⟨rfl, rfl⟩ := hpost
  refine lv_lstore_n (lv' := [(3, .long (mxl (mxl (mxl (mxl d (nI (sz a))) (nI (zof t a).2.2.2.length)) (er ((parC (zof t a).2.2.2).map sz))) (er ((rt (zof t a).2.1).map sz)))), (0, .long d), (2, .ref a)]) hx hb dX2_mixApple_43 rfl hl (by decide) rfl (fun ls hl => ?_)
  refine lv_lload_n hx hb dX2_mixApple_44 rfl (lv_at hl 0 rfl) ?_
  refine lv_aload_n hx hb dX2_mixApple_45 rfl (lv_at hl 2 rfl) ?_
  refine gA S hi0 hK hH ok_a 4 (by decide) f73 (v := va_rf (P 1 a)) rfl dX2_mixApple_46 ?_
  have e9 := (up_of h hin).2.2
  have okq9 : ∀ b, P 1 a = some b → okA L K b := fun b h => hH.2.2.2.1 a ok_a 1 (by decide) b h
  rw [e9] at okq9 ⊢
  refine cSt S (c_X2_sizeOrNone (l := l) (D := D) (lo := lo) (Γ := Γ) (sz := sz) (si := si) (P := P) (bi := bi) (tu := tu) (M := M) (V := V) (r := rt (zof t a).2.2.1) okq9) (va_cwS 1 hts gX2_mixApple_X2_sizeOrNone rfl rfl rfl (by decide +kernel) ⟨Nat.le_of_ble_eq_true rfl, Nat.le_of_ble_eq_true rfl⟩) hK hH hS rfl hl.1 rfl (by simp [cat_rf, Value.category]) dX2_mixApple_49 ⟨Nat.le_of_ble_eq_true rfl, Nat.le_of_ble_eq_true rfl⟩ (fun v Z1 H locs hpost hH hS => ?_)
  obtain ⟨rfl, rfl⟩ := hpost
  refine cSt S (c_X2_mix (l := l) (D := D) (lo := lo) (Γ := Γ) (sz := sz) (si := si) (P := P) (bi := bi) (tu := tu) (M := M) (V := V) (d := (mxl (mxl (mxl (mxl d (nI (sz a))) (nI (zof t a).2.2.2.length)) (er ((parC (zof t a).2.2.2).map sz))) (er ((rt (zof t a).2.1).map sz)))) (x := er ((rt (zof t a).2.2.1).map sz))) (va_cwS 2 hts gX2_mixApple_X2_mix rfl rfl rfl (by decide +kernel) ⟨Nat.le_of_ble_eq_true rfl, Nat.le_of_ble_eq_true rfl⟩) hK hH hS rfl hl.1 rfl (by simp [cat_rf, Value.category]) dX2_mixApple_52 ⟨Nat.le_of_ble_eq_true rfl, Nat.le_of_ble_eq_true rfl⟩ (fun v Z1 H locs hpost hH hS => ?_)
  obtain ⟨rfl, rfl⟩ := hpost
  refine lv_lstore_n (lv' := [(3, .long (mxl (mxl (mxl (mxl (mxl d (nI (sz a))) (nI (zof t a).2.2.2.length)) (er ((parC (zof t a).2.2.2).map sz))) (er ((rt (zof t a).2.1).map sz))) (er ((rt (zof t a).2.2.1).map sz)))), (0, .long d), (2, .ref a)]) hx hb dX2_mixApple_55 rfl hl (by decide) rfl (fun ls hl => ?_)
  refine lv_lload_n hx hb dX2_mixApple_56 rfl (lv_at hl 0 rfl) ?_
  refine lv_aload_n hx hb dX2_mixApple_57 rfl (lv_at hl 2 rfl) ?_
  refine cV S (c_X0_countA (l := l) (D := D) (lo := lo) (Γ := Γ) (sz := sz) (si := si) (P := P) (bi := bi) (tu := tu) (M := M) (V := V) h hin) (cwV 0 hts gX2_mixApple_X0_countUnder rfl rfl rfl (by decide +kernel) ⟨Nat.le_of_ble_eq_true rfl, Nat.le_of_ble_eq_true rfl⟩) hK hH (Hp_recv hK hH ok_a.1 ok_a.2 rfl) hS rfl hl.1 rfl (by simp [cat_rf, Value.category]) dX2_mixApple_58 ⟨Nat.le_of_ble_eq_true rfl, Nat.le_of_ble_eq_true rfl⟩ (fun v Z1 H locs hpost hH hS => ?_)
  obtain ⟨rfl, rfl⟩ := hpost
  refine cSt S (c_X2_mix (l := l) (D := D) (lo := lo) (Γ := Γ) (sz := sz) (si := si) (P := P) (bi := bi) (tu := tu) (M := M) (V := V) (d := (mxl (mxl (mxl (mxl (mxl d (nI (sz a))) (nI (zof t a).2.2.2.length)) (er ((parC (zof t a).2.2.2).map sz))) (er ((rt (zof t a).2.1).map sz))) (er ((rt (zof t a).2.2.1).map sz)))) (x := nI ((tids (zof t a).2.1).length + (tids (zof t a).2.2.1).length))) (va_cwS 2 hts gX2_mixApple_X2_mix rfl rfl rfl (by decide +kernel) ⟨Nat.le_of_ble_eq_true rfl, Nat.le_of_ble_eq_true rfl⟩) hK hH hS rfl hl.1 rfl (by simp [cat_rf, Value.category]) dX2_mixApple_61 ⟨Nat.le_of_ble_eq_true rfl, Nat.le_of_ble_eq_true rfl⟩ (fun v Z1 H locs hpost hH hS => ?_)
  obtain ⟨rfl, rfl⟩ := hpost
  refine lv_lstore_n (lv' := [(3, .long (mxl (mxl (mxl (mxl (mxl (mxl d (nI (sz a))) (nI (zof t a).2.2.2.length)) (er ((parC (zof t a).2.2.2).map sz))) (er ((rt (zof t a).2.1).map sz))) (er ((rt (zof t a).2.2.1).map sz))) (nI ((tids (zof t a).2.1).length + (tids (zof t a).2.2.1).length)))), (0, .long d), (2, .ref a)]) hx hb dX2_mixApple_64 rfl hl (by decide) rfl (fun ls hl => ?_)
  refine lv_lload_n hx hb dX2_mixApple_65 rfl (lv_at hl 0 rfl) ?_
  refine lv_aload_n hx hb dX2_mixApple_66 rfl (lv_at hl 2 rfl) ?_
  refine gA S hi0 hK hH ok_a 5 (by decide) f62 (v := .int (nI (bi a))) rfl dX2_mixApple_67 ?_
  refine cSt S (c_X2_mix (l := l) (D := D) (lo := lo) (Γ := Γ) (sz := sz) (si := si) (P := P) (bi := bi) (tu := tu) (M := M) (V := V) (d := (mxl (mxl (mxl (mxl (mxl (mxl d (nI (sz a))) (nI (zof t a).2.2.2.length)) (er ((parC (zof t a).2.2.2).map sz))) (er ((rt (zof t a).2.1).map sz))) (er ((rt (zof t a).2.2.1).map sz))) (nI ((tids (zof t a).2.1).length + (tids (zof t a).2.2.1).length)))) (x := nI (bi a))) (va_cwS 2 hts gX2_mixApple_X2_mix rfl rfl rfl (by decide +kernel) ⟨Nat.le_of_ble_eq_true rfl, Nat.le_of_ble_eq_true rfl⟩) hK hH hS rfl hl.1 rfl (by simp [cat_rf, Value.category]) dX2_mixApple_70 ⟨Nat.le_of_ble_eq_true rfl, Nat.le_of_ble_eq_true rfl⟩ (fun v Z1 H locs hpost hH hS => ?_)
  obtain ⟨rfl, rfl⟩ := hpost
  exact eL S hr hlocks hH hS ⟨rfl, rfl⟩ dX2_mixApple_73
end MOrchV
