section
-- ===== PART A: goes FIRST, ahead of the names: the tables' words, and 'selects' of the private methods out of them =====
/-- a private method of a class that the tables say can be made, by its rows of tables_1 -/
def lw_okq (q : MethodName × Nat) : Prop := (q.1.cls ≠ "java/lang/invoke/MethodHandle" ∧ q.1.cls ≠ "java/lang/invoke/VarHandle") ∧ Cond.instantiable q.1.cls q.2 ∈ tables_1 ∧ Cond.privateMethod q.1 ∈ tables_1 ∧ Cond.instanceMethod q.1 ∈ tables_1
theorem lw_p0 : lw_okq (⟨"SplayOrchard", "mixRow", "(JI)J"⟩, 3) := ⟨⟨by decide +kernel, by decide +kernel⟩, List.mem_of_getElem? (i := 14) (by decide +kernel), List.mem_of_getElem? (i := 83) (by decide +kernel), List.mem_of_getElem? (i := 84) (by decide +kernel)⟩
theorem lw_p1 : lw_okq (⟨"SplayOrchard", "treeOf", "(I)LSplayOrchard$Tree;"⟩, 3) := ⟨⟨by decide +kernel, by decide +kernel⟩, List.mem_of_getElem? (i := 14) (by decide +kernel), List.mem_of_getElem? (i := 91) (by decide +kernel), List.mem_of_getElem? (i := 92) (by decide +kernel)⟩
theorem lw_p2 : lw_okq (⟨"java/lang/Throwable", "fillInStackTrace", "(I)Ljava/lang/Throwable;"⟩, 6) := ⟨⟨by decide +kernel, by decide +kernel⟩, List.mem_of_getElem? (i := 133) (by decide +kernel), List.mem_of_getElem? (i := 131) (by decide +kernel), List.mem_of_getElem? (i := 132) (by decide +kernel)⟩
theorem lw_p3 : lw_okq (⟨"SplayOrchard", "tryEating", "(LSplayOrchard$Tree;LSplayOrchard$Apple;)V"⟩, 3) := ⟨⟨by decide +kernel, by decide +kernel⟩, List.mem_of_getElem? (i := 14) (by decide +kernel), List.mem_of_getElem? (i := 224) (by decide +kernel), List.mem_of_getElem? (i := 225) (by decide +kernel)⟩
theorem lw_p4 : lw_okq (⟨"SplayOrchard", "bringUp", "(LSplayOrchard$Tree;LSplayOrchard$Apple;)I"⟩, 3) := ⟨⟨by decide +kernel, by decide +kernel⟩, List.mem_of_getElem? (i := 14) (by decide +kernel), List.mem_of_getElem? (i := 370) (by decide +kernel), List.mem_of_getElem? (i := 371) (by decide +kernel)⟩
theorem lw_p5 : lw_okq (⟨"SplayOrchard", "append", "(LSplayOrchard$Tree;LSplayOrchard$Apple;)V"⟩, 3) := ⟨⟨by decide +kernel, by decide +kernel⟩, List.mem_of_getElem? (i := 14) (by decide +kernel), List.mem_of_getElem? (i := 393) (by decide +kernel), List.mem_of_getElem? (i := 394) (by decide +kernel)⟩
theorem lw_p6 : lw_okq (⟨"SplayOrchardModel", "no", "(I)I"⟩, 6) := ⟨⟨by decide +kernel, by decide +kernel⟩, List.mem_of_getElem? (i := 595) (by decide +kernel), List.mem_of_getElem? (i := 632) (by decide +kernel), List.mem_of_getElem? (i := 633) (by decide +kernel)⟩
theorem lw_p7 : lw_okq (⟨"SplayOrchardModel", "find", "(II)I"⟩, 6) := ⟨⟨by decide +kernel, by decide +kernel⟩, List.mem_of_getElem? (i := 595) (by decide +kernel), List.mem_of_getElem? (i := 639) (by decide +kernel), List.mem_of_getElem? (i := 640) (by decide +kernel)⟩
theorem lw_p8 : lw_okq (⟨"SplayOrchardModel", "planted", "(II)I"⟩, 6) := ⟨⟨by decide +kernel, by decide +kernel⟩, List.mem_of_getElem? (i := 595) (by decide +kernel), List.mem_of_getElem? (i := 643) (by decide +kernel), List.mem_of_getElem? (i := 644) (by decide +kernel)⟩
theorem lw_p9 : lw_okq (⟨"SplayOrchardModel", "free", "()I"⟩, 6) := ⟨⟨by decide +kernel, by decide +kernel⟩, List.mem_of_getElem? (i := 595) (by decide +kernel), List.mem_of_getElem? (i := 647) (by decide +kernel), List.mem_of_getElem? (i := 648) (by decide +kernel)⟩
theorem lw_p10 : lw_okq (⟨"SplayOrchardModel", "hang", "(III)V"⟩, 6) := ⟨⟨by decide +kernel, by decide +kernel⟩, List.mem_of_getElem? (i := 595) (by decide +kernel), List.mem_of_getElem? (i := 651) (by decide +kernel), List.mem_of_getElem? (i := 652) (by decide +kernel)⟩
theorem lw_p11 : lw_okq (⟨"SplayOrchardModel", "deep", "(I)I"⟩, 6) := ⟨⟨by decide +kernel, by decide +kernel⟩, List.mem_of_getElem? (i := 595) (by decide +kernel), List.mem_of_getElem? (i := 655) (by decide +kernel), List.mem_of_getElem? (i := 656) (by decide +kernel)⟩
theorem lw_p12 : lw_okq (⟨"SplayOrchardModel", "raiseIn", "(II)V"⟩, 6) := ⟨⟨by decide +kernel, by decide +kernel⟩, List.mem_of_getElem? (i := 595) (by decide +kernel), List.mem_of_getElem? (i := 659) (by decide +kernel), List.mem_of_getElem? (i := 660) (by decide +kernel)⟩
theorem lw_p13 : lw_okq (⟨"SplayOrchardModel", "raise", "(I)V"⟩, 6) := ⟨⟨by decide +kernel, by decide +kernel⟩, List.mem_of_getElem? (i := 595) (by decide +kernel), List.mem_of_getElem? (i := 663) (by decide +kernel), List.mem_of_getElem? (i := 664) (by decide +kernel)⟩
theorem lw_p14 : lw_okq (⟨"SplayOrchardModel", "sideOf", "(I)I"⟩, 6) := ⟨⟨by decide +kernel, by decide +kernel⟩, List.mem_of_getElem? (i := 595) (by decide +kernel), List.mem_of_getElem? (i := 667) (by decide +kernel), List.mem_of_getElem? (i := 668) (by decide +kernel)⟩
theorem lw_p15 : lw_okq (⟨"SplayOrchardModel", "turn", "(I)V"⟩, 6) := ⟨⟨by decide +kernel, by decide +kernel⟩, List.mem_of_getElem? (i := 595) (by decide +kernel), List.mem_of_getElem? (i := 671) (by decide +kernel), List.mem_of_getElem? (i := 672) (by decide +kernel)⟩
def lw_privs_1 : List (MethodName × Nat) := [(⟨"SplayOrchard", "mixRow", "(JI)J"⟩, 3), (⟨"SplayOrchard", "treeOf", "(I)LSplayOrchard$Tree;"⟩, 3), (⟨"java/lang/Throwable", "fillInStackTrace", "(I)Ljava/lang/Throwable;"⟩, 6), (⟨"SplayOrchard", "tryEating", "(LSplayOrchard$Tree;LSplayOrchard$Apple;)V"⟩, 3), (⟨"SplayOrchard", "bringUp", "(LSplayOrchard$Tree;LSplayOrchard$Apple;)I"⟩, 3), (⟨"SplayOrchard", "append", "(LSplayOrchard$Tree;LSplayOrchard$Apple;)V"⟩, 3), (⟨"SplayOrchardModel", "no", "(I)I"⟩, 6), (⟨"SplayOrchardModel", "find", "(II)I"⟩, 6), (⟨"SplayOrchardModel", "planted", "(II)I"⟩, 6), (⟨"SplayOrchardModel", "free", "()I"⟩, 6), (⟨"SplayOrchardModel", "hang", "(III)V"⟩, 6), (⟨"SplayOrchardModel", "deep", "(I)I"⟩, 6), (⟨"SplayOrchardModel", "raiseIn", "(II)V"⟩, 6), (⟨"SplayOrchardModel", "raise", "(I)V"⟩, 6), (⟨"SplayOrchardModel", "sideOf", "(I)I"⟩, 6), (⟨"SplayOrchardModel", "turn", "(I)V"⟩, 6)]
theorem lw_r1 : ∀ q ∈ lw_privs_1, lw_okq q := List.forall_mem_cons.mpr ⟨lw_p0, List.forall_mem_cons.mpr ⟨lw_p1, List.forall_mem_cons.mpr ⟨lw_p2, List.forall_mem_cons.mpr ⟨lw_p3, List.forall_mem_cons.mpr ⟨lw_p4, List.forall_mem_cons.mpr ⟨lw_p5, List.forall_mem_cons.mpr ⟨lw_p6, List.forall_mem_cons.mpr ⟨lw_p7, List.forall_mem_cons.mpr ⟨lw_p8, List.forall_mem_cons.mpr ⟨lw_p9, List.forall_mem_cons.mpr ⟨lw_p10, List.forall_mem_cons.mpr ⟨lw_p11, List.forall_mem_cons.mpr ⟨lw_p12, List.forall_mem_cons.mpr ⟨lw_p13, List.forall_mem_cons.mpr ⟨lw_p14, List.forall_mem_cons.mpr ⟨lw_p15, fun _ h => absurd h List.not_mem_nil⟩⟩⟩⟩⟩⟩⟩⟩⟩⟩⟩⟩⟩⟩⟩⟩
theorem lw_p16 : lw_okq (⟨"SplayOrchardModel", "bitten", "(II)I"⟩, 6) := ⟨⟨by decide +kernel, by decide +kernel⟩, List.mem_of_getElem? (i := 595) (by decide +kernel), List.mem_of_getElem? (i := 682) (by decide +kernel), List.mem_of_getElem? (i := 683) (by decide +kernel)⟩
theorem lw_p17 : lw_okq (⟨"SplayOrchardModel", "picked", "(II)I"⟩, 6) := ⟨⟨by decide +kernel, by decide +kernel⟩, List.mem_of_getElem? (i := 595) (by decide +kernel), List.mem_of_getElem? (i := 690) (by decide +kernel), List.mem_of_getElem? (i := 691) (by decide +kernel)⟩
theorem lw_p18 : lw_okq (⟨"SplayOrchardModel", "lowered", "(I)I"⟩, 6) := ⟨⟨by decide +kernel, by decide +kernel⟩, List.mem_of_getElem? (i := 595) (by decide +kernel), List.mem_of_getElem? (i := 694) (by decide +kernel), List.mem_of_getElem? (i := 695) (by decide +kernel)⟩
theorem lw_p19 : lw_okq (⟨"SplayOrchardModel", "together", "(II)I"⟩, 6) := ⟨⟨by decide +kernel, by decide +kernel⟩, List.mem_of_getElem? (i := 595) (by decide +kernel), List.mem_of_getElem? (i := 698) (by decide +kernel), List.mem_of_getElem? (i := 699) (by decide +kernel)⟩
theorem lw_p20 : lw_okq (⟨"SplayOrchardModel", "end", "(II)I"⟩, 6) := ⟨⟨by decide +kernel, by decide +kernel⟩, List.mem_of_getElem? (i := 595) (by decide +kernel), List.mem_of_getElem? (i := 702) (by decide +kernel), List.mem_of_getElem? (i := 703) (by decide +kernel)⟩
theorem lw_p21 : lw_okq (⟨"SplayOrchardModel", "parted", "(III)I"⟩, 6) := ⟨⟨by decide +kernel, by decide +kernel⟩, List.mem_of_getElem? (i := 595) (by decide +kernel), List.mem_of_getElem? (i := 710) (by decide +kernel), List.mem_of_getElem? (i := 711) (by decide +kernel)⟩
theorem lw_p22 : lw_okq (⟨"SplayOrchardModel", "under", "(II)I"⟩, 6) := ⟨⟨by decide +kernel, by decide +kernel⟩, List.mem_of_getElem? (i := 595) (by decide +kernel), List.mem_of_getElem? (i := 714) (by decide +kernel), List.mem_of_getElem? (i := 715) (by decide +kernel)⟩
theorem lw_p23 : lw_okq (⟨"SplayOrchardModel", "count", "(I)I"⟩, 6) := ⟨⟨by decide +kernel, by decide +kernel⟩, List.mem_of_getElem? (i := 595) (by decide +kernel), List.mem_of_getElem? (i := 718) (by decide +kernel), List.mem_of_getElem? (i := 719) (by decide +kernel)⟩
theorem lw_p24 : lw_okq (⟨"SplayOrchardModel", "nth", "(II)I"⟩, 6) := ⟨⟨by decide +kernel, by decide +kernel⟩, List.mem_of_getElem? (i := 595) (by decide +kernel), List.mem_of_getElem? (i := 722) (by decide +kernel), List.mem_of_getElem? (i := 723) (by decide +kernel)⟩
theorem lw_p25 : lw_okq (⟨"SplayOrchardModel", "fits", "(II)Z"⟩, 6) := ⟨⟨by decide +kernel, by decide +kernel⟩, List.mem_of_getElem? (i := 595) (by decide +kernel), List.mem_of_getElem? (i := 730) (by decide +kernel), List.mem_of_getElem? (i := 731) (by decide +kernel)⟩
theorem lw_p26 : lw_okq (⟨"SplayOrchardModel", "ok", "(I)I"⟩, 6) := ⟨⟨by decide +kernel, by decide +kernel⟩, List.mem_of_getElem? (i := 595) (by decide +kernel), List.mem_of_getElem? (i := 738) (by decide +kernel), List.mem_of_getElem? (i := 739) (by decide +kernel)⟩
theorem lw_p27 : lw_okq (⟨"SplayOrchardModel", "sizeAt", "(I)I"⟩, 6) := ⟨⟨by decide +kernel, by decide +kernel⟩, List.mem_of_getElem? (i := 595) (by decide +kernel), List.mem_of_getElem? (i := 754) (by decide +kernel), List.mem_of_getElem? (i := 755) (by decide +kernel)⟩
theorem lw_p28 : lw_okq (⟨"SplayOrchardModel", "high", "(I)I"⟩, 6) := ⟨⟨by decide +kernel, by decide +kernel⟩, List.mem_of_getElem? (i := 595) (by decide +kernel), List.mem_of_getElem? (i := 762) (by decide +kernel), List.mem_of_getElem? (i := 763) (by decide +kernel)⟩
theorem lw_p29 : lw_okq (⟨"SplayOrchardModel", "lowest", "(I)I"⟩, 6) := ⟨⟨by decide +kernel, by decide +kernel⟩, List.mem_of_getElem? (i := 595) (by decide +kernel), List.mem_of_getElem? (i := 771) (by decide +kernel), List.mem_of_getElem? (i := 772) (by decide +kernel)⟩
theorem lw_p30 : lw_okq (⟨"SplayOrchardModel", "depthsOf", "(II)I"⟩, 6) := ⟨⟨by decide +kernel, by decide +kernel⟩, List.mem_of_getElem? (i := 595) (by decide +kernel), List.mem_of_getElem? (i := 779) (by decide +kernel), List.mem_of_getElem? (i := 780) (by decide +kernel)⟩
theorem lw_p31 : lw_okq (⟨"SplayOrchardModel", "ends", "(I)I"⟩, 6) := ⟨⟨by decide +kernel, by decide +kernel⟩, List.mem_of_getElem? (i := 595) (by decide +kernel), List.mem_of_getElem? (i := 799) (by decide +kernel), List.mem_of_getElem? (i := 800) (by decide +kernel)⟩
def lw_privs_2 : List (MethodName × Nat) := [(⟨"SplayOrchardModel", "bitten", "(II)I"⟩, 6), (⟨"SplayOrchardModel", "picked", "(II)I"⟩, 6), (⟨"SplayOrchardModel", "lowered", "(I)I"⟩, 6), (⟨"SplayOrchardModel", "together", "(II)I"⟩, 6), (⟨"SplayOrchardModel", "end", "(II)I"⟩, 6), (⟨"SplayOrchardModel", "parted", "(III)I"⟩, 6), (⟨"SplayOrchardModel", "under", "(II)I"⟩, 6), (⟨"SplayOrchardModel", "count", "(I)I"⟩, 6), (⟨"SplayOrchardModel", "nth", "(II)I"⟩, 6), (⟨"SplayOrchardModel", "fits", "(II)Z"⟩, 6), (⟨"SplayOrchardModel", "ok", "(I)I"⟩, 6), (⟨"SplayOrchardModel", "sizeAt", "(I)I"⟩, 6), (⟨"SplayOrchardModel", "high", "(I)I"⟩, 6), (⟨"SplayOrchardModel", "lowest", "(I)I"⟩, 6), (⟨"SplayOrchardModel", "depthsOf", "(II)I"⟩, 6), (⟨"SplayOrchardModel", "ends", "(I)I"⟩, 6)]
theorem lw_r2 : ∀ q ∈ lw_privs_2, lw_okq q := List.forall_mem_cons.mpr ⟨lw_p16, List.forall_mem_cons.mpr ⟨lw_p17, List.forall_mem_cons.mpr ⟨lw_p18, List.forall_mem_cons.mpr ⟨lw_p19, List.forall_mem_cons.mpr ⟨lw_p20, List.forall_mem_cons.mpr ⟨lw_p21, List.forall_mem_cons.mpr ⟨lw_p22, List.forall_mem_cons.mpr ⟨lw_p23, List.forall_mem_cons.mpr ⟨lw_p24, List.forall_mem_cons.mpr ⟨lw_p25, List.forall_mem_cons.mpr ⟨lw_p26, List.forall_mem_cons.mpr ⟨lw_p27, List.forall_mem_cons.mpr ⟨lw_p28, List.forall_mem_cons.mpr ⟨lw_p29, List.forall_mem_cons.mpr ⟨lw_p30, List.forall_mem_cons.mpr ⟨lw_p31, fun _ h => absurd h List.not_mem_nil⟩⟩⟩⟩⟩⟩⟩⟩⟩⟩⟩⟩⟩⟩⟩⟩
theorem lw_p32 : lw_okq (⟨"SplayOrchardModel", "isNot", "(I)Z"⟩, 6) := ⟨⟨by decide +kernel, by decide +kernel⟩, List.mem_of_getElem? (i := 595) (by decide +kernel), List.mem_of_getElem? (i := 807) (by decide +kernel), List.mem_of_getElem? (i := 808) (by decide +kernel)⟩
theorem lw_p33 : lw_okq (⟨"SplayOrchardModel", "asked", "(II)I"⟩, 6) := ⟨⟨by decide +kernel, by decide +kernel⟩, List.mem_of_getElem? (i := 595) (by decide +kernel), List.mem_of_getElem? (i := 819) (by decide +kernel), List.mem_of_getElem? (i := 820) (by decide +kernel)⟩
theorem lw_p34 : lw_okq (⟨"SplayOrchardModel", "liked", "(I)I"⟩, 6) := ⟨⟨by decide +kernel, by decide +kernel⟩, List.mem_of_getElem? (i := 595) (by decide +kernel), List.mem_of_getElem? (i := 847) (by decide +kernel), List.mem_of_getElem? (i := 848) (by decide +kernel)⟩
theorem lw_p35 : lw_okq (⟨"SplayOrchardModel", "keep", "()V"⟩, 6) := ⟨⟨by decide +kernel, by decide +kernel⟩, List.mem_of_getElem? (i := 595) (by decide +kernel), List.mem_of_getElem? (i := 859) (by decide +kernel), List.mem_of_getElem? (i := 860) (by decide +kernel)⟩
theorem lw_p36 : lw_okq (⟨"SplayOrchardModel", "bringBack", "()V"⟩, 6) := ⟨⟨by decide +kernel, by decide +kernel⟩, List.mem_of_getElem? (i := 595) (by decide +kernel), List.mem_of_getElem? (i := 866) (by decide +kernel), List.mem_of_getElem? (i := 867) (by decide +kernel)⟩
theorem lw_p37 : lw_okq (⟨"SplayOrchardModel", "best", "(I)I"⟩, 6) := ⟨⟨by decide +kernel, by decide +kernel⟩, List.mem_of_getElem? (i := 595) (by decide +kernel), List.mem_of_getElem? (i := 878) (by decide +kernel), List.mem_of_getElem? (i := 879) (by decide +kernel)⟩
theorem lw_p38 : lw_okq (⟨"SplayOrchardModel", "plantDeep", "(II)I"⟩, 6) := ⟨⟨by decide +kernel, by decide +kernel⟩, List.mem_of_getElem? (i := 595) (by decide +kernel), List.mem_of_getElem? (i := 886) (by decide +kernel), List.mem_of_getElem? (i := 887) (by decide +kernel)⟩
def lw_privs_3 : List (MethodName × Nat) := [(⟨"SplayOrchardModel", "isNot", "(I)Z"⟩, 6), (⟨"SplayOrchardModel", "asked", "(II)I"⟩, 6), (⟨"SplayOrchardModel", "liked", "(I)I"⟩, 6), (⟨"SplayOrchardModel", "keep", "()V"⟩, 6), (⟨"SplayOrchardModel", "bringBack", "()V"⟩, 6), (⟨"SplayOrchardModel", "best", "(I)I"⟩, 6), (⟨"SplayOrchardModel", "plantDeep", "(II)I"⟩, 6)]
theorem lw_r3 : ∀ q ∈ lw_privs_3, lw_okq q := List.forall_mem_cons.mpr ⟨lw_p32, List.forall_mem_cons.mpr ⟨lw_p33, List.forall_mem_cons.mpr ⟨lw_p34, List.forall_mem_cons.mpr ⟨lw_p35, List.forall_mem_cons.mpr ⟨lw_p36, List.forall_mem_cons.mpr ⟨lw_p37, List.forall_mem_cons.mpr ⟨lw_p38, fun _ h => absurd h List.not_mem_nil⟩⟩⟩⟩⟩⟩⟩
def lw_privs : List (MethodName × Nat) := lw_privs_1 ++ (lw_privs_2 ++ (lw_privs_3))
def lw_tbl : List Cond := k2_sels lw_privs ++ tables_1
theorem lw_privs_ok : ∀ q ∈ lw_privs, lw_okq q := by
  show ∀ q ∈ lw_privs_1 ++ (lw_privs_2 ++ (lw_privs_3)), lw_okq q
  exact List.forall_mem_append.mpr ⟨lw_r1, List.forall_mem_append.mpr ⟨lw_r2, lw_r3⟩⟩
/-- the streams that the claim lets the run draw from -/
abbrev lw_cs : List Choice := [Jvm.Choice.named "NaN.bits"]
theorem lw_bits : nanBits ∈ lw_cs := by first | decide | exact List.mem_cons_self | simp [lw_cs, nanBits]
-- ===== end of PART A; then your names; then what follows =====
end
section
/-! ===== BEGIN words of one list among another's, by their places ===== -/
theorem goodIn_r {big : List Cond} (ws : List Cond) (ps : List Nat) (hp : ws = ps.filterMap (fun i => big[i]?)) (h : ws.all goodWord = true) : GoodIn big ws := by
  intro w hw
  have h1 := List.all_eq_true.mp h w hw
  rw [hp] at hw
  obtain ⟨i, -, hi⟩ := List.mem_filterMap.mp hw
  have hm : w ∈ big := by first | exact List.mem_of_getElem? hi | exact List.getElem?_mem hi
  exact ⟨hm, good_of_word h1⟩
theorem goodIn_app {big a b : List Cond} (ha : GoodIn big a) (hb : GoodIn big b) : GoodIn big (a ++ b) := fun w h => (List.mem_append.mp h).elim (ha w) (hb w)
theorem goodIn_ca {big a b : List Cond} {c : Cond} (ha : GoodIn big (c :: a)) (hb : GoodIn big b) : GoodIn big (c :: (a ++ b)) := fun w h => (List.mem_cons.mp h).elim (fun e => ha w (List.mem_cons.mpr (Or.inl e))) (fun h => (List.mem_append.mp h).elim (fun h => ha w (List.mem_cons.mpr (Or.inr h))) (hb w))
theorem goodIn_sub {big ws : List Cond} (hm : ∀ w ∈ ws, w ∈ big) (h : ws.all goodWord = true) : GoodIn big ws := fun w hw => ⟨hm w hw, good_of_word (List.all_eq_true.mp h w hw)⟩
/-! ===== END ===== -/

/-! ===== BEGIN exceptions that leave a method, and their catching by the caller (launches without stack traces) ===== -/
section VXA
/-! The laws vx_back, vx_callV, vx_callS, vx_callSW, vx_throw0, vx_throwS follow proofs of the library, with one case more: JvmDerived/Free/Laws.lean (Back.of_free), Shelf42/LK1.lean (callV, callS), Shelf/KitTraced.lean (throwNew0V, throwNewS). -/
/-- where a method has thrown q: the class by its name, the cell, what was written, the world -/
def vx_T (XC : String → State → State → Prop) (st : State) (q : Addr) (t : State) (mc ms : Nat) (free : Addr → Prop) : Prop :=
  ∃ (E : String) (ce : Cell) (L : List Loc), XC E st t ∧ t.heap[q]? = some ce ∧ ce.vm = .none ∧ st.vm.findClass E = some ce.cls ∧ st.WarmedH t.vm ∧ st.sameButNew ({ t with vm := st.vm } : State) L mc ms ∧ ∀ z ∈ L, free z.base
def vx_Q (Qc : Array Value → State → Outcome → State → Prop) (XC : String → State → State → Prop) (mc ms : Nat) (free : Addr → Prop) : Array Value → State → Outcome → State → Prop := fun a st o t =>
  (Qc a st o t ∧ ∃ L, FrameEnd st o t L mc ms ∧ ∀ q ∈ L, free q.base) ∨ ∃ q, o = .threw q ∧ vx_T XC st q t mc ms free
/-- a callee that returns or throws -/
def vx_Met (l : Launch) (y : MethodName) (ws : List Cond) (rm : Room) (Pc : Array Value → State → Prop) (Qc : Array Value → State → Outcome → State → Prop) (XC : String → State → State → Prop) (mc ms : Nat) (free : Addr → Prop) : Prop :=
  MetFree l y (headSpec ws rm) Pc (fun _ _ _ _ _ => True) (vx_Q Qc XC mc ms free)
def vx_Post (XC : String → State → State → Prop) (mc ms : Nat) (free : Addr → Prop) : Pt → Array Value → Addr → Pt → Prop := fun A a q B =>
  ∃ (g : JFrame) (mk : MethodId) (t : State) (L : List Loc) (E : String) (ce : Cell), B.U.heap = t.heap ∧ B.U.vm = t.vm ∧ XC E (A.U.calling g mk a) t ∧ t.heap[q]? = some ce ∧ ce.vm = .none ∧ A.U.vm.findClass E = some ce.cls ∧ B.locs = A.locs ++ L ∧ (∀ z ∈ L, free z.base) ∧ B.cells = A.cells + mc ∧ B.slots = A.slots + ms
def vx_Back (l : Launch) (R : Room) (p : Program) (e : Env) (below : List Frame) (s : State) (sargs : Array Value) (y : MethodName) (len W9 : Nat)
    (Pre : Pt → Array Value → Prop) (Post : Pt → Array Value → Option Value → Pt → Prop) (PostX : Pt → Array Value → Addr → Pt → Prop) : Prop :=
  ∀ (m : MethodId) (meth : Method) (c : Code) (A : Pt) (g : JFrame) (ig : Instr) (mk : MethodId) (a : Array Value),
    Stand p l e R s m sargs below meth c A.U A.locs A.cells A.slots → g.method = m → g.locals.size = c.maxLocals → decode c.code g.pc = .ok (ig, len) →
    2 * g.monitorRoom + (g.stack.map fun v => v.category).sum ≤ W9 → A.U.methodNamed? y = some mk → Pre A a →
    (∃ (v : Option Value) (B : Pt), Stand p l e R s m sargs below meth c B.U B.locs B.cells B.slots ∧ Post A a v B ∧
      Steps p.tables e below (doInvoke e (A.U.setTop g) [] mk a).1 (B.U.setTop { g with pc := g.pc + len, stack := v.toList ++ g.stack })) ∨
    (∃ (q : Addr) (B : Pt), Stand p l e R s m sargs below meth c B.U B.locs B.cells B.slots ∧ PostX A a q B ∧
      Steps p.tables e below (doInvoke e (A.U.setTop g) [] mk a).1 ((B.U.setTop g).pushFrame (.throwing q)))
section Payer
variable {l : Launch} {R : Room} {p : Program} {e : Env} {below : List Frame} {s : State} {sargs : Array Value} {y : MethodName} {len W9 : Nat}
theorem vx_back {ws : List Cond} {rm : Room} {Pc : Array Value → State → Prop} {Qc : Array Value → State → Outcome → State → Prop} {XC : String → State → State → Prop} {mc ms : Nat} {free : Addr → Prop} {bytes : ByteArray} {maxL : Nat} {ret : Option FieldType}
    (hM : vx_Met l y ws rm Pc Qc XC mc ms free) (hblind : FrameBlind Pc) (hrc : rm.cells = mc) (hrs : rm.slots = ms)
    (hframes : rm.frames + 1 ≤ R.frames) (hlocals : W9 + (maxL + 11) + rm.locals ≤ R.locals)
    (hws : ∀ w ∈ ws, ∀ a' U, s.WarmedH U.vm → w.before a' U = true) (hcode : Cond.code y bytes maxL ret ∈ ws) (hinit : ∀ a' U, s.WarmedH U.vm → (Cond.initialized y.cls).before a' U = true) :
    vx_Back l R p e below s sargs y len W9 (PreOf R mc ms Pc) (PostOf Qc mc ms free) (vx_Post XC mc ms free) := by
  intro m meth c A g ig mk a X hg hsize hdg hW hn hp
  have h1 : (headSpec ws rm).pre.before a A.U = true := atoms_intro fun w hw => hws w hw _ _ X.warmed
  have h2 : (Cond.code y bytes maxL ret).before a A.U = true := hws _ hcode _ _ X.warmed
  have h3 : (Cond.initialized y.cls).before a A.U = true := hinit _ _ X.warmed
  have h4 : A.cells + (headSpec ws rm).room.cells ≤ R.cells := by rw [show (headSpec ws rm).room.cells = mc from hrc]; exact hp.1
  have h5 : A.slots + (headSpec ws rm).room.slots ≤ R.slots := by rw [show (headSpec ws rm).room.slots = ms from hrs]; exact hp.2.1
  have hPc : Pc a (A.U.calling g mk a) := hblind _ _ _ _ hp.2.2
  obtain ⟨U, Ls, c0, s0⟩ := A
  dsimp only [Pt.U, Pt.locs, Pt.cells, Pt.slots] at h1 h2 h3 h4 h5 X hn hPc ⊢
  obtain ⟨methY, cY, hmY, hcY, -, hlY, -, -, -, -⟩ := Cond.code_spec hn h2
  obtain ⟨kY, hkY, -⟩ := className_of_methodNamed hn
  have hinitY : kY.init = .initialized := Cond.initialized_spec (findClass_of_methodNamed hn) hkY h3
  have h : At U g.method c below := by rw [hg]; exact X.here
  have hlocals9 : W9 + (maxL + 11) + (headSpec ws rm).room.locals ≤ R.locals := hlocals
  have happ : (headSpec ws rm).appliesLoose y e.platform (U.calling g mk a) = true :=
    Spec.appliesLoose_calling (g := g) h hdg hn hkY hinitY
      (X.room_calling (g := g) (R' := (headSpec ws rm).room) hsize hmY hcY hframes (by rw [hlY]; omega) h4 h5) h1
  obtain ⟨mid, hmid⟩ := h.above
  have hfr : (U.setTop g).frames = (.java g :: mid) ++ below := by rw [State.frames_setTop' g h.top, hmid]; rfl
  obtain ⟨o, s₂, hsteps, -, hend, hq⟩ := Steps.callFree hM p X.admits X.cas X.clock (acts := []) hfr happ hPc trivial
  have hq' : vx_Q Qc XC mc ms free a (U.calling g mk a) o s₂ := hq
  rw [State.frames_setTop' g h.top] at hend
  obtain ⟨g₀, hg0⟩ := Option.isSome_iff_exists.mp h.top
  obtain ⟨r, hr⟩ := State.topJava?_eq_some.mp hg0
  have hr' : (({ U with heap := s₂.heap, slotsUsed := s₂.slotsUsed } : State).setVm s₂.vm).frames = .java g₀ :: r := hr
  rcases hq' with ⟨hqc, L, hfe, hL⟩ | ⟨q, rfl, E, ce, L, hx, hce, hcv, hcl, hW₂, hsm, hL⟩
  · obtain ⟨⟨v, rfl⟩, hW₂, e2, q2, q3, q4, q5, q6⟩ := id hfe
    have e3 : s₂ = ({ (U.calling g mk a).setFrames s₂.frames with heap := s₂.heap, slotsUsed := s₂.slotsUsed } : State).setVm s₂.vm := by
      have : s₂ = ({ s₂ with vm := (U.calling g mk a).vm } : State).setVm s₂.vm := rfl
      rw [e2] at this
      exact this
    obtain ⟨c₂, i₂, len₂, hc₂, hd₂, hf₂⟩ := hend
    have hW' : U.WarmedH s₂.vm := hW₂
    have hcc : c₂ = c := by
      have h1 : s₂.code? g.method = U.code? g.method := by
        rw [State.code?_eq, State.code?_eq, hW'.alike.method?]
      exact Option.some.inj (hc₂.symm.trans (h1.trans h.code))
    subst hcc
    have hlen : len₂ = len := by rw [hdg] at hd₂; cases hd₂; rfl
    subst hlen
    have hs₂ : s₂ = (({ U with heap := s₂.heap, slotsUsed := s₂.slotsUsed } : State).setVm s₂.vm).setTop { g with pc := g.pc + len₂, stack := v.toList ++ g.stack } := by
      refine e3.trans ?_
      rw [hf₂, State.calling_eq h.top, State.setFrames_setFrames, State.setTop_of_frames _ hr', hr]
      rfl
    have hsame : U.sameButNew ({ U with heap := s₂.heap, slotsUsed := s₂.slotsUsed } : State) L mc ms := by
      refine ⟨?_, q2, q3, q4, q5, q6⟩
      obtain ⟨t, ht, -⟩ := State.frames_cons hr
      show ({ U with heap := s₂.heap, slotsUsed := s₂.slotsUsed } : State) = { U.setFrames U.frames with heap := s₂.heap, slotsUsed := s₂.slotsUsed }
      rw [State.setFrames_self ht]
    subst hg
    refine Or.inl ⟨v, ⟨(({ U with heap := s₂.heap, slotsUsed := s₂.slotsUsed } : State).setVm s₂.vm), Ls ++ L, c0 + mc, s0 + ms⟩,
      ⟨X.admits, X.cas, X.clock, X.frames, X.room, X.hears, X.method, X.code, (X.here.setHeapUsed s₂.heap s₂.slotsUsed).setVm hW'.alike, X.tail, State.WarmedH.trans X.warmed hW', X.limits, X.bytes, X.same.trans (hsame.setVm s.vm)⟩,
      ⟨g, mk, s₂, L, rfl, rfl, hqc, rfl, hL, rfl, rfl⟩, ?_⟩
    show Steps p.tables e below _ ((({ U with heap := s₂.heap, slotsUsed := s₂.slotsUsed } : State).setVm s₂.vm).setTop { g with pc := g.pc + len₂, stack := v.toList ++ g.stack })
    rw [← hs₂]
    exact hsteps
  · obtain ⟨e2, q2, q3, q4, q5, q6⟩ := id hsm
    have e3 : s₂ = ({ (U.calling g mk a).setFrames s₂.frames with heap := s₂.heap, slotsUsed := s₂.slotsUsed } : State).setVm s₂.vm := by
      have : s₂ = ({ s₂ with vm := (U.calling g mk a).vm } : State).setVm s₂.vm := rfl
      rw [e2] at this
      exact this
    have hf₂ : s₂.frames = .throwing q :: .java g :: U.frames.tail := hend
    have hW' : U.WarmedH s₂.vm := hW₂
    have hs₂ : s₂ = ((({ U with heap := s₂.heap, slotsUsed := s₂.slotsUsed } : State).setVm s₂.vm).setTop g).pushFrame (.throwing q) := by
      refine e3.trans ?_
      rw [hf₂, State.calling_eq h.top, State.setFrames_setFrames, State.pushFrame, State.frames_setTop _ hr', State.setTop_of_frames _ hr', State.setFrames_setFrames, hr]
      rfl
    have hsame : U.sameButNew ({ U with heap := s₂.heap, slotsUsed := s₂.slotsUsed } : State) L mc ms := by
      refine ⟨?_, q2, q3, q4, q5, q6⟩
      obtain ⟨t, ht, -⟩ := State.frames_cons hr
      show ({ U with heap := s₂.heap, slotsUsed := s₂.slotsUsed } : State) = { U.setFrames U.frames with heap := s₂.heap, slotsUsed := s₂.slotsUsed }
      rw [State.setFrames_self ht]
    subst hg
    refine Or.inr ⟨q, ⟨(({ U with heap := s₂.heap, slotsUsed := s₂.slotsUsed } : State).setVm s₂.vm), Ls ++ L, c0 + mc, s0 + ms⟩,
      ⟨X.admits, X.cas, X.clock, X.frames, X.room, X.hears, X.method, X.code, (X.here.setHeapUsed s₂.heap s₂.slotsUsed).setVm hW'.alike, X.tail, State.WarmedH.trans X.warmed hW', X.limits, X.bytes, X.same.trans (hsame.setVm s.vm)⟩,
      ⟨g, mk, s₂, L, E, ce, rfl, rfl, hx, hce, hcv, hcl, rfl, hL, rfl, rfl⟩, ?_⟩
    show Steps p.tables e below _ (((({ U with heap := s₂.heap, slotsUsed := s₂.slotsUsed } : State).setVm s₂.vm).setTop g).pushFrame (.throwing q))
    rw [← hs₂]
    exact hsteps
end Payer
section Calls
variable {p : Program} {l : Launch} {e : Env} {R : Room} {s : State} {m : MethodId} {args : Array Value} {below : List Frame} {meth : Method} {c : Code} {T : State} {locs : List Loc} {cells slots : Nat}
theorem vx_callV (X : Stand p l e R s m args below meth c T locs cells slots) (hexec : p.tables.exec = Jvm.exec) {own C : String} {index : Nat} {y : MethodName} {bytes : ByteArray} {maxL : Nat} {ret : Option FieldType}
    (hown : s.vm.findClass own = some m.cls) (hlink : (Cond.methodLink own index y).before args s = true) (hinst : (Cond.instanceMethod y).before args s = true) (hsel : (Cond.selects C y y).before args s = true)
    (hcode : (Cond.code y bytes maxL ret).before args s = true) (hy : y.cls ≠ "java/lang/invoke/MethodHandle" ∧ y.cls ≠ "java/lang/invoke/VarHandle")
    {W9 : Nat} {Pre : Pt → Array Value → Prop} {Post : Pt → Array Value → Option Value → Pt → Prop} {PostX : Pt → Array Value → Addr → Pt → Prop} (hK : vx_Back l R p e below s args y 3 W9 Pre Post PostX)
    {b : Addr} {cellB : Cell} (hcell : T.heap[b]? = some cellB) (hobj : cellB.vm.isStatics = false) (hcls : s.vm.findClass C = some cellB.cls)
    {g : JFrame} (hg : g.method = m) (hsize : g.locals.size = c.maxLocals) {argsL rest : List Value} (hlen : ∀ sig, parseMethodDescriptor y.desc = some sig → argsL.length = sig.parameters.length)
    (hstack : g.stack = argsL.reverse ++ .ref b :: rest) (hW : 2 * g.monitorRoom + (rest.map fun v => v.category).sum ≤ W9) (hdg : decode c.code g.pc = .ok (.invokevirtual index, 3))
    (hpre : ∀ vm₁, s.WarmedH vm₁ → Pre ⟨T.setVm vm₁, locs, cells, slots⟩ (Value.ref b :: argsL).toArray) :
    (∃ (v : Option Value) (vm₁ : Vm) (B : Pt), s.WarmedH vm₁ ∧ Stand p l e R s m args below meth c B.U B.locs B.cells B.slots ∧ Post ⟨T.setVm vm₁, locs, cells, slots⟩ (Value.ref b :: argsL).toArray v B ∧
      ∀ target, Steps p.tables e below (B.U.setTop { g with pc := g.pc + 3, stack := v.toList ++ rest }) target → Steps p.tables e below (T.setTop g) target) ∨
    (∃ (q : Addr) (vm₁ : Vm) (B : Pt), s.WarmedH vm₁ ∧ Stand p l e R s m args below meth c B.U B.locs B.cells B.slots ∧ PostX ⟨T.setVm vm₁, locs, cells, slots⟩ (Value.ref b :: argsL).toArray q B ∧
      Steps p.tables e below (T.setTop g) ((B.U.setTop { g with stack := rest }).pushFrame (.throwing q))) := by
  obtain ⟨mk, methM, hnamed, hmethM, hstM, habM⟩ := Cond.instanceMethod_spec hinst
  obtain ⟨methM', cM, hmethM', -, -, -, -, -, -, hsigM⟩ := Cond.code_spec hnamed hcode
  cases hmethM.symm.trans hmethM'
  obtain ⟨c2, r2, m2, q1, q2, q3, q4, kP, hkP, hkPi⟩ := Cond.selects_spec hsel
  cases hcls.symm.trans q1
  cases (State.methodFound?_of_named hnamed hy).symm.trans q2
  cases hnamed.symm.trans q3
  have hselP : selectMethod e.platform s.vm cellB.cls mk = .method mk := by rw [Launch.admits_selectMethod X.admits]; exact q4
  obtain ⟨vm₁, X₁, hstep₁⟩ := X.invokevirtual hexec hown hlink hnamed hmethM hstM hkP hkPi hy (a := b) (cell := cellB) hcell
    (fun z h => by rw [h] at hobj; cases hobj) hselP hmethM habM hkP hkPi (g := g) hg (argsL := argsL) (rest := rest) (hlen _ hsigM) hstack hdg
  rcases hK m meth c ⟨T.setVm vm₁, locs, cells, slots⟩ { g with stack := rest } (.invokevirtual index) mk (Value.ref b :: argsL).toArray X₁ hg hsize hdg hW (X₁.named hnamed) (hpre vm₁ X₁.warmed) with ⟨v, B, X', hpost, hsteps⟩ | ⟨q, B, X', hpost, hsteps⟩
  · exact Or.inl ⟨v, vm₁, B, X₁.warmed, X', hpost, fun target h => hstep₁ _ fun acts => by rw [doInvoke_state]; exact hsteps.trans h⟩
  · exact Or.inr ⟨q, vm₁, B, X₁.warmed, X', hpost, hstep₁ _ fun acts => by rw [doInvoke_state]; exact hsteps⟩
theorem vx_callS (X : Stand p l e R s m args below meth c T locs cells slots) (hexec : p.tables.exec = Jvm.exec) {own : String} {index : Nat} {y : MethodName} {bytes : ByteArray} {maxL : Nat} {ret : Option FieldType}
    (hown : s.vm.findClass own = some m.cls) (hlink : (Cond.methodLink own index y).before args s = true) (hstat : (Cond.static y).before args s = true) (hinit : (Cond.initialized y.cls).before args s = true)
    (hcode : (Cond.code y bytes maxL ret).before args s = true) (hy : y.cls ≠ "java/lang/invoke/MethodHandle" ∧ y.cls ≠ "java/lang/invoke/VarHandle")
    {W9 : Nat} {Pre : Pt → Array Value → Prop} {Post : Pt → Array Value → Option Value → Pt → Prop} {PostX : Pt → Array Value → Addr → Pt → Prop} (hK : vx_Back l R p e below s args y 3 W9 Pre Post PostX)
    {g : JFrame} (hg : g.method = m) (hsize : g.locals.size = c.maxLocals) {argsL rest : List Value} (hlen : ∀ sig, parseMethodDescriptor y.desc = some sig → argsL.length = sig.parameters.length)
    (hstack : g.stack = argsL.reverse ++ rest) (hW : 2 * g.monitorRoom + (rest.map fun v => v.category).sum ≤ W9) (hdg : decode c.code g.pc = .ok (.invokestatic index, 3))
    (hpre : ∀ vm₁, s.WarmedH vm₁ → Pre ⟨T.setVm vm₁, locs, cells, slots⟩ argsL.toArray) :
    (∃ (v : Option Value) (vm₁ : Vm) (B : Pt), s.WarmedH vm₁ ∧ Stand p l e R s m args below meth c B.U B.locs B.cells B.slots ∧ Post ⟨T.setVm vm₁, locs, cells, slots⟩ argsL.toArray v B ∧
      ∀ target, Steps p.tables e below (B.U.setTop { g with pc := g.pc + 3, stack := v.toList ++ rest }) target → Steps p.tables e below (T.setTop g) target) ∨
    (∃ (q : Addr) (vm₁ : Vm) (B : Pt), s.WarmedH vm₁ ∧ Stand p l e R s m args below meth c B.U B.locs B.cells B.slots ∧ PostX ⟨T.setVm vm₁, locs, cells, slots⟩ argsL.toArray q B ∧
      Steps p.tables e below (T.setTop g) ((B.U.setTop { g with stack := rest }).pushFrame (.throwing q))) := by
  obtain ⟨mk, hnamed⟩ := Cond.code_named hcode
  obtain ⟨methM, cM, hmethM, -, -, -, -, -, -, hsigM⟩ := Cond.code_spec hnamed hcode
  have hstatic : methM.isStatic = true := Cond.static_spec hnamed hmethM hstat
  obtain ⟨kP, hkP, -⟩ := className_of_methodNamed hnamed
  have hinitP : kP.init = .initialized := Cond.initialized_spec (findClass_of_methodNamed hnamed) hkP hinit
  obtain ⟨vm₁, X₁, hstep₁⟩ := X.invokestatic hexec hown hlink hnamed hmethM hstatic hkP hinitP hy (g := g) hg (argsL := argsL) (rest := rest) (hlen _ hsigM) hstack hdg
  rcases hK m meth c ⟨T.setVm vm₁, locs, cells, slots⟩ { g with stack := rest } (.invokestatic index) mk argsL.toArray X₁ hg hsize hdg hW (X₁.named hnamed) (hpre vm₁ X₁.warmed) with ⟨v, B, X', hpost, hsteps⟩ | ⟨q, B, X', hpost, hsteps⟩
  · exact Or.inl ⟨v, vm₁, B, X₁.warmed, X', hpost, fun target h => hstep₁ _ fun acts => by rw [doInvoke_state]; exact hsteps.trans h⟩
  · exact Or.inr ⟨q, vm₁, B, X₁.warmed, X', hpost, hstep₁ _ fun acts => by rw [doInvoke_state]; exact hsteps⟩
end Calls
theorem vx_cls {s : State} {T : State} {vm₁ : Vm} {E : String} {k : ClassId} (hW : s.WarmedH vm₁) (h : (T.setVm vm₁).vm.findClass E = some k) : s.vm.findClass E = some k := by
  have h1 : vm₁.findClass E = some k := h
  rw [hW.alike.findClass] at h1
  exact h1
/-- the method's frame g, with q thrown over it -/
def vx_W (p : Program) (l : Launch) (e : Env) (R : Room) (s : State) (m : MethodId) (args : Array Value) (below : List Frame) (meth : Method) (c : Code) (H : Heap) (locs : List Loc) (cells slots : Nat) (Q : State → Prop) (g : JFrame) (q : Addr) : Prop :=
  ∀ T : State, T.heap = H → Stand p l e R s m args below meth c T locs cells slots → ∃ t, Steps p.tables e below ((T.setTop g).pushFrame (.throwing q)) t ∧ Q t
def vx_Run (p : Program) (l : Launch) (e : Env) (R : Room) (s : State) (m : MethodId) (args : Array Value) (below : List Frame) (meth : Method) (c : Code) (H : Heap) (locs : List Loc) (cells slots mc ms : Nat) (g : JFrame) (rest : List Value) (Qa : State → Outcome → State → Prop) (XC : String → State → State → Prop) (free : Addr → Prop) : Prop :=
  ∀ T : State, T.heap = H → Stand p l e R s m args below meth c T locs cells slots →
    (∃ (v : Option Value) (st₀ t T' : State) (L : List Loc), st₀.heap = H ∧ Stand p l e R s m args below meth c T' (locs ++ L) (cells + mc) (slots + ms) ∧ (∀ q ∈ L, free q.base) ∧ T'.heap = t.heap ∧ T'.vm = t.vm ∧ Qa st₀ (.returned v) t ∧
      Goes p e below T g T' { g with pc := g.pc + 3, stack := v.toList ++ rest }) ∨
    (∃ (q : Addr) (st₀ t T' : State) (L : List Loc) (E : String) (ce : Cell), st₀.heap = H ∧ Stand p l e R s m args below meth c T' (locs ++ L) (cells + mc) (slots + ms) ∧ (∀ z ∈ L, free z.base) ∧ T'.heap = t.heap ∧ T'.vm = t.vm ∧ XC E st₀ t ∧ t.heap[q]? = some ce ∧ ce.vm = .none ∧ s.vm.findClass E = some ce.cls ∧
      Steps p.tables e below (T.setTop g) ((T'.setTop { g with stack := rest }).pushFrame (.throwing q)))
def vx_X {S : Type} (px : S → Prop) (B : String → S → State → Prop) (A : Nat → Prop) : String → State → State → Prop := fun E st t => ∃ u : S, px u ∧ B E u t ∧ va_F A st t
section Runs
variable {p : Program} {l : Launch} {e : Env} {R : Room} {s : State} {m : MethodId} {args : Array Value} {below : List Frame} {meth : Method} {c : Code} {H : Heap} {locs : List Loc} {cells slots : Nat}
variable {y : MethodName} {bytes cc : ByteArray} {maxL nL mc ms n index : Nat} {ret : Option FieldType} {ws : List Cond} {rm : Room} {Pc : Array Value → State → Prop} {Qc : Array Value → State → Outcome → State → Prop} {XC : String → State → State → Prop} {free : Addr → Prop} {Ts : List Cond} {own C : String} {b : Addr} {As rest : List Value} {g : JFrame}
theorem vx_callBack (cb : CallB R s args own index y bytes maxL ret ws rm mc ms n) (hM : vx_Met l y ws rm Pc Qc XC mc ms free) (hbl : FrameBlind Pc) : vx_Back l R p e below s args y 3 8 (PreOf R mc ms Pc) (PostOf Qc mc ms free) (vx_Post XC mc ms free) := by
  obtain ⟨hrc, hrs, hfr, hlo, hws, hcw, -, hini, -⟩ := cb
  exact vx_back (bytes := bytes) (maxL := maxL) (ret := ret) hM hbl hrc hrs hfr hlo hws hcw (fun a' U hW => word_at hW (Or.inl (by first | rfl | simp [Cond.onTables, Cond.keeps, Cond.steady])) hini)
theorem vx_runV (S : CallFix p m c cc nL s args Ts own) (hM : vx_Met l y ws rm Pc Qc XC mc ms free) (cw : CallW R s args own C index y bytes maxL ret ws rm mc ms n) (hp : PreV s H C b Pc As)
    (hg : g.method = m) (hn : As.length = n) (hsize : g.locals.size = nL) (hstack : g.stack = As.reverse ++ .ref b :: rest) (hW : 2 * g.monitorRoom + (rest.map fun v => v.category).sum ≤ 8) (hdg : decode cc g.pc = .ok (.invokevirtual index, 3)) (hf : cells + mc ≤ R.cells ∧ slots + ms ≤ R.slots) :
    vx_Run p l e R s m args below meth c H locs cells slots mc ms g rest (Qc (Value.ref b :: As).toArray) XC free := by
  have hK : vx_Back l R p e below s args y 3 8 (PreOf R mc ms Pc) (PostOf Qc mc ms free) (vx_Post XC mc ms free) := vx_callBack cw.1 hM hp.1
  obtain ⟨⟨-, -, -, -, -, -, hcode, -, hy, hlen, hl⟩, hin, hse⟩ := cw
  obtain ⟨hx, hb, hml, ho, -⟩ := S
  obtain ⟨-, ⟨cellB, hcB, hoB, hclB⟩, hPc⟩ := hp
  intro T hT X
  rcases vx_callV X hx (C := C) (bytes := bytes) (maxL := maxL) (ret := ret) ho hl hin hse hcode hy hK (by rw [hT]; exact hcB) hoB hclB hg (hsize.trans hml.symm) (argsL := As) (rest := rest) (fun sig h => hn.trans (hlen sig h)) hstack hW (by rw [hb]; exact hdg)
    (fun vm₁ hW₁ => ⟨hf.1, hf.2, hPc (T.setVm vm₁) hT hW₁⟩) with ⟨v, vm₁, ⟨U', l2, c2, s2⟩, hW₁, X', ⟨g', mk, t, L, e1, e2, hq, h1, hL, h2, h3⟩, st⟩ | ⟨q, vm₁, ⟨U', l2, c2, s2⟩, hW₁, X', ⟨g', mk, t, L, E, ce, e1, e2, hq, hce, hcv, hcl, h1, hL, h2, h3⟩, st⟩
  · dsimp only [Pt.U, Pt.locs, Pt.cells, Pt.slots] at X' e1 e2 h1 h2 h3 st
    subst h1; subst h2; subst h3
    exact Or.inl ⟨v, (T.setVm vm₁).calling g' mk (Value.ref b :: As).toArray, t, U', L, hT, X', hL, e1, e2, hq, st⟩
  · dsimp only [Pt.U, Pt.locs, Pt.cells, Pt.slots] at X' e1 e2 h1 h2 h3 st hcl
    subst h1; subst h2; subst h3
    exact Or.inr ⟨q, (T.setVm vm₁).calling g' mk (Value.ref b :: As).toArray, t, U', L, E, ce, hT, X', hL, e1, e2, hq, hce, hcv, vx_cls hW₁ hcl, st⟩
theorem vx_runS (S : CallFix p m c cc nL s args Ts own) (hM : vx_Met l y ws rm Pc Qc XC mc ms free) (cw : CallB R s args own index y bytes maxL ret ws rm mc ms n ∧ (Cond.static y).before args s = true) (hp : PreS s H Pc As)
    (hg : g.method = m) (hn : As.length = n) (hsize : g.locals.size = nL) (hstack : g.stack = As.reverse ++ rest) (hW : 2 * g.monitorRoom + (rest.map fun v => v.category).sum ≤ 8) (hdg : decode cc g.pc = .ok (.invokestatic index, 3)) (hf : cells + mc ≤ R.cells ∧ slots + ms ≤ R.slots) :
    vx_Run p l e R s m args below meth c H locs cells slots mc ms g rest (Qc As.toArray) XC free := by
  have hK : vx_Back l R p e below s args y 3 8 (PreOf R mc ms Pc) (PostOf Qc mc ms free) (vx_Post XC mc ms free) := vx_callBack cw.1 hM hp.1
  obtain ⟨⟨-, -, -, -, -, -, hcode, hini, hy, hlen, hl⟩, hstt⟩ := cw
  obtain ⟨hx, hb, hml, ho, -⟩ := S
  intro T hT X
  rcases vx_callS X hx (bytes := bytes) (maxL := maxL) (ret := ret) ho hl hstt hini hcode hy hK hg (hsize.trans hml.symm) (argsL := As) (rest := rest) (fun sig h => hn.trans (hlen sig h)) hstack hW (by rw [hb]; exact hdg)
    (fun vm₁ hW₁ => ⟨hf.1, hf.2, hp.2 (T.setVm vm₁) hT hW₁⟩) with ⟨v, vm₁, ⟨U', l2, c2, s2⟩, hW₁, X', ⟨g', mk, t, L, e1, e2, hq, h1, hL, h2, h3⟩, st⟩ | ⟨q, vm₁, ⟨U', l2, c2, s2⟩, hW₁, X', ⟨g', mk, t, L, E, ce, e1, e2, hq, hce, hcv, hcl, h1, hL, h2, h3⟩, st⟩
  · dsimp only [Pt.U, Pt.locs, Pt.cells, Pt.slots] at X' e1 e2 h1 h2 h3 st
    subst h1; subst h2; subst h3
    exact Or.inl ⟨v, (T.setVm vm₁).calling g' mk As.toArray, t, U', L, hT, X', hL, e1, e2, hq, st⟩
  · dsimp only [Pt.U, Pt.locs, Pt.cells, Pt.slots] at X' e1 e2 h1 h2 h3 st hcl
    subst h1; subst h2; subst h3
    exact Or.inr ⟨q, (T.setVm vm₁).calling g' mk As.toArray, t, U', L, E, ce, hT, X', hL, e1, e2, hq, hce, hcv, vx_cls hW₁ hcl, st⟩
end Runs
section Rows
variable {p : Program} {l : Launch} {e : Env} {R : Room} {s : State} {m : MethodId} {args : Array Value} {below : List Frame} {meth : Method} {c : Code} {H : Heap} {locs : List Loc} {cells slots : Nat} {Q : State → Prop}
variable {mc ms : Nat} {free : Addr → Prop} {A0 A1 : Nat → Prop} {H0 : Heap} {a : Array Value} {pc : Nat} {ls : Array Slot} {st0 rest : List Value}
theorem vx_keep {st₀ t T' : State} {L : List Loc} (h0 : st₀.heap = H) (e1 : T'.heap = t.heap) (hS : va_S A0 H0 H locs) (hA : ∀ q, q < H.size → A1 q → A0 q) (hf : ∀ q, free q → A0 q) (hL : ∀ q ∈ L, free q.base) (hF : va_F A1 st₀ t) :
    H.size ≤ T'.heap.size ∧ (∀ q : Nat, q < H.size → ¬ A1 q → T'.heap[q]? = H[q]?) ∧ va_S A0 H0 T'.heap (locs ++ L) := by
  obtain ⟨hz, hk⟩ := hF
  rw [h0] at hz hk
  exact ⟨by rw [e1]; exact hz, fun q h1 h2 => by rw [e1]; exact hk q h1 h2,
    ⟨Nat.le_trans hS.1 (by rw [e1]; exact hz), fun q h1 h2 => by rw [e1, hk q (Nat.lt_of_lt_of_le h1 hS.1) (fun z => h2 (hA q (Nat.lt_of_lt_of_le h1 hS.1) z))]; exact hS.2.1 q h1 h2, fun q hq => by
      rcases List.mem_append.mp hq with h | h
      · exact hS.2.2 q h
      · exact hf _ (hL q h)⟩⟩
theorem vx_calli {S SX : Type} {post : Int32 → S → Prop} {px : SX → Prop} {B : S → State → Prop} {BX : String → SX → State → Prop} {AX : Nat → Prop} (hr : vx_Run p l e R s m args below meth c H locs cells slots mc ms (F0 m pc ls st0) rest (va_Qi post B A1 a) (vx_X px BX AX) free) (hS : va_S A0 H0 H locs) (hA : ∀ q, q < H.size → A1 q → A0 q) (hf : ∀ q, free q → A0 q) (hAX : ∀ q, q < H.size → AX q → A0 q)
    (kx : ∀ (E : String) (ce : Cell) (q9 : Addr) (u : SX) (t : State) (H1 : Heap) (locs1 : List Loc), t.heap = H1 → s.vm.Alike t.vm → px u → BX E u t → H.size ≤ H1.size → (∀ q : Nat, q < H.size → ¬ AX q → H1[q]? = H[q]?) → va_S A0 H0 H1 locs1 → H1[q9]? = some ce → ce.vm = .none → s.vm.findClass E = some ce.cls → vx_W p l e R s m args below meth c H1 locs1 (cells + mc) (slots + ms) Q (F0 m pc ls rest) q9)
    (kk : ∀ (r : Int32) (u : S) (t : State) (H1 : Heap) (locs1 : List Loc), t.heap = H1 → s.vm.Alike t.vm → post r u → B u t → H.size ≤ H1.size → (∀ q : Nat, q < H.size → ¬ A1 q → H1[q]? = H[q]?) → va_S A0 H0 H1 locs1 → W p l e R s m args below meth c H1 locs1 (cells + mc) (slots + ms) Q (F0 m (pc + 3) ls (.int r :: rest))) : W p l e R s m args below meth c H locs cells slots Q (F0 m pc ls st0) := by
  intro T hT X
  rcases hr T hT X with ⟨v, st₀, t, T', L, h0, X', hL, e1, e2, ⟨⟨r, u, hv, hp, hb⟩, hF⟩, st⟩ | ⟨q, st₀, t, T', L, E, ce, h0, X', hL, e1, e2, ⟨u, hp, hb, hF⟩, hce, hcv, hcl, st⟩
  · cases hv
    obtain ⟨k1, k2, k3⟩ := vx_keep h0 e1 hS hA hf hL hF
    obtain ⟨t2, a1, b1⟩ := kk r u t T'.heap (locs ++ L) e1.symm (by rw [← e2]; exact X'.warmed.alike) hp hb k1 k2 k3 T' rfl X'
    exact ⟨t2, st t2 a1, b1⟩
  · obtain ⟨k1, k2, k3⟩ := vx_keep h0 e1 hS hAX hf hL hF
    obtain ⟨t2, a1, b1⟩ := kx E ce q u t T'.heap (locs ++ L) e1.symm (by rw [← e2]; exact X'.warmed.alike) hp hb k1 k2 k3 (by rw [e1]; exact hce) hcv hcl T' rfl X'
    exact ⟨t2, st.trans a1, b1⟩
theorem vx_calll {S SX : Type} {post : Int64 → S → Prop} {px : SX → Prop} {B : S → State → Prop} {BX : String → SX → State → Prop} {AX : Nat → Prop} (hr : vx_Run p l e R s m args below meth c H locs cells slots mc ms (F0 m pc ls st0) rest (va_Ql post B A1 a) (vx_X px BX AX) free) (hS : va_S A0 H0 H locs) (hA : ∀ q, q < H.size → A1 q → A0 q) (hf : ∀ q, free q → A0 q) (hAX : ∀ q, q < H.size → AX q → A0 q)
    (kx : ∀ (E : String) (ce : Cell) (q9 : Addr) (u : SX) (t : State) (H1 : Heap) (locs1 : List Loc), t.heap = H1 → s.vm.Alike t.vm → px u → BX E u t → H.size ≤ H1.size → (∀ q : Nat, q < H.size → ¬ AX q → H1[q]? = H[q]?) → va_S A0 H0 H1 locs1 → H1[q9]? = some ce → ce.vm = .none → s.vm.findClass E = some ce.cls → vx_W p l e R s m args below meth c H1 locs1 (cells + mc) (slots + ms) Q (F0 m pc ls rest) q9)
    (kk : ∀ (r : Int64) (u : S) (t : State) (H1 : Heap) (locs1 : List Loc), t.heap = H1 → s.vm.Alike t.vm → post r u → B u t → H.size ≤ H1.size → (∀ q : Nat, q < H.size → ¬ A1 q → H1[q]? = H[q]?) → va_S A0 H0 H1 locs1 → W p l e R s m args below meth c H1 locs1 (cells + mc) (slots + ms) Q (F0 m (pc + 3) ls (.long r :: rest))) : W p l e R s m args below meth c H locs cells slots Q (F0 m pc ls st0) := by
  intro T hT X
  rcases hr T hT X with ⟨v, st₀, t, T', L, h0, X', hL, e1, e2, ⟨⟨r, u, hv, hp, hb⟩, hF⟩, st⟩ | ⟨q, st₀, t, T', L, E, ce, h0, X', hL, e1, e2, ⟨u, hp, hb, hF⟩, hce, hcv, hcl, st⟩
  · cases hv
    obtain ⟨k1, k2, k3⟩ := vx_keep h0 e1 hS hA hf hL hF
    obtain ⟨t2, a1, b1⟩ := kk r u t T'.heap (locs ++ L) e1.symm (by rw [← e2]; exact X'.warmed.alike) hp hb k1 k2 k3 T' rfl X'
    exact ⟨t2, st t2 a1, b1⟩
  · obtain ⟨k1, k2, k3⟩ := vx_keep h0 e1 hS hAX hf hL hF
    obtain ⟨t2, a1, b1⟩ := kx E ce q u t T'.heap (locs ++ L) e1.symm (by rw [← e2]; exact X'.warmed.alike) hp hb k1 k2 k3 (by rw [e1]; exact hce) hcv hcl T' rfl X'
    exact ⟨t2, st.trans a1, b1⟩
theorem vx_callf {S SX : Type} {post : UInt32 → S → Prop} {px : SX → Prop} {B : S → State → Prop} {BX : String → SX → State → Prop} {AX : Nat → Prop} (hr : vx_Run p l e R s m args below meth c H locs cells slots mc ms (F0 m pc ls st0) rest (va_Qf post B A1 a) (vx_X px BX AX) free) (hS : va_S A0 H0 H locs) (hA : ∀ q, q < H.size → A1 q → A0 q) (hf : ∀ q, free q → A0 q) (hAX : ∀ q, q < H.size → AX q → A0 q)
    (kx : ∀ (E : String) (ce : Cell) (q9 : Addr) (u : SX) (t : State) (H1 : Heap) (locs1 : List Loc), t.heap = H1 → s.vm.Alike t.vm → px u → BX E u t → H.size ≤ H1.size → (∀ q : Nat, q < H.size → ¬ AX q → H1[q]? = H[q]?) → va_S A0 H0 H1 locs1 → H1[q9]? = some ce → ce.vm = .none → s.vm.findClass E = some ce.cls → vx_W p l e R s m args below meth c H1 locs1 (cells + mc) (slots + ms) Q (F0 m pc ls rest) q9)
    (kk : ∀ (r : UInt32) (u : S) (t : State) (H1 : Heap) (locs1 : List Loc), t.heap = H1 → s.vm.Alike t.vm → post r u → B u t → H.size ≤ H1.size → (∀ q : Nat, q < H.size → ¬ A1 q → H1[q]? = H[q]?) → va_S A0 H0 H1 locs1 → W p l e R s m args below meth c H1 locs1 (cells + mc) (slots + ms) Q (F0 m (pc + 3) ls (.float r :: rest))) : W p l e R s m args below meth c H locs cells slots Q (F0 m pc ls st0) := by
  intro T hT X
  rcases hr T hT X with ⟨v, st₀, t, T', L, h0, X', hL, e1, e2, ⟨⟨r, u, hv, hp, hb⟩, hF⟩, st⟩ | ⟨q, st₀, t, T', L, E, ce, h0, X', hL, e1, e2, ⟨u, hp, hb, hF⟩, hce, hcv, hcl, st⟩
  · cases hv
    obtain ⟨k1, k2, k3⟩ := vx_keep h0 e1 hS hA hf hL hF
    obtain ⟨t2, a1, b1⟩ := kk r u t T'.heap (locs ++ L) e1.symm (by rw [← e2]; exact X'.warmed.alike) hp hb k1 k2 k3 T' rfl X'
    exact ⟨t2, st t2 a1, b1⟩
  · obtain ⟨k1, k2, k3⟩ := vx_keep h0 e1 hS hAX hf hL hF
    obtain ⟨t2, a1, b1⟩ := kx E ce q u t T'.heap (locs ++ L) e1.symm (by rw [← e2]; exact X'.warmed.alike) hp hb k1 k2 k3 (by rw [e1]; exact hce) hcv hcl T' rfl X'
    exact ⟨t2, st.trans a1, b1⟩
theorem vx_calld {S SX : Type} {post : UInt64 → S → Prop} {px : SX → Prop} {B : S → State → Prop} {BX : String → SX → State → Prop} {AX : Nat → Prop} (hr : vx_Run p l e R s m args below meth c H locs cells slots mc ms (F0 m pc ls st0) rest (va_Qd post B A1 a) (vx_X px BX AX) free) (hS : va_S A0 H0 H locs) (hA : ∀ q, q < H.size → A1 q → A0 q) (hf : ∀ q, free q → A0 q) (hAX : ∀ q, q < H.size → AX q → A0 q)
    (kx : ∀ (E : String) (ce : Cell) (q9 : Addr) (u : SX) (t : State) (H1 : Heap) (locs1 : List Loc), t.heap = H1 → s.vm.Alike t.vm → px u → BX E u t → H.size ≤ H1.size → (∀ q : Nat, q < H.size → ¬ AX q → H1[q]? = H[q]?) → va_S A0 H0 H1 locs1 → H1[q9]? = some ce → ce.vm = .none → s.vm.findClass E = some ce.cls → vx_W p l e R s m args below meth c H1 locs1 (cells + mc) (slots + ms) Q (F0 m pc ls rest) q9)
    (kk : ∀ (r : UInt64) (u : S) (t : State) (H1 : Heap) (locs1 : List Loc), t.heap = H1 → s.vm.Alike t.vm → post r u → B u t → H.size ≤ H1.size → (∀ q : Nat, q < H.size → ¬ A1 q → H1[q]? = H[q]?) → va_S A0 H0 H1 locs1 → W p l e R s m args below meth c H1 locs1 (cells + mc) (slots + ms) Q (F0 m (pc + 3) ls (.double r :: rest))) : W p l e R s m args below meth c H locs cells slots Q (F0 m pc ls st0) := by
  intro T hT X
  rcases hr T hT X with ⟨v, st₀, t, T', L, h0, X', hL, e1, e2, ⟨⟨r, u, hv, hp, hb⟩, hF⟩, st⟩ | ⟨q, st₀, t, T', L, E, ce, h0, X', hL, e1, e2, ⟨u, hp, hb, hF⟩, hce, hcv, hcl, st⟩
  · cases hv
    obtain ⟨k1, k2, k3⟩ := vx_keep h0 e1 hS hA hf hL hF
    obtain ⟨t2, a1, b1⟩ := kk r u t T'.heap (locs ++ L) e1.symm (by rw [← e2]; exact X'.warmed.alike) hp hb k1 k2 k3 T' rfl X'
    exact ⟨t2, st t2 a1, b1⟩
  · obtain ⟨k1, k2, k3⟩ := vx_keep h0 e1 hS hAX hf hL hF
    obtain ⟨t2, a1, b1⟩ := kx E ce q u t T'.heap (locs ++ L) e1.symm (by rw [← e2]; exact X'.warmed.alike) hp hb k1 k2 k3 (by rw [e1]; exact hce) hcv hcl T' rfl X'
    exact ⟨t2, st.trans a1, b1⟩
theorem vx_callv {S SX : Type} {post : S → Prop} {px : SX → Prop} {B : S → State → Prop} {BX : String → SX → State → Prop} {AX : Nat → Prop} (hr : vx_Run p l e R s m args below meth c H locs cells slots mc ms (F0 m pc ls st0) rest (va_Qv post B A1 a) (vx_X px BX AX) free) (hS : va_S A0 H0 H locs) (hA : ∀ q, q < H.size → A1 q → A0 q) (hf : ∀ q, free q → A0 q) (hAX : ∀ q, q < H.size → AX q → A0 q)
    (kx : ∀ (E : String) (ce : Cell) (q9 : Addr) (u : SX) (t : State) (H1 : Heap) (locs1 : List Loc), t.heap = H1 → s.vm.Alike t.vm → px u → BX E u t → H.size ≤ H1.size → (∀ q : Nat, q < H.size → ¬ AX q → H1[q]? = H[q]?) → va_S A0 H0 H1 locs1 → H1[q9]? = some ce → ce.vm = .none → s.vm.findClass E = some ce.cls → vx_W p l e R s m args below meth c H1 locs1 (cells + mc) (slots + ms) Q (F0 m pc ls rest) q9)
    (kk : ∀ (u : S) (t : State) (H1 : Heap) (locs1 : List Loc), t.heap = H1 → s.vm.Alike t.vm → post u → B u t → H.size ≤ H1.size → (∀ q : Nat, q < H.size → ¬ A1 q → H1[q]? = H[q]?) → va_S A0 H0 H1 locs1 → W p l e R s m args below meth c H1 locs1 (cells + mc) (slots + ms) Q (F0 m (pc + 3) ls (rest))) : W p l e R s m args below meth c H locs cells slots Q (F0 m pc ls st0) := by
  intro T hT X
  rcases hr T hT X with ⟨v, st₀, t, T', L, h0, X', hL, e1, e2, ⟨⟨u, hv, hp, hb⟩, hF⟩, st⟩ | ⟨q, st₀, t, T', L, E, ce, h0, X', hL, e1, e2, ⟨u, hp, hb, hF⟩, hce, hcv, hcl, st⟩
  · cases hv
    obtain ⟨k1, k2, k3⟩ := vx_keep h0 e1 hS hA hf hL hF
    obtain ⟨t2, a1, b1⟩ := kk u t T'.heap (locs ++ L) e1.symm (by rw [← e2]; exact X'.warmed.alike) hp hb k1 k2 k3 T' rfl X'
    exact ⟨t2, st t2 a1, b1⟩
  · obtain ⟨k1, k2, k3⟩ := vx_keep h0 e1 hS hAX hf hL hF
    obtain ⟨t2, a1, b1⟩ := kx E ce q u t T'.heap (locs ++ L) e1.symm (by rw [← e2]; exact X'.warmed.alike) hp hb k1 k2 k3 (by rw [e1]; exact hce) hcv hcl T' rfl X'
    exact ⟨t2, st.trans a1, b1⟩
/-- caught by the row x of this method's table; the rows ahead don't take it -/
theorem vx_catch {own name : String} {E : String} {ce : Cell} {q : Addr} (hown : s.vm.findClass own = some m.cls) (pre : List ExceptionTableEntry) (x : ExceptionTableEntry) (suf : List ExceptionTableEntry) (hsplit : c.exceptionTable.toList = pre ++ x :: suf)
    (hpass : ∀ z ∈ pre, covers z pc = false ∨ (z.catchType ≠ 0 ∧ ∃ nm : String, (Cond.classLink own z.catchType nm).before args s = true ∧ va_Nc E nm s)) (hx : covers x pc = true) (h0 : x.catchType ≠ 0)
    (hlink : (Cond.classLink own x.catchType name).before args s = true) (hcast : (Cond.castable E name).before args s = true) (hcell : H[q]? = some ce) (hv : ce.vm = .none) (hcl : s.vm.findClass E = some ce.cls)
    (kk : W p l e R s m args below meth c H locs cells slots Q (F0 m x.handlerPc ls [.ref q])) : vx_W p l e R s m args below meth c H locs cells slots Q (F0 m pc ls rest) q := by
  intro T hT X
  have hpl : e.platform.magicAccessors = ({} : Platform).magicAccessors := by rw [X.admits.platform]
  obtain ⟨c3, c4, hc3, hc4, hasg⟩ := Cond.castable_spec hcast
  cases Option.some.inj (hc3.symm.trans hcl)
  obtain ⟨c5, hc5, hcl5⟩ := Cond.classLink_spec hown hlink e.platform hpl
  cases Option.some.inj (hc4.symm.trans hc5)
  obtain ⟨vm', X', st⟩ := X.thenCaughtThrough q (g := F0 m pc ls rest) rfl (Steps.refl _) (by rw [hT]; exact hcell) (by rw [hv]; rfl) (by obtain ⟨k9, h9, -⟩ := Vm.findClass_spec hcl; exact ⟨k9, h9⟩) pre x suf hsplit
    (fun z hz => by
      rcases hpass z hz with h | ⟨hz0, nm, hl1, hn1⟩
      · exact Or.inl h
      · obtain ⟨c6, hc6, hcl6⟩ := Cond.classLink_spec hown hl1 e.platform hpl
        obtain ⟨a8, b8, h1, h2, h3⟩ := hn1
        cases Option.some.inj (h1.symm.trans hcl)
        cases Option.some.inj (h2.symm.trans hc6)
        exact Or.inr ⟨hz0, _, hcl6, h3⟩) hx (Or.inr ⟨h0, c4, hcl5, hasg⟩)
  obtain ⟨t, a1, b1⟩ := kk (T.setVm vm') hT X'
  exact ⟨t, st.trans a1, b1⟩
end Rows
section Ends
variable {p : Program} {l : Launch} {e : Env} {R : Room} {s : State} {m : MethodId} {args : Array Value} {below : List Frame} {meth : Method} {c : Code} {H : Heap} {locs : List Loc} {cells slots : Nat} {Q : State → Prop}
variable {mc ms : Nat} {free : Addr → Prop} {A0 A1 : Nat → Prop} {H0 : Heap} {a : Array Value} {ls : Array Slot} {st0 rest : List Value}
variable {Qc : Array Value → State → Outcome → State → Prop} {XC : String → State → State → Prop}
/-- what a body that may throw owes at its end -/
def vx_MQ (below : List Frame) (Qc : Array Value → State → Outcome → State → Prop) (XC : String → State → State → Prop) (a : Array Value) (s : State) (mc ms : Nat) (free : Addr → Prop) : State → Prop := fun t =>
  ∃ o, t.status = .running ∧ Ended t below o ∧ vx_Q Qc XC mc ms free a s o t
theorem vx_ret {g : JFrame} {mc ms : Nat} (k : W p l e R s m args below meth c H locs cells slots (MQ below Qc args s mc ms free) g) : W p l e R s m args below meth c H locs cells slots (vx_MQ below Qc XC args s mc ms free) g := by
  intro T hT X
  obtain ⟨t, a1, o, b1, b2, b3, b4⟩ := k T hT X
  exact ⟨t, a1, o, b1, b2, Or.inl ⟨b3, b4⟩⟩
/-- not caught here: it goes on to the caller -/
theorem vx_widen {g : JFrame} {q : Addr} {k n : Nat} (h1 : cells ≤ k) (h2 : slots ≤ n) (kk : vx_W p l e R s m args below meth c H locs k n Q g q) : vx_W p l e R s m args below meth c H locs cells slots Q g q := fun T hT X => kk T hT (stand_widen X h1 h2)
theorem vx_out {pc : Nat} {E : String} {ce : Cell} {q : Addr} {mc ms : Nat} (hout : ∀ x ∈ c.exceptionTable.toList, covers x pc = false) (hlocks : meth.locks = false) (hcell : H[q]? = some ce) (hv : ce.vm = .none) (hcl : s.vm.findClass E = some ce.cls)
    (hx : ∀ t : State, t.heap = H → s.vm.Alike t.vm → XC E s t) (hf : ∀ z ∈ locs, free z.base) (hc : cells ≤ mc) (hs : slots ≤ ms) :
    vx_W p l e R s m args below meth c H locs cells slots (vx_MQ below Qc XC args s mc ms free) (F0 m pc ls rest) q := by
  intro T hT X
  obtain ⟨st1, hrun, hend, hW, hsm⟩ := X.leaveThrown q (g := F0 m pc ls rest) rfl rfl rfl hout hlocks
  have hcell9 : (T.setFrames (.throwing q :: below)).heap[q]? = some ce := by
    show T.heap[q]? = some ce
    rw [hT]; exact hcell
  exact ⟨_, st1, .threw q, hrun, hend, Or.inr ⟨q, rfl, E, ce, locs, hx _ hT hW.alike, hcell9, hv, hcl, hW, hsm.mono hc hs, hf⟩⟩
theorem vx_frame {U : State} {k n : Nat} (h : s.sameButNew ({ U with vm := s.vm } : State) locs k n) : s.heap.size ≤ U.heap.size ∧ ∀ q : Nat, q < s.heap.size → (∀ z ∈ locs, z.base ≠ q) → U.heap[q]? = s.heap[q]? := by
  obtain ⟨-, h2, -, -, -, h6⟩ := h
  refine ⟨h2, fun q hq hz => ?_⟩
  obtain ⟨c9, e1, e2, e3, e4⟩ := h6 q _ (Array.getElem?_eq_getElem hq)
  have hs : c9.slots = (s.heap[q]).slots := Array.ext_getElem? fun i => e4 i fun hm => hz _ hm rfl
  have h9 : c9 = s.heap[q] := by
    rw [hs] at e2
    exact e2
  have e5 : U.heap[q]? = some c9 := e1
  rw [e5, h9, Array.getElem?_eq_getElem hq]
/-- the words of a throw but the four that speak of the heap -/
def vx_no (w : Cond) : Bool := decide (w ≠ .isRef (.static Bundle.tN "UNASSIGNED_STACK" Bundle.steD)) && decide (w ≠ .isRef (.static Bundle.tN "SUPPRESSED_SENTINEL" Bundle.listD)) && decide (w ≠ .laysStatic Bundle.tN "UNASSIGNED_STACK" Bundle.steD) && decide (w ≠ .laysStatic Bundle.tN "SUPPRESSED_SENTINEL" Bundle.listD)
def vx_at0 (own : String) (ic : Nat) (X : String) (names : List String) : List Cond := (Bundle.ownAtoms0 own ic X names).filter vx_no
def vx_atS (own : String) (ic : Nat) (X : String) (names : List String) : List Cond := (Bundle.ownAtoms own ic X names).filter vx_no
/-- a word that the tables alone decide, or a good one -/
def vx_ot (w : Cond) : Bool := w.onTables || goodWord w
theorem vx_ot_at {args a' : Array Value} {s U : State} {w : Cond} (hW : s.WarmedH U.vm) (hvm : s.vm = U.vm) (hg : vx_ot w = true) (h : w.before args s = true) : w.before a' U = true := by
  simp only [vx_ot, Bool.or_eq_true] at hg
  rcases hg with hg | hg
  · exact va_tabs hg hvm h
  · exact word_at hW (good_of_word hg) h
/-- a list's words: the good ones out of the method's own list, the others by premises of their own -/
theorem vx_hat {args : Array Value} {s : State} {L B : List Cond} (h1 : ∀ w ∈ L.filter goodWord, w.before args s = true) (h2 : ∀ w ∈ L.filter (fun w => !goodWord w), w ∈ B) (h3 : ∀ w ∈ B, w.before args s = true) : ∀ w ∈ L, w.before args s = true := by
  intro w hw
  by_cases g : goodWord w = true
  · exact h1 w (List.mem_filter.mpr ⟨hw, g⟩)
  · refine h3 w (h2 w (List.mem_filter.mpr ⟨hw, ?_⟩))
    show (!goodWord w) = true
    cases hgw : goodWord w
    · rfl
    · exact absurd hgw g
theorem vx_c {args : Array Value} {s : State} {w : Cond} {B : List Cond} (h : w.before args s = true) (t : ∀ w ∈ B, w.before args s = true) : ∀ w' ∈ w :: B, w'.before args s = true := fun w' h' => (List.mem_cons.mp h').elim (fun e => by rw [e]; exact h) (t w')
theorem vx_n {args : Array Value} {s : State} : ∀ w ∈ ([] : List Cond), w.before args s = true := fun _ h => nomatch h
theorem vx_own {args : Array Value} {s : State} {L : List Cond} (h1 : ∀ w ∈ L.filter vx_no, w.before args s = true)
    (hU : (Cond.isRef (.static Bundle.tN "UNASSIGNED_STACK" Bundle.steD)).before args s = true) (hN : (Cond.isRef (.static Bundle.tN "SUPPRESSED_SENTINEL" Bundle.listD)).before args s = true)
    (lU : (Cond.laysStatic Bundle.tN "UNASSIGNED_STACK" Bundle.steD).before args s = true) (lN : (Cond.laysStatic Bundle.tN "SUPPRESSED_SENTINEL" Bundle.listD).before args s = true) : ∀ w ∈ L, w.before args s = true := by
  intro w hw
  by_cases e1 : w = .isRef (.static Bundle.tN "UNASSIGNED_STACK" Bundle.steD)
  · rw [e1]; exact hU
  · by_cases e2 : w = .isRef (.static Bundle.tN "SUPPRESSED_SENTINEL" Bundle.listD)
    · rw [e2]; exact hN
    · by_cases e3 : w = .laysStatic Bundle.tN "UNASSIGNED_STACK" Bundle.steD
      · rw [e3]; exact lU
      · by_cases e4 : w = .laysStatic Bundle.tN "SUPPRESSED_SENTINEL" Bundle.listD
        · rw [e4]; exact lN
        · exact h1 w (List.mem_filter.mpr ⟨hw, by unfold vx_no; rw [decide_eq_true e1, decide_eq_true e2, decide_eq_true e3, decide_eq_true e4]; rfl⟩)
/-- where a static field lies, its class's statics cell in H -/
def vx_L (C n d : String) (A : Nat → Prop) (U : State) (H : Heap) : Prop := ∃ (c : ClassId) (k : Class) (i : Nat) (f : Field) (a : Nat) (cell : Cell), U.vm.findClass C = some c ∧ U.fieldFound? C n d = some (c, k, i, f) ∧ f.isStatic = true ∧ k.statics = some a ∧ H[a]? = some cell ∧ cell.vm.isStatics = true ∧ cell.cls = c ∧ f.slot < cell.slots.size ∧ k.staticTypes[f.slot]? = some f.type ∧ ¬ A a
theorem vx_L.moved {C n d : String} {A : Nat → Prop} {u U : State} {H : Heap} (hvm : u.vm.Alike U.vm) (h : vx_L C n d A u H) : vx_L C n d A U H := by
  obtain ⟨c, k, i, f, a, cell, h1, h2, h3, h4, h5, h6, h7, h8, h9, h10⟩ := h
  obtain ⟨k', hi', he⟩ := State.fieldFound?_setVm hvm h2
  exact ⟨c, k', i, f, a, cell, by rw [hvm.findClass]; exact h1, hi', h3, by rw [he]; exact h4, h5, h6, h7, h8, by rw [he]; exact h9, h10⟩
theorem vx_L.kept {C n d : String} {A : Nat → Prop} {U : State} {H H1 : Heap} (h : vx_L C n d A U H) (hq : ∀ a : Nat, a < H.size → ¬ A a → H1[a]? = H[a]?) : vx_L C n d A U H1 := by
  obtain ⟨c, k, i, f, a, cell, h1, h2, h3, h4, h5, h6, h7, h8, h9, h10⟩ := h
  exact ⟨c, k, i, f, a, cell, h1, h2, h3, h4, by rw [hq a (Array.getElem?_eq_some_iff.mp h5).1 h10]; exact h5, h6, h7, h8, h9, h10⟩
theorem vx_L.narrow {C n d : String} {A B : Nat → Prop} {U : State} {H : Heap} (h : vx_L C n d A U H) (hAB : ∀ q, B q → A q) : vx_L C n d B U H := by
  obtain ⟨c, k, i, f, a, cell, h1, h2, h3, h4, h5, h6, h7, h8, h9, h10⟩ := h
  exact ⟨c, k, i, f, a, cell, h1, h2, h3, h4, h5, h6, h7, h8, h9, fun z => h10 (hAB _ z)⟩
theorem vx_L.word {C n d : String} {A : Nat → Prop} {s : State} {args : Array Value} (h : vx_L C n d A s s.heap) : (Cond.laysStatic C n d).before args s = true := by
  obtain ⟨c, k, i, f, a, cell, h1, h2, h3, h4, h5, h6, h7, h8, h9, -⟩ := h
  show (Cond.laysStatic C n d).holds args s none s [] = true
  exact Cond.laysStatic_of h1 h2 h3 h4 h5 h6 h7 h8 h9
/-- .. and what it holds: null or some reference -/
def vx_Zq (C n d : String) (A : Nat → Prop) (U : State) (H : Heap) : Prop := va_Zq C n d A U H ∧ vx_L C n d A U H
theorem vx_Zq.moved {C n d : String} {A : Nat → Prop} {u U : State} {H : Heap} (hvm : u.vm.Alike U.vm) (h : vx_Zq C n d A u H) : vx_Zq C n d A U H := ⟨va_Zq.moved hvm h.1, vx_L.moved hvm h.2⟩
theorem vx_Zq.kept {C n d : String} {A : Nat → Prop} {U : State} {H H1 : Heap} (h : vx_Zq C n d A U H) (hq : ∀ a : Nat, a < H.size → ¬ A a → H1[a]? = H[a]?) : vx_Zq C n d A U H1 := ⟨va_Zq.kept h.1 hq, vx_L.kept h.2 hq⟩
theorem vx_Zq.narrow {C n d : String} {A B : Nat → Prop} {U : State} {H : Heap} (h : vx_Zq C n d A U H) (hAB : ∀ q, B q → A q) : vx_Zq C n d B U H := ⟨va_Zq.narrow h.1 hAB, vx_L.narrow h.2 hAB⟩
theorem vx_Zqof {args : Array Value} {s : State} {C n d : String} {A : Nat → Prop} (hl : (Cond.laysStatic C n d).before args s = true) (hini : (Cond.initialized C).before args s = true) (h : (Cond.isRef (.static C n d)).before args s = true) (hA : ∀ a : Nat, a < s.heap.size → ¬ A a) : vx_Zq C n d A s s.heap := by
  refine ⟨va_Zqof hl hini h hA, ?_⟩
  obtain ⟨c, k, i, f, a, cell, h1, h2, h3, h4, h5, h6, h7, h8, h9⟩ := Cond.laysStatic_spec hl
  exact ⟨c, k, i, f, a, cell, h1, h2, h3, h4, h5, h6, h7, h8, h9, hA a (Array.getElem?_eq_some_iff.mp h5).1⟩
theorem vx_isRef {C n d : String} {v : Value} {A : Nat → Prop} {s : State} {args : Array Value} (h : va_Z C n d v A s s.heap) (hv : v.isRef = true) : (Cond.isRef (.static C n d)).before args s = true := by
  obtain ⟨cf, kf, fi, f, a, cell, h1, h2, h3, h4, h5, h6, h7, -⟩ := h
  have he : (Term.static C n d).eval args s none [] s = some v := by
    simp [Term.eval, State.fieldNamed?, h1, h2, h4, h5, h6, h7]
  simp only [Cond.before, Cond.holds, Cond.value, he]
  cases v <;> simp_all [Value.isRef]
theorem vx_isRefq {C n d : String} {A : Nat → Prop} {s : State} {args : Array Value} (h : va_Zq C n d A s s.heap) : (Cond.isRef (.static C n d)).before args s = true := by
  rcases h with h | ⟨t, h⟩
  · exact vx_isRef h rfl
  · exact vx_isRef h rfl
/-- the same frame, seen from here: as if the method were called anew in this heap -/
theorem vx_rebase {T : State} (X : Stand p l e R s m args below meth c T locs cells slots) {R' : Room} (hf : R'.frames ≤ R.frames) (hl : R'.locals ≤ R.locals) (hc : cells + R'.cells ≤ R.cells) (hs : slots + R'.slots ≤ R.slots) :
    Stand p l e R' ((T.setVm s.vm).setFrames (.invoking m args :: below)) m args below meth c T [] 0 0 := by
  have htop : (T.setVm s.vm).topJava?.isSome := X.here.top
  have hF : ((T.setVm s.vm).setFrames (.invoking m args :: below)).frames = .invoking m args :: below := State.frames_setFrames _ (State.cur_lt_of_top htop)
  obtain ⟨g₀, hg0⟩ := Option.isSome_iff_exists.mp htop
  obtain ⟨r, hr⟩ := State.topJava?_eq_some.mp hg0
  have hl9 : e.platform.stackLimits (T.setVm s.vm).me = e.platform.stackLimits s.me := X.limits
  have hb9 : (T.setVm s.vm).me.stackBytes = s.me.stackBytes := X.bytes
  refine ⟨X.admits, X.cas, X.clock, hF, ?_, X.hears, X.method, X.code, X.here, X.tail, X.warmed, ?_, ?_, ?_⟩
  · have h := X.room
    have hU : ((T.setVm s.vm).setFrames (.invoking m args :: below)).localsInUse = s.localsInUse := by
      rw [State.localsInUse_invoking hF (meth := meth) (c := c) X.method X.code, State.localsInUse_invoking X.frames X.method X.code]
    simp only [State.hasRoom, Bool.and_eq_true, decide_eq_true_eq] at h ⊢
    obtain ⟨⟨⟨⟨h1, h2, h3, h4, h5, h6⟩, h7⟩, h8⟩, h9⟩ := h
    rw [X.frames, List.length_cons] at h2 h3
    have q1 := X.heapSize
    have q2 := X.used
    simp only [hF, hU, List.length_cons, State.stackLimits_setFrames, State.stackBytes_setFrames, hl9, hb9]
    refine ⟨⟨⟨⟨by omega, by omega, by omega, by omega, by omega, h6⟩, ?_⟩, ?_⟩, X.book⟩
    · show T.heap.size + R'.cells ≤ e.platform.maxCells
      omega
    · show T.slotsUsed + R'.slots ≤ e.platform.maxSlots
      omega
  · rw [State.stackLimits_setFrames]; rfl
  · rw [State.stackBytes_setFrames]; rfl
  · refine ⟨?_, Nat.le_refl _, Nat.le_refl _, ?_, ?_, fun a c9 h9 => ⟨c9, h9, rfl, rfl, fun _ _ => rfl⟩⟩
    · obtain ⟨t, ht, -⟩ := State.frames_cons hr
      show T.setVm s.vm = { ((T.setVm s.vm).setFrames (.invoking m args :: below)).setFrames (T.setVm s.vm).frames with heap := T.heap, slotsUsed := T.slotsUsed }
      rw [State.setFrames_setFrames, State.setFrames_self ht]
      rfl
    · show T.slotsUsed = T.slotsUsed + ((T.heap.toList.drop T.heap.size).map (·.slots.size)).sum
      rw [List.drop_eq_nil_of_le (Nat.le_of_eq Array.length_toList)]
      rfl
    · show ((T.heap.toList.drop T.heap.size).map (·.slots.size)).sum ≤ 0
      rw [List.drop_eq_nil_of_le (Nat.le_of_eq Array.length_toList)]
      exact Nat.le_refl _
/-- 'throw new E()': new; dup; invokespecial; athrow -/
theorem vx_throw0 {cc : ByteArray} {pc : Nat} (hexec : p.tables.exec = Jvm.exec) (hb : c.code = cc) (hl : l.stackTraces = false) {own cls : String} {names : List String} {ik ic mc ms : Nat} {A : Nat → Prop}
    (hown : s.vm.findClass own = some m.cls) (hcls : Bundle.fit cls = true) (hnames : ∀ n ∈ names, Bundle.fit n = true)
    (hk : (Cond.classLink own ik cls).before args s = true) (hini : (Cond.initialized cls).before args s = true) (hat : ∀ w ∈ vx_at0 own ic cls names, w.before args s = true)
    (hgood : ∀ w ∈ Cond.classLink own ik cls :: Cond.initialized cls :: vx_at0 own ic cls names, vx_ot w = true)
    (hU : vx_Zq Bundle.tN "UNASSIGNED_STACK" Bundle.steD A s s.heap) (hN : vx_Zq Bundle.tN "SUPPRESSED_SENTINEL" Bundle.listD A s s.heap) (hS : va_S A s.heap H locs) (hsize : ls.size = c.maxLocals)
    (d0 : decode cc pc = .ok (.new ik, 3)) (d3 : decode cc (pc + 3) = .ok (.dup, 1)) (d4 : decode cc (pc + 4) = .ok (.invokespecial ic, 3)) (d7 : decode cc (pc + 7) = .ok (.athrow, 1))
    (hout : ∀ x ∈ c.exceptionTable.toList, covers x (pc + 7) = false)
    (hRframes : names.length + 3 < R.frames) (hRlocals : (rest.map fun v => v.category).sum + (13 * (names.length + 1) + 42) ≤ R.locals) (hRcells : cells + 1 ≤ R.cells) (hRslots : slots + 6 ≤ R.slots) (hlocks : meth.locks = false)
    (hx : ∀ t : State, s.vm.Alike t.vm → H.size ≤ t.heap.size → (∀ q : Nat, q < H.size → t.heap[q]? = H[q]?) → XC cls s t)
    (hf : ∀ z ∈ locs, free z.base) (hc : cells + 1 ≤ mc) (hs : slots + 6 ≤ ms) :
    W p l e R s m args below meth c H locs cells slots (vx_MQ below Qc XC args s mc ms free) (F0 m pc ls rest) := by
  intro T hT X
  have htr : e.platform.stackTraces = false := (show e.platform.stackTraces = l.stackTraces by rw [X.admits.platform]).trans hl
  have Y := vx_rebase X (R' := { frames := R.frames, locals := R.locals, cells := 1, slots := 6 }) (Nat.le_refl _) (Nat.le_refl _) hRcells hRslots
  obtain ⟨s', hA⟩ : ∃ z, z = (T.setVm s.vm).setFrames (.invoking m args :: below) := ⟨_, rfl⟩
  rw [← hA] at Y
  have hvm : s'.vm = s.vm := by rw [hA]; rfl
  have hhp : s'.heap = H := by rw [hA]; exact hT
  have hW0 : s.WarmedH s'.vm := by rw [hvm]; exact State.WarmedH.refl s
  have hat' : ∀ w ∈ vx_at0 own ic cls names, w.before args s' = true := fun w hw => vx_ot_at hW0 hvm.symm (hgood w (List.mem_cons_of_mem _ (List.mem_cons_of_mem _ hw))) (hat w hw)
  have hk' : (Cond.classLink own ik cls).before args s' = true := vx_ot_at hW0 hvm.symm (hgood _ List.mem_cons_self) hk
  have hini' : (Cond.initialized cls).before args s' = true := vx_ot_at hW0 hvm.symm (hgood _ (List.mem_cons_of_mem _ List.mem_cons_self)) hini
  have hU' : vx_Zq Bundle.tN "UNASSIGNED_STACK" Bundle.steD A s' s'.heap := by rw [hhp]; exact vx_Zq.moved hW0.alike (hU.kept hS.2.1)
  have hN' : vx_Zq Bundle.tN "SUPPRESSED_SENTINEL" Bundle.listD A s' s'.heap := by rw [hhp]; exact vx_Zq.moved hW0.alike (hN.kept hS.2.1)
  have h : ∀ w ∈ Bundle.ownAtoms0 own ic cls names, w.before args s' = true := vx_own hat' (vx_isRefq hU'.1) (vx_isRefq hN'.1) hU'.2.word hN'.2.word
  have hown' : s'.vm.findClass own = some m.cls := by rw [hvm]; exact hown
  have hins : (Cond.instantiable cls 6).before args s' = true := h _ (by simp [Bundle.ownAtoms0])
  obtain ⟨vm₁, cX, kX, hfX, hkX, -, -, X₁, st1⟩ := Y.newCold hexec (own := own) (C := cls) (index := ik) (n := 6) hown' hk' hins hini'
    (g := F0 m pc ls rest) rfl (by rw [hb]; exact d0) (Nat.le_refl _) (Nat.le_refl _)
  generalize hT1 : (T.setVm vm₁).pushCell { cls := cX, slots := kX.instanceTypes.map defaultValue, vm := .none } = T1 at X₁ st1
  have hcat : (Value.ref T.heap.size).category = 1 := rfl
  have hcellA : T1.heap[T.heap.size]? = some (freshCell cX kX) := by rw [← hT1]; exact State.heap_pushCell_size _ _
  have d3' : decode c.code (pc + 3) = .ok (.dup, 1) := by rw [hb]; exact d3
  obtain ⟨U, hsteps, hrun, hend, hW, hsame, ce, hce, hO⟩ := X₁.ctorThrow0 hexec htr (own := own) (cls := cls) (names := names) (ic := ic) hown' hcls hnames h (fun x hx => nomatch hx) hfX hkX hcellA (by rw [hhp, hT]; exact Nat.le_refl _)
    (g := { method := m, pc := pc + 4, locals := ls, stack := .ref T.heap.size :: .ref T.heap.size :: rest, locked := none }) rfl hsize rfl rfl (rest := rest) rfl
    (by rw [hb]; exact d4) (by rw [hb]; exact d7) hout hRframes (by simp only [List.map_cons, List.sum_cons, hcat]; omega) hlocks
  obtain ⟨f1, f2⟩ := vx_frame hsame
  rw [hhp] at f1 f2
  have hWs : s.WarmedH U.vm := State.WarmedH.trans hW0 hW
  have hcl : s.vm.findClass cls = some ce.cls := by
    have h9 := hO.cls
    rw [hvm] at h9
    exact h9
  have hall : s.sameButNew ({ U with vm := s.vm } : State) locs mc ms := by
    subst hA
    obtain ⟨e1, e2⟩ := hsame
    rw [State.setFrames_setFrames] at e1
    have h2 : (T.setVm s.vm).sameButNew ({ U with vm := s.vm } : State) [] (0 + 1) (0 + 6) := ⟨e1, e2⟩
    have h3 := X.same.trans h2
    rw [List.append_nil] at h3
    exact h3.mono hc hs
  refine ⟨U, ?_, .threw T.heap.size, hrun, hend, Or.inr ⟨T.heap.size, rfl, cls, ce, locs, hx U hWs.alike f1 (fun q hq => f2 q hq (fun z hz => nomatch hz)), hce, hO.vm, hcl, hWs, hall, hf⟩⟩
  refine st1 _ ?_
  show Steps p.tables e below (T1.setTop { method := m, pc := pc + 3, locals := ls, stack := .ref T.heap.size :: rest, locked := none }) _
  jvm_step X₁.here [X₁.here.top, hexec, d3', Value.category]
  exact hsteps
/-- 'throw new E("text")': new; dup; ldc; invokespecial; athrow -/
theorem vx_throwS {cc : ByteArray} {pc : Nat} (hexec : p.tables.exec = Jvm.exec) (hb : c.code = cc) (hl : l.stackTraces = false) {own cls text : String} {names : List String} {ik is ic mc ms sa : Nat} {A : Nat → Prop}
    (hown : s.vm.findClass own = some m.cls) (hcls : Bundle.fit cls = true) (hnames : ∀ n ∈ names, Bundle.fit n = true)
    (hk : (Cond.classLink own ik cls).before args s = true) (hini : (Cond.initialized cls).before args s = true) (hstr : vk_R own is text sa s) (hat : ∀ w ∈ vx_atS own ic cls names, w.before args s = true)
    (hgood : ∀ w ∈ Cond.classLink own ik cls :: Cond.initialized cls :: vx_atS own ic cls names, vx_ot w = true)
    (hU : vx_Zq Bundle.tN "UNASSIGNED_STACK" Bundle.steD A s s.heap) (hN : vx_Zq Bundle.tN "SUPPRESSED_SENTINEL" Bundle.listD A s s.heap) (hS : va_S A s.heap H locs) (hsize : ls.size = c.maxLocals)
    (d0 : decode cc pc = .ok (.new ik, 3)) (d3 : decode cc (pc + 3) = .ok (.dup, 1)) (d4 : decode cc (pc + 4) = .ok (.ldc is, 2)) (d6 : decode cc (pc + 6) = .ok (.invokespecial ic, 3)) (d9 : decode cc (pc + 9) = .ok (.athrow, 1))
    (hout : ∀ x ∈ c.exceptionTable.toList, covers x (pc + 9) = false)
    (hRframes : names.length + 3 < R.frames) (hRlocals : (rest.map fun v => v.category).sum + (13 * (names.length + 1) + 43) ≤ R.locals) (hRcells : cells + 1 ≤ R.cells) (hRslots : slots + 6 ≤ R.slots) (hlocks : meth.locks = false)
    (hx : ∀ t : State, s.vm.Alike t.vm → H.size ≤ t.heap.size → (∀ q : Nat, q < H.size → t.heap[q]? = H[q]?) → XC cls s t)
    (hf : ∀ z ∈ locs, free z.base) (hc : cells + 1 ≤ mc) (hs : slots + 6 ≤ ms) :
    W p l e R s m args below meth c H locs cells slots (vx_MQ below Qc XC args s mc ms free) (F0 m pc ls rest) := by
  intro T hT X
  have htr : e.platform.stackTraces = false := (show e.platform.stackTraces = l.stackTraces by rw [X.admits.platform]).trans hl
  have Y := vx_rebase X (R' := { frames := R.frames, locals := R.locals, cells := 1, slots := 6 }) (Nat.le_refl _) (Nat.le_refl _) hRcells hRslots
  obtain ⟨s', hA⟩ : ∃ z, z = (T.setVm s.vm).setFrames (.invoking m args :: below) := ⟨_, rfl⟩
  rw [← hA] at Y
  have hvm : s'.vm = s.vm := by rw [hA]; rfl
  have hhp : s'.heap = H := by rw [hA]; exact hT
  have hW0 : s.WarmedH s'.vm := by rw [hvm]; exact State.WarmedH.refl s
  have hat' : ∀ w ∈ vx_atS own ic cls names, w.before args s' = true := fun w hw => vx_ot_at hW0 hvm.symm (hgood w (List.mem_cons_of_mem _ (List.mem_cons_of_mem _ hw))) (hat w hw)
  have hk' : (Cond.classLink own ik cls).before args s' = true := vx_ot_at hW0 hvm.symm (hgood _ List.mem_cons_self) hk
  have hini' : (Cond.initialized cls).before args s' = true := vx_ot_at hW0 hvm.symm (hgood _ (List.mem_cons_of_mem _ List.mem_cons_self)) hini
  have hU' : vx_Zq Bundle.tN "UNASSIGNED_STACK" Bundle.steD A s' s'.heap := by rw [hhp]; exact vx_Zq.moved hW0.alike (hU.kept hS.2.1)
  have hN' : vx_Zq Bundle.tN "SUPPRESSED_SENTINEL" Bundle.listD A s' s'.heap := by rw [hhp]; exact vx_Zq.moved hW0.alike (hN.kept hS.2.1)
  have h : ∀ w ∈ Bundle.ownAtoms own ic cls names, w.before args s' = true := vx_own hat' (vx_isRefq hU'.1) (vx_isRefq hN'.1) hU'.2.word hN'.2.word
  have hown' : s'.vm.findClass own = some m.cls := by rw [hvm]; exact hown
  have hins : (Cond.instantiable cls 6).before args s' = true := h _ (by simp [Bundle.ownAtoms])
  obtain ⟨vm₁, cX, kX, hfX, hkX, -, -, X₁, st1⟩ := Y.newCold hexec (own := own) (C := cls) (index := ik) (n := 6) hown' hk' hins hini'
    (g := F0 m pc ls rest) rfl (by rw [hb]; exact d0) (Nat.le_refl _) (Nat.le_refl _)
  generalize hT1 : (T.setVm vm₁).pushCell { cls := cX, slots := kX.instanceTypes.map defaultValue, vm := .none } = T1 at X₁ st1
  have hcat : (Value.ref T.heap.size).category = 1 := rfl
  have hcellA : T1.heap[T.heap.size]? = some (freshCell cX kX) := by rw [← hT1]; exact State.heap_pushCell_size _ _
  have d3' : decode c.code (pc + 3) = .ok (.dup, 1) := by rw [hb]; exact d3
  have d4' : decode c.code (pc + 4) = .ok (.ldc is, 2) := by rw [hb]; exact d4
  have hstr' : vk_R own is text sa s' := vk_R.warm hW0 hstr
  obtain ⟨U, hsteps, hrun, hend, hW, hsame, ce, hce, hO⟩ := X₁.ctorThrowS hexec htr (own := own) (cls := cls) (names := names) (ic := ic) hown' hcls hnames h (fun x hx => nomatch hx) hfX hkX hcellA (by rw [hhp, hT]; exact Nat.le_refl _) (msg := .ref sa) rfl
    (g := { method := m, pc := pc + 6, locals := ls, stack := .ref sa :: .ref T.heap.size :: .ref T.heap.size :: rest, locked := none }) rfl hsize rfl rfl (rest := rest) rfl
    (by rw [hb]; exact d6) (by rw [hb]; exact d9) hout hRframes (by simp only [List.map_cons, List.sum_cons, hcat]; omega) hlocks
  obtain ⟨f1, f2⟩ := vx_frame hsame
  rw [hhp] at f1 f2
  have hWs : s.WarmedH U.vm := State.WarmedH.trans hW0 hW
  have hcl : s.vm.findClass cls = some ce.cls := by
    have h9 := hO.cls
    rw [hvm] at h9
    exact h9
  have hall : s.sameButNew ({ U with vm := s.vm } : State) locs mc ms := by
    subst hA
    obtain ⟨e1, e2⟩ := hsame
    rw [State.setFrames_setFrames] at e1
    have h2 : (T.setVm s.vm).sameButNew ({ U with vm := s.vm } : State) [] (0 + 1) (0 + 6) := ⟨e1, e2⟩
    have h3 := X.same.trans h2
    rw [List.append_nil] at h3
    exact h3.mono hc hs
  refine ⟨U, ?_, .threw T.heap.size, hrun, hend, Or.inr ⟨T.heap.size, rfl, cls, ce, locs, hx U hWs.alike f1 (fun q hq => f2 q hq (fun z hz => nomatch hz)), hce, hO.vm, hcl, hWs, hall, hf⟩⟩
  refine st1 _ ?_
  show Steps p.tables e below (T1.setTop { method := m, pc := pc + 3, locals := ls, stack := .ref T.heap.size :: rest, locked := none }) _
  jvm_step X₁.here [X₁.here.top, hexec, d3', Value.category]
  exact X₁.ldcString hexec (own := own) (text := text) (index := is) (a := sa) hown' hstr'.1 hstr'.2
    (g := { method := m, pc := pc + 4, locals := ls, stack := .ref T.heap.size :: .ref T.heap.size :: rest, locked := none }) rfl d4' _ hsteps
/-- 'throw new E("text")', the text by a wide index -/
theorem vx_throwSW {cc : ByteArray} {pc : Nat} (hexec : p.tables.exec = Jvm.exec) (hb : c.code = cc) (hl : l.stackTraces = false) {own cls text : String} {names : List String} {ik is ic mc ms sa : Nat} {A : Nat → Prop}
    (hown : s.vm.findClass own = some m.cls) (hcls : Bundle.fit cls = true) (hnames : ∀ n ∈ names, Bundle.fit n = true)
    (hk : (Cond.classLink own ik cls).before args s = true) (hini : (Cond.initialized cls).before args s = true) (hstr : vk_R own is text sa s) (hat : ∀ w ∈ vx_atS own ic cls names, w.before args s = true)
    (hgood : ∀ w ∈ Cond.classLink own ik cls :: Cond.initialized cls :: vx_atS own ic cls names, vx_ot w = true)
    (hU : vx_Zq Bundle.tN "UNASSIGNED_STACK" Bundle.steD A s s.heap) (hN : vx_Zq Bundle.tN "SUPPRESSED_SENTINEL" Bundle.listD A s s.heap) (hS : va_S A s.heap H locs) (hsize : ls.size = c.maxLocals)
    (d0 : decode cc pc = .ok (.new ik, 3)) (d3 : decode cc (pc + 3) = .ok (.dup, 1)) (d4 : decode cc (pc + 4) = .ok (.ldc_w is, 3)) (d7 : decode cc (pc + 7) = .ok (.invokespecial ic, 3)) (d10 : decode cc (pc + 10) = .ok (.athrow, 1))
    (hout : ∀ x ∈ c.exceptionTable.toList, covers x (pc + 10) = false)
    (hRframes : names.length + 3 < R.frames) (hRlocals : (rest.map fun v => v.category).sum + (13 * (names.length + 1) + 43) ≤ R.locals) (hRcells : cells + 1 ≤ R.cells) (hRslots : slots + 6 ≤ R.slots) (hlocks : meth.locks = false)
    (hx : ∀ t : State, s.vm.Alike t.vm → H.size ≤ t.heap.size → (∀ q : Nat, q < H.size → t.heap[q]? = H[q]?) → XC cls s t)
    (hf : ∀ z ∈ locs, free z.base) (hc : cells + 1 ≤ mc) (hs : slots + 6 ≤ ms) :
    W p l e R s m args below meth c H locs cells slots (vx_MQ below Qc XC args s mc ms free) (F0 m pc ls rest) := by
  intro T hT X
  have htr : e.platform.stackTraces = false := (show e.platform.stackTraces = l.stackTraces by rw [X.admits.platform]).trans hl
  have Y := vx_rebase X (R' := { frames := R.frames, locals := R.locals, cells := 1, slots := 6 }) (Nat.le_refl _) (Nat.le_refl _) hRcells hRslots
  obtain ⟨s', hA⟩ : ∃ z, z = (T.setVm s.vm).setFrames (.invoking m args :: below) := ⟨_, rfl⟩
  rw [← hA] at Y
  have hvm : s'.vm = s.vm := by rw [hA]; rfl
  have hhp : s'.heap = H := by rw [hA]; exact hT
  have hW0 : s.WarmedH s'.vm := by rw [hvm]; exact State.WarmedH.refl s
  have hat' : ∀ w ∈ vx_atS own ic cls names, w.before args s' = true := fun w hw => vx_ot_at hW0 hvm.symm (hgood w (List.mem_cons_of_mem _ (List.mem_cons_of_mem _ hw))) (hat w hw)
  have hk' : (Cond.classLink own ik cls).before args s' = true := vx_ot_at hW0 hvm.symm (hgood _ List.mem_cons_self) hk
  have hini' : (Cond.initialized cls).before args s' = true := vx_ot_at hW0 hvm.symm (hgood _ (List.mem_cons_of_mem _ List.mem_cons_self)) hini
  have hU' : vx_Zq Bundle.tN "UNASSIGNED_STACK" Bundle.steD A s' s'.heap := by rw [hhp]; exact vx_Zq.moved hW0.alike (hU.kept hS.2.1)
  have hN' : vx_Zq Bundle.tN "SUPPRESSED_SENTINEL" Bundle.listD A s' s'.heap := by rw [hhp]; exact vx_Zq.moved hW0.alike (hN.kept hS.2.1)
  have h : ∀ w ∈ Bundle.ownAtoms own ic cls names, w.before args s' = true := vx_own hat' (vx_isRefq hU'.1) (vx_isRefq hN'.1) hU'.2.word hN'.2.word
  have hown' : s'.vm.findClass own = some m.cls := by rw [hvm]; exact hown
  have hins : (Cond.instantiable cls 6).before args s' = true := h _ (by simp [Bundle.ownAtoms])
  obtain ⟨vm₁, cX, kX, hfX, hkX, -, -, X₁, st1⟩ := Y.newCold hexec (own := own) (C := cls) (index := ik) (n := 6) hown' hk' hins hini'
    (g := F0 m pc ls rest) rfl (by rw [hb]; exact d0) (Nat.le_refl _) (Nat.le_refl _)
  generalize hT1 : (T.setVm vm₁).pushCell { cls := cX, slots := kX.instanceTypes.map defaultValue, vm := .none } = T1 at X₁ st1
  have hcat : (Value.ref T.heap.size).category = 1 := rfl
  have hcellA : T1.heap[T.heap.size]? = some (freshCell cX kX) := by rw [← hT1]; exact State.heap_pushCell_size _ _
  have d3' : decode c.code (pc + 3) = .ok (.dup, 1) := by rw [hb]; exact d3
  have d4' : decode c.code (pc + 4) = .ok (.ldc_w is, 3) := by rw [hb]; exact d4
  have hstr' : vk_R own is text sa s' := vk_R.warm hW0 hstr
  obtain ⟨U, hsteps, hrun, hend, hW, hsame, ce, hce, hO⟩ := X₁.ctorThrowS hexec htr (own := own) (cls := cls) (names := names) (ic := ic) hown' hcls hnames h (fun x hx => nomatch hx) hfX hkX hcellA (by rw [hhp, hT]; exact Nat.le_refl _) (msg := .ref sa) rfl
    (g := { method := m, pc := pc + 7, locals := ls, stack := .ref sa :: .ref T.heap.size :: .ref T.heap.size :: rest, locked := none }) rfl hsize rfl rfl (rest := rest) rfl
    (by rw [hb]; exact d7) (by rw [hb]; exact d10) hout hRframes (by simp only [List.map_cons, List.sum_cons, hcat]; omega) hlocks
  obtain ⟨f1, f2⟩ := vx_frame hsame
  rw [hhp] at f1 f2
  have hWs : s.WarmedH U.vm := State.WarmedH.trans hW0 hW
  have hcl : s.vm.findClass cls = some ce.cls := by
    have h9 := hO.cls
    rw [hvm] at h9
    exact h9
  have hall : s.sameButNew ({ U with vm := s.vm } : State) locs mc ms := by
    subst hA
    obtain ⟨e1, e2⟩ := hsame
    rw [State.setFrames_setFrames] at e1
    have h2 : (T.setVm s.vm).sameButNew ({ U with vm := s.vm } : State) [] (0 + 1) (0 + 6) := ⟨e1, e2⟩
    have h3 := X.same.trans h2
    rw [List.append_nil] at h3
    exact h3.mono hc hs
  refine ⟨U, ?_, .threw T.heap.size, hrun, hend, Or.inr ⟨T.heap.size, rfl, cls, ce, locs, hx U hWs.alike f1 (fun q hq => f2 q hq (fun z hz => nomatch hz)), hce, hO.vm, hcl, hWs, hall, hf⟩⟩
  refine st1 _ ?_
  show Steps p.tables e below (T1.setTop { method := m, pc := pc + 3, locals := ls, stack := .ref T.heap.size :: rest, locked := none }) _
  jvm_step X₁.here [X₁.here.top, hexec, d3', Value.category]
  exact X₁.ldcStringW hexec (own := own) (text := text) (index := is) (a := sa) hown' hstr'.1 hstr'.2
    (g := { method := m, pc := pc + 4, locals := ls, stack := .ref T.heap.size :: .ref T.heap.size :: rest, locked := none }) rfl d4' _ hsteps
end Ends
section Bodies
variable {l : Launch}
theorem vx_ofW {y : MethodName} {ws ws' : List Cond} {rm : Room} {Pc : Array Value → State → Prop} {Qc : Array Value → State → Outcome → State → Prop} {XC : String → State → State → Prop} {mc ms : Nat} {free : Addr → Prop} {cc : ByteArray} {maxL : Nat} {ret : Option FieldType}
    (hy : plainName y.cls = true) (hw : ws = Cond.code y cc maxL ret :: ws')
    (body : ∀ p e s m args below meth c s₁, BodyLoose p l y (headSpec ws rm) cc maxL ret e s m args below meth c s₁ → c.maxLocals = maxL → (∀ x ∈ c.exceptionTable.toList, False) → Pc args s →
      W p l e (headSpec ws rm).room s m args below meth c s.heap [] 0 0 (vx_MQ below Qc XC args s mc ms free) (entryFrame m args maxL)) : vx_Met l y ws rm Pc Qc XC mc ms free := by
  refine MetFree.of_bodyS (code := cc) (maxLocals := maxL) (ret := ret) hy ?_ ?_
  · intro args s m h hn
    obtain ⟨meth, c, h1, h2, h3, h4, h5, h6, -, -⟩ := Cond.code_spec hn (atoms_spec (ws := ws) h _ (by rw [hw]; exact List.mem_cons_self))
    exact ⟨meth, c, h1, h2, h3, h4, h5, h6⟩
  · intro p e s m args below meth c s₁ B hml hP _
    have hh0 : s₁.heap = s.heap := by rw [B.state]; rfl
    have ht : ∀ x ∈ c.exceptionTable.toList, False := by
      obtain ⟨meth9, c9, h1, h2, -, -, -, -, h7, -⟩ := Cond.code_spec B.named (atoms_spec (ws := ws) B.pre _ (by rw [hw]; exact List.mem_cons_self))
      cases Option.some.inj (h1.symm.trans B.method)
      cases Option.some.inj (h2.symm.trans (Stand.of_body B).code)
      intro x hx
      rw [Array.isEmpty_iff.mp h7] at hx
      cases hx
    obtain ⟨t, a1, o, b1, b2, b3⟩ := body p e s m args below meth c s₁ B hml ht hP s₁ hh0 (Stand.of_body B)
    exact ⟨t, o, a1, b1, b2, b3⟩
/-- the table of a body with handlers -/
theorem vx_table {p : Program} {x y : MethodName} {S : Spec} {cc bytes : ByteArray} {maxL maxL' : Nat} {ret ret' : Option FieldType} {e : Env} {s s₁ : State} {m : MethodId} {args : Array Value} {below : List Frame} {meth : Method} {c : Code} {hh : List (Nat × Nat × Nat × Nat)}
    (B : BodyLoose p l y S cc maxL ret e s m args below meth c s₁) (h : (Cond.codeWith y bytes maxL' ret' hh).before args s = true) : c.exceptionTable.toList = tableOf hh := by
  obtain ⟨m9, meth9, c9, hn9, h1, h2, -, -, h6, -⟩ := Cond.codeWith_spec h
  cases Option.some.inj (hn9.symm.trans B.named)
  cases Option.some.inj (h1.symm.trans B.method)
  cases Option.some.inj (h2.symm.trans (Stand.of_body B).code)
  rw [← h6, table_eq]
end Bodies
end VXA
/-! ===== END ===== -/
/-! ===== BEGIN a static call of a method with an exception table ===== -/
section VXS
variable {p : Program} {l : Launch} {e : Env} {R : Room} {s : State} {m : MethodId} {args : Array Value} {below : List Frame} {meth : Method} {c : Code} {T : State} {H : Heap} {locs : List Loc} {cells slots : Nat}
abbrev vx_CSW (R : Room) (s : State) (args : Array Value) (own : String) (index : Nat) (y : MethodName) (bytes : ByteArray) (maxL : Nat) (ret : Option FieldType) (hh : List (Nat × Nat × Nat × Nat)) (ws : List Cond) (rm : Room) (mc ms n : Nat) : Prop :=
  (rm.cells = mc ∧ rm.slots = ms ∧ rm.frames + 1 ≤ R.frames ∧ 8 + (maxL + 11) + rm.locals ≤ R.locals ∧ (∀ w ∈ ws, ∀ (a' : Array Value) (U : State), s.WarmedH U.vm → w.before a' U = true) ∧ Cond.codeWith y bytes maxL ret hh ∈ ws) ∧
  (Cond.codeWith y bytes maxL ret hh).before args s = true ∧ (Cond.initialized y.cls).before args s = true ∧ (y.cls ≠ "java/lang/invoke/MethodHandle" ∧ y.cls ≠ "java/lang/invoke/VarHandle") ∧
  (∀ sig, parseMethodDescriptor y.desc = some sig → n = sig.parameters.length) ∧ (Cond.methodLink own index y).before args s = true ∧ (Cond.static y).before args s = true
theorem vx_cwSW {own : String} {index maxL mc ms : Nat} {y : MethodName} {bytes : ByteArray} {ret : Option FieldType} {hh : List (Nat × Nat × Nat × Nat)} {Ts ws ws' : List Cond} {rm : Room} (n : Nat) (ht : ∀ w ∈ Ts, w.before args s = true) (hT : GoodIn Ts (va_wsS own index y ws)) (hw : ws = Cond.codeWith y bytes maxL ret hh :: ws') (hrc : rm.cells = mc) (hrs : rm.slots = ms)
    (hd : y.cls ≠ "java/lang/invoke/MethodHandle" ∧ y.cls ≠ "java/lang/invoke/VarHandle" ∧ (parseMethodDescriptor y.desc).map (fun d => d.parameters.length) = some n) (hR : rm.frames + 1 ≤ R.frames ∧ 8 + (maxL + 11) + rm.locals ≤ R.locals) :
    vx_CSW R s args own index y bytes maxL ret hh ws rm mc ms n := by
  have ok : ∀ w ∈ va_wsS own index y ws, w.before args s = true := fun w h => ht w (hT w h).1
  have hG : GoodIn Ts ws := fun w h => hT w (by unfold va_wsS; exact List.mem_append_right _ h)
  have hc : Cond.codeWith y bytes maxL ret hh ∈ ws := by rw [hw]; exact List.mem_cons_self
  refine ⟨⟨hrc, hrs, hR.1, hR.2, pay_in ht hG, hc⟩, ht _ (hG _ hc).1, ok _ (by simp [va_wsS]), ⟨hd.1, hd.2.1⟩, fun sig h => ?_, ok _ (by simp [va_wsS]), ok _ (by simp [va_wsS])⟩
  have h2 := hd.2.2
  rw [h] at h2
  exact (Option.some.inj h2).symm
theorem vx_callSW (X : Stand p l e R s m args below meth c T locs cells slots) (hexec : p.tables.exec = Jvm.exec) {own : String} {index : Nat} {y : MethodName} {bytes : ByteArray} {maxL : Nat} {ret : Option FieldType} {hh : List (Nat × Nat × Nat × Nat)}
    (hown : s.vm.findClass own = some m.cls) (hlink : (Cond.methodLink own index y).before args s = true) (hstat : (Cond.static y).before args s = true) (hinit : (Cond.initialized y.cls).before args s = true)
    (hcode : (Cond.codeWith y bytes maxL ret hh).before args s = true) (hy : y.cls ≠ "java/lang/invoke/MethodHandle" ∧ y.cls ≠ "java/lang/invoke/VarHandle")
    {W9 : Nat} {Pre : Pt → Array Value → Prop} {Post : Pt → Array Value → Option Value → Pt → Prop} (hK : Back l R p e below s args y 3 W9 Pre Post)
    {g : JFrame} (hg : g.method = m) (hsize : g.locals.size = c.maxLocals) {argsL rest : List Value} (hlen : ∀ sig, parseMethodDescriptor y.desc = some sig → argsL.length = sig.parameters.length)
    (hstack : g.stack = argsL.reverse ++ rest) (hW : 2 * g.monitorRoom + (rest.map fun v => v.category).sum ≤ W9) (hdg : decode c.code g.pc = .ok (.invokestatic index, 3))
    (hpre : ∀ vm₁, s.WarmedH vm₁ → Pre ⟨T.setVm vm₁, locs, cells, slots⟩ argsL.toArray) :
    ∃ (v : Option Value) (vm₁ : Vm) (B : Pt), s.WarmedH vm₁ ∧ Stand p l e R s m args below meth c B.U B.locs B.cells B.slots ∧ Post ⟨T.setVm vm₁, locs, cells, slots⟩ argsL.toArray v B ∧
      ∀ target, Steps p.tables e below (B.U.setTop { g with pc := g.pc + 3, stack := v.toList ++ rest }) target → Steps p.tables e below (T.setTop g) target := by
  obtain ⟨mk, methM, cM, hnamed, hmethM, -, -, -, -, -, -, hsigM⟩ := Cond.codeWith_spec hcode
  have hstatic : methM.isStatic = true := Cond.static_spec hnamed hmethM hstat
  obtain ⟨kP, hkP, -⟩ := className_of_methodNamed hnamed
  have hinitP : kP.init = .initialized := Cond.initialized_spec (findClass_of_methodNamed hnamed) hkP hinit
  obtain ⟨vm₁, X₁, hstep₁⟩ := X.invokestatic hexec hown hlink hnamed hmethM hstatic hkP hinitP hy (g := g) hg (argsL := argsL) (rest := rest) (hlen _ hsigM) hstack hdg
  obtain ⟨v, B, X', hpost, hsteps⟩ := hK m meth c ⟨T.setVm vm₁, locs, cells, slots⟩ { g with stack := rest } (.invokestatic index) mk argsL.toArray X₁ hg hsize hdg hW (X₁.named hnamed) (hpre vm₁ X₁.warmed)
  exact ⟨v, vm₁, B, X₁.warmed, X', hpost, fun target h => hstep₁ _ fun acts => by rw [doInvoke_state]; exact hsteps.trans h⟩
theorem vx_runSW {y : MethodName} {bytes cc : ByteArray} {maxL nL mc ms n index : Nat} {ret : Option FieldType} {hh : List (Nat × Nat × Nat × Nat)} {ws : List Cond} {rm : Room} {Pc : Array Value → State → Prop} {Qc : Array Value → State → Outcome → State → Prop} {free : Addr → Prop} {Ts : List Cond} {own : String} {As rest : List Value} {g : JFrame}
    (S : CallFix p m c cc nL s args Ts own) (hM : Met l y ws rm Pc Qc mc ms free) (cw : vx_CSW R s args own index y bytes maxL ret hh ws rm mc ms n) (hp : PreS s H Pc As)
    (hg : g.method = m) (hn : As.length = n) (hsize : g.locals.size = nL) (hstack : g.stack = As.reverse ++ rest) (hW : 2 * g.monitorRoom + (rest.map fun v => v.category).sum ≤ 8) (hdg : decode cc g.pc = .ok (.invokestatic index, 3)) (hf : cells + mc ≤ R.cells ∧ slots + ms ≤ R.slots) :
    va_Run p l e R s m args below meth c H locs cells slots mc ms g rest (Qc As.toArray) (free) := by
  obtain ⟨⟨hrc, hrs, hfr, hlo, hws, hcw⟩, hcode, hini, hy, hlen, hl, hstt⟩ := cw
  have hK : Back l R p e below s args y 3 8 (PreOf R mc ms Pc) (PostOf Qc mc ms free) := va_backW (hh := hh) (bytes := bytes) (maxL := maxL) (ret := ret) hM hp.1 hrc hrs hfr hlo hws hcw (fun a' U hW => word_at hW (Or.inl (by first | rfl | simp [Cond.onTables, Cond.keeps, Cond.steady])) hini)
  obtain ⟨hx, hb, hml, ho, -⟩ := S
  intro T hT X
  obtain ⟨v, vm₁, ⟨U', l2, c2, s2⟩, hW₁, X', ⟨g', mk, t, L, e1, e2, hq, h1, hL, h2, h3⟩, st⟩ := vx_callSW X hx (hh := hh) (bytes := bytes) (maxL := maxL) (ret := ret) ho hl hstt hini hcode hy hK hg (hsize.trans hml.symm) (argsL := As) (rest := rest) (fun sig h => hn.trans (hlen sig h)) hstack hW (by rw [hb]; exact hdg)
    (fun vm₁ hW₁ => ⟨hf.1, hf.2, hp.2 (T.setVm vm₁) hT hW₁⟩)
  dsimp only [Pt.U, Pt.locs, Pt.cells, Pt.slots] at X' e1 e2 h1 h2 h3 st
  subst h1; subst h2; subst h3
  exact ⟨v, (T.setVm vm₁).calling g' mk As.toArray, t, U', L, hT, X', hL, e1, e2, hq, st⟩
/-- not caught here, past rows that name other classes: it goes on to the caller -/
theorem vx_outP {p : Program} {l : Launch} {e : Env} {R : Room} {s : State} {m : MethodId} {args : Array Value} {below : List Frame} {meth : Method} {c : Code} {H : Heap} {locs : List Loc} {cells slots : Nat} {free : Addr → Prop} {ls : Array Slot} {rest : List Value} {Qc : Array Value → State → Outcome → State → Prop} {XC : String → State → State → Prop}
    {pc : Nat} {own E : String} {ce : Cell} {q : Addr} {mc ms : Nat} (hown : s.vm.findClass own = some m.cls) (hlocks : meth.locks = false)
    (hpass : ∀ z ∈ c.exceptionTable.toList, covers z pc = false ∨ (z.catchType ≠ 0 ∧ ∃ nm : String, (Cond.classLink own z.catchType nm).before args s = true ∧ va_Nc E nm s)) (hcell : H[q]? = some ce) (hv : ce.vm = .none) (hcl : s.vm.findClass E = some ce.cls)
    (hx : ∀ t : State, t.heap = H → s.vm.Alike t.vm → XC E s t) (hf : ∀ z ∈ locs, free z.base) (hc : cells ≤ mc) (hs : slots ≤ ms) :
    vx_W p l e R s m args below meth c H locs cells slots (vx_MQ below Qc XC args s mc ms free) (F0 m pc ls rest) q := by
  intro T hT X
  have hpl : e.platform.magicAccessors = ({} : Platform).magicAccessors := by rw [X.admits.platform]
  obtain ⟨vm', hW', X', st⟩ := X.outThrough hlocks q (g := F0 m pc ls rest) rfl rfl rfl (cell := ce) (by rw [hT]; exact hcell) (by rw [hv]; rfl)
    (by obtain ⟨k9, h9, -⟩ := Vm.findClass_spec hcl; exact ⟨k9, h9⟩) (fun z hz => by
      rcases hpass z hz with h | ⟨hz0, nm, hl1, hn1⟩
      · exact Or.inl h
      · obtain ⟨c6, hc6, hcl6⟩ := Cond.classLink_spec hown hl1 e.platform hpl
        obtain ⟨a8, b8, h1, h2, h3⟩ := hn1
        cases Option.some.inj (h1.symm.trans hcl)
        cases Option.some.inj (h2.symm.trans hc6)
        exact Or.inr ⟨hz0, _, hcl6, h3⟩)
  obtain ⟨g₀, hfr⟩ := X'.frames_eq
  have hcell9 : ((T.setVm vm').setFrames (.throwing q :: below)).heap[q]? = some ce := by
    show T.heap[q]? = some ce
    rw [hT]; exact hcell
  have hend : Ended ((T.setVm vm').setFrames (.throwing q :: below)) below (.threw q) := State.frames_setFrames _ (State.cur_lt_of_frames hfr)
  refine ⟨(T.setVm vm').setFrames (.throwing q :: below), ?_, .threw q, X'.here.running, hend, Or.inr ⟨q, rfl, E, ce, locs, hx _ hT (X'.ends _).1.alike, hcell9, hv, hcl, (X'.ends _).1, (X'.ends _).2.mono hc hs, hf⟩⟩
  rw [X.pushThrowing_eq]
  exact st
/-- a thing of a world lies in the heap -/
theorem vx_lt {D : va_G} {cl : List vw_C} {ws : va_W} {H1 : Heap} (h : va_P D cl ws H1) {k : Nat} {q : Nat × va_E} (hk : ws[k]? = some q) : q.1 < H1.size := (h k q hk).lt
end VXS
/-! ===== END ===== -/
/-! ===== BEGIN methods with a table of their own: called by a name, returning or throwing ===== -/
section VXH
/-! vx_backW, vx_callVX, vx_callSX, vx_callVW, vx_runVW, vx_runVX, vx_runSX, vx_ofWH follow the same proofs as their sisters above (Free/Laws.lean, Shelf42/LK1.lean); vx_outP calls Shelf42/NT130.lean (outThrough). -/
section
variable {l : Launch} {R : Room} {p : Program} {e : Env} {below : List Frame} {s : State} {sargs : Array Value} {y : MethodName} {len W9 : Nat}
theorem vx_backW {ws : List Cond} {rm : Room} {Pc : Array Value → State → Prop} {Qc : Array Value → State → Outcome → State → Prop} {XC : String → State → State → Prop} {mc ms : Nat} {free : Addr → Prop} {bytes : ByteArray} {maxL : Nat} {ret : Option FieldType} {hh : List (Nat × Nat × Nat × Nat)}
    (hM : vx_Met l y ws rm Pc Qc XC mc ms free) (hblind : FrameBlind Pc) (hrc : rm.cells = mc) (hrs : rm.slots = ms)
    (hframes : rm.frames + 1 ≤ R.frames) (hlocals : W9 + (maxL + 11) + rm.locals ≤ R.locals)
    (hws : ∀ w ∈ ws, ∀ a' U, s.WarmedH U.vm → w.before a' U = true) (hcode : Cond.codeWith y bytes maxL ret hh ∈ ws) (hinit : ∀ a' U, s.WarmedH U.vm → (Cond.initialized y.cls).before a' U = true) :
    vx_Back l R p e below s sargs y len W9 (PreOf R mc ms Pc) (PostOf Qc mc ms free) (vx_Post XC mc ms free) := by
  intro m meth c A g ig mk a X hg hsize hdg hW hn hp
  have h1 : (headSpec ws rm).pre.before a A.U = true := atoms_intro fun w hw => hws w hw _ _ X.warmed
  have h2 : (Cond.codeWith y bytes maxL ret hh).before a A.U = true := hws _ hcode _ _ X.warmed
  have h3 : (Cond.initialized y.cls).before a A.U = true := hinit _ _ X.warmed
  have h4 : A.cells + (headSpec ws rm).room.cells ≤ R.cells := by rw [show (headSpec ws rm).room.cells = mc from hrc]; exact hp.1
  have h5 : A.slots + (headSpec ws rm).room.slots ≤ R.slots := by rw [show (headSpec ws rm).room.slots = ms from hrs]; exact hp.2.1
  have hPc : Pc a (A.U.calling g mk a) := hblind _ _ _ _ hp.2.2
  obtain ⟨U, Ls, c0, s0⟩ := A
  dsimp only [Pt.U, Pt.locs, Pt.cells, Pt.slots] at h1 h2 h3 h4 h5 X hn hPc ⊢
  obtain ⟨m9, methY, cY, hn9, hmY, hcY, -, hlY, -⟩ := Cond.codeWith_spec h2
  cases Option.some.inj (hn9.symm.trans hn)
  obtain ⟨kY, hkY, -⟩ := className_of_methodNamed hn
  have hinitY : kY.init = .initialized := Cond.initialized_spec (findClass_of_methodNamed hn) hkY h3
  have h : At U g.method c below := by rw [hg]; exact X.here
  have hlocals9 : W9 + (maxL + 11) + (headSpec ws rm).room.locals ≤ R.locals := hlocals
  have happ : (headSpec ws rm).appliesLoose y e.platform (U.calling g mk a) = true :=
    Spec.appliesLoose_calling (g := g) h hdg hn hkY hinitY
      (X.room_calling (g := g) (R' := (headSpec ws rm).room) hsize hmY hcY hframes (by rw [hlY]; omega) h4 h5) h1
  obtain ⟨mid, hmid⟩ := h.above
  have hfr : (U.setTop g).frames = (.java g :: mid) ++ below := by rw [State.frames_setTop' g h.top, hmid]; rfl
  obtain ⟨o, s₂, hsteps, -, hend, hq⟩ := Steps.callFree hM p X.admits X.cas X.clock (acts := []) hfr happ hPc trivial
  have hq' : vx_Q Qc XC mc ms free a (U.calling g mk a) o s₂ := hq
  rw [State.frames_setTop' g h.top] at hend
  obtain ⟨g₀, hg0⟩ := Option.isSome_iff_exists.mp h.top
  obtain ⟨r, hr⟩ := State.topJava?_eq_some.mp hg0
  have hr' : (({ U with heap := s₂.heap, slotsUsed := s₂.slotsUsed } : State).setVm s₂.vm).frames = .java g₀ :: r := hr
  rcases hq' with ⟨hqc, L, hfe, hL⟩ | ⟨q, rfl, E, ce, L, hx, hce, hcv, hcl, hW₂, hsm, hL⟩
  · obtain ⟨⟨v, rfl⟩, hW₂, e2, q2, q3, q4, q5, q6⟩ := id hfe
    have e3 : s₂ = ({ (U.calling g mk a).setFrames s₂.frames with heap := s₂.heap, slotsUsed := s₂.slotsUsed } : State).setVm s₂.vm := by
      have : s₂ = ({ s₂ with vm := (U.calling g mk a).vm } : State).setVm s₂.vm := rfl
      rw [e2] at this
      exact this
    obtain ⟨c₂, i₂, len₂, hc₂, hd₂, hf₂⟩ := hend
    have hW' : U.WarmedH s₂.vm := hW₂
    have hcc : c₂ = c := by
      have h1 : s₂.code? g.method = U.code? g.method := by
        rw [State.code?_eq, State.code?_eq, hW'.alike.method?]
      exact Option.some.inj (hc₂.symm.trans (h1.trans h.code))
    subst hcc
    have hlen : len₂ = len := by rw [hdg] at hd₂; cases hd₂; rfl
    subst hlen
    have hs₂ : s₂ = (({ U with heap := s₂.heap, slotsUsed := s₂.slotsUsed } : State).setVm s₂.vm).setTop { g with pc := g.pc + len₂, stack := v.toList ++ g.stack } := by
      refine e3.trans ?_
      rw [hf₂, State.calling_eq h.top, State.setFrames_setFrames, State.setTop_of_frames _ hr', hr]
      rfl
    have hsame : U.sameButNew ({ U with heap := s₂.heap, slotsUsed := s₂.slotsUsed } : State) L mc ms := by
      refine ⟨?_, q2, q3, q4, q5, q6⟩
      obtain ⟨t, ht, -⟩ := State.frames_cons hr
      show ({ U with heap := s₂.heap, slotsUsed := s₂.slotsUsed } : State) = { U.setFrames U.frames with heap := s₂.heap, slotsUsed := s₂.slotsUsed }
      rw [State.setFrames_self ht]
    subst hg
    refine Or.inl ⟨v, ⟨(({ U with heap := s₂.heap, slotsUsed := s₂.slotsUsed } : State).setVm s₂.vm), Ls ++ L, c0 + mc, s0 + ms⟩,
      ⟨X.admits, X.cas, X.clock, X.frames, X.room, X.hears, X.method, X.code, (X.here.setHeapUsed s₂.heap s₂.slotsUsed).setVm hW'.alike, X.tail, State.WarmedH.trans X.warmed hW', X.limits, X.bytes, X.same.trans (hsame.setVm s.vm)⟩,
      ⟨g, mk, s₂, L, rfl, rfl, hqc, rfl, hL, rfl, rfl⟩, ?_⟩
    show Steps p.tables e below _ ((({ U with heap := s₂.heap, slotsUsed := s₂.slotsUsed } : State).setVm s₂.vm).setTop { g with pc := g.pc + len₂, stack := v.toList ++ g.stack })
    rw [← hs₂]
    exact hsteps
  · obtain ⟨e2, q2, q3, q4, q5, q6⟩ := id hsm
    have e3 : s₂ = ({ (U.calling g mk a).setFrames s₂.frames with heap := s₂.heap, slotsUsed := s₂.slotsUsed } : State).setVm s₂.vm := by
      have : s₂ = ({ s₂ with vm := (U.calling g mk a).vm } : State).setVm s₂.vm := rfl
      rw [e2] at this
      exact this
    have hf₂ : s₂.frames = .throwing q :: .java g :: U.frames.tail := hend
    have hW' : U.WarmedH s₂.vm := hW₂
    have hs₂ : s₂ = ((({ U with heap := s₂.heap, slotsUsed := s₂.slotsUsed } : State).setVm s₂.vm).setTop g).pushFrame (.throwing q) := by
      refine e3.trans ?_
      rw [hf₂, State.calling_eq h.top, State.setFrames_setFrames, State.pushFrame, State.frames_setTop _ hr', State.setTop_of_frames _ hr', State.setFrames_setFrames, hr]
      rfl
    have hsame : U.sameButNew ({ U with heap := s₂.heap, slotsUsed := s₂.slotsUsed } : State) L mc ms := by
      refine ⟨?_, q2, q3, q4, q5, q6⟩
      obtain ⟨t, ht, -⟩ := State.frames_cons hr
      show ({ U with heap := s₂.heap, slotsUsed := s₂.slotsUsed } : State) = { U.setFrames U.frames with heap := s₂.heap, slotsUsed := s₂.slotsUsed }
      rw [State.setFrames_self ht]
    subst hg
    refine Or.inr ⟨q, ⟨(({ U with heap := s₂.heap, slotsUsed := s₂.slotsUsed } : State).setVm s₂.vm), Ls ++ L, c0 + mc, s0 + ms⟩,
      ⟨X.admits, X.cas, X.clock, X.frames, X.room, X.hears, X.method, X.code, (X.here.setHeapUsed s₂.heap s₂.slotsUsed).setVm hW'.alike, X.tail, State.WarmedH.trans X.warmed hW', X.limits, X.bytes, X.same.trans (hsame.setVm s.vm)⟩,
      ⟨g, mk, s₂, L, E, ce, rfl, rfl, hx, hce, hcv, hcl, rfl, hL, rfl, rfl⟩, ?_⟩
    show Steps p.tables e below _ (((({ U with heap := s₂.heap, slotsUsed := s₂.slotsUsed } : State).setVm s₂.vm).setTop g).pushFrame (.throwing q))
    rw [← hs₂]
    exact hsteps
end
variable {p : Program} {l : Launch} {e : Env} {R : Room} {s : State} {m : MethodId} {args : Array Value} {below : List Frame} {meth : Method} {c : Code} {T : State} {H : Heap} {locs : List Loc} {cells slots : Nat}
theorem vx_callVX (X : Stand p l e R s m args below meth c T locs cells slots) (hexec : p.tables.exec = Jvm.exec) {own C : String} {index : Nat} {y : MethodName} {bytes : ByteArray} {maxL : Nat} {ret : Option FieldType} {hh : List (Nat × Nat × Nat × Nat)}
    (hown : s.vm.findClass own = some m.cls) (hlink : (Cond.methodLink own index y).before args s = true) (hinst : (Cond.instanceMethod y).before args s = true) (hsel : (Cond.selects C y y).before args s = true)
    (hcode : (Cond.codeWith y bytes maxL ret hh).before args s = true) (hy : y.cls ≠ "java/lang/invoke/MethodHandle" ∧ y.cls ≠ "java/lang/invoke/VarHandle")
    {W9 : Nat} {Pre : Pt → Array Value → Prop} {Post : Pt → Array Value → Option Value → Pt → Prop} {PostX : Pt → Array Value → Addr → Pt → Prop} (hK : vx_Back l R p e below s args y 3 W9 Pre Post PostX)
    {b : Addr} {cellB : Cell} (hcell : T.heap[b]? = some cellB) (hobj : cellB.vm.isStatics = false) (hcls : s.vm.findClass C = some cellB.cls)
    {g : JFrame} (hg : g.method = m) (hsize : g.locals.size = c.maxLocals) {argsL rest : List Value} (hlen : ∀ sig, parseMethodDescriptor y.desc = some sig → argsL.length = sig.parameters.length)
    (hstack : g.stack = argsL.reverse ++ .ref b :: rest) (hW : 2 * g.monitorRoom + (rest.map fun v => v.category).sum ≤ W9) (hdg : decode c.code g.pc = .ok (.invokevirtual index, 3))
    (hpre : ∀ vm₁, s.WarmedH vm₁ → Pre ⟨T.setVm vm₁, locs, cells, slots⟩ (Value.ref b :: argsL).toArray) :
    (∃ (v : Option Value) (vm₁ : Vm) (B : Pt), s.WarmedH vm₁ ∧ Stand p l e R s m args below meth c B.U B.locs B.cells B.slots ∧ Post ⟨T.setVm vm₁, locs, cells, slots⟩ (Value.ref b :: argsL).toArray v B ∧
      ∀ target, Steps p.tables e below (B.U.setTop { g with pc := g.pc + 3, stack := v.toList ++ rest }) target → Steps p.tables e below (T.setTop g) target) ∨
    (∃ (q : Addr) (vm₁ : Vm) (B : Pt), s.WarmedH vm₁ ∧ Stand p l e R s m args below meth c B.U B.locs B.cells B.slots ∧ PostX ⟨T.setVm vm₁, locs, cells, slots⟩ (Value.ref b :: argsL).toArray q B ∧
      Steps p.tables e below (T.setTop g) ((B.U.setTop { g with stack := rest }).pushFrame (.throwing q))) := by
  obtain ⟨mk, methM, hnamed, hmethM, hstM, habM⟩ := Cond.instanceMethod_spec hinst
  obtain ⟨m8, methM', cM, hn8, hmethM', -, -, -, -, -, -, hsigM⟩ := Cond.codeWith_spec hcode
  cases Option.some.inj (hn8.symm.trans hnamed)
  cases hmethM.symm.trans hmethM'
  obtain ⟨c2, r2, m2, q1, q2, q3, q4, kP, hkP, hkPi⟩ := Cond.selects_spec hsel
  cases hcls.symm.trans q1
  cases (State.methodFound?_of_named hnamed hy).symm.trans q2
  cases hnamed.symm.trans q3
  have hselP : selectMethod e.platform s.vm cellB.cls mk = .method mk := by rw [Launch.admits_selectMethod X.admits]; exact q4
  obtain ⟨vm₁, X₁, hstep₁⟩ := X.invokevirtual hexec hown hlink hnamed hmethM hstM hkP hkPi hy (a := b) (cell := cellB) hcell
    (fun z h => by rw [h] at hobj; cases hobj) hselP hmethM habM hkP hkPi (g := g) hg (argsL := argsL) (rest := rest) (hlen _ hsigM) hstack hdg
  rcases hK m meth c ⟨T.setVm vm₁, locs, cells, slots⟩ { g with stack := rest } (.invokevirtual index) mk (Value.ref b :: argsL).toArray X₁ hg hsize hdg hW (X₁.named hnamed) (hpre vm₁ X₁.warmed) with ⟨v, B, X', hpost, hsteps⟩ | ⟨q, B, X', hpost, hsteps⟩
  · exact Or.inl ⟨v, vm₁, B, X₁.warmed, X', hpost, fun target h => hstep₁ _ fun acts => by rw [doInvoke_state]; exact hsteps.trans h⟩
  · exact Or.inr ⟨q, vm₁, B, X₁.warmed, X', hpost, hstep₁ _ fun acts => by rw [doInvoke_state]; exact hsteps⟩
theorem vx_callSX (X : Stand p l e R s m args below meth c T locs cells slots) (hexec : p.tables.exec = Jvm.exec) {own : String} {index : Nat} {y : MethodName} {bytes : ByteArray} {maxL : Nat} {ret : Option FieldType} {hh : List (Nat × Nat × Nat × Nat)}
    (hown : s.vm.findClass own = some m.cls) (hlink : (Cond.methodLink own index y).before args s = true) (hstat : (Cond.static y).before args s = true) (hinit : (Cond.initialized y.cls).before args s = true)
    (hcode : (Cond.codeWith y bytes maxL ret hh).before args s = true) (hy : y.cls ≠ "java/lang/invoke/MethodHandle" ∧ y.cls ≠ "java/lang/invoke/VarHandle")
    {W9 : Nat} {Pre : Pt → Array Value → Prop} {Post : Pt → Array Value → Option Value → Pt → Prop} {PostX : Pt → Array Value → Addr → Pt → Prop} (hK : vx_Back l R p e below s args y 3 W9 Pre Post PostX)
    {g : JFrame} (hg : g.method = m) (hsize : g.locals.size = c.maxLocals) {argsL rest : List Value} (hlen : ∀ sig, parseMethodDescriptor y.desc = some sig → argsL.length = sig.parameters.length)
    (hstack : g.stack = argsL.reverse ++ rest) (hW : 2 * g.monitorRoom + (rest.map fun v => v.category).sum ≤ W9) (hdg : decode c.code g.pc = .ok (.invokestatic index, 3))
    (hpre : ∀ vm₁, s.WarmedH vm₁ → Pre ⟨T.setVm vm₁, locs, cells, slots⟩ argsL.toArray) :
    (∃ (v : Option Value) (vm₁ : Vm) (B : Pt), s.WarmedH vm₁ ∧ Stand p l e R s m args below meth c B.U B.locs B.cells B.slots ∧ Post ⟨T.setVm vm₁, locs, cells, slots⟩ argsL.toArray v B ∧
      ∀ target, Steps p.tables e below (B.U.setTop { g with pc := g.pc + 3, stack := v.toList ++ rest }) target → Steps p.tables e below (T.setTop g) target) ∨
    (∃ (q : Addr) (vm₁ : Vm) (B : Pt), s.WarmedH vm₁ ∧ Stand p l e R s m args below meth c B.U B.locs B.cells B.slots ∧ PostX ⟨T.setVm vm₁, locs, cells, slots⟩ argsL.toArray q B ∧
      Steps p.tables e below (T.setTop g) ((B.U.setTop { g with stack := rest }).pushFrame (.throwing q))) := by
  obtain ⟨mk, methM, cM, hnamed, hmethM, -, -, -, -, -, -, hsigM⟩ := Cond.codeWith_spec hcode
  have hstatic : methM.isStatic = true := Cond.static_spec hnamed hmethM hstat
  obtain ⟨kP, hkP, -⟩ := className_of_methodNamed hnamed
  have hinitP : kP.init = .initialized := Cond.initialized_spec (findClass_of_methodNamed hnamed) hkP hinit
  obtain ⟨vm₁, X₁, hstep₁⟩ := X.invokestatic hexec hown hlink hnamed hmethM hstatic hkP hinitP hy (g := g) hg (argsL := argsL) (rest := rest) (hlen _ hsigM) hstack hdg
  rcases hK m meth c ⟨T.setVm vm₁, locs, cells, slots⟩ { g with stack := rest } (.invokestatic index) mk argsL.toArray X₁ hg hsize hdg hW (X₁.named hnamed) (hpre vm₁ X₁.warmed) with ⟨v, B, X', hpost, hsteps⟩ | ⟨q, B, X', hpost, hsteps⟩
  · exact Or.inl ⟨v, vm₁, B, X₁.warmed, X', hpost, fun target h => hstep₁ _ fun acts => by rw [doInvoke_state]; exact hsteps.trans h⟩
  · exact Or.inr ⟨q, vm₁, B, X₁.warmed, X', hpost, hstep₁ _ fun acts => by rw [doInvoke_state]; exact hsteps⟩
theorem vx_callVW (X : Stand p l e R s m args below meth c T locs cells slots) (hexec : p.tables.exec = Jvm.exec) {own C : String} {index : Nat} {y : MethodName} {bytes : ByteArray} {maxL : Nat} {ret : Option FieldType} {hh : List (Nat × Nat × Nat × Nat)}
    (hown : s.vm.findClass own = some m.cls) (hlink : (Cond.methodLink own index y).before args s = true) (hinst : (Cond.instanceMethod y).before args s = true) (hsel : (Cond.selects C y y).before args s = true)
    (hcode : (Cond.codeWith y bytes maxL ret hh).before args s = true) (hy : y.cls ≠ "java/lang/invoke/MethodHandle" ∧ y.cls ≠ "java/lang/invoke/VarHandle")
    {W9 : Nat} {Pre : Pt → Array Value → Prop} {Post : Pt → Array Value → Option Value → Pt → Prop} (hK : Back l R p e below s args y 3 W9 Pre Post)
    {b : Addr} {cellB : Cell} (hcell : T.heap[b]? = some cellB) (hobj : cellB.vm.isStatics = false) (hcls : s.vm.findClass C = some cellB.cls)
    {g : JFrame} (hg : g.method = m) (hsize : g.locals.size = c.maxLocals) {argsL rest : List Value} (hlen : ∀ sig, parseMethodDescriptor y.desc = some sig → argsL.length = sig.parameters.length)
    (hstack : g.stack = argsL.reverse ++ .ref b :: rest) (hW : 2 * g.monitorRoom + (rest.map fun v => v.category).sum ≤ W9) (hdg : decode c.code g.pc = .ok (.invokevirtual index, 3))
    (hpre : ∀ vm₁, s.WarmedH vm₁ → Pre ⟨T.setVm vm₁, locs, cells, slots⟩ (Value.ref b :: argsL).toArray) :
    ∃ (v : Option Value) (vm₁ : Vm) (B : Pt), s.WarmedH vm₁ ∧ Stand p l e R s m args below meth c B.U B.locs B.cells B.slots ∧ Post ⟨T.setVm vm₁, locs, cells, slots⟩ (Value.ref b :: argsL).toArray v B ∧
      ∀ target, Steps p.tables e below (B.U.setTop { g with pc := g.pc + 3, stack := v.toList ++ rest }) target → Steps p.tables e below (T.setTop g) target := by
  obtain ⟨mk, methM, hnamed, hmethM, hstM, habM⟩ := Cond.instanceMethod_spec hinst
  obtain ⟨m8, methM', cM, hn8, hmethM', -, -, -, -, -, -, hsigM⟩ := Cond.codeWith_spec hcode
  cases Option.some.inj (hn8.symm.trans hnamed)
  cases hmethM.symm.trans hmethM'
  obtain ⟨c2, r2, m2, q1, q2, q3, q4, kP, hkP, hkPi⟩ := Cond.selects_spec hsel
  cases hcls.symm.trans q1
  cases (State.methodFound?_of_named hnamed hy).symm.trans q2
  cases hnamed.symm.trans q3
  have hselP : selectMethod e.platform s.vm cellB.cls mk = .method mk := by rw [Launch.admits_selectMethod X.admits]; exact q4
  obtain ⟨vm₁, X₁, hstep₁⟩ := X.invokevirtual hexec hown hlink hnamed hmethM hstM hkP hkPi hy (a := b) (cell := cellB) hcell
    (fun z h => by rw [h] at hobj; cases hobj) hselP hmethM habM hkP hkPi (g := g) hg (argsL := argsL) (rest := rest) (hlen _ hsigM) hstack hdg
  obtain ⟨v, B, X', hpost, hsteps⟩ := hK m meth c ⟨T.setVm vm₁, locs, cells, slots⟩ { g with stack := rest } (.invokevirtual index) mk (Value.ref b :: argsL).toArray X₁ hg hsize hdg hW (X₁.named hnamed) (hpre vm₁ X₁.warmed)
  exact ⟨v, vm₁, B, X₁.warmed, X', hpost, fun target h => hstep₁ _ fun acts => by rw [doInvoke_state]; exact hsteps.trans h⟩
abbrev vx_CVW (R : Room) (s : State) (args : Array Value) (own C : String) (index : Nat) (y : MethodName) (bytes : ByteArray) (maxL : Nat) (ret : Option FieldType) (hh : List (Nat × Nat × Nat × Nat)) (ws : List Cond) (rm : Room) (mc ms n : Nat) : Prop :=
  (rm.cells = mc ∧ rm.slots = ms ∧ rm.frames + 1 ≤ R.frames ∧ 8 + (maxL + 11) + rm.locals ≤ R.locals ∧ (∀ w ∈ ws, ∀ (a' : Array Value) (U : State), s.WarmedH U.vm → w.before a' U = true) ∧ Cond.codeWith y bytes maxL ret hh ∈ ws) ∧
  (Cond.codeWith y bytes maxL ret hh).before args s = true ∧ (Cond.initialized y.cls).before args s = true ∧ (y.cls ≠ "java/lang/invoke/MethodHandle" ∧ y.cls ≠ "java/lang/invoke/VarHandle") ∧
  (∀ sig, parseMethodDescriptor y.desc = some sig → n = sig.parameters.length) ∧ (Cond.methodLink own index y).before args s = true ∧ (Cond.instanceMethod y).before args s = true ∧ (Cond.selects C y y).before args s = true
theorem vx_cwVW {own C : String} {index maxL mc ms : Nat} {y : MethodName} {bytes : ByteArray} {ret : Option FieldType} {hh : List (Nat × Nat × Nat × Nat)} {Ts ws ws' : List Cond} {rm : Room} (n : Nat) (ht : ∀ w ∈ Ts, w.before args s = true) (hT : GoodIn Ts (wsV own index C y ws)) (hw : ws = Cond.codeWith y bytes maxL ret hh :: ws') (hrc : rm.cells = mc) (hrs : rm.slots = ms)
    (hd : y.cls = C ∧ y.cls ≠ "java/lang/invoke/MethodHandle" ∧ y.cls ≠ "java/lang/invoke/VarHandle" ∧ (parseMethodDescriptor y.desc).map (fun d => d.parameters.length) = some n) (hR : rm.frames + 1 ≤ R.frames ∧ 8 + (maxL + 11) + rm.locals ≤ R.locals) :
    vx_CVW R s args own C index y bytes maxL ret hh ws rm mc ms n := by
  obtain ⟨hC, hd⟩ := hd
  subst hC
  have ok : ∀ w ∈ wsV own index y.cls y ws, w.before args s = true := fun w h => ht w (hT w h).1
  have hG : GoodIn Ts ws := fun w h => hT w (by unfold wsV; exact List.mem_append_right _ h)
  have hc : Cond.codeWith y bytes maxL ret hh ∈ ws := by rw [hw]; exact List.mem_cons_self
  refine ⟨⟨hrc, hrs, hR.1, hR.2, pay_in ht hG, hc⟩, ht _ (hG _ hc).1, ok _ (by simp [wsV]), ⟨hd.1, hd.2.1⟩, fun sig h => ?_, ok _ (by simp [wsV]), ok _ (by simp [wsV]), ok _ (by simp [wsV])⟩
  have h2 := hd.2.2
  rw [h] at h2
  exact (Option.some.inj h2).symm
theorem vx_runVW {y : MethodName} {bytes cc : ByteArray} {maxL nL mc ms n index : Nat} {ret : Option FieldType} {hh : List (Nat × Nat × Nat × Nat)} {ws : List Cond} {rm : Room} {Pc : Array Value → State → Prop} {Qc : Array Value → State → Outcome → State → Prop} {free : Addr → Prop} {Ts : List Cond} {own C : String} {b : Addr} {As rest : List Value} {g : JFrame}
    (S : CallFix p m c cc nL s args Ts own) (hM : Met l y ws rm Pc Qc mc ms free) (cw : vx_CVW R s args own C index y bytes maxL ret hh ws rm mc ms n) (hp : PreV s H C b Pc As)
    (hg : g.method = m) (hn : As.length = n) (hsize : g.locals.size = nL) (hstack : g.stack = As.reverse ++ .ref b :: rest) (hW : 2 * g.monitorRoom + (rest.map fun v => v.category).sum ≤ 8) (hdg : decode cc g.pc = .ok (.invokevirtual index, 3)) (hf : cells + mc ≤ R.cells ∧ slots + ms ≤ R.slots) :
    va_Run p l e R s m args below meth c H locs cells slots mc ms g rest (Qc (Value.ref b :: As).toArray) free := by
  obtain ⟨⟨hrc, hrs, hfr, hlo, hws, hcw⟩, hcode, hini, hy, hlen, hl, hin, hse⟩ := cw
  have hK : Back l R p e below s args y 3 8 (PreOf R mc ms Pc) (PostOf Qc mc ms free) := va_backW (hh := hh) (bytes := bytes) (maxL := maxL) (ret := ret) hM hp.1 hrc hrs hfr hlo hws hcw (fun a' U hW => word_at hW (Or.inl (by first | rfl | simp [Cond.onTables, Cond.keeps, Cond.steady])) hini)
  obtain ⟨hx, hb, hml, ho, -⟩ := S
  obtain ⟨-, ⟨cellB, hcB, hoB, hclB⟩, hPc⟩ := hp
  intro T hT X
  obtain ⟨v, vm₁, ⟨U', l2, c2, s2⟩, hW₁, X', ⟨g', mk, t, L, e1, e2, hq, h1, hL, h2, h3⟩, st⟩ := vx_callVW X hx (C := C) (hh := hh) (bytes := bytes) (maxL := maxL) (ret := ret) ho hl hin hse hcode hy hK (by rw [hT]; exact hcB) hoB hclB hg (hsize.trans hml.symm) (argsL := As) (rest := rest) (fun sig h => hn.trans (hlen sig h)) hstack hW (by rw [hb]; exact hdg)
    (fun vm₁ hW₁ => ⟨hf.1, hf.2, hPc (T.setVm vm₁) hT hW₁⟩)
  dsimp only [Pt.U, Pt.locs, Pt.cells, Pt.slots] at X' e1 e2 h1 h2 h3 st
  subst h1; subst h2; subst h3
  exact ⟨v, (T.setVm vm₁).calling g' mk (Value.ref b :: As).toArray, t, U', L, hT, X', hL, e1, e2, hq, st⟩
section
variable {y : MethodName} {bytes cc : ByteArray} {maxL nL mc ms n index : Nat} {ret : Option FieldType} {ws : List Cond} {rm : Room} {Pc : Array Value → State → Prop} {Qc : Array Value → State → Outcome → State → Prop} {XC : String → State → State → Prop} {free : Addr → Prop} {Ts : List Cond} {own C : String} {b : Addr} {As rest : List Value} {g : JFrame}
theorem vx_runVX {hh : List (Nat × Nat × Nat × Nat)} (S : CallFix p m c cc nL s args Ts own) (hM : vx_Met l y ws rm Pc Qc XC mc ms free) (cw : vx_CVW R s args own C index y bytes maxL ret hh ws rm mc ms n) (hp : PreV s H C b Pc As)
    (hg : g.method = m) (hn : As.length = n) (hsize : g.locals.size = nL) (hstack : g.stack = As.reverse ++ .ref b :: rest) (hW : 2 * g.monitorRoom + (rest.map fun v => v.category).sum ≤ 8) (hdg : decode cc g.pc = .ok (.invokevirtual index, 3)) (hf : cells + mc ≤ R.cells ∧ slots + ms ≤ R.slots) :
    vx_Run p l e R s m args below meth c H locs cells slots mc ms g rest (Qc (Value.ref b :: As).toArray) XC free := by
  obtain ⟨⟨hrc, hrs, hfr, hlo, hws, hcw⟩, hcode, hini, hy, hlen, hl, hin, hse⟩ := cw
  have hK : vx_Back l R p e below s args y 3 8 (PreOf R mc ms Pc) (PostOf Qc mc ms free) (vx_Post XC mc ms free) := vx_backW (hh := hh) (bytes := bytes) (maxL := maxL) (ret := ret) hM hp.1 hrc hrs hfr hlo hws hcw (fun a' U hW => word_at hW (Or.inl (by first | rfl | simp [Cond.onTables, Cond.keeps, Cond.steady])) hini)
  obtain ⟨hx, hb, hml, ho, -⟩ := S
  obtain ⟨-, ⟨cellB, hcB, hoB, hclB⟩, hPc⟩ := hp
  intro T hT X
  rcases vx_callVX X hx (C := C) (hh := hh) (bytes := bytes) (maxL := maxL) (ret := ret) ho hl hin hse hcode hy hK (by rw [hT]; exact hcB) hoB hclB hg (hsize.trans hml.symm) (argsL := As) (rest := rest) (fun sig h => hn.trans (hlen sig h)) hstack hW (by rw [hb]; exact hdg)
    (fun vm₁ hW₁ => ⟨hf.1, hf.2, hPc (T.setVm vm₁) hT hW₁⟩) with ⟨v, vm₁, ⟨U', l2, c2, s2⟩, hW₁, X', ⟨g', mk, t, L, e1, e2, hq, h1, hL, h2, h3⟩, st⟩ | ⟨q, vm₁, ⟨U', l2, c2, s2⟩, hW₁, X', ⟨g', mk, t, L, E, ce, e1, e2, hq, hce, hcv, hcl, h1, hL, h2, h3⟩, st⟩
  · dsimp only [Pt.U, Pt.locs, Pt.cells, Pt.slots] at X' e1 e2 h1 h2 h3 st
    subst h1; subst h2; subst h3
    exact Or.inl ⟨v, (T.setVm vm₁).calling g' mk (Value.ref b :: As).toArray, t, U', L, hT, X', hL, e1, e2, hq, st⟩
  · dsimp only [Pt.U, Pt.locs, Pt.cells, Pt.slots] at X' e1 e2 h1 h2 h3 st hcl
    subst h1; subst h2; subst h3
    exact Or.inr ⟨q, (T.setVm vm₁).calling g' mk (Value.ref b :: As).toArray, t, U', L, E, ce, hT, X', hL, e1, e2, hq, hce, hcv, vx_cls hW₁ hcl, st⟩
theorem vx_runSX {hh : List (Nat × Nat × Nat × Nat)} (S : CallFix p m c cc nL s args Ts own) (hM : vx_Met l y ws rm Pc Qc XC mc ms free) (cw : vx_CSW R s args own index y bytes maxL ret hh ws rm mc ms n) (hp : PreS s H Pc As)
    (hg : g.method = m) (hn : As.length = n) (hsize : g.locals.size = nL) (hstack : g.stack = As.reverse ++ rest) (hW : 2 * g.monitorRoom + (rest.map fun v => v.category).sum ≤ 8) (hdg : decode cc g.pc = .ok (.invokestatic index, 3)) (hf : cells + mc ≤ R.cells ∧ slots + ms ≤ R.slots) :
    vx_Run p l e R s m args below meth c H locs cells slots mc ms g rest (Qc As.toArray) XC free := by
  obtain ⟨⟨hrc, hrs, hfr, hlo, hws, hcw⟩, hcode, hini, hy, hlen, hl, hstt⟩ := cw
  have hK : vx_Back l R p e below s args y 3 8 (PreOf R mc ms Pc) (PostOf Qc mc ms free) (vx_Post XC mc ms free) := vx_backW (hh := hh) (bytes := bytes) (maxL := maxL) (ret := ret) hM hp.1 hrc hrs hfr hlo hws hcw (fun a' U hW => word_at hW (Or.inl (by first | rfl | simp [Cond.onTables, Cond.keeps, Cond.steady])) hini)
  obtain ⟨hx, hb, hml, ho, -⟩ := S
  intro T hT X
  rcases vx_callSX X hx (hh := hh) (bytes := bytes) (maxL := maxL) (ret := ret) ho hl hstt hini hcode hy hK hg (hsize.trans hml.symm) (argsL := As) (rest := rest) (fun sig h => hn.trans (hlen sig h)) hstack hW (by rw [hb]; exact hdg)
    (fun vm₁ hW₁ => ⟨hf.1, hf.2, hp.2 (T.setVm vm₁) hT hW₁⟩) with ⟨v, vm₁, ⟨U', l2, c2, s2⟩, hW₁, X', ⟨g', mk, t, L, e1, e2, hq, h1, hL, h2, h3⟩, st⟩ | ⟨q, vm₁, ⟨U', l2, c2, s2⟩, hW₁, X', ⟨g', mk, t, L, E, ce, e1, e2, hq, hce, hcv, hcl, h1, hL, h2, h3⟩, st⟩
  · dsimp only [Pt.U, Pt.locs, Pt.cells, Pt.slots] at X' e1 e2 h1 h2 h3 st
    subst h1; subst h2; subst h3
    exact Or.inl ⟨v, (T.setVm vm₁).calling g' mk As.toArray, t, U', L, hT, X', hL, e1, e2, hq, st⟩
  · dsimp only [Pt.U, Pt.locs, Pt.cells, Pt.slots] at X' e1 e2 h1 h2 h3 st hcl
    subst h1; subst h2; subst h3
    exact Or.inr ⟨q, (T.setVm vm₁).calling g' mk As.toArray, t, U', L, E, ce, hT, X', hL, e1, e2, hq, hce, hcv, vx_cls hW₁ hcl, st⟩
end
end VXH
theorem vx_ofWH {l : Launch} {y : MethodName} {ws ws' : List Cond} {rm : Room} {Pc : Array Value → State → Prop} {Qc : Array Value → State → Outcome → State → Prop} {XC : String → State → State → Prop} {mc ms : Nat} {free : Addr → Prop} {cc : ByteArray} {maxL : Nat} {ret : Option FieldType} {hh : List (Nat × Nat × Nat × Nat)}
    (hy : plainName y.cls = true) (hw : ws = Cond.codeWith y cc maxL ret hh :: ws')
    (body : ∀ p e s m args below meth c s₁, BodyLoose p l y (headSpec ws rm) cc maxL ret e s m args below meth c s₁ → c.maxLocals = maxL → Pc args s →
      W p l e (headSpec ws rm).room s m args below meth c s.heap [] 0 0 (vx_MQ below Qc XC args s mc ms free) (entryFrame m args maxL)) : vx_Met l y ws rm Pc Qc XC mc ms free := by
  refine MetFree.of_bodyS (code := cc) (maxLocals := maxL) (ret := ret) hy ?_ ?_
  · intro args s m h hn
    obtain ⟨m9, meth, c, hn9, h1, h2, h3, h4, -, h5, h6, -⟩ := Cond.codeWith_spec (atoms_spec (ws := ws) h _ (by rw [hw]; exact List.mem_cons_self))
    cases hn.symm.trans hn9
    exact ⟨meth, c, h1, h2, h3, h4, h5, h6⟩
  · intro p e s m args below meth c s₁ B hml hP _
    have hh0 : s₁.heap = s.heap := by rw [B.state]; rfl
    obtain ⟨t, a1, o, b1, b2, b3⟩ := body p e s m args below meth c s₁ B hml hP s₁ hh0 (Stand.of_body B)
    exact ⟨t, o, a1, b1, b2, b3⟩
/-! ===== END ===== -/
end
section
/-! ===== BEGIN printed: names, fields, word lists, decode rows ===== -/
def RX0 : String := "SplayOrchard$Apple"
def TX0 : u_T := fun k => match k with
  | 0 => ("SplayOrchard$Apple", "size", "I", true)
  | 1 => ("SplayOrchard$Apple", "standIn", "LSplayOrchard$Apple;", true)
  | 2 => ("SplayOrchard$Apple", "up", "LSplayOrchard$Apple;", false)
  | 3 => ("SplayOrchard$Apple", "left", "LSplayOrchard$Apple;", false)
  | 4 => ("SplayOrchard$Apple", "right", "LSplayOrchard$Apple;", false)
  | _ => ("SplayOrchard$Apple", "bites", "I", false)
def tyX0 : Nat → FieldType := fun k => match k with
  | 0 => .int
  | 1 => .object "SplayOrchard$Apple"
  | 2 => .object "SplayOrchard$Apple"
  | 3 => .object "SplayOrchard$Apple"
  | 4 => .object "SplayOrchard$Apple"
  | _ => .int
abbrev wsX00 : List Cond := u_ws RX0 TX0 6
theorem nmX0 : ∀ a, a < 6 → ∀ b, b < 6 → a ≠ b → (TX0 a).2.1 ≠ (TX0 b).2.1 := by decide +kernel
theorem tyX0_ok : ∀ k, k < 6 → parseFieldDescriptor (TX0 k).2.2.1 = some (tyX0 k) := by decide +kernel
abbrev cX0_init : ByteArray := prog_2_method_1_code
def yX0_init : MethodName := ⟨RX0, "<init>", "(ILSplayOrchard$Apple;)V"⟩
abbrev cX0_hangLeft : ByteArray := prog_2_method_2_code
def yX0_hangLeft : MethodName := ⟨RX0, "hangLeft", "(LSplayOrchard$Apple;)V"⟩
abbrev cX0_hangRight : ByteArray := prog_2_method_3_code
def yX0_hangRight : MethodName := ⟨RX0, "hangRight", "(LSplayOrchard$Apple;)V"⟩
abbrev cX0_isOnTheLeft : ByteArray := prog_2_method_4_code
def yX0_isOnTheLeft : MethodName := ⟨RX0, "isOnTheLeft", "()Z"⟩
abbrev cX0_turn : ByteArray := prog_2_method_5_code
def yX0_turn : MethodName := ⟨RX0, "turn", "()V"⟩
abbrev cX0_depth : ByteArray := prog_2_method_6_code
def yX0_depth : MethodName := ⟨RX0, "depth", "()I"⟩
abbrev cX0_towards : ByteArray := prog_2_method_7_code
def yX0_towards : MethodName := ⟨RX0, "towards", "(I)LSplayOrchard$Apple;"⟩
abbrev cX0_leastUnder : ByteArray := prog_2_method_8_code
def yX0_leastUnder : MethodName := ⟨RX0, "leastUnder", "()LSplayOrchard$Apple;"⟩
abbrev cX0_greatestUnder : ByteArray := prog_2_method_9_code
def yX0_greatestUnder : MethodName := ⟨RX0, "greatestUnder", "()LSplayOrchard$Apple;"⟩
abbrev cX0_next : ByteArray := prog_2_method_10_code
def yX0_next : MethodName := ⟨RX0, "next", "()LSplayOrchard$Apple;"⟩
abbrev cX0_countUnder : ByteArray := prog_2_method_11_code
def yX0_countUnder : MethodName := ⟨RX0, "countUnder", "()I"⟩
abbrev cX0_linkStandIn : ByteArray := prog_2_method_12_code
def yX0_linkStandIn : MethodName := ⟨RX0, "linkStandIn", "()V"⟩
abbrev cX0_standInOf : ByteArray := prog_2_method_13_code
def yX0_standInOf : MethodName := ⟨RX0, "standInOf", "(LSplayOrchard$Apple;)LSplayOrchard$Apple;"⟩
def RX1 : String := "SplayOrchard$Tree"
def TX1 : u_T := fun k => match k with
  | _ => ("SplayOrchard$Tree", "top", "LSplayOrchard$Apple;", false)
def tyX1 : Nat → FieldType := fun k => match k with
  | _ => .object "SplayOrchard$Apple"
abbrev wsX10 : List Cond := u_ws RX1 TX1 1
theorem nmX1 : ∀ a, a < 1 → ∀ b, b < 1 → a ≠ b → (TX1 a).2.1 ≠ (TX1 b).2.1 := by decide +kernel
theorem tyX1_ok : ∀ k, k < 1 → parseFieldDescriptor (TX1 k).2.2.1 = some (tyX1 k) := by decide +kernel
abbrev cX1_init : ByteArray := prog_3_method_1_code
def yX1_init : MethodName := ⟨RX1, "<init>", "()V"⟩
abbrev cX1_setTop : ByteArray := prog_3_method_2_code
def yX1_setTop : MethodName := ⟨RX1, "setTop", "(LSplayOrchard$Apple;)V"⟩
abbrev cX1_first : ByteArray := prog_3_method_3_code
def yX1_first : MethodName := ⟨RX1, "first", "()LSplayOrchard$Apple;"⟩
abbrev cX1_last : ByteArray := prog_3_method_4_code
def yX1_last : MethodName := ⟨RX1, "last", "()LSplayOrchard$Apple;"⟩
abbrev cX1_nearest : ByteArray := prog_3_method_5_code
def yX1_nearest : MethodName := ⟨RX1, "nearest", "(I)LSplayOrchard$Apple;"⟩
abbrev cX1_find : ByteArray := prog_3_method_6_code
def yX1_find : MethodName := ⟨RX1, "find", "(I)LSplayOrchard$Apple;"⟩
abbrev cX1_hang : ByteArray := prog_3_method_7_code
def yX1_hang : MethodName := ⟨RX1, "hang", "(LSplayOrchard$Apple;)V"⟩
abbrev cX1_bringUp : ByteArray := prog_3_method_8_code
def yX1_bringUp : MethodName := ⟨RX1, "bringUp", "(LSplayOrchard$Apple;)I"⟩
abbrev cX1_at : ByteArray := prog_3_method_9_code
def yX1_at : MethodName := ⟨RX1, "at", "(I)LSplayOrchard$Apple;"⟩
abbrev cX1_count : ByteArray := prog_3_method_10_code
def yX1_count : MethodName := ⟨RX1, "count", "()I"⟩
abbrev cX1_countBelow : ByteArray := prog_3_method_11_code
def yX1_countBelow : MethodName := ⟨RX1, "countBelow", "(I)I"⟩
abbrev cX1_greatestBelow : ByteArray := prog_3_method_12_code
def yX1_greatestBelow : MethodName := ⟨RX1, "greatestBelow", "(I)LSplayOrchard$Apple;"⟩
abbrev cX1_levels : ByteArray := prog_3_method_13_code
def yX1_levels : MethodName := ⟨RX1, "levels", "()I"⟩
abbrev cX1_depthSum : ByteArray := prog_3_method_14_code
def yX1_depthSum : MethodName := ⟨RX1, "depthSum", "()I"⟩
abbrev cX1_leafCount : ByteArray := prog_3_method_15_code
def yX1_leafCount : MethodName := ⟨RX1, "leafCount", "()I"⟩
abbrev cX1_mostBitten : ByteArray := prog_3_method_16_code
def yX1_mostBitten : MethodName := ⟨RX1, "mostBitten", "()LSplayOrchard$Apple;"⟩
abbrev cX1_meeting : ByteArray := prog_3_method_17_code
def yX1_meeting : MethodName := ⟨RX1, "meeting", "(LSplayOrchard$Apple;LSplayOrchard$Apple;)LSplayOrchard$Apple;"⟩
abbrev cX1_standInFor : ByteArray := prog_3_method_18_code
def yX1_standInFor : MethodName := ⟨RX1, "standInFor", "(LSplayOrchard$Tree;)V"⟩
def RX2 : String := "SplayOrchard"
def TX2 : u_T := fun k => match k with
  | 0 => ("SplayOrchard", "rows", "[LSplayOrchard$Tree;", true)
  | 1 => ("SplayOrchard", "trial", "LSplayOrchard$Tree;", true)
  | _ => ("SplayOrchard", "turned", "I", false)
def tyX2 : Nat → FieldType := fun k => match k with
  | 0 => .array (.object "SplayOrchard$Tree")
  | 1 => .object "SplayOrchard$Tree"
  | _ => .int
abbrev wsX20 : List Cond := u_ws RX2 TX2 3
theorem nmX2 : ∀ a, a < 3 → ∀ b, b < 3 → a ≠ b → (TX2 a).2.1 ≠ (TX2 b).2.1 := by decide +kernel
theorem tyX2_ok : ∀ k, k < 3 → parseFieldDescriptor (TX2 k).2.2.1 = some (tyX2 k) := by decide +kernel
abbrev cX2_init : ByteArray := prog_1_method_1_code
def yX2_init : MethodName := ⟨RX2, "<init>", "()V"⟩
abbrev cX2_plant : ByteArray := prog_1_method_2_code
def yX2_plant : MethodName := ⟨RX2, "plant", "(II)I"⟩
abbrev cX2_eat : ByteArray := prog_1_method_3_code
def yX2_eat : MethodName := ⟨RX2, "eat", "(II)I"⟩
abbrev cX2_pick : ByteArray := prog_1_method_4_code
def yX2_pick : MethodName := ⟨RX2, "pick", "(II)I"⟩
abbrev cX2_split : ByteArray := prog_1_method_5_code
def yX2_split : MethodName := ⟨RX2, "split", "(III)I"⟩
abbrev cX2_join : ByteArray := prog_1_method_6_code
def yX2_join : MethodName := ⟨RX2, "join", "(II)I"⟩
abbrev cX2_apples : ByteArray := prog_1_method_7_code
def yX2_apples : MethodName := ⟨RX2, "apples", "()I"⟩
abbrev cX2_turnings : ByteArray := prog_1_method_8_code
def yX2_turnings : MethodName := ⟨RX2, "turnings", "()I"⟩
abbrev cX2_sizeOf : ByteArray := prog_1_method_9_code
def yX2_sizeOf : MethodName := ⟨RX2, "sizeOf", "(I)I"⟩
abbrev cX2_top : ByteArray := prog_1_method_10_code
def yX2_top : MethodName := ⟨RX2, "top", "(I)I"⟩
abbrev cX2_height : ByteArray := prog_1_method_11_code
def yX2_height : MethodName := ⟨RX2, "height", "(I)I"⟩
abbrev cX2_leastHeight : ByteArray := prog_1_method_12_code
def yX2_leastHeight : MethodName := ⟨RX2, "leastHeight", "(I)I"⟩
abbrev cX2_depths : ByteArray := prog_1_method_13_code
def yX2_depths : MethodName := ⟨RX2, "depths", "(I)I"⟩
abbrev cX2_smallest : ByteArray := prog_1_method_14_code
def yX2_smallest : MethodName := ⟨RX2, "smallest", "(I)I"⟩
abbrev cX2_greatest : ByteArray := prog_1_method_15_code
def yX2_greatest : MethodName := ⟨RX2, "greatest", "(I)I"⟩
abbrev cX2_inOrder : ByteArray := prog_1_method_16_code
def yX2_inOrder : MethodName := ⟨RX2, "inOrder", "(II)I"⟩
abbrev cX2_leaves : ByteArray := prog_1_method_17_code
def yX2_leaves : MethodName := ⟨RX2, "leaves", "(I)I"⟩
abbrev cX2_has : ByteArray := prog_1_method_18_code
def yX2_has : MethodName := ⟨RX2, "has", "(II)Z"⟩
abbrev cX2_smaller : ByteArray := prog_1_method_19_code
def yX2_smaller : MethodName := ⟨RX2, "smaller", "(II)I"⟩
abbrev cX2_depthOf : ByteArray := prog_1_method_20_code
def yX2_depthOf : MethodName := ⟨RX2, "depthOf", "(II)I"⟩
abbrev cX2_above : ByteArray := prog_1_method_21_code
def yX2_above : MethodName := ⟨RX2, "above", "(II)I"⟩
abbrev cX2_leftOf : ByteArray := prog_1_method_22_code
def yX2_leftOf : MethodName := ⟨RX2, "leftOf", "(II)I"⟩
abbrev cX2_rightOf : ByteArray := prog_1_method_23_code
def yX2_rightOf : MethodName := ⟨RX2, "rightOf", "(II)I"⟩
abbrev cX2_below : ByteArray := prog_1_method_24_code
def yX2_below : MethodName := ⟨RX2, "below", "(II)I"⟩
abbrev cX2_eaten : ByteArray := prog_1_method_25_code
def yX2_eaten : MethodName := ⟨RX2, "eaten", "(II)I"⟩
abbrev cX2_favourite : ByteArray := prog_1_method_26_code
def yX2_favourite : MethodName := ⟨RX2, "favourite", "(I)I"⟩
abbrev cX2_meet : ByteArray := prog_1_method_27_code
def yX2_meet : MethodName := ⟨RX2, "meet", "(III)I"⟩
abbrev cX2_depthBehind : ByteArray := prog_1_method_28_code
def yX2_depthBehind : MethodName := ⟨RX2, "depthBehind", "(III)I"⟩
abbrev cX2_heightBehind : ByteArray := prog_1_method_29_code
def yX2_heightBehind : MethodName := ⟨RX2, "heightBehind", "(II)I"⟩
abbrev cX2_bestToEat : ByteArray := prog_1_method_30_code
def yX2_bestToEat : MethodName := ⟨RX2, "bestToEat", "(I)I"⟩
abbrev cX2_plantDepth : ByteArray := prog_1_method_31_code
def yX2_plantDepth : MethodName := ⟨RX2, "plantDepth", "(II)I"⟩
abbrev cX2_canJoin : ByteArray := prog_1_method_32_code
def yX2_canJoin : MethodName := ⟨RX2, "canJoin", "(II)Z"⟩
abbrev cX2_meanDepth : ByteArray := prog_1_method_33_code
def yX2_meanDepth : MethodName := ⟨RX2, "meanDepth", "(I)D"⟩
abbrev cX2_digest : ByteArray := prog_1_method_34_code
def yX2_digest : MethodName := ⟨RX2, "digest", "()J"⟩
abbrev cX2_mixRow : ByteArray := prog_1_method_35_code
def yX2_mixRow : MethodName := ⟨RX2, "mixRow", "(JI)J"⟩
abbrev cX2_mixApple : ByteArray := prog_1_method_36_code
def yX2_mixApple : MethodName := ⟨RX2, "mixApple", "(JLSplayOrchard$Apple;)J"⟩
abbrev cX2_mix : ByteArray := prog_1_method_37_code
def yX2_mix : MethodName := ⟨RX2, "mix", "(JI)J"⟩
abbrev cX2_treeOf : ByteArray := prog_1_method_38_code
def yX2_treeOf : MethodName := ⟨RX2, "treeOf", "(I)LSplayOrchard$Tree;"⟩
abbrev cX2_checkSize : ByteArray := prog_1_method_39_code
def yX2_checkSize : MethodName := ⟨RX2, "checkSize", "(I)V"⟩
abbrev cX2_appleOf : ByteArray := prog_1_method_40_code
def yX2_appleOf : MethodName := ⟨RX2, "appleOf", "(LSplayOrchard$Tree;I)LSplayOrchard$Apple;"⟩
abbrev cX2_sizeOrNone : ByteArray := prog_1_method_41_code
def yX2_sizeOrNone : MethodName := ⟨RX2, "sizeOrNone", "(LSplayOrchard$Apple;)I"⟩
abbrev cX2_mayJoin : ByteArray := prog_1_method_42_code
def yX2_mayJoin : MethodName := ⟨RX2, "mayJoin", "(LSplayOrchard$Tree;LSplayOrchard$Tree;)Z"⟩
abbrev cX2_bringUp : ByteArray := prog_1_method_43_code
def yX2_bringUp : MethodName := ⟨RX2, "bringUp", "(LSplayOrchard$Tree;LSplayOrchard$Apple;)I"⟩
abbrev cX2_append : ByteArray := prog_1_method_44_code
def yX2_append : MethodName := ⟨RX2, "append", "(LSplayOrchard$Tree;LSplayOrchard$Apple;)V"⟩
abbrev cX2_tryEating : ByteArray := prog_1_method_45_code
def yX2_tryEating : MethodName := ⟨RX2, "tryEating", "(LSplayOrchard$Tree;LSplayOrchard$Apple;)V"⟩
def RX3 : String := "SplayOrchardModel"
def TX3 : u_T := fun k => match k with
  | 0 => ("SplayOrchardModel", "thrown", "I", false)
  | 1 => ("SplayOrchardModel", "many", "I", false)
  | 2 => ("SplayOrchardModel", "turned", "I", false)
  | 3 => ("SplayOrchardModel", "now", "[I", true)
  | 4 => ("SplayOrchardModel", "kept", "[I", true)
  | _ => ("SplayOrchardModel", "keptTurned", "I", false)
def tyX3 : Nat → FieldType := fun k => match k with
  | 0 => .int
  | 1 => .int
  | 2 => .int
  | 3 => .array .int
  | 4 => .array .int
  | _ => .int
abbrev wsX30 : List Cond := u_ws RX3 TX3 6
theorem nmX3 : ∀ a, a < 6 → ∀ b, b < 6 → a ≠ b → (TX3 a).2.1 ≠ (TX3 b).2.1 := by decide +kernel
theorem tyX3_ok : ∀ k, k < 6 → parseFieldDescriptor (TX3 k).2.2.1 = some (tyX3 k) := by decide +kernel
abbrev cX3_init : ByteArray := prog_5_method_1_code
def yX3_init : MethodName := ⟨RX3, "<init>", "()V"⟩
abbrev cX3_thrown : ByteArray := prog_5_method_2_code
def yX3_thrown : MethodName := ⟨RX3, "thrown", "()I"⟩
abbrev cX3_no : ByteArray := prog_5_method_3_code
def yX3_no : MethodName := ⟨RX3, "no", "(I)I"⟩
abbrev cX3_isNot : ByteArray := prog_5_method_4_code
def yX3_isNot : MethodName := ⟨RX3, "isNot", "(I)Z"⟩
abbrev cX3_ok : ByteArray := prog_5_method_5_code
def yX3_ok : MethodName := ⟨RX3, "ok", "(I)I"⟩
abbrev cX3_isRow : ByteArray := prog_5_method_6_code
def yX3_isRow : MethodName := ⟨RX3, "isRow", "(I)Z"⟩
abbrev cX3_isSize : ByteArray := prog_5_method_7_code
def yX3_isSize : MethodName := ⟨RX3, "isSize", "(I)Z"⟩
abbrev cX3_keep : ByteArray := prog_5_method_8_code
def yX3_keep : MethodName := ⟨RX3, "keep", "()V"⟩
abbrev cX3_bringBack : ByteArray := prog_5_method_9_code
def yX3_bringBack : MethodName := ⟨RX3, "bringBack", "()V"⟩
abbrev cX3_find : ByteArray := prog_5_method_10_code
def yX3_find : MethodName := ⟨RX3, "find", "(II)I"⟩
abbrev cX3_deep : ByteArray := prog_5_method_11_code
def yX3_deep : MethodName := ⟨RX3, "deep", "(I)I"⟩
abbrev cX3_free : ByteArray := prog_5_method_12_code
def yX3_free : MethodName := ⟨RX3, "free", "()I"⟩
abbrev cX3_end : ByteArray := prog_5_method_13_code
def yX3_end : MethodName := ⟨RX3, "end", "(II)I"⟩
abbrev cX3_hang : ByteArray := prog_5_method_14_code
def yX3_hang : MethodName := ⟨RX3, "hang", "(III)V"⟩
abbrev cX3_sideOf : ByteArray := prog_5_method_15_code
def yX3_sideOf : MethodName := ⟨RX3, "sideOf", "(I)I"⟩
abbrev cX3_across : ByteArray := prog_5_method_16_code
def yX3_across : MethodName := ⟨RX3, "across", "(I)I"⟩
abbrev cX3_turn : ByteArray := prog_5_method_17_code
def yX3_turn : MethodName := ⟨RX3, "turn", "(I)V"⟩
abbrev cX3_raise : ByteArray := prog_5_method_18_code
def yX3_raise : MethodName := ⟨RX3, "raise", "(I)V"⟩
abbrev cX3_raiseIn : ByteArray := prog_5_method_19_code
def yX3_raiseIn : MethodName := ⟨RX3, "raiseIn", "(II)V"⟩
abbrev cX3_count : ByteArray := prog_5_method_20_code
def yX3_count : MethodName := ⟨RX3, "count", "(I)I"⟩
abbrev cX3_high : ByteArray := prog_5_method_21_code
def yX3_high : MethodName := ⟨RX3, "high", "(I)I"⟩
abbrev cX3_depthsOf : ByteArray := prog_5_method_22_code
def yX3_depthsOf : MethodName := ⟨RX3, "depthsOf", "(II)I"⟩
abbrev cX3_ends : ByteArray := prog_5_method_23_code
def yX3_ends : MethodName := ⟨RX3, "ends", "(I)I"⟩
abbrev cX3_under : ByteArray := prog_5_method_24_code
def yX3_under : MethodName := ⟨RX3, "under", "(II)I"⟩
abbrev cX3_nth : ByteArray := prog_5_method_25_code
def yX3_nth : MethodName := ⟨RX3, "nth", "(II)I"⟩
abbrev cX3_sizeAt : ByteArray := prog_5_method_26_code
def yX3_sizeAt : MethodName := ⟨RX3, "sizeAt", "(I)I"⟩
abbrev cX3_plantDeep : ByteArray := prog_5_method_27_code
def yX3_plantDeep : MethodName := ⟨RX3, "plantDeep", "(II)I"⟩
abbrev cX3_planted : ByteArray := prog_5_method_28_code
def yX3_planted : MethodName := ⟨RX3, "planted", "(II)I"⟩
abbrev cX3_plant : ByteArray := prog_5_method_29_code
def yX3_plant : MethodName := ⟨RX3, "plant", "(II)I"⟩
abbrev cX3_bitten : ByteArray := prog_5_method_30_code
def yX3_bitten : MethodName := ⟨RX3, "bitten", "(II)I"⟩
abbrev cX3_eat : ByteArray := prog_5_method_31_code
def yX3_eat : MethodName := ⟨RX3, "eat", "(II)I"⟩
abbrev cX3_lowered : ByteArray := prog_5_method_32_code
def yX3_lowered : MethodName := ⟨RX3, "lowered", "(I)I"⟩
abbrev cX3_together : ByteArray := prog_5_method_33_code
def yX3_together : MethodName := ⟨RX3, "together", "(II)I"⟩
abbrev cX3_picked : ByteArray := prog_5_method_34_code
def yX3_picked : MethodName := ⟨RX3, "picked", "(II)I"⟩
abbrev cX3_pick : ByteArray := prog_5_method_35_code
def yX3_pick : MethodName := ⟨RX3, "pick", "(II)I"⟩
abbrev cX3_parted : ByteArray := prog_5_method_36_code
def yX3_parted : MethodName := ⟨RX3, "parted", "(III)I"⟩
abbrev cX3_split : ByteArray := prog_5_method_37_code
def yX3_split : MethodName := ⟨RX3, "split", "(III)I"⟩
abbrev cX3_fits : ByteArray := prog_5_method_38_code
def yX3_fits : MethodName := ⟨RX3, "fits", "(II)Z"⟩
abbrev cX3_join : ByteArray := prog_5_method_39_code
def yX3_join : MethodName := ⟨RX3, "join", "(II)I"⟩
abbrev cX3_apples : ByteArray := prog_5_method_40_code
def yX3_apples : MethodName := ⟨RX3, "apples", "()I"⟩
abbrev cX3_turnings : ByteArray := prog_5_method_41_code
def yX3_turnings : MethodName := ⟨RX3, "turnings", "()I"⟩
abbrev cX3_sizeOf : ByteArray := prog_5_method_42_code
def yX3_sizeOf : MethodName := ⟨RX3, "sizeOf", "(I)I"⟩
abbrev cX3_top : ByteArray := prog_5_method_43_code
def yX3_top : MethodName := ⟨RX3, "top", "(I)I"⟩
abbrev cX3_height : ByteArray := prog_5_method_44_code
def yX3_height : MethodName := ⟨RX3, "height", "(I)I"⟩
abbrev cX3_lowest : ByteArray := prog_5_method_45_code
def yX3_lowest : MethodName := ⟨RX3, "lowest", "(I)I"⟩
abbrev cX3_leastHeight : ByteArray := prog_5_method_46_code
def yX3_leastHeight : MethodName := ⟨RX3, "leastHeight", "(I)I"⟩
abbrev cX3_depths : ByteArray := prog_5_method_47_code
def yX3_depths : MethodName := ⟨RX3, "depths", "(I)I"⟩
abbrev cX3_smallest : ByteArray := prog_5_method_48_code
def yX3_smallest : MethodName := ⟨RX3, "smallest", "(I)I"⟩
abbrev cX3_greatest : ByteArray := prog_5_method_49_code
def yX3_greatest : MethodName := ⟨RX3, "greatest", "(I)I"⟩
abbrev cX3_inOrder : ByteArray := prog_5_method_50_code
def yX3_inOrder : MethodName := ⟨RX3, "inOrder", "(II)I"⟩
abbrev cX3_leaves : ByteArray := prog_5_method_51_code
def yX3_leaves : MethodName := ⟨RX3, "leaves", "(I)I"⟩
abbrev cX3_has : ByteArray := prog_5_method_52_code
def yX3_has : MethodName := ⟨RX3, "has", "(II)Z"⟩
abbrev cX3_smaller : ByteArray := prog_5_method_53_code
def yX3_smaller : MethodName := ⟨RX3, "smaller", "(II)I"⟩
abbrev cX3_asked : ByteArray := prog_5_method_54_code
def yX3_asked : MethodName := ⟨RX3, "asked", "(II)I"⟩
abbrev cX3_depthOf : ByteArray := prog_5_method_55_code
def yX3_depthOf : MethodName := ⟨RX3, "depthOf", "(II)I"⟩
abbrev cX3_above : ByteArray := prog_5_method_56_code
def yX3_above : MethodName := ⟨RX3, "above", "(II)I"⟩
abbrev cX3_leftOf : ByteArray := prog_5_method_57_code
def yX3_leftOf : MethodName := ⟨RX3, "leftOf", "(II)I"⟩
abbrev cX3_rightOf : ByteArray := prog_5_method_58_code
def yX3_rightOf : MethodName := ⟨RX3, "rightOf", "(II)I"⟩
abbrev cX3_below : ByteArray := prog_5_method_59_code
def yX3_below : MethodName := ⟨RX3, "below", "(II)I"⟩
abbrev cX3_eaten : ByteArray := prog_5_method_60_code
def yX3_eaten : MethodName := ⟨RX3, "eaten", "(II)I"⟩
abbrev cX3_liked : ByteArray := prog_5_method_61_code
def yX3_liked : MethodName := ⟨RX3, "liked", "(I)I"⟩
abbrev cX3_favourite : ByteArray := prog_5_method_62_code
def yX3_favourite : MethodName := ⟨RX3, "favourite", "(I)I"⟩
abbrev cX3_meet : ByteArray := prog_5_method_63_code
def yX3_meet : MethodName := ⟨RX3, "meet", "(III)I"⟩
abbrev cX3_depthBehind : ByteArray := prog_5_method_64_code
def yX3_depthBehind : MethodName := ⟨RX3, "depthBehind", "(III)I"⟩
abbrev cX3_heightBehind : ByteArray := prog_5_method_65_code
def yX3_heightBehind : MethodName := ⟨RX3, "heightBehind", "(II)I"⟩
abbrev cX3_best : ByteArray := prog_5_method_66_code
def yX3_best : MethodName := ⟨RX3, "best", "(I)I"⟩
abbrev cX3_bestToEat : ByteArray := prog_5_method_67_code
def yX3_bestToEat : MethodName := ⟨RX3, "bestToEat", "(I)I"⟩
abbrev cX3_plantDepth : ByteArray := prog_5_method_68_code
def yX3_plantDepth : MethodName := ⟨RX3, "plantDepth", "(II)I"⟩
abbrev cX3_canJoin : ByteArray := prog_5_method_69_code
def yX3_canJoin : MethodName := ⟨RX3, "canJoin", "(II)Z"⟩
abbrev cX3_meanDepth : ByteArray := prog_5_method_70_code
def yX3_meanDepth : MethodName := ⟨RX3, "meanDepth", "(I)D"⟩
abbrev cX3_digest : ByteArray := prog_5_method_71_code
def yX3_digest : MethodName := ⟨RX3, "digest", "()J"⟩
def RJ9 : String := "java/lang/Math"
def TJ9 : u_T := fun k => match k with
  | _ => ("", "", "", false)
def tyJ9 : Nat → FieldType := fun k => match k with
  | _ => .int
abbrev wsJ90 : List Cond := u_ws RJ9 TJ9 0
theorem nmJ9 : ∀ a, a < 0 → ∀ b, b < 0 → a ≠ b → (TJ9 a).2.1 ≠ (TJ9 b).2.1 := by decide +kernel
theorem tyJ9_ok : ∀ k, k < 0 → parseFieldDescriptor (TJ9 k).2.2.1 = some (tyJ9 k) := by decide +kernel
abbrev cJ9_max_7cf53 : ByteArray := prog_10_method_65_code
def yJ9_max_7cf53 : MethodName := ⟨RJ9, "max", "(II)I"⟩
abbrev cJ9_min_7cf53 : ByteArray := prog_10_method_69_code
def yJ9_min_7cf53 : MethodName := ⟨RJ9, "min", "(II)I"⟩
def RJ0 : String := "java/lang/String"
def TJ0 : u_T := fun k => match k with
  | _ => ("", "", "", false)
def tyJ0 : Nat → FieldType := fun k => match k with
  | _ => .int
abbrev wsJ00 : List Cond := u_ws RJ0 TJ0 0
theorem nmJ0 : ∀ a, a < 0 → ∀ b, b < 0 → a ≠ b → (TJ0 a).2.1 ≠ (TJ0 b).2.1 := by decide +kernel
theorem tyJ0_ok : ∀ k, k < 0 → parseFieldDescriptor (TJ0 k).2.2.1 = some (tyJ0 k) := by decide +kernel
def RJ10 : String := "java/lang/System"
def TJ10 : u_T := fun k => match k with
  | _ => ("", "", "", false)
def tyJ10 : Nat → FieldType := fun k => match k with
  | _ => .int
abbrev wsJ100 : List Cond := u_ws RJ10 TJ10 0
theorem nmJ10 : ∀ a, a < 0 → ∀ b, b < 0 → a ≠ b → (TJ10 a).2.1 ≠ (TJ10 b).2.1 := by decide +kernel
theorem tyJ10_ok : ∀ k, k < 0 → parseFieldDescriptor (TJ10 k).2.2.1 = some (tyJ10 k) := by decide +kernel
def RL : String := "SplayOrchardLaw"
abbrev cL_plant : ByteArray := method_3_code
def yL_plant : MethodName := ⟨RL, "plant", "(LSplayOrchard;II[J)I"⟩
abbrev cL_eat : ByteArray := method_4_code
def yL_eat : MethodName := ⟨RL, "eat", "(LSplayOrchard;II[J)I"⟩
abbrev cL_pick : ByteArray := method_5_code
def yL_pick : MethodName := ⟨RL, "pick", "(LSplayOrchard;II[J)I"⟩
abbrev cL_split : ByteArray := method_6_code
def yL_split : MethodName := ⟨RL, "split", "(LSplayOrchard;III[J)I"⟩
abbrev cL_join : ByteArray := method_7_code
def yL_join : MethodName := ⟨RL, "join", "(LSplayOrchard;II[J)I"⟩
abbrev cL_sizeOf : ByteArray := method_8_code
def yL_sizeOf : MethodName := ⟨RL, "sizeOf", "(LSplayOrchard;I[J)I"⟩
abbrev cL_top : ByteArray := method_9_code
def yL_top : MethodName := ⟨RL, "top", "(LSplayOrchard;I[J)I"⟩
abbrev cL_height : ByteArray := method_10_code
def yL_height : MethodName := ⟨RL, "height", "(LSplayOrchard;I[J)I"⟩
abbrev cL_leastHeight : ByteArray := method_11_code
def yL_leastHeight : MethodName := ⟨RL, "leastHeight", "(LSplayOrchard;I[J)I"⟩
abbrev cL_depths : ByteArray := method_12_code
def yL_depths : MethodName := ⟨RL, "depths", "(LSplayOrchard;I[J)I"⟩
abbrev cL_smallest : ByteArray := method_13_code
def yL_smallest : MethodName := ⟨RL, "smallest", "(LSplayOrchard;I[J)I"⟩
abbrev cL_greatest : ByteArray := method_14_code
def yL_greatest : MethodName := ⟨RL, "greatest", "(LSplayOrchard;I[J)I"⟩
abbrev cL_inOrder : ByteArray := method_15_code
def yL_inOrder : MethodName := ⟨RL, "inOrder", "(LSplayOrchard;II[J)I"⟩
abbrev cL_leaves : ByteArray := method_16_code
def yL_leaves : MethodName := ⟨RL, "leaves", "(LSplayOrchard;I[J)I"⟩
abbrev cL_has : ByteArray := method_17_code
def yL_has : MethodName := ⟨RL, "has", "(LSplayOrchard;II[J)I"⟩
abbrev cL_smaller : ByteArray := method_18_code
def yL_smaller : MethodName := ⟨RL, "smaller", "(LSplayOrchard;II[J)I"⟩
abbrev cL_depthOf : ByteArray := method_19_code
def yL_depthOf : MethodName := ⟨RL, "depthOf", "(LSplayOrchard;II[J)I"⟩
abbrev cL_above : ByteArray := method_20_code
def yL_above : MethodName := ⟨RL, "above", "(LSplayOrchard;II[J)I"⟩
abbrev cL_leftOf : ByteArray := method_21_code
def yL_leftOf : MethodName := ⟨RL, "leftOf", "(LSplayOrchard;II[J)I"⟩
abbrev cL_rightOf : ByteArray := method_22_code
def yL_rightOf : MethodName := ⟨RL, "rightOf", "(LSplayOrchard;II[J)I"⟩
abbrev cL_below : ByteArray := method_23_code
def yL_below : MethodName := ⟨RL, "below", "(LSplayOrchard;II[J)I"⟩
abbrev cL_eaten : ByteArray := method_24_code
def yL_eaten : MethodName := ⟨RL, "eaten", "(LSplayOrchard;II[J)I"⟩
abbrev cL_favourite : ByteArray := method_25_code
def yL_favourite : MethodName := ⟨RL, "favourite", "(LSplayOrchard;I[J)I"⟩
abbrev cL_meet : ByteArray := method_26_code
def yL_meet : MethodName := ⟨RL, "meet", "(LSplayOrchard;III[J)I"⟩
abbrev cL_depthBehind : ByteArray := method_27_code
def yL_depthBehind : MethodName := ⟨RL, "depthBehind", "(LSplayOrchard;III[J)I"⟩
abbrev cL_heightBehind : ByteArray := method_28_code
def yL_heightBehind : MethodName := ⟨RL, "heightBehind", "(LSplayOrchard;II[J)I"⟩
abbrev cL_bestToEat : ByteArray := method_29_code
def yL_bestToEat : MethodName := ⟨RL, "bestToEat", "(LSplayOrchard;I[J)I"⟩
abbrev cL_plantDepth : ByteArray := method_30_code
def yL_plantDepth : MethodName := ⟨RL, "plantDepth", "(LSplayOrchard;II[J)I"⟩
abbrev cL_canJoin : ByteArray := method_31_code
def yL_canJoin : MethodName := ⟨RL, "canJoin", "(LSplayOrchard;II[J)I"⟩
abbrev cL_meanDepth : ByteArray := method_32_code
def yL_meanDepth : MethodName := ⟨RL, "meanDepth", "(LSplayOrchard;I[D)I"⟩
abbrev cL_law : ByteArray := code
def yL_law : MethodName := ⟨RL, "law", "([I)Z"⟩
def wsX0_init : List Cond := .code yX0_init cX0_init 3 none :: ([.methodLink RX0 1 objectInit, .instanceMethod objectInit, .code objectInit ⟨#[0xb1]⟩ 1 none, .fieldLink RX0 7 "SplayOrchard$Apple" "size" "I", .fieldLink RX0 13 "SplayOrchard$Apple" "standIn" "LSplayOrchard$Apple;"] ++ wsX00)
def wsX0_hangLeft : List Cond := .code yX0_hangLeft cX0_hangLeft 2 none :: ([.fieldLink RX0 17 "SplayOrchard$Apple" "left" "LSplayOrchard$Apple;", .fieldLink RX0 20 "SplayOrchard$Apple" "up" "LSplayOrchard$Apple;"] ++ wsX00)
def wsX0_hangRight : List Cond := .code yX0_hangRight cX0_hangRight 2 none :: ([.fieldLink RX0 23 "SplayOrchard$Apple" "right" "LSplayOrchard$Apple;", .fieldLink RX0 20 "SplayOrchard$Apple" "up" "LSplayOrchard$Apple;"] ++ wsX00)
def wsX0_isOnTheLeft : List Cond := .code yX0_isOnTheLeft cX0_isOnTheLeft 1 (some .boolean) :: ([.fieldLink RX0 20 "SplayOrchard$Apple" "up" "LSplayOrchard$Apple;", .fieldLink RX0 17 "SplayOrchard$Apple" "left" "LSplayOrchard$Apple;"] ++ wsX00)
def wsX0_turn : List Cond := .code yX0_turn cX0_turn 4 none :: ([.fieldLink RX0 20 "SplayOrchard$Apple" "up" "LSplayOrchard$Apple;", .fieldLink RX0 23 "SplayOrchard$Apple" "right" "LSplayOrchard$Apple;", .fieldLink RX0 17 "SplayOrchard$Apple" "left" "LSplayOrchard$Apple;", .methodLink RX0 26 yX0_isOnTheLeft, .instanceMethod yX0_isOnTheLeft, .selects RX0 yX0_isOnTheLeft yX0_isOnTheLeft, .initialized RX0, .code yX0_isOnTheLeft cX0_isOnTheLeft 1 (some .boolean), .methodLink RX0 30 yX0_hangLeft, .instanceMethod yX0_hangLeft, .selects RX0 yX0_hangLeft yX0_hangLeft, .code yX0_hangLeft cX0_hangLeft 2 none, .methodLink RX0 34 yX0_hangRight, .instanceMethod yX0_hangRight, .selects RX0 yX0_hangRight yX0_hangRight, .code yX0_hangRight cX0_hangRight 2 none] ++ wsX00)
def wsX0_depth : List Cond := .code yX0_depth cX0_depth 3 (some .int) :: ([.fieldLink RX0 20 "SplayOrchard$Apple" "up" "LSplayOrchard$Apple;"] ++ wsX00)
def wsX0_towards : List Cond := .code yX0_towards cX0_towards 2 (some (.object "SplayOrchard$Apple")) :: ([.fieldLink RX0 7 "SplayOrchard$Apple" "size" "I", .fieldLink RX0 17 "SplayOrchard$Apple" "left" "LSplayOrchard$Apple;", .fieldLink RX0 23 "SplayOrchard$Apple" "right" "LSplayOrchard$Apple;"] ++ wsX00)
def wsX0_leastUnder : List Cond := .code yX0_leastUnder cX0_leastUnder 2 (some (.object "SplayOrchard$Apple")) :: ([.fieldLink RX0 17 "SplayOrchard$Apple" "left" "LSplayOrchard$Apple;"] ++ wsX00)
def wsX0_greatestUnder : List Cond := .code yX0_greatestUnder cX0_greatestUnder 2 (some (.object "SplayOrchard$Apple")) :: ([.fieldLink RX0 23 "SplayOrchard$Apple" "right" "LSplayOrchard$Apple;"] ++ wsX00)
def wsX0_next : List Cond := .code yX0_next cX0_next 2 (some (.object "SplayOrchard$Apple")) :: ([.fieldLink RX0 23 "SplayOrchard$Apple" "right" "LSplayOrchard$Apple;", .fieldLink RX0 20 "SplayOrchard$Apple" "up" "LSplayOrchard$Apple;", .methodLink RX0 37 yX0_leastUnder, .instanceMethod yX0_leastUnder, .selects RX0 yX0_leastUnder yX0_leastUnder, .initialized RX0, .code yX0_leastUnder cX0_leastUnder 2 (some (.object "SplayOrchard$Apple")), .fieldLink RX0 17 "SplayOrchard$Apple" "left" "LSplayOrchard$Apple;"] ++ wsX00)
def wsX0_countUnder : List Cond := .code yX0_countUnder cX0_countUnder 4 (some .int) :: ([.methodLink RX0 41 yX0_greatestUnder, .instanceMethod yX0_greatestUnder, .selects RX0 yX0_greatestUnder yX0_greatestUnder, .initialized RX0, .code yX0_greatestUnder cX0_greatestUnder 2 (some (.object "SplayOrchard$Apple")), .fieldLink RX0 23 "SplayOrchard$Apple" "right" "LSplayOrchard$Apple;", .methodLink RX0 37 yX0_leastUnder, .instanceMethod yX0_leastUnder, .selects RX0 yX0_leastUnder yX0_leastUnder, .code yX0_leastUnder cX0_leastUnder 2 (some (.object "SplayOrchard$Apple")), .fieldLink RX0 17 "SplayOrchard$Apple" "left" "LSplayOrchard$Apple;", .methodLink RX0 44 yX0_next, .instanceMethod yX0_next, .selects RX0 yX0_next yX0_next, .code yX0_next cX0_next 2 (some (.object "SplayOrchard$Apple")), .fieldLink RX0 20 "SplayOrchard$Apple" "up" "LSplayOrchard$Apple;"] ++ wsX00)
def wsX0_standInOf : List Cond := .code yX0_standInOf cX0_standInOf 1 (some (.object "SplayOrchard$Apple")) :: ([.fieldLink RX0 13 "SplayOrchard$Apple" "standIn" "LSplayOrchard$Apple;"] ++ wsX00)
def wsX0_linkStandIn : List Cond := .code yX0_linkStandIn cX0_linkStandIn 1 none :: ([.fieldLink RX0 13 "SplayOrchard$Apple" "standIn" "LSplayOrchard$Apple;", .fieldLink RX0 20 "SplayOrchard$Apple" "up" "LSplayOrchard$Apple;", .fieldLink RX0 17 "SplayOrchard$Apple" "left" "LSplayOrchard$Apple;", .fieldLink RX0 23 "SplayOrchard$Apple" "right" "LSplayOrchard$Apple;", .methodLink RX0 47 yX0_standInOf, .static yX0_standInOf, .initialized RX0, .code yX0_standInOf cX0_standInOf 1 (some (.object "SplayOrchard$Apple"))] ++ wsX00)
def wsX1_init : List Cond := .code yX1_init cX1_init 1 none :: ([.methodLink RX1 1 objectInit, .instanceMethod objectInit, .code objectInit ⟨#[0xb1]⟩ 1 none])
def wsX1_setTop : List Cond := .code yX1_setTop cX1_setTop 2 none :: ([.fieldLink RX1 7 "SplayOrchard$Tree" "top" "LSplayOrchard$Apple;", .fieldLink RX1 13 "SplayOrchard$Apple" "up" "LSplayOrchard$Apple;"] ++ wsX10 ++ wsX00)
def wsX1_first : List Cond := .code yX1_first cX1_first 1 (some (.object "SplayOrchard$Apple")) :: ([.fieldLink RX1 7 "SplayOrchard$Tree" "top" "LSplayOrchard$Apple;", .methodLink RX1 18 yX0_leastUnder, .instanceMethod yX0_leastUnder, .selects RX0 yX0_leastUnder yX0_leastUnder, .initialized RX0, .code yX0_leastUnder cX0_leastUnder 2 (some (.object "SplayOrchard$Apple")), .fieldLink RX0 17 "SplayOrchard$Apple" "left" "LSplayOrchard$Apple;"] ++ wsX10 ++ wsX00)
def wsX1_last : List Cond := .code yX1_last cX1_last 1 (some (.object "SplayOrchard$Apple")) :: ([.fieldLink RX1 7 "SplayOrchard$Tree" "top" "LSplayOrchard$Apple;", .methodLink RX1 22 yX0_greatestUnder, .instanceMethod yX0_greatestUnder, .selects RX0 yX0_greatestUnder yX0_greatestUnder, .initialized RX0, .code yX0_greatestUnder cX0_greatestUnder 2 (some (.object "SplayOrchard$Apple")), .fieldLink RX0 23 "SplayOrchard$Apple" "right" "LSplayOrchard$Apple;"] ++ wsX10 ++ wsX00)
def wsX1_nearest : List Cond := .code yX1_nearest cX1_nearest 4 (some (.object "SplayOrchard$Apple")) :: ([.fieldLink RX1 7 "SplayOrchard$Tree" "top" "LSplayOrchard$Apple;", .methodLink RX1 25 yX0_towards, .instanceMethod yX0_towards, .selects RX0 yX0_towards yX0_towards, .initialized RX0, .code yX0_towards cX0_towards 2 (some (.object "SplayOrchard$Apple")), .fieldLink RX0 7 "SplayOrchard$Apple" "size" "I", .fieldLink RX0 17 "SplayOrchard$Apple" "left" "LSplayOrchard$Apple;", .fieldLink RX0 23 "SplayOrchard$Apple" "right" "LSplayOrchard$Apple;"] ++ wsX10 ++ wsX00)
def wsX1_find : List Cond := .code yX1_find cX1_find 3 (some (.object "SplayOrchard$Apple")) :: ([.fieldLink RX1 32 "SplayOrchard$Apple" "size" "I", .methodLink RX1 29 yX1_nearest, .instanceMethod yX1_nearest, .selects RX1 yX1_nearest yX1_nearest, .initialized RX1, .code yX1_nearest cX1_nearest 4 (some (.object "SplayOrchard$Apple")), .fieldLink RX1 7 "SplayOrchard$Tree" "top" "LSplayOrchard$Apple;", .methodLink RX1 25 yX0_towards, .instanceMethod yX0_towards, .selects RX0 yX0_towards yX0_towards, .initialized RX0, .code yX0_towards cX0_towards 2 (some (.object "SplayOrchard$Apple")), .fieldLink RX0 7 "SplayOrchard$Apple" "size" "I", .fieldLink RX0 17 "SplayOrchard$Apple" "left" "LSplayOrchard$Apple;", .fieldLink RX0 23 "SplayOrchard$Apple" "right" "LSplayOrchard$Apple;"] ++ wsX00 ++ wsX10)
def wsX1_hang_r1 : List Cond := [Cond.fieldLink RX1 32 "SplayOrchard$Apple" "size" "I", Cond.methodLink RX1 29 yX1_nearest, Cond.instanceMethod yX1_nearest, Cond.selects RX1 yX1_nearest yX1_nearest, Cond.initialized RX1, Cond.code yX1_nearest cX1_nearest 4 (some (.object "SplayOrchard$Apple")), Cond.fieldLink RX1 7 "SplayOrchard$Tree" "top" "LSplayOrchard$Apple;", Cond.methodLink RX1 25 yX0_towards, Cond.instanceMethod yX0_towards, Cond.selects RX0 yX0_towards yX0_towards, Cond.initialized RX0, Cond.code yX0_towards cX0_towards 2 (some (.object "SplayOrchard$Apple")), Cond.fieldLink RX0 7 "SplayOrchard$Apple" "size" "I", Cond.fieldLink RX0 17 "SplayOrchard$Apple" "left" "LSplayOrchard$Apple;", Cond.fieldLink RX0 23 "SplayOrchard$Apple" "right" "LSplayOrchard$Apple;", Cond.methodLink RX1 36 yX1_setTop, Cond.instanceMethod yX1_setTop, Cond.selects RX1 yX1_setTop yX1_setTop, Cond.code yX1_setTop cX1_setTop 2 none, Cond.fieldLink RX1 13 "SplayOrchard$Apple" "up" "LSplayOrchard$Apple;", Cond.methodLink RX1 40 yX0_hangLeft, Cond.instanceMethod yX0_hangLeft, Cond.selects RX0 yX0_hangLeft yX0_hangLeft, Cond.code yX0_hangLeft cX0_hangLeft 2 none]
def wsX1_hang_r2 : List Cond := [Cond.fieldLink RX0 20 "SplayOrchard$Apple" "up" "LSplayOrchard$Apple;", Cond.methodLink RX1 43 yX0_hangRight, Cond.instanceMethod yX0_hangRight, Cond.selects RX0 yX0_hangRight yX0_hangRight, Cond.code yX0_hangRight cX0_hangRight 2 none]
def wsX1_hang : List Cond := .code yX1_hang cX1_hang 3 none :: ((wsX1_hang_r1 ++ wsX1_hang_r2) ++ wsX00 ++ wsX10)
def wsX1_bringUp_r1 : List Cond := [Cond.fieldLink RX1 13 "SplayOrchard$Apple" "up" "LSplayOrchard$Apple;", Cond.fieldLink RX1 7 "SplayOrchard$Tree" "top" "LSplayOrchard$Apple;", Cond.methodLink RX1 46 yX0_depth, Cond.instanceMethod yX0_depth, Cond.selects RX0 yX0_depth yX0_depth, Cond.initialized RX0, Cond.code yX0_depth cX0_depth 3 (some .int), Cond.fieldLink RX0 20 "SplayOrchard$Apple" "up" "LSplayOrchard$Apple;", Cond.methodLink RX1 50 yX0_isOnTheLeft, Cond.instanceMethod yX0_isOnTheLeft, Cond.selects RX0 yX0_isOnTheLeft yX0_isOnTheLeft, Cond.code yX0_isOnTheLeft cX0_isOnTheLeft 1 (some .boolean), Cond.fieldLink RX0 17 "SplayOrchard$Apple" "left" "LSplayOrchard$Apple;", Cond.methodLink RX1 54 yX0_turn, Cond.instanceMethod yX0_turn, Cond.selects RX0 yX0_turn yX0_turn, Cond.code yX0_turn cX0_turn 4 none, Cond.fieldLink RX0 23 "SplayOrchard$Apple" "right" "LSplayOrchard$Apple;", Cond.methodLink RX0 26 yX0_isOnTheLeft, Cond.methodLink RX0 30 yX0_hangLeft, Cond.instanceMethod yX0_hangLeft, Cond.selects RX0 yX0_hangLeft yX0_hangLeft, Cond.code yX0_hangLeft cX0_hangLeft 2 none, Cond.methodLink RX0 34 yX0_hangRight]
def wsX1_bringUp_r2 : List Cond := [Cond.instanceMethod yX0_hangRight, Cond.selects RX0 yX0_hangRight yX0_hangRight, Cond.code yX0_hangRight cX0_hangRight 2 none]
def wsX1_bringUp : List Cond := .code yX1_bringUp cX1_bringUp 6 (some .int) :: ((wsX1_bringUp_r1 ++ wsX1_bringUp_r2) ++ wsX00 ++ wsX10)
def wsX1_at : List Cond := .code yX1_at cX1_at 4 (some (.object "SplayOrchard$Apple")) :: ([.methodLink RX1 57 yX1_first, .instanceMethod yX1_first, .selects RX1 yX1_first yX1_first, .initialized RX1, .code yX1_first cX1_first 1 (some (.object "SplayOrchard$Apple")), .fieldLink RX1 7 "SplayOrchard$Tree" "top" "LSplayOrchard$Apple;", .methodLink RX1 18 yX0_leastUnder, .instanceMethod yX0_leastUnder, .selects RX0 yX0_leastUnder yX0_leastUnder, .initialized RX0, .code yX0_leastUnder cX0_leastUnder 2 (some (.object "SplayOrchard$Apple")), .fieldLink RX0 17 "SplayOrchard$Apple" "left" "LSplayOrchard$Apple;", .methodLink RX1 60 yX0_next, .instanceMethod yX0_next, .selects RX0 yX0_next yX0_next, .code yX0_next cX0_next 2 (some (.object "SplayOrchard$Apple")), .fieldLink RX0 23 "SplayOrchard$Apple" "right" "LSplayOrchard$Apple;", .fieldLink RX0 20 "SplayOrchard$Apple" "up" "LSplayOrchard$Apple;", .methodLink RX0 37 yX0_leastUnder] ++ wsX10 ++ wsX00)
def wsX1_count : List Cond := .code yX1_count cX1_count 1 (some .int) :: ([.fieldLink RX1 7 "SplayOrchard$Tree" "top" "LSplayOrchard$Apple;", .methodLink RX1 63 yX0_countUnder, .instanceMethod yX0_countUnder, .selects RX0 yX0_countUnder yX0_countUnder, .initialized RX0, .code yX0_countUnder cX0_countUnder 4 (some .int), .methodLink RX0 41 yX0_greatestUnder, .instanceMethod yX0_greatestUnder, .selects RX0 yX0_greatestUnder yX0_greatestUnder, .code yX0_greatestUnder cX0_greatestUnder 2 (some (.object "SplayOrchard$Apple")), .fieldLink RX0 23 "SplayOrchard$Apple" "right" "LSplayOrchard$Apple;", .methodLink RX0 37 yX0_leastUnder, .instanceMethod yX0_leastUnder, .selects RX0 yX0_leastUnder yX0_leastUnder, .code yX0_leastUnder cX0_leastUnder 2 (some (.object "SplayOrchard$Apple")), .fieldLink RX0 17 "SplayOrchard$Apple" "left" "LSplayOrchard$Apple;", .methodLink RX0 44 yX0_next, .instanceMethod yX0_next, .selects RX0 yX0_next yX0_next, .code yX0_next cX0_next 2 (some (.object "SplayOrchard$Apple")), .fieldLink RX0 20 "SplayOrchard$Apple" "up" "LSplayOrchard$Apple;"] ++ wsX10 ++ wsX00)
def wsX1_countBelow : List Cond := .code yX1_countBelow cX1_countBelow 4 (some .int) :: ([.fieldLink RX1 32 "SplayOrchard$Apple" "size" "I", .methodLink RX1 57 yX1_first, .instanceMethod yX1_first, .selects RX1 yX1_first yX1_first, .initialized RX1, .code yX1_first cX1_first 1 (some (.object "SplayOrchard$Apple")), .fieldLink RX1 7 "SplayOrchard$Tree" "top" "LSplayOrchard$Apple;", .methodLink RX1 18 yX0_leastUnder, .instanceMethod yX0_leastUnder, .selects RX0 yX0_leastUnder yX0_leastUnder, .initialized RX0, .code yX0_leastUnder cX0_leastUnder 2 (some (.object "SplayOrchard$Apple")), .fieldLink RX0 17 "SplayOrchard$Apple" "left" "LSplayOrchard$Apple;", .methodLink RX1 60 yX0_next, .instanceMethod yX0_next, .selects RX0 yX0_next yX0_next, .code yX0_next cX0_next 2 (some (.object "SplayOrchard$Apple")), .fieldLink RX0 23 "SplayOrchard$Apple" "right" "LSplayOrchard$Apple;", .fieldLink RX0 20 "SplayOrchard$Apple" "up" "LSplayOrchard$Apple;", .methodLink RX0 37 yX0_leastUnder] ++ wsX00 ++ wsX10)
def wsX1_greatestBelow : List Cond := .code yX1_greatestBelow cX1_greatestBelow 4 (some (.object "SplayOrchard$Apple")) :: ([.fieldLink RX1 32 "SplayOrchard$Apple" "size" "I", .methodLink RX1 57 yX1_first, .instanceMethod yX1_first, .selects RX1 yX1_first yX1_first, .initialized RX1, .code yX1_first cX1_first 1 (some (.object "SplayOrchard$Apple")), .fieldLink RX1 7 "SplayOrchard$Tree" "top" "LSplayOrchard$Apple;", .methodLink RX1 18 yX0_leastUnder, .instanceMethod yX0_leastUnder, .selects RX0 yX0_leastUnder yX0_leastUnder, .initialized RX0, .code yX0_leastUnder cX0_leastUnder 2 (some (.object "SplayOrchard$Apple")), .fieldLink RX0 17 "SplayOrchard$Apple" "left" "LSplayOrchard$Apple;", .methodLink RX1 60 yX0_next, .instanceMethod yX0_next, .selects RX0 yX0_next yX0_next, .code yX0_next cX0_next 2 (some (.object "SplayOrchard$Apple")), .fieldLink RX0 23 "SplayOrchard$Apple" "right" "LSplayOrchard$Apple;", .fieldLink RX0 20 "SplayOrchard$Apple" "up" "LSplayOrchard$Apple;", .methodLink RX0 37 yX0_leastUnder] ++ wsX00 ++ wsX10)
def wsX1_levels_r1 : List Cond := [Cond.methodLink RX1 66 Lib.Math.max.name, Cond.static Lib.Math.max.name, Cond.initialized "java/lang/Math", Cond.code Lib.Math.max.name Lib.Math.max.code 2 (some .int), Cond.methodLink RX1 57 yX1_first, Cond.instanceMethod yX1_first, Cond.selects RX1 yX1_first yX1_first, Cond.initialized RX1, Cond.code yX1_first cX1_first 1 (some (.object "SplayOrchard$Apple")), Cond.fieldLink RX1 7 "SplayOrchard$Tree" "top" "LSplayOrchard$Apple;", Cond.methodLink RX1 18 yX0_leastUnder, Cond.instanceMethod yX0_leastUnder, Cond.selects RX0 yX0_leastUnder yX0_leastUnder, Cond.initialized RX0, Cond.code yX0_leastUnder cX0_leastUnder 2 (some (.object "SplayOrchard$Apple")), Cond.fieldLink RX0 17 "SplayOrchard$Apple" "left" "LSplayOrchard$Apple;", Cond.methodLink RX1 46 yX0_depth, Cond.instanceMethod yX0_depth, Cond.selects RX0 yX0_depth yX0_depth, Cond.code yX0_depth cX0_depth 3 (some .int), Cond.fieldLink RX0 20 "SplayOrchard$Apple" "up" "LSplayOrchard$Apple;", Cond.methodLink RX1 60 yX0_next, Cond.instanceMethod yX0_next, Cond.selects RX0 yX0_next yX0_next]
def wsX1_levels_r2 : List Cond := [Cond.code yX0_next cX0_next 2 (some (.object "SplayOrchard$Apple")), Cond.fieldLink RX0 23 "SplayOrchard$Apple" "right" "LSplayOrchard$Apple;", Cond.methodLink RX0 37 yX0_leastUnder]
def wsX1_levels : List Cond := .code yX1_levels cX1_levels 3 (some .int) :: ((wsX1_levels_r1 ++ wsX1_levels_r2) ++ wsX10 ++ wsX00)
def wsX1_depthSum : List Cond := .code yX1_depthSum cX1_depthSum 3 (some .int) :: ([.methodLink RX1 57 yX1_first, .instanceMethod yX1_first, .selects RX1 yX1_first yX1_first, .initialized RX1, .code yX1_first cX1_first 1 (some (.object "SplayOrchard$Apple")), .fieldLink RX1 7 "SplayOrchard$Tree" "top" "LSplayOrchard$Apple;", .methodLink RX1 18 yX0_leastUnder, .instanceMethod yX0_leastUnder, .selects RX0 yX0_leastUnder yX0_leastUnder, .initialized RX0, .code yX0_leastUnder cX0_leastUnder 2 (some (.object "SplayOrchard$Apple")), .fieldLink RX0 17 "SplayOrchard$Apple" "left" "LSplayOrchard$Apple;", .methodLink RX1 46 yX0_depth, .instanceMethod yX0_depth, .selects RX0 yX0_depth yX0_depth, .code yX0_depth cX0_depth 3 (some .int), .fieldLink RX0 20 "SplayOrchard$Apple" "up" "LSplayOrchard$Apple;", .methodLink RX1 60 yX0_next, .instanceMethod yX0_next, .selects RX0 yX0_next yX0_next, .code yX0_next cX0_next 2 (some (.object "SplayOrchard$Apple")), .fieldLink RX0 23 "SplayOrchard$Apple" "right" "LSplayOrchard$Apple;", .methodLink RX0 37 yX0_leastUnder] ++ wsX10 ++ wsX00)
def wsX1_leafCount : List Cond := .code yX1_leafCount cX1_leafCount 3 (some .int) :: ([.fieldLink RX1 72 "SplayOrchard$Apple" "left" "LSplayOrchard$Apple;", .fieldLink RX1 75 "SplayOrchard$Apple" "right" "LSplayOrchard$Apple;", .methodLink RX1 57 yX1_first, .instanceMethod yX1_first, .selects RX1 yX1_first yX1_first, .initialized RX1, .code yX1_first cX1_first 1 (some (.object "SplayOrchard$Apple")), .fieldLink RX1 7 "SplayOrchard$Tree" "top" "LSplayOrchard$Apple;", .methodLink RX1 18 yX0_leastUnder, .instanceMethod yX0_leastUnder, .selects RX0 yX0_leastUnder yX0_leastUnder, .initialized RX0, .code yX0_leastUnder cX0_leastUnder 2 (some (.object "SplayOrchard$Apple")), .fieldLink RX0 17 "SplayOrchard$Apple" "left" "LSplayOrchard$Apple;", .methodLink RX1 60 yX0_next, .instanceMethod yX0_next, .selects RX0 yX0_next yX0_next, .code yX0_next cX0_next 2 (some (.object "SplayOrchard$Apple")), .fieldLink RX0 23 "SplayOrchard$Apple" "right" "LSplayOrchard$Apple;", .fieldLink RX0 20 "SplayOrchard$Apple" "up" "LSplayOrchard$Apple;", .methodLink RX0 37 yX0_leastUnder] ++ wsX00 ++ wsX10)
def wsX1_mostBitten : List Cond := .code yX1_mostBitten cX1_mostBitten 3 (some (.object "SplayOrchard$Apple")) :: ([.fieldLink RX1 78 "SplayOrchard$Apple" "bites" "I", .methodLink RX1 57 yX1_first, .instanceMethod yX1_first, .selects RX1 yX1_first yX1_first, .initialized RX1, .code yX1_first cX1_first 1 (some (.object "SplayOrchard$Apple")), .fieldLink RX1 7 "SplayOrchard$Tree" "top" "LSplayOrchard$Apple;", .methodLink RX1 18 yX0_leastUnder, .instanceMethod yX0_leastUnder, .selects RX0 yX0_leastUnder yX0_leastUnder, .initialized RX0, .code yX0_leastUnder cX0_leastUnder 2 (some (.object "SplayOrchard$Apple")), .fieldLink RX0 17 "SplayOrchard$Apple" "left" "LSplayOrchard$Apple;", .methodLink RX1 60 yX0_next, .instanceMethod yX0_next, .selects RX0 yX0_next yX0_next, .code yX0_next cX0_next 2 (some (.object "SplayOrchard$Apple")), .fieldLink RX0 23 "SplayOrchard$Apple" "right" "LSplayOrchard$Apple;", .fieldLink RX0 20 "SplayOrchard$Apple" "up" "LSplayOrchard$Apple;", .methodLink RX0 37 yX0_leastUnder] ++ wsX00 ++ wsX10)
def wsX1_meeting : List Cond := .code yX1_meeting cX1_meeting 6 (some (.object "SplayOrchard$Apple")) :: ([.fieldLink RX1 32 "SplayOrchard$Apple" "size" "I", .methodLink RX1 81 Lib.Math.min.name, .static Lib.Math.min.name, .initialized "java/lang/Math", .code Lib.Math.min.name Lib.Math.min.code 2 (some .int), .methodLink RX1 66 Lib.Math.max.name, .static Lib.Math.max.name, .code Lib.Math.max.name Lib.Math.max.code 2 (some .int), .fieldLink RX1 7 "SplayOrchard$Tree" "top" "LSplayOrchard$Apple;", .methodLink RX1 25 yX0_towards, .instanceMethod yX0_towards, .selects RX0 yX0_towards yX0_towards, .initialized RX0, .code yX0_towards cX0_towards 2 (some (.object "SplayOrchard$Apple")), .fieldLink RX0 7 "SplayOrchard$Apple" "size" "I", .fieldLink RX0 17 "SplayOrchard$Apple" "left" "LSplayOrchard$Apple;", .fieldLink RX0 23 "SplayOrchard$Apple" "right" "LSplayOrchard$Apple;"] ++ wsX00 ++ wsX10)
def wsX1_standInFor_r1 : List Cond := [Cond.fieldLink RX1 7 "SplayOrchard$Tree" "top" "LSplayOrchard$Apple;", Cond.methodLink RX1 57 yX1_first, Cond.instanceMethod yX1_first, Cond.selects RX1 yX1_first yX1_first, Cond.initialized RX1, Cond.code yX1_first cX1_first 1 (some (.object "SplayOrchard$Apple")), Cond.methodLink RX1 18 yX0_leastUnder, Cond.instanceMethod yX0_leastUnder, Cond.selects RX0 yX0_leastUnder yX0_leastUnder, Cond.initialized RX0, Cond.code yX0_leastUnder cX0_leastUnder 2 (some (.object "SplayOrchard$Apple")), Cond.fieldLink RX0 17 "SplayOrchard$Apple" "left" "LSplayOrchard$Apple;", Cond.methodLink RX1 84 yX0_linkStandIn, Cond.instanceMethod yX0_linkStandIn, Cond.selects RX0 yX0_linkStandIn yX0_linkStandIn, Cond.code yX0_linkStandIn cX0_linkStandIn 1 none, Cond.fieldLink RX0 13 "SplayOrchard$Apple" "standIn" "LSplayOrchard$Apple;", Cond.fieldLink RX0 20 "SplayOrchard$Apple" "up" "LSplayOrchard$Apple;", Cond.fieldLink RX0 23 "SplayOrchard$Apple" "right" "LSplayOrchard$Apple;", Cond.methodLink RX0 47 yX0_standInOf, Cond.static yX0_standInOf, Cond.code yX0_standInOf cX0_standInOf 1 (some (.object "SplayOrchard$Apple")), Cond.methodLink RX1 60 yX0_next, Cond.instanceMethod yX0_next]
def wsX1_standInFor_r2 : List Cond := [Cond.selects RX0 yX0_next yX0_next, Cond.code yX0_next cX0_next 2 (some (.object "SplayOrchard$Apple")), Cond.methodLink RX0 37 yX0_leastUnder, Cond.methodLink RX1 87 yX0_standInOf]
def wsX1_standInFor : List Cond := .code yX1_standInFor cX1_standInFor 3 none :: ((wsX1_standInFor_r1 ++ wsX1_standInFor_r2) ++ wsX10 ++ wsX00)
def wsX2_init : List Cond := .code yX2_init cX2_init 2 none :: ([.methodLink RX2 1 objectInit, .instanceMethod objectInit, .code objectInit ⟨#[0xb1]⟩ 1 none, .classLink RX2 9 RX1, .fieldLink RX2 11 "SplayOrchard" "rows" "[LSplayOrchard$Tree;", .instantiable RX1 1, .initialized RX1, .fieldLink RX2 16 "SplayOrchard" "trial" "LSplayOrchard$Tree;", .instanceMethod yX1_init, .code yX1_init cX1_init 1 none, .methodLink RX1 1 objectInit] ++ wsX20 ++ wsX10)
def wsX2_treeOf : List Cond := .code yX2_treeOf cX2_treeOf 2 (some (.object "SplayOrchard$Tree")) :: ([.classLink RX2 125 "java/lang/IndexOutOfBoundsException", .initialized "java/lang/IndexOutOfBoundsException", .fieldLink RX2 11 "SplayOrchard" "rows" "[LSplayOrchard$Tree;"] ++ wsX20 ++ (vx_atS RX2 129 "java/lang/IndexOutOfBoundsException" ["java/lang/RuntimeException", "java/lang/Exception"]).filter goodWord)
def wsX2_checkSize : List Cond := .code yX2_checkSize cX2_checkSize 1 none :: ([.classLink RX2 208 "java/lang/IllegalArgumentException", .initialized "java/lang/IllegalArgumentException"] ++ (vx_atS RX2 212 "java/lang/IllegalArgumentException" ["java/lang/RuntimeException", "java/lang/Exception"]).filter goodWord)
def wsX2_apples_r1 : List Cond := [Cond.fieldLink RX2 11 "SplayOrchard" "rows" "[LSplayOrchard$Tree;", Cond.methodLink RX2 93 yX1_count, Cond.instanceMethod yX1_count, Cond.selects RX1 yX1_count yX1_count, Cond.initialized RX1, Cond.code yX1_count cX1_count 1 (some .int), Cond.fieldLink RX1 7 "SplayOrchard$Tree" "top" "LSplayOrchard$Apple;", Cond.methodLink RX1 63 yX0_countUnder, Cond.instanceMethod yX0_countUnder, Cond.selects RX0 yX0_countUnder yX0_countUnder, Cond.initialized RX0, Cond.code yX0_countUnder cX0_countUnder 4 (some .int), Cond.methodLink RX0 41 yX0_greatestUnder, Cond.instanceMethod yX0_greatestUnder, Cond.selects RX0 yX0_greatestUnder yX0_greatestUnder, Cond.code yX0_greatestUnder cX0_greatestUnder 2 (some (.object "SplayOrchard$Apple")), Cond.fieldLink RX0 23 "SplayOrchard$Apple" "right" "LSplayOrchard$Apple;", Cond.methodLink RX0 37 yX0_leastUnder, Cond.instanceMethod yX0_leastUnder, Cond.selects RX0 yX0_leastUnder yX0_leastUnder, Cond.code yX0_leastUnder cX0_leastUnder 2 (some (.object "SplayOrchard$Apple")), Cond.fieldLink RX0 17 "SplayOrchard$Apple" "left" "LSplayOrchard$Apple;", Cond.methodLink RX0 44 yX0_next, Cond.instanceMethod yX0_next]
def wsX2_apples_r2 : List Cond := [Cond.selects RX0 yX0_next yX0_next, Cond.code yX0_next cX0_next 2 (some (.object "SplayOrchard$Apple")), Cond.fieldLink RX0 20 "SplayOrchard$Apple" "up" "LSplayOrchard$Apple;"]
def wsX2_apples : List Cond := .code yX2_apples cX2_apples 6 (some .int) :: ((wsX2_apples_r1 ++ wsX2_apples_r2) ++ wsX20 ++ wsX10 ++ wsX00)
def wsX2_bringUp_r1 : List Cond := [Cond.fieldLink RX2 102 "SplayOrchard" "turned" "I", Cond.methodLink RX2 215 yX1_bringUp, Cond.instanceMethod yX1_bringUp, Cond.selects RX1 yX1_bringUp yX1_bringUp, Cond.initialized RX1, Cond.code yX1_bringUp cX1_bringUp 6 (some .int), Cond.fieldLink RX1 13 "SplayOrchard$Apple" "up" "LSplayOrchard$Apple;", Cond.fieldLink RX1 7 "SplayOrchard$Tree" "top" "LSplayOrchard$Apple;", Cond.methodLink RX1 46 yX0_depth, Cond.instanceMethod yX0_depth, Cond.selects RX0 yX0_depth yX0_depth, Cond.initialized RX0, Cond.code yX0_depth cX0_depth 3 (some .int), Cond.fieldLink RX0 20 "SplayOrchard$Apple" "up" "LSplayOrchard$Apple;", Cond.methodLink RX1 50 yX0_isOnTheLeft, Cond.instanceMethod yX0_isOnTheLeft, Cond.selects RX0 yX0_isOnTheLeft yX0_isOnTheLeft, Cond.code yX0_isOnTheLeft cX0_isOnTheLeft 1 (some .boolean), Cond.fieldLink RX0 17 "SplayOrchard$Apple" "left" "LSplayOrchard$Apple;", Cond.methodLink RX1 54 yX0_turn, Cond.instanceMethod yX0_turn, Cond.selects RX0 yX0_turn yX0_turn, Cond.code yX0_turn cX0_turn 4 none, Cond.fieldLink RX0 23 "SplayOrchard$Apple" "right" "LSplayOrchard$Apple;"]
def wsX2_bringUp_r2 : List Cond := [Cond.methodLink RX0 26 yX0_isOnTheLeft, Cond.methodLink RX0 30 yX0_hangLeft, Cond.instanceMethod yX0_hangLeft, Cond.selects RX0 yX0_hangLeft yX0_hangLeft, Cond.code yX0_hangLeft cX0_hangLeft 2 none, Cond.methodLink RX0 34 yX0_hangRight, Cond.instanceMethod yX0_hangRight, Cond.selects RX0 yX0_hangRight yX0_hangRight, Cond.code yX0_hangRight cX0_hangRight 2 none]
def wsX2_bringUp : List Cond := .code yX2_bringUp cX2_bringUp 4 (some .int) :: ((wsX2_bringUp_r1 ++ wsX2_bringUp_r2) ++ wsX20 ++ wsX00 ++ wsX10)
def wsX2_plant_r1 : List Cond := [Cond.classLink RX2 32 "java/lang/IllegalStateException", Cond.initialized "java/lang/IllegalStateException", Cond.classLink RX2 45 RX0, Cond.instantiable RX0 6, Cond.initialized RX0, Cond.methodLink RX2 20 yX2_treeOf, Cond.instanceMethod yX2_treeOf, Cond.selects RX2 yX2_treeOf yX2_treeOf, Cond.initialized RX2, Cond.code yX2_treeOf cX2_treeOf 2 (some (.object "SplayOrchard$Tree")), Cond.classLink RX2 125 "java/lang/IndexOutOfBoundsException", Cond.initialized "java/lang/IndexOutOfBoundsException", Cond.fieldLink RX2 11 "SplayOrchard" "rows" "[LSplayOrchard$Tree;", Cond.methodLink RX2 24 yX2_checkSize, Cond.static yX2_checkSize, Cond.code yX2_checkSize cX2_checkSize 1 none, Cond.classLink RX2 208 "java/lang/IllegalArgumentException", Cond.initialized "java/lang/IllegalArgumentException", Cond.methodLink RX2 28 yX2_apples, Cond.instanceMethod yX2_apples, Cond.selects RX2 yX2_apples yX2_apples, Cond.code yX2_apples cX2_apples 6 (some .int), Cond.methodLink RX2 93 yX1_count, Cond.instanceMethod yX1_count]
def wsX2_plant_r2 : List Cond := [Cond.selects RX1 yX1_count yX1_count, Cond.initialized RX1, Cond.code yX1_count cX1_count 1 (some .int), Cond.fieldLink RX1 7 "SplayOrchard$Tree" "top" "LSplayOrchard$Apple;", Cond.methodLink RX1 63 yX0_countUnder, Cond.instanceMethod yX0_countUnder, Cond.selects RX0 yX0_countUnder yX0_countUnder, Cond.code yX0_countUnder cX0_countUnder 4 (some .int), Cond.methodLink RX0 41 yX0_greatestUnder, Cond.instanceMethod yX0_greatestUnder, Cond.selects RX0 yX0_greatestUnder yX0_greatestUnder, Cond.code yX0_greatestUnder cX0_greatestUnder 2 (some (.object "SplayOrchard$Apple")), Cond.fieldLink RX0 23 "SplayOrchard$Apple" "right" "LSplayOrchard$Apple;", Cond.methodLink RX0 37 yX0_leastUnder, Cond.instanceMethod yX0_leastUnder, Cond.selects RX0 yX0_leastUnder yX0_leastUnder, Cond.code yX0_leastUnder cX0_leastUnder 2 (some (.object "SplayOrchard$Apple")), Cond.fieldLink RX0 17 "SplayOrchard$Apple" "left" "LSplayOrchard$Apple;", Cond.methodLink RX0 44 yX0_next, Cond.instanceMethod yX0_next, Cond.selects RX0 yX0_next yX0_next, Cond.code yX0_next cX0_next 2 (some (.object "SplayOrchard$Apple")), Cond.fieldLink RX0 20 "SplayOrchard$Apple" "up" "LSplayOrchard$Apple;", Cond.methodLink RX2 39 yX1_find]
def wsX2_plant_r3 : List Cond := [Cond.instanceMethod yX1_find, Cond.selects RX1 yX1_find yX1_find, Cond.code yX1_find cX1_find 3 (some (.object "SplayOrchard$Apple")), Cond.fieldLink RX1 32 "SplayOrchard$Apple" "size" "I", Cond.methodLink RX1 29 yX1_nearest, Cond.instanceMethod yX1_nearest, Cond.selects RX1 yX1_nearest yX1_nearest, Cond.code yX1_nearest cX1_nearest 4 (some (.object "SplayOrchard$Apple")), Cond.methodLink RX1 25 yX0_towards, Cond.instanceMethod yX0_towards, Cond.selects RX0 yX0_towards yX0_towards, Cond.code yX0_towards cX0_towards 2 (some (.object "SplayOrchard$Apple")), Cond.fieldLink RX0 7 "SplayOrchard$Apple" "size" "I", Cond.methodLink RX2 47 yX0_init, Cond.instanceMethod yX0_init, Cond.code yX0_init cX0_init 3 none, Cond.methodLink RX0 1 objectInit, Cond.instanceMethod objectInit, Cond.code objectInit ⟨#[0xb1]⟩ 1 none, Cond.fieldLink RX0 13 "SplayOrchard$Apple" "standIn" "LSplayOrchard$Apple;", Cond.methodLink RX2 50 yX1_hang, Cond.instanceMethod yX1_hang, Cond.selects RX1 yX1_hang yX1_hang, Cond.code yX1_hang cX1_hang 3 none]
def wsX2_plant_r4 : List Cond := [Cond.methodLink RX1 36 yX1_setTop, Cond.instanceMethod yX1_setTop, Cond.selects RX1 yX1_setTop yX1_setTop, Cond.code yX1_setTop cX1_setTop 2 none, Cond.fieldLink RX1 13 "SplayOrchard$Apple" "up" "LSplayOrchard$Apple;", Cond.methodLink RX1 40 yX0_hangLeft, Cond.instanceMethod yX0_hangLeft, Cond.selects RX0 yX0_hangLeft yX0_hangLeft, Cond.code yX0_hangLeft cX0_hangLeft 2 none, Cond.methodLink RX1 43 yX0_hangRight, Cond.instanceMethod yX0_hangRight, Cond.selects RX0 yX0_hangRight yX0_hangRight, Cond.code yX0_hangRight cX0_hangRight 2 none, Cond.methodLink RX2 54 yX2_bringUp, Cond.instanceMethod yX2_bringUp, Cond.selects RX2 yX2_bringUp yX2_bringUp, Cond.code yX2_bringUp cX2_bringUp 4 (some .int), Cond.fieldLink RX2 102 "SplayOrchard" "turned" "I", Cond.methodLink RX2 215 yX1_bringUp, Cond.instanceMethod yX1_bringUp, Cond.selects RX1 yX1_bringUp yX1_bringUp, Cond.code yX1_bringUp cX1_bringUp 6 (some .int), Cond.methodLink RX1 46 yX0_depth, Cond.instanceMethod yX0_depth]
def wsX2_plant_r5 : List Cond := [Cond.selects RX0 yX0_depth yX0_depth, Cond.code yX0_depth cX0_depth 3 (some .int), Cond.methodLink RX1 50 yX0_isOnTheLeft, Cond.instanceMethod yX0_isOnTheLeft, Cond.selects RX0 yX0_isOnTheLeft yX0_isOnTheLeft, Cond.code yX0_isOnTheLeft cX0_isOnTheLeft 1 (some .boolean), Cond.methodLink RX1 54 yX0_turn, Cond.instanceMethod yX0_turn, Cond.selects RX0 yX0_turn yX0_turn, Cond.code yX0_turn cX0_turn 4 none, Cond.methodLink RX0 26 yX0_isOnTheLeft, Cond.methodLink RX0 30 yX0_hangLeft, Cond.methodLink RX0 34 yX0_hangRight]
def wsX2_plant : List Cond := .code yX2_plant cX2_plant 5 (some .int) :: ((wsX2_plant_r1 ++ (wsX2_plant_r2 ++ (wsX2_plant_r3 ++ (wsX2_plant_r4 ++ wsX2_plant_r5)))) ++ wsX00 ++ wsX20 ++ wsX10 ++ (vx_atS RX2 36 "java/lang/IllegalStateException" ["java/lang/RuntimeException", "java/lang/Exception"]).filter goodWord ++ (vx_atS RX2 129 "java/lang/IndexOutOfBoundsException" ["java/lang/RuntimeException", "java/lang/Exception"]).filter goodWord ++ (vx_atS RX2 212 "java/lang/IllegalArgumentException" ["java/lang/RuntimeException", "java/lang/Exception"]).filter goodWord)
def wsX2_appleOf : List Cond := .code yX2_appleOf cX2_appleOf 3 (some (.object "SplayOrchard$Apple")) :: ([.classLink RX2 32 "java/lang/IllegalStateException", .initialized "java/lang/IllegalStateException", .methodLink RX2 39 yX1_find, .instanceMethod yX1_find, .selects RX1 yX1_find yX1_find, .initialized RX1, .code yX1_find cX1_find 3 (some (.object "SplayOrchard$Apple")), .fieldLink RX1 32 "SplayOrchard$Apple" "size" "I", .methodLink RX1 29 yX1_nearest, .instanceMethod yX1_nearest, .selects RX1 yX1_nearest yX1_nearest, .code yX1_nearest cX1_nearest 4 (some (.object "SplayOrchard$Apple")), .fieldLink RX1 7 "SplayOrchard$Tree" "top" "LSplayOrchard$Apple;", .methodLink RX1 25 yX0_towards, .instanceMethod yX0_towards, .selects RX0 yX0_towards yX0_towards, .initialized RX0, .code yX0_towards cX0_towards 2 (some (.object "SplayOrchard$Apple")), .fieldLink RX0 7 "SplayOrchard$Apple" "size" "I", .fieldLink RX0 17 "SplayOrchard$Apple" "left" "LSplayOrchard$Apple;", .fieldLink RX0 23 "SplayOrchard$Apple" "right" "LSplayOrchard$Apple;"] ++ wsX00 ++ wsX10 ++ (vx_atS RX2 36 "java/lang/IllegalStateException" ["java/lang/RuntimeException", "java/lang/Exception"]).filter goodWord)
def wsX2_eat_r1 : List Cond := [Cond.fieldLink RX2 62 "SplayOrchard$Apple" "bites" "I", Cond.methodLink RX2 20 yX2_treeOf, Cond.instanceMethod yX2_treeOf, Cond.selects RX2 yX2_treeOf yX2_treeOf, Cond.initialized RX2, Cond.code yX2_treeOf cX2_treeOf 2 (some (.object "SplayOrchard$Tree")), Cond.classLink RX2 125 "java/lang/IndexOutOfBoundsException", Cond.initialized "java/lang/IndexOutOfBoundsException", Cond.fieldLink RX2 11 "SplayOrchard" "rows" "[LSplayOrchard$Tree;", Cond.methodLink RX2 58 yX2_appleOf, Cond.static yX2_appleOf, Cond.code yX2_appleOf cX2_appleOf 3 (some (.object "SplayOrchard$Apple")), Cond.classLink RX2 32 "java/lang/IllegalStateException", Cond.initialized "java/lang/IllegalStateException", Cond.methodLink RX2 39 yX1_find, Cond.instanceMethod yX1_find, Cond.selects RX1 yX1_find yX1_find, Cond.initialized RX1, Cond.code yX1_find cX1_find 3 (some (.object "SplayOrchard$Apple")), Cond.fieldLink RX1 32 "SplayOrchard$Apple" "size" "I", Cond.methodLink RX1 29 yX1_nearest, Cond.instanceMethod yX1_nearest, Cond.selects RX1 yX1_nearest yX1_nearest, Cond.code yX1_nearest cX1_nearest 4 (some (.object "SplayOrchard$Apple"))]
def wsX2_eat_r2 : List Cond := [Cond.fieldLink RX1 7 "SplayOrchard$Tree" "top" "LSplayOrchard$Apple;", Cond.methodLink RX1 25 yX0_towards, Cond.instanceMethod yX0_towards, Cond.selects RX0 yX0_towards yX0_towards, Cond.initialized RX0, Cond.code yX0_towards cX0_towards 2 (some (.object "SplayOrchard$Apple")), Cond.fieldLink RX0 7 "SplayOrchard$Apple" "size" "I", Cond.fieldLink RX0 17 "SplayOrchard$Apple" "left" "LSplayOrchard$Apple;", Cond.fieldLink RX0 23 "SplayOrchard$Apple" "right" "LSplayOrchard$Apple;", Cond.methodLink RX2 54 yX2_bringUp, Cond.instanceMethod yX2_bringUp, Cond.selects RX2 yX2_bringUp yX2_bringUp, Cond.code yX2_bringUp cX2_bringUp 4 (some .int), Cond.fieldLink RX2 102 "SplayOrchard" "turned" "I", Cond.methodLink RX2 215 yX1_bringUp, Cond.instanceMethod yX1_bringUp, Cond.selects RX1 yX1_bringUp yX1_bringUp, Cond.code yX1_bringUp cX1_bringUp 6 (some .int), Cond.fieldLink RX1 13 "SplayOrchard$Apple" "up" "LSplayOrchard$Apple;", Cond.methodLink RX1 46 yX0_depth, Cond.instanceMethod yX0_depth, Cond.selects RX0 yX0_depth yX0_depth, Cond.code yX0_depth cX0_depth 3 (some .int), Cond.fieldLink RX0 20 "SplayOrchard$Apple" "up" "LSplayOrchard$Apple;"]
def wsX2_eat_r3 : List Cond := [Cond.methodLink RX1 50 yX0_isOnTheLeft, Cond.instanceMethod yX0_isOnTheLeft, Cond.selects RX0 yX0_isOnTheLeft yX0_isOnTheLeft, Cond.code yX0_isOnTheLeft cX0_isOnTheLeft 1 (some .boolean), Cond.methodLink RX1 54 yX0_turn, Cond.instanceMethod yX0_turn, Cond.selects RX0 yX0_turn yX0_turn, Cond.code yX0_turn cX0_turn 4 none, Cond.methodLink RX0 26 yX0_isOnTheLeft, Cond.methodLink RX0 30 yX0_hangLeft, Cond.instanceMethod yX0_hangLeft, Cond.selects RX0 yX0_hangLeft yX0_hangLeft, Cond.code yX0_hangLeft cX0_hangLeft 2 none, Cond.methodLink RX0 34 yX0_hangRight, Cond.instanceMethod yX0_hangRight, Cond.selects RX0 yX0_hangRight yX0_hangRight, Cond.code yX0_hangRight cX0_hangRight 2 none]
def wsX2_eat : List Cond := .code yX2_eat cX2_eat 5 (some .int) :: ((wsX2_eat_r1 ++ (wsX2_eat_r2 ++ wsX2_eat_r3)) ++ wsX00 ++ wsX20 ++ wsX10 ++ (vx_atS RX2 129 "java/lang/IndexOutOfBoundsException" ["java/lang/RuntimeException", "java/lang/Exception"]).filter goodWord ++ (vx_atS RX2 36 "java/lang/IllegalStateException" ["java/lang/RuntimeException", "java/lang/Exception"]).filter goodWord)
def wsX2_append_r1 : List Cond := [Cond.methodLink RX2 119 yX1_last, Cond.instanceMethod yX1_last, Cond.selects RX1 yX1_last yX1_last, Cond.initialized RX1, Cond.code yX1_last cX1_last 1 (some (.object "SplayOrchard$Apple")), Cond.fieldLink RX1 7 "SplayOrchard$Tree" "top" "LSplayOrchard$Apple;", Cond.methodLink RX1 22 yX0_greatestUnder, Cond.instanceMethod yX0_greatestUnder, Cond.selects RX0 yX0_greatestUnder yX0_greatestUnder, Cond.initialized RX0, Cond.code yX0_greatestUnder cX0_greatestUnder 2 (some (.object "SplayOrchard$Apple")), Cond.fieldLink RX0 23 "SplayOrchard$Apple" "right" "LSplayOrchard$Apple;", Cond.methodLink RX2 70 yX1_setTop, Cond.instanceMethod yX1_setTop, Cond.selects RX1 yX1_setTop yX1_setTop, Cond.code yX1_setTop cX1_setTop 2 none, Cond.fieldLink RX1 13 "SplayOrchard$Apple" "up" "LSplayOrchard$Apple;", Cond.methodLink RX2 54 yX2_bringUp, Cond.instanceMethod yX2_bringUp, Cond.selects RX2 yX2_bringUp yX2_bringUp, Cond.initialized RX2, Cond.code yX2_bringUp cX2_bringUp 4 (some .int), Cond.fieldLink RX2 102 "SplayOrchard" "turned" "I", Cond.methodLink RX2 215 yX1_bringUp]
def wsX2_append_r2 : List Cond := [Cond.instanceMethod yX1_bringUp, Cond.selects RX1 yX1_bringUp yX1_bringUp, Cond.code yX1_bringUp cX1_bringUp 6 (some .int), Cond.methodLink RX1 46 yX0_depth, Cond.instanceMethod yX0_depth, Cond.selects RX0 yX0_depth yX0_depth, Cond.code yX0_depth cX0_depth 3 (some .int), Cond.fieldLink RX0 20 "SplayOrchard$Apple" "up" "LSplayOrchard$Apple;", Cond.methodLink RX1 50 yX0_isOnTheLeft, Cond.instanceMethod yX0_isOnTheLeft, Cond.selects RX0 yX0_isOnTheLeft yX0_isOnTheLeft, Cond.code yX0_isOnTheLeft cX0_isOnTheLeft 1 (some .boolean), Cond.fieldLink RX0 17 "SplayOrchard$Apple" "left" "LSplayOrchard$Apple;", Cond.methodLink RX1 54 yX0_turn, Cond.instanceMethod yX0_turn, Cond.selects RX0 yX0_turn yX0_turn, Cond.code yX0_turn cX0_turn 4 none, Cond.methodLink RX0 26 yX0_isOnTheLeft, Cond.methodLink RX0 30 yX0_hangLeft, Cond.instanceMethod yX0_hangLeft, Cond.selects RX0 yX0_hangLeft yX0_hangLeft, Cond.code yX0_hangLeft cX0_hangLeft 2 none, Cond.methodLink RX0 34 yX0_hangRight, Cond.instanceMethod yX0_hangRight]
def wsX2_append_r3 : List Cond := [Cond.selects RX0 yX0_hangRight yX0_hangRight, Cond.code yX0_hangRight cX0_hangRight 2 none, Cond.methodLink RX2 90 yX0_hangRight]
def wsX2_append : List Cond := .code yX2_append cX2_append 4 none :: ((wsX2_append_r1 ++ (wsX2_append_r2 ++ wsX2_append_r3)) ++ wsX10 ++ wsX00 ++ wsX20)
def wsX2_pick_r1 : List Cond := [Cond.fieldLink RX2 66 "SplayOrchard$Apple" "left" "LSplayOrchard$Apple;", Cond.fieldLink RX2 73 "SplayOrchard$Apple" "right" "LSplayOrchard$Apple;", Cond.fieldLink RX2 62 "SplayOrchard$Apple" "bites" "I", Cond.methodLink RX2 20 yX2_treeOf, Cond.instanceMethod yX2_treeOf, Cond.selects RX2 yX2_treeOf yX2_treeOf, Cond.initialized RX2, Cond.code yX2_treeOf cX2_treeOf 2 (some (.object "SplayOrchard$Tree")), Cond.classLink RX2 125 "java/lang/IndexOutOfBoundsException", Cond.initialized "java/lang/IndexOutOfBoundsException", Cond.fieldLink RX2 11 "SplayOrchard" "rows" "[LSplayOrchard$Tree;", Cond.methodLink RX2 58 yX2_appleOf, Cond.static yX2_appleOf, Cond.code yX2_appleOf cX2_appleOf 3 (some (.object "SplayOrchard$Apple")), Cond.classLink RX2 32 "java/lang/IllegalStateException", Cond.initialized "java/lang/IllegalStateException", Cond.methodLink RX2 39 yX1_find, Cond.instanceMethod yX1_find, Cond.selects RX1 yX1_find yX1_find, Cond.initialized RX1, Cond.code yX1_find cX1_find 3 (some (.object "SplayOrchard$Apple")), Cond.fieldLink RX1 32 "SplayOrchard$Apple" "size" "I", Cond.methodLink RX1 29 yX1_nearest, Cond.instanceMethod yX1_nearest]
def wsX2_pick_r2 : List Cond := [Cond.selects RX1 yX1_nearest yX1_nearest, Cond.code yX1_nearest cX1_nearest 4 (some (.object "SplayOrchard$Apple")), Cond.fieldLink RX1 7 "SplayOrchard$Tree" "top" "LSplayOrchard$Apple;", Cond.methodLink RX1 25 yX0_towards, Cond.instanceMethod yX0_towards, Cond.selects RX0 yX0_towards yX0_towards, Cond.initialized RX0, Cond.code yX0_towards cX0_towards 2 (some (.object "SplayOrchard$Apple")), Cond.fieldLink RX0 7 "SplayOrchard$Apple" "size" "I", Cond.fieldLink RX0 17 "SplayOrchard$Apple" "left" "LSplayOrchard$Apple;", Cond.fieldLink RX0 23 "SplayOrchard$Apple" "right" "LSplayOrchard$Apple;", Cond.methodLink RX2 54 yX2_bringUp, Cond.instanceMethod yX2_bringUp, Cond.selects RX2 yX2_bringUp yX2_bringUp, Cond.code yX2_bringUp cX2_bringUp 4 (some .int), Cond.fieldLink RX2 102 "SplayOrchard" "turned" "I", Cond.methodLink RX2 215 yX1_bringUp, Cond.instanceMethod yX1_bringUp, Cond.selects RX1 yX1_bringUp yX1_bringUp, Cond.code yX1_bringUp cX1_bringUp 6 (some .int), Cond.fieldLink RX1 13 "SplayOrchard$Apple" "up" "LSplayOrchard$Apple;", Cond.methodLink RX1 46 yX0_depth, Cond.instanceMethod yX0_depth, Cond.selects RX0 yX0_depth yX0_depth]
def wsX2_pick_r3 : List Cond := [Cond.code yX0_depth cX0_depth 3 (some .int), Cond.fieldLink RX0 20 "SplayOrchard$Apple" "up" "LSplayOrchard$Apple;", Cond.methodLink RX1 50 yX0_isOnTheLeft, Cond.instanceMethod yX0_isOnTheLeft, Cond.selects RX0 yX0_isOnTheLeft yX0_isOnTheLeft, Cond.code yX0_isOnTheLeft cX0_isOnTheLeft 1 (some .boolean), Cond.methodLink RX1 54 yX0_turn, Cond.instanceMethod yX0_turn, Cond.selects RX0 yX0_turn yX0_turn, Cond.code yX0_turn cX0_turn 4 none, Cond.methodLink RX0 26 yX0_isOnTheLeft, Cond.methodLink RX0 30 yX0_hangLeft, Cond.instanceMethod yX0_hangLeft, Cond.selects RX0 yX0_hangLeft yX0_hangLeft, Cond.code yX0_hangLeft cX0_hangLeft 2 none, Cond.methodLink RX0 34 yX0_hangRight, Cond.instanceMethod yX0_hangRight, Cond.selects RX0 yX0_hangRight yX0_hangRight, Cond.code yX0_hangRight cX0_hangRight 2 none, Cond.methodLink RX2 70 yX1_setTop, Cond.instanceMethod yX1_setTop, Cond.selects RX1 yX1_setTop yX1_setTop, Cond.code yX1_setTop cX1_setTop 2 none, Cond.methodLink RX2 76 yX2_append]
def wsX2_pick_r4 : List Cond := [Cond.instanceMethod yX2_append, Cond.selects RX2 yX2_append yX2_append, Cond.code yX2_append cX2_append 4 none, Cond.methodLink RX2 119 yX1_last, Cond.instanceMethod yX1_last, Cond.selects RX1 yX1_last yX1_last, Cond.code yX1_last cX1_last 1 (some (.object "SplayOrchard$Apple")), Cond.methodLink RX1 22 yX0_greatestUnder, Cond.instanceMethod yX0_greatestUnder, Cond.selects RX0 yX0_greatestUnder yX0_greatestUnder, Cond.code yX0_greatestUnder cX0_greatestUnder 2 (some (.object "SplayOrchard$Apple")), Cond.methodLink RX2 90 yX0_hangRight]
def wsX2_pick : List Cond := .code yX2_pick cX2_pick 5 (some .int) :: ((wsX2_pick_r1 ++ (wsX2_pick_r2 ++ (wsX2_pick_r3 ++ wsX2_pick_r4))) ++ wsX00 ++ wsX20 ++ wsX10 ++ (vx_atS RX2 129 "java/lang/IndexOutOfBoundsException" ["java/lang/RuntimeException", "java/lang/Exception"]).filter goodWord ++ (vx_atS RX2 36 "java/lang/IllegalStateException" ["java/lang/RuntimeException", "java/lang/Exception"]).filter goodWord)
def wsX2_split_r1 : List Cond := [Cond.classLink RX2 32 "java/lang/IllegalStateException", Cond.initialized "java/lang/IllegalStateException", Cond.fieldLink RX2 82 "SplayOrchard$Tree" "top" "LSplayOrchard$Apple;", Cond.fieldLink RX2 73 "SplayOrchard$Apple" "right" "LSplayOrchard$Apple;", Cond.methodLink RX2 20 yX2_treeOf, Cond.instanceMethod yX2_treeOf, Cond.selects RX2 yX2_treeOf yX2_treeOf, Cond.initialized RX2, Cond.code yX2_treeOf cX2_treeOf 2 (some (.object "SplayOrchard$Tree")), Cond.classLink RX2 125 "java/lang/IndexOutOfBoundsException", Cond.initialized "java/lang/IndexOutOfBoundsException", Cond.fieldLink RX2 11 "SplayOrchard" "rows" "[LSplayOrchard$Tree;", Cond.methodLink RX2 24 yX2_checkSize, Cond.static yX2_checkSize, Cond.code yX2_checkSize cX2_checkSize 1 none, Cond.classLink RX2 208 "java/lang/IllegalArgumentException", Cond.initialized "java/lang/IllegalArgumentException", Cond.methodLink RX2 87 yX1_greatestBelow, Cond.instanceMethod yX1_greatestBelow, Cond.selects RX1 yX1_greatestBelow yX1_greatestBelow, Cond.initialized RX1, Cond.code yX1_greatestBelow cX1_greatestBelow 4 (some (.object "SplayOrchard$Apple")), Cond.fieldLink RX1 32 "SplayOrchard$Apple" "size" "I", Cond.methodLink RX1 57 yX1_first]
def wsX2_split_r2 : List Cond := [Cond.instanceMethod yX1_first, Cond.selects RX1 yX1_first yX1_first, Cond.code yX1_first cX1_first 1 (some (.object "SplayOrchard$Apple")), Cond.fieldLink RX1 7 "SplayOrchard$Tree" "top" "LSplayOrchard$Apple;", Cond.methodLink RX1 18 yX0_leastUnder, Cond.instanceMethod yX0_leastUnder, Cond.selects RX0 yX0_leastUnder yX0_leastUnder, Cond.initialized RX0, Cond.code yX0_leastUnder cX0_leastUnder 2 (some (.object "SplayOrchard$Apple")), Cond.fieldLink RX0 17 "SplayOrchard$Apple" "left" "LSplayOrchard$Apple;", Cond.methodLink RX1 60 yX0_next, Cond.instanceMethod yX0_next, Cond.selects RX0 yX0_next yX0_next, Cond.code yX0_next cX0_next 2 (some (.object "SplayOrchard$Apple")), Cond.fieldLink RX0 23 "SplayOrchard$Apple" "right" "LSplayOrchard$Apple;", Cond.fieldLink RX0 20 "SplayOrchard$Apple" "up" "LSplayOrchard$Apple;", Cond.methodLink RX0 37 yX0_leastUnder, Cond.methodLink RX2 70 yX1_setTop, Cond.instanceMethod yX1_setTop, Cond.selects RX1 yX1_setTop yX1_setTop, Cond.code yX1_setTop cX1_setTop 2 none, Cond.fieldLink RX1 13 "SplayOrchard$Apple" "up" "LSplayOrchard$Apple;", Cond.methodLink RX2 54 yX2_bringUp, Cond.instanceMethod yX2_bringUp]
def wsX2_split_r3 : List Cond := [Cond.selects RX2 yX2_bringUp yX2_bringUp, Cond.code yX2_bringUp cX2_bringUp 4 (some .int), Cond.fieldLink RX2 102 "SplayOrchard" "turned" "I", Cond.methodLink RX2 215 yX1_bringUp, Cond.instanceMethod yX1_bringUp, Cond.selects RX1 yX1_bringUp yX1_bringUp, Cond.code yX1_bringUp cX1_bringUp 6 (some .int), Cond.methodLink RX1 46 yX0_depth, Cond.instanceMethod yX0_depth, Cond.selects RX0 yX0_depth yX0_depth, Cond.code yX0_depth cX0_depth 3 (some .int), Cond.methodLink RX1 50 yX0_isOnTheLeft, Cond.instanceMethod yX0_isOnTheLeft, Cond.selects RX0 yX0_isOnTheLeft yX0_isOnTheLeft, Cond.code yX0_isOnTheLeft cX0_isOnTheLeft 1 (some .boolean), Cond.methodLink RX1 54 yX0_turn, Cond.instanceMethod yX0_turn, Cond.selects RX0 yX0_turn yX0_turn, Cond.code yX0_turn cX0_turn 4 none, Cond.methodLink RX0 26 yX0_isOnTheLeft, Cond.methodLink RX0 30 yX0_hangLeft, Cond.instanceMethod yX0_hangLeft, Cond.selects RX0 yX0_hangLeft yX0_hangLeft, Cond.code yX0_hangLeft cX0_hangLeft 2 none]
def wsX2_split_r4 : List Cond := [Cond.methodLink RX0 34 yX0_hangRight, Cond.instanceMethod yX0_hangRight, Cond.selects RX0 yX0_hangRight yX0_hangRight, Cond.code yX0_hangRight cX0_hangRight 2 none, Cond.methodLink RX2 90 yX0_hangRight, Cond.methodLink RX2 93 yX1_count, Cond.instanceMethod yX1_count, Cond.selects RX1 yX1_count yX1_count, Cond.code yX1_count cX1_count 1 (some .int), Cond.methodLink RX1 63 yX0_countUnder, Cond.instanceMethod yX0_countUnder, Cond.selects RX0 yX0_countUnder yX0_countUnder, Cond.code yX0_countUnder cX0_countUnder 4 (some .int), Cond.methodLink RX0 41 yX0_greatestUnder, Cond.instanceMethod yX0_greatestUnder, Cond.selects RX0 yX0_greatestUnder yX0_greatestUnder, Cond.code yX0_greatestUnder cX0_greatestUnder 2 (some (.object "SplayOrchard$Apple")), Cond.methodLink RX0 44 yX0_next]
def wsX2_split : List Cond := .code yX2_split cX2_split 7 (some .int) :: ((wsX2_split_r1 ++ (wsX2_split_r2 ++ (wsX2_split_r3 ++ wsX2_split_r4))) ++ wsX10 ++ wsX00 ++ wsX20 ++ (vx_atS RX2 36 "java/lang/IllegalStateException" ["java/lang/RuntimeException", "java/lang/Exception"]).filter goodWord ++ (vx_atS RX2 129 "java/lang/IndexOutOfBoundsException" ["java/lang/RuntimeException", "java/lang/Exception"]).filter goodWord ++ (vx_atS RX2 212 "java/lang/IllegalArgumentException" ["java/lang/RuntimeException", "java/lang/Exception"]).filter goodWord)
def wsX2_mayJoin : List Cond := .code yX2_mayJoin cX2_mayJoin 4 (some .boolean) :: ([.fieldLink RX2 130 "SplayOrchard$Apple" "size" "I", .methodLink RX2 119 yX1_last, .instanceMethod yX1_last, .selects RX1 yX1_last yX1_last, .initialized RX1, .code yX1_last cX1_last 1 (some (.object "SplayOrchard$Apple")), .fieldLink RX1 7 "SplayOrchard$Tree" "top" "LSplayOrchard$Apple;", .methodLink RX1 22 yX0_greatestUnder, .instanceMethod yX0_greatestUnder, .selects RX0 yX0_greatestUnder yX0_greatestUnder, .initialized RX0, .code yX0_greatestUnder cX0_greatestUnder 2 (some (.object "SplayOrchard$Apple")), .fieldLink RX0 23 "SplayOrchard$Apple" "right" "LSplayOrchard$Apple;", .methodLink RX2 115 yX1_first, .instanceMethod yX1_first, .selects RX1 yX1_first yX1_first, .code yX1_first cX1_first 1 (some (.object "SplayOrchard$Apple")), .methodLink RX1 18 yX0_leastUnder, .instanceMethod yX0_leastUnder, .selects RX0 yX0_leastUnder yX0_leastUnder, .code yX0_leastUnder cX0_leastUnder 2 (some (.object "SplayOrchard$Apple")), .fieldLink RX0 17 "SplayOrchard$Apple" "left" "LSplayOrchard$Apple;"] ++ wsX00 ++ wsX10)
def wsX2_join_r1 : List Cond := [Cond.classLink RX2 32 "java/lang/IllegalStateException", Cond.initialized "java/lang/IllegalStateException", Cond.fieldLink RX2 82 "SplayOrchard$Tree" "top" "LSplayOrchard$Apple;", Cond.methodLink RX2 20 yX2_treeOf, Cond.instanceMethod yX2_treeOf, Cond.selects RX2 yX2_treeOf yX2_treeOf, Cond.initialized RX2, Cond.code yX2_treeOf cX2_treeOf 2 (some (.object "SplayOrchard$Tree")), Cond.classLink RX2 125 "java/lang/IndexOutOfBoundsException", Cond.initialized "java/lang/IndexOutOfBoundsException", Cond.fieldLink RX2 11 "SplayOrchard" "rows" "[LSplayOrchard$Tree;", Cond.methodLink RX2 96 yX2_mayJoin, Cond.static yX2_mayJoin, Cond.code yX2_mayJoin cX2_mayJoin 4 (some .boolean), Cond.fieldLink RX2 130 "SplayOrchard$Apple" "size" "I", Cond.methodLink RX2 119 yX1_last, Cond.instanceMethod yX1_last, Cond.selects RX1 yX1_last yX1_last, Cond.initialized RX1, Cond.code yX1_last cX1_last 1 (some (.object "SplayOrchard$Apple")), Cond.fieldLink RX1 7 "SplayOrchard$Tree" "top" "LSplayOrchard$Apple;", Cond.methodLink RX1 22 yX0_greatestUnder, Cond.instanceMethod yX0_greatestUnder, Cond.selects RX0 yX0_greatestUnder yX0_greatestUnder]
def wsX2_join_r2 : List Cond := [Cond.initialized RX0, Cond.code yX0_greatestUnder cX0_greatestUnder 2 (some (.object "SplayOrchard$Apple")), Cond.fieldLink RX0 23 "SplayOrchard$Apple" "right" "LSplayOrchard$Apple;", Cond.methodLink RX2 115 yX1_first, Cond.instanceMethod yX1_first, Cond.selects RX1 yX1_first yX1_first, Cond.code yX1_first cX1_first 1 (some (.object "SplayOrchard$Apple")), Cond.methodLink RX1 18 yX0_leastUnder, Cond.instanceMethod yX0_leastUnder, Cond.selects RX0 yX0_leastUnder yX0_leastUnder, Cond.code yX0_leastUnder cX0_leastUnder 2 (some (.object "SplayOrchard$Apple")), Cond.fieldLink RX0 17 "SplayOrchard$Apple" "left" "LSplayOrchard$Apple;", Cond.methodLink RX2 76 yX2_append, Cond.instanceMethod yX2_append, Cond.selects RX2 yX2_append yX2_append, Cond.code yX2_append cX2_append 4 none, Cond.methodLink RX2 70 yX1_setTop, Cond.instanceMethod yX1_setTop, Cond.selects RX1 yX1_setTop yX1_setTop, Cond.code yX1_setTop cX1_setTop 2 none, Cond.fieldLink RX1 13 "SplayOrchard$Apple" "up" "LSplayOrchard$Apple;", Cond.methodLink RX2 54 yX2_bringUp, Cond.instanceMethod yX2_bringUp, Cond.selects RX2 yX2_bringUp yX2_bringUp]
def wsX2_join_r3 : List Cond := [Cond.code yX2_bringUp cX2_bringUp 4 (some .int), Cond.fieldLink RX2 102 "SplayOrchard" "turned" "I", Cond.methodLink RX2 215 yX1_bringUp, Cond.instanceMethod yX1_bringUp, Cond.selects RX1 yX1_bringUp yX1_bringUp, Cond.code yX1_bringUp cX1_bringUp 6 (some .int), Cond.methodLink RX1 46 yX0_depth, Cond.instanceMethod yX0_depth, Cond.selects RX0 yX0_depth yX0_depth, Cond.code yX0_depth cX0_depth 3 (some .int), Cond.fieldLink RX0 20 "SplayOrchard$Apple" "up" "LSplayOrchard$Apple;", Cond.methodLink RX1 50 yX0_isOnTheLeft, Cond.instanceMethod yX0_isOnTheLeft, Cond.selects RX0 yX0_isOnTheLeft yX0_isOnTheLeft, Cond.code yX0_isOnTheLeft cX0_isOnTheLeft 1 (some .boolean), Cond.methodLink RX1 54 yX0_turn, Cond.instanceMethod yX0_turn, Cond.selects RX0 yX0_turn yX0_turn, Cond.code yX0_turn cX0_turn 4 none, Cond.methodLink RX0 26 yX0_isOnTheLeft, Cond.methodLink RX0 30 yX0_hangLeft, Cond.instanceMethod yX0_hangLeft, Cond.selects RX0 yX0_hangLeft yX0_hangLeft, Cond.code yX0_hangLeft cX0_hangLeft 2 none]
def wsX2_join_r4 : List Cond := [Cond.methodLink RX0 34 yX0_hangRight, Cond.instanceMethod yX0_hangRight, Cond.selects RX0 yX0_hangRight yX0_hangRight, Cond.code yX0_hangRight cX0_hangRight 2 none, Cond.methodLink RX2 90 yX0_hangRight, Cond.methodLink RX2 93 yX1_count, Cond.instanceMethod yX1_count, Cond.selects RX1 yX1_count yX1_count, Cond.code yX1_count cX1_count 1 (some .int), Cond.methodLink RX1 63 yX0_countUnder, Cond.instanceMethod yX0_countUnder, Cond.selects RX0 yX0_countUnder yX0_countUnder, Cond.code yX0_countUnder cX0_countUnder 4 (some .int), Cond.methodLink RX0 41 yX0_greatestUnder, Cond.methodLink RX0 37 yX0_leastUnder, Cond.methodLink RX0 44 yX0_next, Cond.instanceMethod yX0_next, Cond.selects RX0 yX0_next yX0_next, Cond.code yX0_next cX0_next 2 (some (.object "SplayOrchard$Apple"))]
def wsX2_join : List Cond := .code yX2_join cX2_join 5 (some .int) :: ((wsX2_join_r1 ++ (wsX2_join_r2 ++ (wsX2_join_r3 ++ wsX2_join_r4))) ++ wsX10 ++ wsX20 ++ wsX00 ++ (vx_atS RX2 36 "java/lang/IllegalStateException" ["java/lang/RuntimeException", "java/lang/Exception"]).filter goodWord ++ (vx_atS RX2 129 "java/lang/IndexOutOfBoundsException" ["java/lang/RuntimeException", "java/lang/Exception"]).filter goodWord)
def wsX2_turnings : List Cond := .code yX2_turnings cX2_turnings 1 (some .int) :: ([.fieldLink RX2 102 "SplayOrchard" "turned" "I"] ++ wsX20)
def wsX2_sizeOf_r1 : List Cond := [Cond.methodLink RX2 20 yX2_treeOf, Cond.instanceMethod yX2_treeOf, Cond.selects RX2 yX2_treeOf yX2_treeOf, Cond.initialized RX2, Cond.code yX2_treeOf cX2_treeOf 2 (some (.object "SplayOrchard$Tree")), Cond.classLink RX2 125 "java/lang/IndexOutOfBoundsException", Cond.initialized "java/lang/IndexOutOfBoundsException", Cond.fieldLink RX2 11 "SplayOrchard" "rows" "[LSplayOrchard$Tree;", Cond.methodLink RX2 93 yX1_count, Cond.instanceMethod yX1_count, Cond.selects RX1 yX1_count yX1_count, Cond.initialized RX1, Cond.code yX1_count cX1_count 1 (some .int), Cond.fieldLink RX1 7 "SplayOrchard$Tree" "top" "LSplayOrchard$Apple;", Cond.methodLink RX1 63 yX0_countUnder, Cond.instanceMethod yX0_countUnder, Cond.selects RX0 yX0_countUnder yX0_countUnder, Cond.initialized RX0, Cond.code yX0_countUnder cX0_countUnder 4 (some .int), Cond.methodLink RX0 41 yX0_greatestUnder, Cond.instanceMethod yX0_greatestUnder, Cond.selects RX0 yX0_greatestUnder yX0_greatestUnder, Cond.code yX0_greatestUnder cX0_greatestUnder 2 (some (.object "SplayOrchard$Apple")), Cond.fieldLink RX0 23 "SplayOrchard$Apple" "right" "LSplayOrchard$Apple;"]
def wsX2_sizeOf_r2 : List Cond := [Cond.methodLink RX0 37 yX0_leastUnder, Cond.instanceMethod yX0_leastUnder, Cond.selects RX0 yX0_leastUnder yX0_leastUnder, Cond.code yX0_leastUnder cX0_leastUnder 2 (some (.object "SplayOrchard$Apple")), Cond.fieldLink RX0 17 "SplayOrchard$Apple" "left" "LSplayOrchard$Apple;", Cond.methodLink RX0 44 yX0_next, Cond.instanceMethod yX0_next, Cond.selects RX0 yX0_next yX0_next, Cond.code yX0_next cX0_next 2 (some (.object "SplayOrchard$Apple")), Cond.fieldLink RX0 20 "SplayOrchard$Apple" "up" "LSplayOrchard$Apple;"]
def wsX2_sizeOf : List Cond := .code yX2_sizeOf cX2_sizeOf 2 (some .int) :: ((wsX2_sizeOf_r1 ++ wsX2_sizeOf_r2) ++ wsX20 ++ wsX10 ++ wsX00 ++ (vx_atS RX2 129 "java/lang/IndexOutOfBoundsException" ["java/lang/RuntimeException", "java/lang/Exception"]).filter goodWord)
def wsX2_sizeOrNone : List Cond := .code yX2_sizeOrNone cX2_sizeOrNone 1 (some .int) :: ([.fieldLink RX2 130 "SplayOrchard$Apple" "size" "I"] ++ wsX00)
def wsX2_top : List Cond := .code yX2_top cX2_top 2 (some .int) :: ([.fieldLink RX2 82 "SplayOrchard$Tree" "top" "LSplayOrchard$Apple;", .methodLink RX2 20 yX2_treeOf, .instanceMethod yX2_treeOf, .selects RX2 yX2_treeOf yX2_treeOf, .initialized RX2, .code yX2_treeOf cX2_treeOf 2 (some (.object "SplayOrchard$Tree")), .classLink RX2 125 "java/lang/IndexOutOfBoundsException", .initialized "java/lang/IndexOutOfBoundsException", .fieldLink RX2 11 "SplayOrchard" "rows" "[LSplayOrchard$Tree;", .methodLink RX2 105 yX2_sizeOrNone, .static yX2_sizeOrNone, .code yX2_sizeOrNone cX2_sizeOrNone 1 (some .int), .fieldLink RX2 130 "SplayOrchard$Apple" "size" "I"] ++ wsX10 ++ wsX20 ++ wsX00 ++ (vx_atS RX2 129 "java/lang/IndexOutOfBoundsException" ["java/lang/RuntimeException", "java/lang/Exception"]).filter goodWord)
def wsX2_height_r1 : List Cond := [Cond.methodLink RX2 20 yX2_treeOf, Cond.instanceMethod yX2_treeOf, Cond.selects RX2 yX2_treeOf yX2_treeOf, Cond.initialized RX2, Cond.code yX2_treeOf cX2_treeOf 2 (some (.object "SplayOrchard$Tree")), Cond.classLink RX2 125 "java/lang/IndexOutOfBoundsException", Cond.initialized "java/lang/IndexOutOfBoundsException", Cond.fieldLink RX2 11 "SplayOrchard" "rows" "[LSplayOrchard$Tree;", Cond.methodLink RX2 109 yX1_levels, Cond.instanceMethod yX1_levels, Cond.selects RX1 yX1_levels yX1_levels, Cond.initialized RX1, Cond.code yX1_levels cX1_levels 3 (some .int), Cond.methodLink RX1 66 Lib.Math.max.name, Cond.static Lib.Math.max.name, Cond.initialized "java/lang/Math", Cond.code Lib.Math.max.name Lib.Math.max.code 2 (some .int), Cond.methodLink RX1 57 yX1_first, Cond.instanceMethod yX1_first, Cond.selects RX1 yX1_first yX1_first, Cond.code yX1_first cX1_first 1 (some (.object "SplayOrchard$Apple")), Cond.fieldLink RX1 7 "SplayOrchard$Tree" "top" "LSplayOrchard$Apple;", Cond.methodLink RX1 18 yX0_leastUnder, Cond.instanceMethod yX0_leastUnder]
def wsX2_height_r2 : List Cond := [Cond.selects RX0 yX0_leastUnder yX0_leastUnder, Cond.initialized RX0, Cond.code yX0_leastUnder cX0_leastUnder 2 (some (.object "SplayOrchard$Apple")), Cond.fieldLink RX0 17 "SplayOrchard$Apple" "left" "LSplayOrchard$Apple;", Cond.methodLink RX1 46 yX0_depth, Cond.instanceMethod yX0_depth, Cond.selects RX0 yX0_depth yX0_depth, Cond.code yX0_depth cX0_depth 3 (some .int), Cond.fieldLink RX0 20 "SplayOrchard$Apple" "up" "LSplayOrchard$Apple;", Cond.methodLink RX1 60 yX0_next, Cond.instanceMethod yX0_next, Cond.selects RX0 yX0_next yX0_next, Cond.code yX0_next cX0_next 2 (some (.object "SplayOrchard$Apple")), Cond.fieldLink RX0 23 "SplayOrchard$Apple" "right" "LSplayOrchard$Apple;", Cond.methodLink RX0 37 yX0_leastUnder]
def wsX2_height : List Cond := .code yX2_height cX2_height 2 (some .int) :: ((wsX2_height_r1 ++ wsX2_height_r2) ++ wsX20 ++ wsX10 ++ wsX00 ++ (vx_atS RX2 129 "java/lang/IndexOutOfBoundsException" ["java/lang/RuntimeException", "java/lang/Exception"]).filter goodWord)
def wsX2_leastHeight_r1 : List Cond := [Cond.methodLink RX2 20 yX2_treeOf, Cond.instanceMethod yX2_treeOf, Cond.selects RX2 yX2_treeOf yX2_treeOf, Cond.initialized RX2, Cond.code yX2_treeOf cX2_treeOf 2 (some (.object "SplayOrchard$Tree")), Cond.classLink RX2 125 "java/lang/IndexOutOfBoundsException", Cond.initialized "java/lang/IndexOutOfBoundsException", Cond.fieldLink RX2 11 "SplayOrchard" "rows" "[LSplayOrchard$Tree;", Cond.methodLink RX2 93 yX1_count, Cond.instanceMethod yX1_count, Cond.selects RX1 yX1_count yX1_count, Cond.initialized RX1, Cond.code yX1_count cX1_count 1 (some .int), Cond.fieldLink RX1 7 "SplayOrchard$Tree" "top" "LSplayOrchard$Apple;", Cond.methodLink RX1 63 yX0_countUnder, Cond.instanceMethod yX0_countUnder, Cond.selects RX0 yX0_countUnder yX0_countUnder, Cond.initialized RX0, Cond.code yX0_countUnder cX0_countUnder 4 (some .int), Cond.methodLink RX0 41 yX0_greatestUnder, Cond.instanceMethod yX0_greatestUnder, Cond.selects RX0 yX0_greatestUnder yX0_greatestUnder, Cond.code yX0_greatestUnder cX0_greatestUnder 2 (some (.object "SplayOrchard$Apple")), Cond.fieldLink RX0 23 "SplayOrchard$Apple" "right" "LSplayOrchard$Apple;"]
def wsX2_leastHeight_r2 : List Cond := [Cond.methodLink RX0 37 yX0_leastUnder, Cond.instanceMethod yX0_leastUnder, Cond.selects RX0 yX0_leastUnder yX0_leastUnder, Cond.code yX0_leastUnder cX0_leastUnder 2 (some (.object "SplayOrchard$Apple")), Cond.fieldLink RX0 17 "SplayOrchard$Apple" "left" "LSplayOrchard$Apple;", Cond.methodLink RX0 44 yX0_next, Cond.instanceMethod yX0_next, Cond.selects RX0 yX0_next yX0_next, Cond.code yX0_next cX0_next 2 (some (.object "SplayOrchard$Apple")), Cond.fieldLink RX0 20 "SplayOrchard$Apple" "up" "LSplayOrchard$Apple;"]
def wsX2_leastHeight : List Cond := .code yX2_leastHeight cX2_leastHeight 5 (some .int) :: ((wsX2_leastHeight_r1 ++ wsX2_leastHeight_r2) ++ wsX20 ++ wsX10 ++ wsX00 ++ (vx_atS RX2 129 "java/lang/IndexOutOfBoundsException" ["java/lang/RuntimeException", "java/lang/Exception"]).filter goodWord)
def wsX2_depths_r1 : List Cond := [Cond.methodLink RX2 20 yX2_treeOf, Cond.instanceMethod yX2_treeOf, Cond.selects RX2 yX2_treeOf yX2_treeOf, Cond.initialized RX2, Cond.code yX2_treeOf cX2_treeOf 2 (some (.object "SplayOrchard$Tree")), Cond.classLink RX2 125 "java/lang/IndexOutOfBoundsException", Cond.initialized "java/lang/IndexOutOfBoundsException", Cond.fieldLink RX2 11 "SplayOrchard" "rows" "[LSplayOrchard$Tree;", Cond.methodLink RX2 112 yX1_depthSum, Cond.instanceMethod yX1_depthSum, Cond.selects RX1 yX1_depthSum yX1_depthSum, Cond.initialized RX1, Cond.code yX1_depthSum cX1_depthSum 3 (some .int), Cond.methodLink RX1 57 yX1_first, Cond.instanceMethod yX1_first, Cond.selects RX1 yX1_first yX1_first, Cond.code yX1_first cX1_first 1 (some (.object "SplayOrchard$Apple")), Cond.fieldLink RX1 7 "SplayOrchard$Tree" "top" "LSplayOrchard$Apple;", Cond.methodLink RX1 18 yX0_leastUnder, Cond.instanceMethod yX0_leastUnder, Cond.selects RX0 yX0_leastUnder yX0_leastUnder, Cond.initialized RX0, Cond.code yX0_leastUnder cX0_leastUnder 2 (some (.object "SplayOrchard$Apple")), Cond.fieldLink RX0 17 "SplayOrchard$Apple" "left" "LSplayOrchard$Apple;"]
def wsX2_depths_r2 : List Cond := [Cond.methodLink RX1 46 yX0_depth, Cond.instanceMethod yX0_depth, Cond.selects RX0 yX0_depth yX0_depth, Cond.code yX0_depth cX0_depth 3 (some .int), Cond.fieldLink RX0 20 "SplayOrchard$Apple" "up" "LSplayOrchard$Apple;", Cond.methodLink RX1 60 yX0_next, Cond.instanceMethod yX0_next, Cond.selects RX0 yX0_next yX0_next, Cond.code yX0_next cX0_next 2 (some (.object "SplayOrchard$Apple")), Cond.fieldLink RX0 23 "SplayOrchard$Apple" "right" "LSplayOrchard$Apple;", Cond.methodLink RX0 37 yX0_leastUnder]
def wsX2_depths : List Cond := .code yX2_depths cX2_depths 2 (some .int) :: ((wsX2_depths_r1 ++ wsX2_depths_r2) ++ wsX20 ++ wsX10 ++ wsX00 ++ (vx_atS RX2 129 "java/lang/IndexOutOfBoundsException" ["java/lang/RuntimeException", "java/lang/Exception"]).filter goodWord)
def wsX2_smallest : List Cond := .code yX2_smallest cX2_smallest 2 (some .int) :: ([.methodLink RX2 20 yX2_treeOf, .instanceMethod yX2_treeOf, .selects RX2 yX2_treeOf yX2_treeOf, .initialized RX2, .code yX2_treeOf cX2_treeOf 2 (some (.object "SplayOrchard$Tree")), .classLink RX2 125 "java/lang/IndexOutOfBoundsException", .initialized "java/lang/IndexOutOfBoundsException", .fieldLink RX2 11 "SplayOrchard" "rows" "[LSplayOrchard$Tree;", .methodLink RX2 115 yX1_first, .instanceMethod yX1_first, .selects RX1 yX1_first yX1_first, .initialized RX1, .code yX1_first cX1_first 1 (some (.object "SplayOrchard$Apple")), .fieldLink RX1 7 "SplayOrchard$Tree" "top" "LSplayOrchard$Apple;", .methodLink RX1 18 yX0_leastUnder, .instanceMethod yX0_leastUnder, .selects RX0 yX0_leastUnder yX0_leastUnder, .initialized RX0, .code yX0_leastUnder cX0_leastUnder 2 (some (.object "SplayOrchard$Apple")), .fieldLink RX0 17 "SplayOrchard$Apple" "left" "LSplayOrchard$Apple;", .methodLink RX2 105 yX2_sizeOrNone, .static yX2_sizeOrNone, .code yX2_sizeOrNone cX2_sizeOrNone 1 (some .int), .fieldLink RX2 130 "SplayOrchard$Apple" "size" "I"] ++ wsX20 ++ wsX10 ++ wsX00 ++ (vx_atS RX2 129 "java/lang/IndexOutOfBoundsException" ["java/lang/RuntimeException", "java/lang/Exception"]).filter goodWord)
def wsX2_greatest : List Cond := .code yX2_greatest cX2_greatest 2 (some .int) :: ([.methodLink RX2 20 yX2_treeOf, .instanceMethod yX2_treeOf, .selects RX2 yX2_treeOf yX2_treeOf, .initialized RX2, .code yX2_treeOf cX2_treeOf 2 (some (.object "SplayOrchard$Tree")), .classLink RX2 125 "java/lang/IndexOutOfBoundsException", .initialized "java/lang/IndexOutOfBoundsException", .fieldLink RX2 11 "SplayOrchard" "rows" "[LSplayOrchard$Tree;", .methodLink RX2 119 yX1_last, .instanceMethod yX1_last, .selects RX1 yX1_last yX1_last, .initialized RX1, .code yX1_last cX1_last 1 (some (.object "SplayOrchard$Apple")), .fieldLink RX1 7 "SplayOrchard$Tree" "top" "LSplayOrchard$Apple;", .methodLink RX1 22 yX0_greatestUnder, .instanceMethod yX0_greatestUnder, .selects RX0 yX0_greatestUnder yX0_greatestUnder, .initialized RX0, .code yX0_greatestUnder cX0_greatestUnder 2 (some (.object "SplayOrchard$Apple")), .fieldLink RX0 23 "SplayOrchard$Apple" "right" "LSplayOrchard$Apple;", .methodLink RX2 105 yX2_sizeOrNone, .static yX2_sizeOrNone, .code yX2_sizeOrNone cX2_sizeOrNone 1 (some .int), .fieldLink RX2 130 "SplayOrchard$Apple" "size" "I"] ++ wsX20 ++ wsX10 ++ wsX00 ++ (vx_atS RX2 129 "java/lang/IndexOutOfBoundsException" ["java/lang/RuntimeException", "java/lang/Exception"]).filter goodWord)
def wsX2_inOrder_r1 : List Cond := [Cond.classLink RX2 125 "java/lang/IndexOutOfBoundsException", Cond.initialized "java/lang/IndexOutOfBoundsException", Cond.fieldLink RX2 130 "SplayOrchard$Apple" "size" "I", Cond.methodLink RX2 20 yX2_treeOf, Cond.instanceMethod yX2_treeOf, Cond.selects RX2 yX2_treeOf yX2_treeOf, Cond.initialized RX2, Cond.code yX2_treeOf cX2_treeOf 2 (some (.object "SplayOrchard$Tree")), Cond.fieldLink RX2 11 "SplayOrchard" "rows" "[LSplayOrchard$Tree;", Cond.methodLink RX2 122 yX1_at, Cond.instanceMethod yX1_at, Cond.selects RX1 yX1_at yX1_at, Cond.initialized RX1, Cond.code yX1_at cX1_at 4 (some (.object "SplayOrchard$Apple")), Cond.methodLink RX1 57 yX1_first, Cond.instanceMethod yX1_first, Cond.selects RX1 yX1_first yX1_first, Cond.code yX1_first cX1_first 1 (some (.object "SplayOrchard$Apple")), Cond.fieldLink RX1 7 "SplayOrchard$Tree" "top" "LSplayOrchard$Apple;", Cond.methodLink RX1 18 yX0_leastUnder, Cond.instanceMethod yX0_leastUnder, Cond.selects RX0 yX0_leastUnder yX0_leastUnder, Cond.initialized RX0, Cond.code yX0_leastUnder cX0_leastUnder 2 (some (.object "SplayOrchard$Apple"))]
def wsX2_inOrder_r2 : List Cond := [Cond.fieldLink RX0 17 "SplayOrchard$Apple" "left" "LSplayOrchard$Apple;", Cond.methodLink RX1 60 yX0_next, Cond.instanceMethod yX0_next, Cond.selects RX0 yX0_next yX0_next, Cond.code yX0_next cX0_next 2 (some (.object "SplayOrchard$Apple")), Cond.fieldLink RX0 23 "SplayOrchard$Apple" "right" "LSplayOrchard$Apple;", Cond.fieldLink RX0 20 "SplayOrchard$Apple" "up" "LSplayOrchard$Apple;", Cond.methodLink RX0 37 yX0_leastUnder]
def wsX2_inOrder : List Cond := .code yX2_inOrder cX2_inOrder 4 (some .int) :: ((wsX2_inOrder_r1 ++ wsX2_inOrder_r2) ++ wsX00 ++ wsX20 ++ wsX10 ++ (vx_atS RX2 129 "java/lang/IndexOutOfBoundsException" ["java/lang/RuntimeException", "java/lang/Exception"]).filter goodWord)
def wsX2_leaves_r1 : List Cond := [Cond.methodLink RX2 20 yX2_treeOf, Cond.instanceMethod yX2_treeOf, Cond.selects RX2 yX2_treeOf yX2_treeOf, Cond.initialized RX2, Cond.code yX2_treeOf cX2_treeOf 2 (some (.object "SplayOrchard$Tree")), Cond.classLink RX2 125 "java/lang/IndexOutOfBoundsException", Cond.initialized "java/lang/IndexOutOfBoundsException", Cond.fieldLink RX2 11 "SplayOrchard" "rows" "[LSplayOrchard$Tree;", Cond.methodLink RX2 133 yX1_leafCount, Cond.instanceMethod yX1_leafCount, Cond.selects RX1 yX1_leafCount yX1_leafCount, Cond.initialized RX1, Cond.code yX1_leafCount cX1_leafCount 3 (some .int), Cond.fieldLink RX1 72 "SplayOrchard$Apple" "left" "LSplayOrchard$Apple;", Cond.fieldLink RX1 75 "SplayOrchard$Apple" "right" "LSplayOrchard$Apple;", Cond.methodLink RX1 57 yX1_first, Cond.instanceMethod yX1_first, Cond.selects RX1 yX1_first yX1_first, Cond.code yX1_first cX1_first 1 (some (.object "SplayOrchard$Apple")), Cond.fieldLink RX1 7 "SplayOrchard$Tree" "top" "LSplayOrchard$Apple;", Cond.methodLink RX1 18 yX0_leastUnder, Cond.instanceMethod yX0_leastUnder, Cond.selects RX0 yX0_leastUnder yX0_leastUnder, Cond.initialized RX0]
def wsX2_leaves_r2 : List Cond := [Cond.code yX0_leastUnder cX0_leastUnder 2 (some (.object "SplayOrchard$Apple")), Cond.fieldLink RX0 17 "SplayOrchard$Apple" "left" "LSplayOrchard$Apple;", Cond.methodLink RX1 60 yX0_next, Cond.instanceMethod yX0_next, Cond.selects RX0 yX0_next yX0_next, Cond.code yX0_next cX0_next 2 (some (.object "SplayOrchard$Apple")), Cond.fieldLink RX0 23 "SplayOrchard$Apple" "right" "LSplayOrchard$Apple;", Cond.fieldLink RX0 20 "SplayOrchard$Apple" "up" "LSplayOrchard$Apple;", Cond.methodLink RX0 37 yX0_leastUnder]
def wsX2_leaves : List Cond := .code yX2_leaves cX2_leaves 2 (some .int) :: ((wsX2_leaves_r1 ++ wsX2_leaves_r2) ++ wsX20 ++ wsX00 ++ wsX10 ++ (vx_atS RX2 129 "java/lang/IndexOutOfBoundsException" ["java/lang/RuntimeException", "java/lang/Exception"]).filter goodWord)
def wsX2_has_r1 : List Cond := [Cond.methodLink RX2 20 yX2_treeOf, Cond.instanceMethod yX2_treeOf, Cond.selects RX2 yX2_treeOf yX2_treeOf, Cond.initialized RX2, Cond.code yX2_treeOf cX2_treeOf 2 (some (.object "SplayOrchard$Tree")), Cond.classLink RX2 125 "java/lang/IndexOutOfBoundsException", Cond.initialized "java/lang/IndexOutOfBoundsException", Cond.fieldLink RX2 11 "SplayOrchard" "rows" "[LSplayOrchard$Tree;", Cond.methodLink RX2 39 yX1_find, Cond.instanceMethod yX1_find, Cond.selects RX1 yX1_find yX1_find, Cond.initialized RX1, Cond.code yX1_find cX1_find 3 (some (.object "SplayOrchard$Apple")), Cond.fieldLink RX1 32 "SplayOrchard$Apple" "size" "I", Cond.methodLink RX1 29 yX1_nearest, Cond.instanceMethod yX1_nearest, Cond.selects RX1 yX1_nearest yX1_nearest, Cond.code yX1_nearest cX1_nearest 4 (some (.object "SplayOrchard$Apple")), Cond.fieldLink RX1 7 "SplayOrchard$Tree" "top" "LSplayOrchard$Apple;", Cond.methodLink RX1 25 yX0_towards, Cond.instanceMethod yX0_towards, Cond.selects RX0 yX0_towards yX0_towards, Cond.initialized RX0, Cond.code yX0_towards cX0_towards 2 (some (.object "SplayOrchard$Apple"))]
def wsX2_has_r2 : List Cond := [Cond.fieldLink RX0 7 "SplayOrchard$Apple" "size" "I", Cond.fieldLink RX0 17 "SplayOrchard$Apple" "left" "LSplayOrchard$Apple;", Cond.fieldLink RX0 23 "SplayOrchard$Apple" "right" "LSplayOrchard$Apple;"]
def wsX2_has : List Cond := .code yX2_has cX2_has 3 (some .boolean) :: ((wsX2_has_r1 ++ wsX2_has_r2) ++ wsX20 ++ wsX00 ++ wsX10 ++ (vx_atS RX2 129 "java/lang/IndexOutOfBoundsException" ["java/lang/RuntimeException", "java/lang/Exception"]).filter goodWord)
def wsX2_smaller_r1 : List Cond := [Cond.methodLink RX2 20 yX2_treeOf, Cond.instanceMethod yX2_treeOf, Cond.selects RX2 yX2_treeOf yX2_treeOf, Cond.initialized RX2, Cond.code yX2_treeOf cX2_treeOf 2 (some (.object "SplayOrchard$Tree")), Cond.classLink RX2 125 "java/lang/IndexOutOfBoundsException", Cond.initialized "java/lang/IndexOutOfBoundsException", Cond.fieldLink RX2 11 "SplayOrchard" "rows" "[LSplayOrchard$Tree;", Cond.methodLink RX2 136 yX1_countBelow, Cond.instanceMethod yX1_countBelow, Cond.selects RX1 yX1_countBelow yX1_countBelow, Cond.initialized RX1, Cond.code yX1_countBelow cX1_countBelow 4 (some .int), Cond.fieldLink RX1 32 "SplayOrchard$Apple" "size" "I", Cond.methodLink RX1 57 yX1_first, Cond.instanceMethod yX1_first, Cond.selects RX1 yX1_first yX1_first, Cond.code yX1_first cX1_first 1 (some (.object "SplayOrchard$Apple")), Cond.fieldLink RX1 7 "SplayOrchard$Tree" "top" "LSplayOrchard$Apple;", Cond.methodLink RX1 18 yX0_leastUnder, Cond.instanceMethod yX0_leastUnder, Cond.selects RX0 yX0_leastUnder yX0_leastUnder, Cond.initialized RX0, Cond.code yX0_leastUnder cX0_leastUnder 2 (some (.object "SplayOrchard$Apple"))]
def wsX2_smaller_r2 : List Cond := [Cond.fieldLink RX0 17 "SplayOrchard$Apple" "left" "LSplayOrchard$Apple;", Cond.methodLink RX1 60 yX0_next, Cond.instanceMethod yX0_next, Cond.selects RX0 yX0_next yX0_next, Cond.code yX0_next cX0_next 2 (some (.object "SplayOrchard$Apple")), Cond.fieldLink RX0 23 "SplayOrchard$Apple" "right" "LSplayOrchard$Apple;", Cond.fieldLink RX0 20 "SplayOrchard$Apple" "up" "LSplayOrchard$Apple;", Cond.methodLink RX0 37 yX0_leastUnder]
def wsX2_smaller : List Cond := .code yX2_smaller cX2_smaller 3 (some .int) :: ((wsX2_smaller_r1 ++ wsX2_smaller_r2) ++ wsX20 ++ wsX00 ++ wsX10 ++ (vx_atS RX2 129 "java/lang/IndexOutOfBoundsException" ["java/lang/RuntimeException", "java/lang/Exception"]).filter goodWord)
def wsX2_depthOf_r1 : List Cond := [Cond.methodLink RX2 20 yX2_treeOf, Cond.instanceMethod yX2_treeOf, Cond.selects RX2 yX2_treeOf yX2_treeOf, Cond.initialized RX2, Cond.code yX2_treeOf cX2_treeOf 2 (some (.object "SplayOrchard$Tree")), Cond.classLink RX2 125 "java/lang/IndexOutOfBoundsException", Cond.initialized "java/lang/IndexOutOfBoundsException", Cond.fieldLink RX2 11 "SplayOrchard" "rows" "[LSplayOrchard$Tree;", Cond.methodLink RX2 58 yX2_appleOf, Cond.static yX2_appleOf, Cond.code yX2_appleOf cX2_appleOf 3 (some (.object "SplayOrchard$Apple")), Cond.classLink RX2 32 "java/lang/IllegalStateException", Cond.initialized "java/lang/IllegalStateException", Cond.methodLink RX2 39 yX1_find, Cond.instanceMethod yX1_find, Cond.selects RX1 yX1_find yX1_find, Cond.initialized RX1, Cond.code yX1_find cX1_find 3 (some (.object "SplayOrchard$Apple")), Cond.fieldLink RX1 32 "SplayOrchard$Apple" "size" "I", Cond.methodLink RX1 29 yX1_nearest, Cond.instanceMethod yX1_nearest, Cond.selects RX1 yX1_nearest yX1_nearest, Cond.code yX1_nearest cX1_nearest 4 (some (.object "SplayOrchard$Apple")), Cond.fieldLink RX1 7 "SplayOrchard$Tree" "top" "LSplayOrchard$Apple;"]
def wsX2_depthOf_r2 : List Cond := [Cond.methodLink RX1 25 yX0_towards, Cond.instanceMethod yX0_towards, Cond.selects RX0 yX0_towards yX0_towards, Cond.initialized RX0, Cond.code yX0_towards cX0_towards 2 (some (.object "SplayOrchard$Apple")), Cond.fieldLink RX0 7 "SplayOrchard$Apple" "size" "I", Cond.fieldLink RX0 17 "SplayOrchard$Apple" "left" "LSplayOrchard$Apple;", Cond.fieldLink RX0 23 "SplayOrchard$Apple" "right" "LSplayOrchard$Apple;", Cond.methodLink RX2 140 yX0_depth, Cond.instanceMethod yX0_depth, Cond.selects RX0 yX0_depth yX0_depth, Cond.code yX0_depth cX0_depth 3 (some .int), Cond.fieldLink RX0 20 "SplayOrchard$Apple" "up" "LSplayOrchard$Apple;"]
def wsX2_depthOf : List Cond := .code yX2_depthOf cX2_depthOf 3 (some .int) :: ((wsX2_depthOf_r1 ++ wsX2_depthOf_r2) ++ wsX20 ++ wsX00 ++ wsX10 ++ (vx_atS RX2 129 "java/lang/IndexOutOfBoundsException" ["java/lang/RuntimeException", "java/lang/Exception"]).filter goodWord ++ (vx_atS RX2 36 "java/lang/IllegalStateException" ["java/lang/RuntimeException", "java/lang/Exception"]).filter goodWord)
def wsX2_above_r1 : List Cond := [Cond.fieldLink RX2 143 "SplayOrchard$Apple" "up" "LSplayOrchard$Apple;", Cond.methodLink RX2 20 yX2_treeOf, Cond.instanceMethod yX2_treeOf, Cond.selects RX2 yX2_treeOf yX2_treeOf, Cond.initialized RX2, Cond.code yX2_treeOf cX2_treeOf 2 (some (.object "SplayOrchard$Tree")), Cond.classLink RX2 125 "java/lang/IndexOutOfBoundsException", Cond.initialized "java/lang/IndexOutOfBoundsException", Cond.fieldLink RX2 11 "SplayOrchard" "rows" "[LSplayOrchard$Tree;", Cond.methodLink RX2 58 yX2_appleOf, Cond.static yX2_appleOf, Cond.code yX2_appleOf cX2_appleOf 3 (some (.object "SplayOrchard$Apple")), Cond.classLink RX2 32 "java/lang/IllegalStateException", Cond.initialized "java/lang/IllegalStateException", Cond.methodLink RX2 39 yX1_find, Cond.instanceMethod yX1_find, Cond.selects RX1 yX1_find yX1_find, Cond.initialized RX1, Cond.code yX1_find cX1_find 3 (some (.object "SplayOrchard$Apple")), Cond.fieldLink RX1 32 "SplayOrchard$Apple" "size" "I", Cond.methodLink RX1 29 yX1_nearest, Cond.instanceMethod yX1_nearest, Cond.selects RX1 yX1_nearest yX1_nearest, Cond.code yX1_nearest cX1_nearest 4 (some (.object "SplayOrchard$Apple"))]
def wsX2_above_r2 : List Cond := [Cond.fieldLink RX1 7 "SplayOrchard$Tree" "top" "LSplayOrchard$Apple;", Cond.methodLink RX1 25 yX0_towards, Cond.instanceMethod yX0_towards, Cond.selects RX0 yX0_towards yX0_towards, Cond.initialized RX0, Cond.code yX0_towards cX0_towards 2 (some (.object "SplayOrchard$Apple")), Cond.fieldLink RX0 7 "SplayOrchard$Apple" "size" "I", Cond.fieldLink RX0 17 "SplayOrchard$Apple" "left" "LSplayOrchard$Apple;", Cond.fieldLink RX0 23 "SplayOrchard$Apple" "right" "LSplayOrchard$Apple;", Cond.methodLink RX2 105 yX2_sizeOrNone, Cond.static yX2_sizeOrNone, Cond.code yX2_sizeOrNone cX2_sizeOrNone 1 (some .int), Cond.fieldLink RX2 130 "SplayOrchard$Apple" "size" "I"]
def wsX2_above : List Cond := .code yX2_above cX2_above 3 (some .int) :: ((wsX2_above_r1 ++ wsX2_above_r2) ++ wsX00 ++ wsX20 ++ wsX10 ++ (vx_atS RX2 129 "java/lang/IndexOutOfBoundsException" ["java/lang/RuntimeException", "java/lang/Exception"]).filter goodWord ++ (vx_atS RX2 36 "java/lang/IllegalStateException" ["java/lang/RuntimeException", "java/lang/Exception"]).filter goodWord)
def wsX2_leftOf_r1 : List Cond := [Cond.fieldLink RX2 66 "SplayOrchard$Apple" "left" "LSplayOrchard$Apple;", Cond.methodLink RX2 20 yX2_treeOf, Cond.instanceMethod yX2_treeOf, Cond.selects RX2 yX2_treeOf yX2_treeOf, Cond.initialized RX2, Cond.code yX2_treeOf cX2_treeOf 2 (some (.object "SplayOrchard$Tree")), Cond.classLink RX2 125 "java/lang/IndexOutOfBoundsException", Cond.initialized "java/lang/IndexOutOfBoundsException", Cond.fieldLink RX2 11 "SplayOrchard" "rows" "[LSplayOrchard$Tree;", Cond.methodLink RX2 58 yX2_appleOf, Cond.static yX2_appleOf, Cond.code yX2_appleOf cX2_appleOf 3 (some (.object "SplayOrchard$Apple")), Cond.classLink RX2 32 "java/lang/IllegalStateException", Cond.initialized "java/lang/IllegalStateException", Cond.methodLink RX2 39 yX1_find, Cond.instanceMethod yX1_find, Cond.selects RX1 yX1_find yX1_find, Cond.initialized RX1, Cond.code yX1_find cX1_find 3 (some (.object "SplayOrchard$Apple")), Cond.fieldLink RX1 32 "SplayOrchard$Apple" "size" "I", Cond.methodLink RX1 29 yX1_nearest, Cond.instanceMethod yX1_nearest, Cond.selects RX1 yX1_nearest yX1_nearest, Cond.code yX1_nearest cX1_nearest 4 (some (.object "SplayOrchard$Apple"))]
def wsX2_leftOf_r2 : List Cond := [Cond.fieldLink RX1 7 "SplayOrchard$Tree" "top" "LSplayOrchard$Apple;", Cond.methodLink RX1 25 yX0_towards, Cond.instanceMethod yX0_towards, Cond.selects RX0 yX0_towards yX0_towards, Cond.initialized RX0, Cond.code yX0_towards cX0_towards 2 (some (.object "SplayOrchard$Apple")), Cond.fieldLink RX0 7 "SplayOrchard$Apple" "size" "I", Cond.fieldLink RX0 17 "SplayOrchard$Apple" "left" "LSplayOrchard$Apple;", Cond.fieldLink RX0 23 "SplayOrchard$Apple" "right" "LSplayOrchard$Apple;", Cond.methodLink RX2 105 yX2_sizeOrNone, Cond.static yX2_sizeOrNone, Cond.code yX2_sizeOrNone cX2_sizeOrNone 1 (some .int), Cond.fieldLink RX2 130 "SplayOrchard$Apple" "size" "I"]
def wsX2_leftOf : List Cond := .code yX2_leftOf cX2_leftOf 3 (some .int) :: ((wsX2_leftOf_r1 ++ wsX2_leftOf_r2) ++ wsX00 ++ wsX20 ++ wsX10 ++ (vx_atS RX2 129 "java/lang/IndexOutOfBoundsException" ["java/lang/RuntimeException", "java/lang/Exception"]).filter goodWord ++ (vx_atS RX2 36 "java/lang/IllegalStateException" ["java/lang/RuntimeException", "java/lang/Exception"]).filter goodWord)
def wsX2_rightOf_r1 : List Cond := [Cond.fieldLink RX2 73 "SplayOrchard$Apple" "right" "LSplayOrchard$Apple;", Cond.methodLink RX2 20 yX2_treeOf, Cond.instanceMethod yX2_treeOf, Cond.selects RX2 yX2_treeOf yX2_treeOf, Cond.initialized RX2, Cond.code yX2_treeOf cX2_treeOf 2 (some (.object "SplayOrchard$Tree")), Cond.classLink RX2 125 "java/lang/IndexOutOfBoundsException", Cond.initialized "java/lang/IndexOutOfBoundsException", Cond.fieldLink RX2 11 "SplayOrchard" "rows" "[LSplayOrchard$Tree;", Cond.methodLink RX2 58 yX2_appleOf, Cond.static yX2_appleOf, Cond.code yX2_appleOf cX2_appleOf 3 (some (.object "SplayOrchard$Apple")), Cond.classLink RX2 32 "java/lang/IllegalStateException", Cond.initialized "java/lang/IllegalStateException", Cond.methodLink RX2 39 yX1_find, Cond.instanceMethod yX1_find, Cond.selects RX1 yX1_find yX1_find, Cond.initialized RX1, Cond.code yX1_find cX1_find 3 (some (.object "SplayOrchard$Apple")), Cond.fieldLink RX1 32 "SplayOrchard$Apple" "size" "I", Cond.methodLink RX1 29 yX1_nearest, Cond.instanceMethod yX1_nearest, Cond.selects RX1 yX1_nearest yX1_nearest, Cond.code yX1_nearest cX1_nearest 4 (some (.object "SplayOrchard$Apple"))]
def wsX2_rightOf_r2 : List Cond := [Cond.fieldLink RX1 7 "SplayOrchard$Tree" "top" "LSplayOrchard$Apple;", Cond.methodLink RX1 25 yX0_towards, Cond.instanceMethod yX0_towards, Cond.selects RX0 yX0_towards yX0_towards, Cond.initialized RX0, Cond.code yX0_towards cX0_towards 2 (some (.object "SplayOrchard$Apple")), Cond.fieldLink RX0 7 "SplayOrchard$Apple" "size" "I", Cond.fieldLink RX0 17 "SplayOrchard$Apple" "left" "LSplayOrchard$Apple;", Cond.fieldLink RX0 23 "SplayOrchard$Apple" "right" "LSplayOrchard$Apple;", Cond.methodLink RX2 105 yX2_sizeOrNone, Cond.static yX2_sizeOrNone, Cond.code yX2_sizeOrNone cX2_sizeOrNone 1 (some .int), Cond.fieldLink RX2 130 "SplayOrchard$Apple" "size" "I"]
def wsX2_rightOf : List Cond := .code yX2_rightOf cX2_rightOf 3 (some .int) :: ((wsX2_rightOf_r1 ++ wsX2_rightOf_r2) ++ wsX00 ++ wsX20 ++ wsX10 ++ (vx_atS RX2 129 "java/lang/IndexOutOfBoundsException" ["java/lang/RuntimeException", "java/lang/Exception"]).filter goodWord ++ (vx_atS RX2 36 "java/lang/IllegalStateException" ["java/lang/RuntimeException", "java/lang/Exception"]).filter goodWord)
def wsX2_below_r1 : List Cond := [Cond.methodLink RX2 20 yX2_treeOf, Cond.instanceMethod yX2_treeOf, Cond.selects RX2 yX2_treeOf yX2_treeOf, Cond.initialized RX2, Cond.code yX2_treeOf cX2_treeOf 2 (some (.object "SplayOrchard$Tree")), Cond.classLink RX2 125 "java/lang/IndexOutOfBoundsException", Cond.initialized "java/lang/IndexOutOfBoundsException", Cond.fieldLink RX2 11 "SplayOrchard" "rows" "[LSplayOrchard$Tree;", Cond.methodLink RX2 58 yX2_appleOf, Cond.static yX2_appleOf, Cond.code yX2_appleOf cX2_appleOf 3 (some (.object "SplayOrchard$Apple")), Cond.classLink RX2 32 "java/lang/IllegalStateException", Cond.initialized "java/lang/IllegalStateException", Cond.methodLink RX2 39 yX1_find, Cond.instanceMethod yX1_find, Cond.selects RX1 yX1_find yX1_find, Cond.initialized RX1, Cond.code yX1_find cX1_find 3 (some (.object "SplayOrchard$Apple")), Cond.fieldLink RX1 32 "SplayOrchard$Apple" "size" "I", Cond.methodLink RX1 29 yX1_nearest, Cond.instanceMethod yX1_nearest, Cond.selects RX1 yX1_nearest yX1_nearest, Cond.code yX1_nearest cX1_nearest 4 (some (.object "SplayOrchard$Apple")), Cond.fieldLink RX1 7 "SplayOrchard$Tree" "top" "LSplayOrchard$Apple;"]
def wsX2_below_r2 : List Cond := [Cond.methodLink RX1 25 yX0_towards, Cond.instanceMethod yX0_towards, Cond.selects RX0 yX0_towards yX0_towards, Cond.initialized RX0, Cond.code yX0_towards cX0_towards 2 (some (.object "SplayOrchard$Apple")), Cond.fieldLink RX0 7 "SplayOrchard$Apple" "size" "I", Cond.fieldLink RX0 17 "SplayOrchard$Apple" "left" "LSplayOrchard$Apple;", Cond.fieldLink RX0 23 "SplayOrchard$Apple" "right" "LSplayOrchard$Apple;", Cond.methodLink RX2 146 yX0_countUnder, Cond.instanceMethod yX0_countUnder, Cond.selects RX0 yX0_countUnder yX0_countUnder, Cond.code yX0_countUnder cX0_countUnder 4 (some .int), Cond.methodLink RX0 41 yX0_greatestUnder, Cond.instanceMethod yX0_greatestUnder, Cond.selects RX0 yX0_greatestUnder yX0_greatestUnder, Cond.code yX0_greatestUnder cX0_greatestUnder 2 (some (.object "SplayOrchard$Apple")), Cond.methodLink RX0 37 yX0_leastUnder, Cond.instanceMethod yX0_leastUnder, Cond.selects RX0 yX0_leastUnder yX0_leastUnder, Cond.code yX0_leastUnder cX0_leastUnder 2 (some (.object "SplayOrchard$Apple")), Cond.methodLink RX0 44 yX0_next, Cond.instanceMethod yX0_next, Cond.selects RX0 yX0_next yX0_next, Cond.code yX0_next cX0_next 2 (some (.object "SplayOrchard$Apple"))]
def wsX2_below_r3 : List Cond := [Cond.fieldLink RX0 20 "SplayOrchard$Apple" "up" "LSplayOrchard$Apple;"]
def wsX2_below : List Cond := .code yX2_below cX2_below 3 (some .int) :: ((wsX2_below_r1 ++ (wsX2_below_r2 ++ wsX2_below_r3)) ++ wsX20 ++ wsX00 ++ wsX10 ++ (vx_atS RX2 129 "java/lang/IndexOutOfBoundsException" ["java/lang/RuntimeException", "java/lang/Exception"]).filter goodWord ++ (vx_atS RX2 36 "java/lang/IllegalStateException" ["java/lang/RuntimeException", "java/lang/Exception"]).filter goodWord)
def wsX2_eaten_r1 : List Cond := [Cond.fieldLink RX2 62 "SplayOrchard$Apple" "bites" "I", Cond.methodLink RX2 20 yX2_treeOf, Cond.instanceMethod yX2_treeOf, Cond.selects RX2 yX2_treeOf yX2_treeOf, Cond.initialized RX2, Cond.code yX2_treeOf cX2_treeOf 2 (some (.object "SplayOrchard$Tree")), Cond.classLink RX2 125 "java/lang/IndexOutOfBoundsException", Cond.initialized "java/lang/IndexOutOfBoundsException", Cond.fieldLink RX2 11 "SplayOrchard" "rows" "[LSplayOrchard$Tree;", Cond.methodLink RX2 58 yX2_appleOf, Cond.static yX2_appleOf, Cond.code yX2_appleOf cX2_appleOf 3 (some (.object "SplayOrchard$Apple")), Cond.classLink RX2 32 "java/lang/IllegalStateException", Cond.initialized "java/lang/IllegalStateException", Cond.methodLink RX2 39 yX1_find, Cond.instanceMethod yX1_find, Cond.selects RX1 yX1_find yX1_find, Cond.initialized RX1, Cond.code yX1_find cX1_find 3 (some (.object "SplayOrchard$Apple")), Cond.fieldLink RX1 32 "SplayOrchard$Apple" "size" "I", Cond.methodLink RX1 29 yX1_nearest, Cond.instanceMethod yX1_nearest, Cond.selects RX1 yX1_nearest yX1_nearest, Cond.code yX1_nearest cX1_nearest 4 (some (.object "SplayOrchard$Apple"))]
def wsX2_eaten_r2 : List Cond := [Cond.fieldLink RX1 7 "SplayOrchard$Tree" "top" "LSplayOrchard$Apple;", Cond.methodLink RX1 25 yX0_towards, Cond.instanceMethod yX0_towards, Cond.selects RX0 yX0_towards yX0_towards, Cond.initialized RX0, Cond.code yX0_towards cX0_towards 2 (some (.object "SplayOrchard$Apple")), Cond.fieldLink RX0 7 "SplayOrchard$Apple" "size" "I", Cond.fieldLink RX0 17 "SplayOrchard$Apple" "left" "LSplayOrchard$Apple;", Cond.fieldLink RX0 23 "SplayOrchard$Apple" "right" "LSplayOrchard$Apple;"]
def wsX2_eaten : List Cond := .code yX2_eaten cX2_eaten 3 (some .int) :: ((wsX2_eaten_r1 ++ wsX2_eaten_r2) ++ wsX00 ++ wsX20 ++ wsX10 ++ (vx_atS RX2 129 "java/lang/IndexOutOfBoundsException" ["java/lang/RuntimeException", "java/lang/Exception"]).filter goodWord ++ (vx_atS RX2 36 "java/lang/IllegalStateException" ["java/lang/RuntimeException", "java/lang/Exception"]).filter goodWord)
def wsX2_favourite_r1 : List Cond := [Cond.methodLink RX2 20 yX2_treeOf, Cond.instanceMethod yX2_treeOf, Cond.selects RX2 yX2_treeOf yX2_treeOf, Cond.initialized RX2, Cond.code yX2_treeOf cX2_treeOf 2 (some (.object "SplayOrchard$Tree")), Cond.classLink RX2 125 "java/lang/IndexOutOfBoundsException", Cond.initialized "java/lang/IndexOutOfBoundsException", Cond.fieldLink RX2 11 "SplayOrchard" "rows" "[LSplayOrchard$Tree;", Cond.methodLink RX2 149 yX1_mostBitten, Cond.instanceMethod yX1_mostBitten, Cond.selects RX1 yX1_mostBitten yX1_mostBitten, Cond.initialized RX1, Cond.code yX1_mostBitten cX1_mostBitten 3 (some (.object "SplayOrchard$Apple")), Cond.fieldLink RX1 78 "SplayOrchard$Apple" "bites" "I", Cond.methodLink RX1 57 yX1_first, Cond.instanceMethod yX1_first, Cond.selects RX1 yX1_first yX1_first, Cond.code yX1_first cX1_first 1 (some (.object "SplayOrchard$Apple")), Cond.fieldLink RX1 7 "SplayOrchard$Tree" "top" "LSplayOrchard$Apple;", Cond.methodLink RX1 18 yX0_leastUnder, Cond.instanceMethod yX0_leastUnder, Cond.selects RX0 yX0_leastUnder yX0_leastUnder, Cond.initialized RX0, Cond.code yX0_leastUnder cX0_leastUnder 2 (some (.object "SplayOrchard$Apple"))]
def wsX2_favourite_r2 : List Cond := [Cond.fieldLink RX0 17 "SplayOrchard$Apple" "left" "LSplayOrchard$Apple;", Cond.methodLink RX1 60 yX0_next, Cond.instanceMethod yX0_next, Cond.selects RX0 yX0_next yX0_next, Cond.code yX0_next cX0_next 2 (some (.object "SplayOrchard$Apple")), Cond.fieldLink RX0 23 "SplayOrchard$Apple" "right" "LSplayOrchard$Apple;", Cond.fieldLink RX0 20 "SplayOrchard$Apple" "up" "LSplayOrchard$Apple;", Cond.methodLink RX0 37 yX0_leastUnder, Cond.methodLink RX2 105 yX2_sizeOrNone, Cond.static yX2_sizeOrNone, Cond.code yX2_sizeOrNone cX2_sizeOrNone 1 (some .int), Cond.fieldLink RX2 130 "SplayOrchard$Apple" "size" "I"]
def wsX2_favourite : List Cond := .code yX2_favourite cX2_favourite 2 (some .int) :: ((wsX2_favourite_r1 ++ wsX2_favourite_r2) ++ wsX20 ++ wsX00 ++ wsX10 ++ (vx_atS RX2 129 "java/lang/IndexOutOfBoundsException" ["java/lang/RuntimeException", "java/lang/Exception"]).filter goodWord)
def wsX2_meet_r1 : List Cond := [Cond.methodLink RX2 20 yX2_treeOf, Cond.instanceMethod yX2_treeOf, Cond.selects RX2 yX2_treeOf yX2_treeOf, Cond.initialized RX2, Cond.code yX2_treeOf cX2_treeOf 2 (some (.object "SplayOrchard$Tree")), Cond.classLink RX2 125 "java/lang/IndexOutOfBoundsException", Cond.initialized "java/lang/IndexOutOfBoundsException", Cond.fieldLink RX2 11 "SplayOrchard" "rows" "[LSplayOrchard$Tree;", Cond.methodLink RX2 58 yX2_appleOf, Cond.static yX2_appleOf, Cond.code yX2_appleOf cX2_appleOf 3 (some (.object "SplayOrchard$Apple")), Cond.classLink RX2 32 "java/lang/IllegalStateException", Cond.initialized "java/lang/IllegalStateException", Cond.methodLink RX2 39 yX1_find, Cond.instanceMethod yX1_find, Cond.selects RX1 yX1_find yX1_find, Cond.initialized RX1, Cond.code yX1_find cX1_find 3 (some (.object "SplayOrchard$Apple")), Cond.fieldLink RX1 32 "SplayOrchard$Apple" "size" "I", Cond.methodLink RX1 29 yX1_nearest, Cond.instanceMethod yX1_nearest, Cond.selects RX1 yX1_nearest yX1_nearest, Cond.code yX1_nearest cX1_nearest 4 (some (.object "SplayOrchard$Apple")), Cond.fieldLink RX1 7 "SplayOrchard$Tree" "top" "LSplayOrchard$Apple;"]
def wsX2_meet_r2 : List Cond := [Cond.methodLink RX1 25 yX0_towards, Cond.instanceMethod yX0_towards, Cond.selects RX0 yX0_towards yX0_towards, Cond.initialized RX0, Cond.code yX0_towards cX0_towards 2 (some (.object "SplayOrchard$Apple")), Cond.fieldLink RX0 7 "SplayOrchard$Apple" "size" "I", Cond.fieldLink RX0 17 "SplayOrchard$Apple" "left" "LSplayOrchard$Apple;", Cond.fieldLink RX0 23 "SplayOrchard$Apple" "right" "LSplayOrchard$Apple;", Cond.methodLink RX2 152 yX1_meeting, Cond.instanceMethod yX1_meeting, Cond.selects RX1 yX1_meeting yX1_meeting, Cond.code yX1_meeting cX1_meeting 6 (some (.object "SplayOrchard$Apple")), Cond.methodLink RX1 81 Lib.Math.min.name, Cond.static Lib.Math.min.name, Cond.initialized "java/lang/Math", Cond.code Lib.Math.min.name Lib.Math.min.code 2 (some .int), Cond.methodLink RX1 66 Lib.Math.max.name, Cond.static Lib.Math.max.name, Cond.code Lib.Math.max.name Lib.Math.max.code 2 (some .int), Cond.methodLink RX2 105 yX2_sizeOrNone, Cond.static yX2_sizeOrNone, Cond.code yX2_sizeOrNone cX2_sizeOrNone 1 (some .int), Cond.fieldLink RX2 130 "SplayOrchard$Apple" "size" "I"]
def wsX2_meet : List Cond := .code yX2_meet cX2_meet 7 (some .int) :: ((wsX2_meet_r1 ++ wsX2_meet_r2) ++ wsX20 ++ wsX00 ++ wsX10 ++ (vx_atS RX2 129 "java/lang/IndexOutOfBoundsException" ["java/lang/RuntimeException", "java/lang/Exception"]).filter goodWord ++ (vx_atS RX2 36 "java/lang/IllegalStateException" ["java/lang/RuntimeException", "java/lang/Exception"]).filter goodWord)
def wsX2_tryEating_r1 : List Cond := [Cond.fieldLink RX2 16 "SplayOrchard" "trial" "LSplayOrchard$Tree;", Cond.fieldLink RX2 221 "SplayOrchard$Apple" "standIn" "LSplayOrchard$Apple;", Cond.methodLink RX2 217 yX1_standInFor, Cond.instanceMethod yX1_standInFor, Cond.selects RX1 yX1_standInFor yX1_standInFor, Cond.initialized RX1, Cond.code yX1_standInFor cX1_standInFor 3 none, Cond.fieldLink RX1 7 "SplayOrchard$Tree" "top" "LSplayOrchard$Apple;", Cond.methodLink RX1 57 yX1_first, Cond.instanceMethod yX1_first, Cond.selects RX1 yX1_first yX1_first, Cond.code yX1_first cX1_first 1 (some (.object "SplayOrchard$Apple")), Cond.methodLink RX1 18 yX0_leastUnder, Cond.instanceMethod yX0_leastUnder, Cond.selects RX0 yX0_leastUnder yX0_leastUnder, Cond.initialized RX0, Cond.code yX0_leastUnder cX0_leastUnder 2 (some (.object "SplayOrchard$Apple")), Cond.fieldLink RX0 17 "SplayOrchard$Apple" "left" "LSplayOrchard$Apple;", Cond.methodLink RX1 84 yX0_linkStandIn, Cond.instanceMethod yX0_linkStandIn, Cond.selects RX0 yX0_linkStandIn yX0_linkStandIn, Cond.code yX0_linkStandIn cX0_linkStandIn 1 none, Cond.fieldLink RX0 13 "SplayOrchard$Apple" "standIn" "LSplayOrchard$Apple;", Cond.fieldLink RX0 20 "SplayOrchard$Apple" "up" "LSplayOrchard$Apple;"]
def wsX2_tryEating_r2 : List Cond := [Cond.fieldLink RX0 23 "SplayOrchard$Apple" "right" "LSplayOrchard$Apple;", Cond.methodLink RX0 47 yX0_standInOf, Cond.static yX0_standInOf, Cond.code yX0_standInOf cX0_standInOf 1 (some (.object "SplayOrchard$Apple")), Cond.methodLink RX1 60 yX0_next, Cond.instanceMethod yX0_next, Cond.selects RX0 yX0_next yX0_next, Cond.code yX0_next cX0_next 2 (some (.object "SplayOrchard$Apple")), Cond.methodLink RX0 37 yX0_leastUnder, Cond.methodLink RX1 87 yX0_standInOf, Cond.methodLink RX2 215 yX1_bringUp, Cond.instanceMethod yX1_bringUp, Cond.selects RX1 yX1_bringUp yX1_bringUp, Cond.code yX1_bringUp cX1_bringUp 6 (some .int), Cond.fieldLink RX1 13 "SplayOrchard$Apple" "up" "LSplayOrchard$Apple;", Cond.methodLink RX1 46 yX0_depth, Cond.instanceMethod yX0_depth, Cond.selects RX0 yX0_depth yX0_depth, Cond.code yX0_depth cX0_depth 3 (some .int), Cond.methodLink RX1 50 yX0_isOnTheLeft, Cond.instanceMethod yX0_isOnTheLeft, Cond.selects RX0 yX0_isOnTheLeft yX0_isOnTheLeft, Cond.code yX0_isOnTheLeft cX0_isOnTheLeft 1 (some .boolean), Cond.methodLink RX1 54 yX0_turn]
def wsX2_tryEating_r3 : List Cond := [Cond.instanceMethod yX0_turn, Cond.selects RX0 yX0_turn yX0_turn, Cond.code yX0_turn cX0_turn 4 none, Cond.methodLink RX0 26 yX0_isOnTheLeft, Cond.methodLink RX0 30 yX0_hangLeft, Cond.instanceMethod yX0_hangLeft, Cond.selects RX0 yX0_hangLeft yX0_hangLeft, Cond.code yX0_hangLeft cX0_hangLeft 2 none, Cond.methodLink RX0 34 yX0_hangRight, Cond.instanceMethod yX0_hangRight, Cond.selects RX0 yX0_hangRight yX0_hangRight, Cond.code yX0_hangRight cX0_hangRight 2 none]
def wsX2_tryEating : List Cond := .code yX2_tryEating cX2_tryEating 4 none :: ((wsX2_tryEating_r1 ++ (wsX2_tryEating_r2 ++ wsX2_tryEating_r3)) ++ wsX20 ++ wsX00 ++ wsX10)
def wsX2_depthBehind_r1 : List Cond := [Cond.fieldLink RX2 16 "SplayOrchard" "trial" "LSplayOrchard$Tree;", Cond.methodLink RX2 20 yX2_treeOf, Cond.instanceMethod yX2_treeOf, Cond.selects RX2 yX2_treeOf yX2_treeOf, Cond.initialized RX2, Cond.code yX2_treeOf cX2_treeOf 2 (some (.object "SplayOrchard$Tree")), Cond.classLink RX2 125 "java/lang/IndexOutOfBoundsException", Cond.initialized "java/lang/IndexOutOfBoundsException", Cond.fieldLink RX2 11 "SplayOrchard" "rows" "[LSplayOrchard$Tree;", Cond.methodLink RX2 58 yX2_appleOf, Cond.static yX2_appleOf, Cond.code yX2_appleOf cX2_appleOf 3 (some (.object "SplayOrchard$Apple")), Cond.classLink RX2 32 "java/lang/IllegalStateException", Cond.initialized "java/lang/IllegalStateException", Cond.methodLink RX2 39 yX1_find, Cond.instanceMethod yX1_find, Cond.selects RX1 yX1_find yX1_find, Cond.initialized RX1, Cond.code yX1_find cX1_find 3 (some (.object "SplayOrchard$Apple")), Cond.fieldLink RX1 32 "SplayOrchard$Apple" "size" "I", Cond.methodLink RX1 29 yX1_nearest, Cond.instanceMethod yX1_nearest, Cond.selects RX1 yX1_nearest yX1_nearest, Cond.code yX1_nearest cX1_nearest 4 (some (.object "SplayOrchard$Apple"))]
def wsX2_depthBehind_r2 : List Cond := [Cond.fieldLink RX1 7 "SplayOrchard$Tree" "top" "LSplayOrchard$Apple;", Cond.methodLink RX1 25 yX0_towards, Cond.instanceMethod yX0_towards, Cond.selects RX0 yX0_towards yX0_towards, Cond.initialized RX0, Cond.code yX0_towards cX0_towards 2 (some (.object "SplayOrchard$Apple")), Cond.fieldLink RX0 7 "SplayOrchard$Apple" "size" "I", Cond.fieldLink RX0 17 "SplayOrchard$Apple" "left" "LSplayOrchard$Apple;", Cond.fieldLink RX0 23 "SplayOrchard$Apple" "right" "LSplayOrchard$Apple;", Cond.methodLink RX2 156 yX2_tryEating, Cond.instanceMethod yX2_tryEating, Cond.selects RX2 yX2_tryEating yX2_tryEating, Cond.code yX2_tryEating cX2_tryEating 4 none, Cond.fieldLink RX2 221 "SplayOrchard$Apple" "standIn" "LSplayOrchard$Apple;", Cond.methodLink RX2 217 yX1_standInFor, Cond.instanceMethod yX1_standInFor, Cond.selects RX1 yX1_standInFor yX1_standInFor, Cond.code yX1_standInFor cX1_standInFor 3 none, Cond.methodLink RX1 57 yX1_first, Cond.instanceMethod yX1_first, Cond.selects RX1 yX1_first yX1_first, Cond.code yX1_first cX1_first 1 (some (.object "SplayOrchard$Apple")), Cond.methodLink RX1 18 yX0_leastUnder, Cond.instanceMethod yX0_leastUnder]
def wsX2_depthBehind_r3 : List Cond := [Cond.selects RX0 yX0_leastUnder yX0_leastUnder, Cond.code yX0_leastUnder cX0_leastUnder 2 (some (.object "SplayOrchard$Apple")), Cond.methodLink RX1 84 yX0_linkStandIn, Cond.instanceMethod yX0_linkStandIn, Cond.selects RX0 yX0_linkStandIn yX0_linkStandIn, Cond.code yX0_linkStandIn cX0_linkStandIn 1 none, Cond.fieldLink RX0 13 "SplayOrchard$Apple" "standIn" "LSplayOrchard$Apple;", Cond.fieldLink RX0 20 "SplayOrchard$Apple" "up" "LSplayOrchard$Apple;", Cond.methodLink RX0 47 yX0_standInOf, Cond.static yX0_standInOf, Cond.code yX0_standInOf cX0_standInOf 1 (some (.object "SplayOrchard$Apple")), Cond.methodLink RX1 60 yX0_next, Cond.instanceMethod yX0_next, Cond.selects RX0 yX0_next yX0_next, Cond.code yX0_next cX0_next 2 (some (.object "SplayOrchard$Apple")), Cond.methodLink RX0 37 yX0_leastUnder, Cond.methodLink RX1 87 yX0_standInOf, Cond.methodLink RX2 215 yX1_bringUp, Cond.instanceMethod yX1_bringUp, Cond.selects RX1 yX1_bringUp yX1_bringUp, Cond.code yX1_bringUp cX1_bringUp 6 (some .int), Cond.fieldLink RX1 13 "SplayOrchard$Apple" "up" "LSplayOrchard$Apple;", Cond.methodLink RX1 46 yX0_depth, Cond.instanceMethod yX0_depth]
def wsX2_depthBehind_r4 : List Cond := [Cond.selects RX0 yX0_depth yX0_depth, Cond.code yX0_depth cX0_depth 3 (some .int), Cond.methodLink RX1 50 yX0_isOnTheLeft, Cond.instanceMethod yX0_isOnTheLeft, Cond.selects RX0 yX0_isOnTheLeft yX0_isOnTheLeft, Cond.code yX0_isOnTheLeft cX0_isOnTheLeft 1 (some .boolean), Cond.methodLink RX1 54 yX0_turn, Cond.instanceMethod yX0_turn, Cond.selects RX0 yX0_turn yX0_turn, Cond.code yX0_turn cX0_turn 4 none, Cond.methodLink RX0 26 yX0_isOnTheLeft, Cond.methodLink RX0 30 yX0_hangLeft, Cond.instanceMethod yX0_hangLeft, Cond.selects RX0 yX0_hangLeft yX0_hangLeft, Cond.code yX0_hangLeft cX0_hangLeft 2 none, Cond.methodLink RX0 34 yX0_hangRight, Cond.instanceMethod yX0_hangRight, Cond.selects RX0 yX0_hangRight yX0_hangRight, Cond.code yX0_hangRight cX0_hangRight 2 none, Cond.methodLink RX2 140 yX0_depth]
def wsX2_depthBehind : List Cond := .code yX2_depthBehind cX2_depthBehind 5 (some .int) :: ((wsX2_depthBehind_r1 ++ (wsX2_depthBehind_r2 ++ (wsX2_depthBehind_r3 ++ wsX2_depthBehind_r4))) ++ wsX20 ++ wsX00 ++ wsX10 ++ (vx_atS RX2 129 "java/lang/IndexOutOfBoundsException" ["java/lang/RuntimeException", "java/lang/Exception"]).filter goodWord ++ (vx_atS RX2 36 "java/lang/IllegalStateException" ["java/lang/RuntimeException", "java/lang/Exception"]).filter goodWord)
def wsX2_heightBehind_r1 : List Cond := [Cond.fieldLink RX2 16 "SplayOrchard" "trial" "LSplayOrchard$Tree;", Cond.methodLink RX2 20 yX2_treeOf, Cond.instanceMethod yX2_treeOf, Cond.selects RX2 yX2_treeOf yX2_treeOf, Cond.initialized RX2, Cond.code yX2_treeOf cX2_treeOf 2 (some (.object "SplayOrchard$Tree")), Cond.classLink RX2 125 "java/lang/IndexOutOfBoundsException", Cond.initialized "java/lang/IndexOutOfBoundsException", Cond.fieldLink RX2 11 "SplayOrchard" "rows" "[LSplayOrchard$Tree;", Cond.methodLink RX2 58 yX2_appleOf, Cond.static yX2_appleOf, Cond.code yX2_appleOf cX2_appleOf 3 (some (.object "SplayOrchard$Apple")), Cond.classLink RX2 32 "java/lang/IllegalStateException", Cond.initialized "java/lang/IllegalStateException", Cond.methodLink RX2 39 yX1_find, Cond.instanceMethod yX1_find, Cond.selects RX1 yX1_find yX1_find, Cond.initialized RX1, Cond.code yX1_find cX1_find 3 (some (.object "SplayOrchard$Apple")), Cond.fieldLink RX1 32 "SplayOrchard$Apple" "size" "I", Cond.methodLink RX1 29 yX1_nearest, Cond.instanceMethod yX1_nearest, Cond.selects RX1 yX1_nearest yX1_nearest, Cond.code yX1_nearest cX1_nearest 4 (some (.object "SplayOrchard$Apple"))]
def wsX2_heightBehind_r2 : List Cond := [Cond.fieldLink RX1 7 "SplayOrchard$Tree" "top" "LSplayOrchard$Apple;", Cond.methodLink RX1 25 yX0_towards, Cond.instanceMethod yX0_towards, Cond.selects RX0 yX0_towards yX0_towards, Cond.initialized RX0, Cond.code yX0_towards cX0_towards 2 (some (.object "SplayOrchard$Apple")), Cond.fieldLink RX0 7 "SplayOrchard$Apple" "size" "I", Cond.fieldLink RX0 17 "SplayOrchard$Apple" "left" "LSplayOrchard$Apple;", Cond.fieldLink RX0 23 "SplayOrchard$Apple" "right" "LSplayOrchard$Apple;", Cond.methodLink RX2 156 yX2_tryEating, Cond.instanceMethod yX2_tryEating, Cond.selects RX2 yX2_tryEating yX2_tryEating, Cond.code yX2_tryEating cX2_tryEating 4 none, Cond.fieldLink RX2 221 "SplayOrchard$Apple" "standIn" "LSplayOrchard$Apple;", Cond.methodLink RX2 217 yX1_standInFor, Cond.instanceMethod yX1_standInFor, Cond.selects RX1 yX1_standInFor yX1_standInFor, Cond.code yX1_standInFor cX1_standInFor 3 none, Cond.methodLink RX1 57 yX1_first, Cond.instanceMethod yX1_first, Cond.selects RX1 yX1_first yX1_first, Cond.code yX1_first cX1_first 1 (some (.object "SplayOrchard$Apple")), Cond.methodLink RX1 18 yX0_leastUnder, Cond.instanceMethod yX0_leastUnder]
def wsX2_heightBehind_r3 : List Cond := [Cond.selects RX0 yX0_leastUnder yX0_leastUnder, Cond.code yX0_leastUnder cX0_leastUnder 2 (some (.object "SplayOrchard$Apple")), Cond.methodLink RX1 84 yX0_linkStandIn, Cond.instanceMethod yX0_linkStandIn, Cond.selects RX0 yX0_linkStandIn yX0_linkStandIn, Cond.code yX0_linkStandIn cX0_linkStandIn 1 none, Cond.fieldLink RX0 13 "SplayOrchard$Apple" "standIn" "LSplayOrchard$Apple;", Cond.fieldLink RX0 20 "SplayOrchard$Apple" "up" "LSplayOrchard$Apple;", Cond.methodLink RX0 47 yX0_standInOf, Cond.static yX0_standInOf, Cond.code yX0_standInOf cX0_standInOf 1 (some (.object "SplayOrchard$Apple")), Cond.methodLink RX1 60 yX0_next, Cond.instanceMethod yX0_next, Cond.selects RX0 yX0_next yX0_next, Cond.code yX0_next cX0_next 2 (some (.object "SplayOrchard$Apple")), Cond.methodLink RX0 37 yX0_leastUnder, Cond.methodLink RX1 87 yX0_standInOf, Cond.methodLink RX2 215 yX1_bringUp, Cond.instanceMethod yX1_bringUp, Cond.selects RX1 yX1_bringUp yX1_bringUp, Cond.code yX1_bringUp cX1_bringUp 6 (some .int), Cond.fieldLink RX1 13 "SplayOrchard$Apple" "up" "LSplayOrchard$Apple;", Cond.methodLink RX1 46 yX0_depth, Cond.instanceMethod yX0_depth]
def wsX2_heightBehind_r4 : List Cond := [Cond.selects RX0 yX0_depth yX0_depth, Cond.code yX0_depth cX0_depth 3 (some .int), Cond.methodLink RX1 50 yX0_isOnTheLeft, Cond.instanceMethod yX0_isOnTheLeft, Cond.selects RX0 yX0_isOnTheLeft yX0_isOnTheLeft, Cond.code yX0_isOnTheLeft cX0_isOnTheLeft 1 (some .boolean), Cond.methodLink RX1 54 yX0_turn, Cond.instanceMethod yX0_turn, Cond.selects RX0 yX0_turn yX0_turn, Cond.code yX0_turn cX0_turn 4 none, Cond.methodLink RX0 26 yX0_isOnTheLeft, Cond.methodLink RX0 30 yX0_hangLeft, Cond.instanceMethod yX0_hangLeft, Cond.selects RX0 yX0_hangLeft yX0_hangLeft, Cond.code yX0_hangLeft cX0_hangLeft 2 none, Cond.methodLink RX0 34 yX0_hangRight, Cond.instanceMethod yX0_hangRight, Cond.selects RX0 yX0_hangRight yX0_hangRight, Cond.code yX0_hangRight cX0_hangRight 2 none, Cond.methodLink RX2 109 yX1_levels, Cond.instanceMethod yX1_levels, Cond.selects RX1 yX1_levels yX1_levels, Cond.code yX1_levels cX1_levels 3 (some .int), Cond.methodLink RX1 66 Lib.Math.max.name]
def wsX2_heightBehind_r5 : List Cond := [Cond.static Lib.Math.max.name, Cond.initialized "java/lang/Math", Cond.code Lib.Math.max.name Lib.Math.max.code 2 (some .int)]
def wsX2_heightBehind : List Cond := .code yX2_heightBehind cX2_heightBehind 4 (some .int) :: ((wsX2_heightBehind_r1 ++ (wsX2_heightBehind_r2 ++ (wsX2_heightBehind_r3 ++ (wsX2_heightBehind_r4 ++ wsX2_heightBehind_r5)))) ++ wsX20 ++ wsX00 ++ wsX10 ++ (vx_atS RX2 129 "java/lang/IndexOutOfBoundsException" ["java/lang/RuntimeException", "java/lang/Exception"]).filter goodWord ++ (vx_atS RX2 36 "java/lang/IllegalStateException" ["java/lang/RuntimeException", "java/lang/Exception"]).filter goodWord)
def wsX2_bestToEat_r1 : List Cond := [Cond.fieldLink RX2 16 "SplayOrchard" "trial" "LSplayOrchard$Tree;", Cond.methodLink RX2 20 yX2_treeOf, Cond.instanceMethod yX2_treeOf, Cond.selects RX2 yX2_treeOf yX2_treeOf, Cond.initialized RX2, Cond.code yX2_treeOf cX2_treeOf 2 (some (.object "SplayOrchard$Tree")), Cond.classLink RX2 125 "java/lang/IndexOutOfBoundsException", Cond.initialized "java/lang/IndexOutOfBoundsException", Cond.fieldLink RX2 11 "SplayOrchard" "rows" "[LSplayOrchard$Tree;", Cond.methodLink RX2 115 yX1_first, Cond.instanceMethod yX1_first, Cond.selects RX1 yX1_first yX1_first, Cond.initialized RX1, Cond.code yX1_first cX1_first 1 (some (.object "SplayOrchard$Apple")), Cond.fieldLink RX1 7 "SplayOrchard$Tree" "top" "LSplayOrchard$Apple;", Cond.methodLink RX1 18 yX0_leastUnder, Cond.instanceMethod yX0_leastUnder, Cond.selects RX0 yX0_leastUnder yX0_leastUnder, Cond.initialized RX0, Cond.code yX0_leastUnder cX0_leastUnder 2 (some (.object "SplayOrchard$Apple")), Cond.fieldLink RX0 17 "SplayOrchard$Apple" "left" "LSplayOrchard$Apple;", Cond.methodLink RX2 156 yX2_tryEating, Cond.instanceMethod yX2_tryEating, Cond.selects RX2 yX2_tryEating yX2_tryEating]
def wsX2_bestToEat_r2 : List Cond := [Cond.code yX2_tryEating cX2_tryEating 4 none, Cond.fieldLink RX2 221 "SplayOrchard$Apple" "standIn" "LSplayOrchard$Apple;", Cond.methodLink RX2 217 yX1_standInFor, Cond.instanceMethod yX1_standInFor, Cond.selects RX1 yX1_standInFor yX1_standInFor, Cond.code yX1_standInFor cX1_standInFor 3 none, Cond.methodLink RX1 57 yX1_first, Cond.methodLink RX1 84 yX0_linkStandIn, Cond.instanceMethod yX0_linkStandIn, Cond.selects RX0 yX0_linkStandIn yX0_linkStandIn, Cond.code yX0_linkStandIn cX0_linkStandIn 1 none, Cond.fieldLink RX0 13 "SplayOrchard$Apple" "standIn" "LSplayOrchard$Apple;", Cond.fieldLink RX0 20 "SplayOrchard$Apple" "up" "LSplayOrchard$Apple;", Cond.fieldLink RX0 23 "SplayOrchard$Apple" "right" "LSplayOrchard$Apple;", Cond.methodLink RX0 47 yX0_standInOf, Cond.static yX0_standInOf, Cond.code yX0_standInOf cX0_standInOf 1 (some (.object "SplayOrchard$Apple")), Cond.methodLink RX1 60 yX0_next, Cond.instanceMethod yX0_next, Cond.selects RX0 yX0_next yX0_next, Cond.code yX0_next cX0_next 2 (some (.object "SplayOrchard$Apple")), Cond.methodLink RX0 37 yX0_leastUnder, Cond.methodLink RX1 87 yX0_standInOf, Cond.methodLink RX2 215 yX1_bringUp]
def wsX2_bestToEat_r3 : List Cond := [Cond.instanceMethod yX1_bringUp, Cond.selects RX1 yX1_bringUp yX1_bringUp, Cond.code yX1_bringUp cX1_bringUp 6 (some .int), Cond.fieldLink RX1 13 "SplayOrchard$Apple" "up" "LSplayOrchard$Apple;", Cond.methodLink RX1 46 yX0_depth, Cond.instanceMethod yX0_depth, Cond.selects RX0 yX0_depth yX0_depth, Cond.code yX0_depth cX0_depth 3 (some .int), Cond.methodLink RX1 50 yX0_isOnTheLeft, Cond.instanceMethod yX0_isOnTheLeft, Cond.selects RX0 yX0_isOnTheLeft yX0_isOnTheLeft, Cond.code yX0_isOnTheLeft cX0_isOnTheLeft 1 (some .boolean), Cond.methodLink RX1 54 yX0_turn, Cond.instanceMethod yX0_turn, Cond.selects RX0 yX0_turn yX0_turn, Cond.code yX0_turn cX0_turn 4 none, Cond.methodLink RX0 26 yX0_isOnTheLeft, Cond.methodLink RX0 30 yX0_hangLeft, Cond.instanceMethod yX0_hangLeft, Cond.selects RX0 yX0_hangLeft yX0_hangLeft, Cond.code yX0_hangLeft cX0_hangLeft 2 none, Cond.methodLink RX0 34 yX0_hangRight, Cond.instanceMethod yX0_hangRight, Cond.selects RX0 yX0_hangRight yX0_hangRight]
def wsX2_bestToEat_r4 : List Cond := [Cond.code yX0_hangRight cX0_hangRight 2 none, Cond.methodLink RX2 112 yX1_depthSum, Cond.instanceMethod yX1_depthSum, Cond.selects RX1 yX1_depthSum yX1_depthSum, Cond.code yX1_depthSum cX1_depthSum 3 (some .int), Cond.methodLink RX2 159 yX0_next, Cond.methodLink RX2 105 yX2_sizeOrNone, Cond.static yX2_sizeOrNone, Cond.code yX2_sizeOrNone cX2_sizeOrNone 1 (some .int), Cond.fieldLink RX2 130 "SplayOrchard$Apple" "size" "I"]
def wsX2_bestToEat : List Cond := .code yX2_bestToEat cX2_bestToEat 7 (some .int) :: ((wsX2_bestToEat_r1 ++ (wsX2_bestToEat_r2 ++ (wsX2_bestToEat_r3 ++ wsX2_bestToEat_r4))) ++ wsX20 ++ wsX10 ++ wsX00 ++ (vx_atS RX2 129 "java/lang/IndexOutOfBoundsException" ["java/lang/RuntimeException", "java/lang/Exception"]).filter goodWord)
def wsX2_plantDepth_r1 : List Cond := [Cond.fieldLink RX2 130 "SplayOrchard$Apple" "size" "I", Cond.methodLink RX2 20 yX2_treeOf, Cond.instanceMethod yX2_treeOf, Cond.selects RX2 yX2_treeOf yX2_treeOf, Cond.initialized RX2, Cond.code yX2_treeOf cX2_treeOf 2 (some (.object "SplayOrchard$Tree")), Cond.classLink RX2 125 "java/lang/IndexOutOfBoundsException", Cond.initialized "java/lang/IndexOutOfBoundsException", Cond.fieldLink RX2 11 "SplayOrchard" "rows" "[LSplayOrchard$Tree;", Cond.methodLink RX2 24 yX2_checkSize, Cond.static yX2_checkSize, Cond.code yX2_checkSize cX2_checkSize 1 none, Cond.classLink RX2 208 "java/lang/IllegalArgumentException", Cond.initialized "java/lang/IllegalArgumentException", Cond.methodLink RX2 162 yX1_nearest, Cond.instanceMethod yX1_nearest, Cond.selects RX1 yX1_nearest yX1_nearest, Cond.initialized RX1, Cond.code yX1_nearest cX1_nearest 4 (some (.object "SplayOrchard$Apple")), Cond.fieldLink RX1 7 "SplayOrchard$Tree" "top" "LSplayOrchard$Apple;", Cond.methodLink RX1 25 yX0_towards, Cond.instanceMethod yX0_towards, Cond.selects RX0 yX0_towards yX0_towards, Cond.initialized RX0]
def wsX2_plantDepth_r2 : List Cond := [Cond.code yX0_towards cX0_towards 2 (some (.object "SplayOrchard$Apple")), Cond.fieldLink RX0 7 "SplayOrchard$Apple" "size" "I", Cond.fieldLink RX0 17 "SplayOrchard$Apple" "left" "LSplayOrchard$Apple;", Cond.fieldLink RX0 23 "SplayOrchard$Apple" "right" "LSplayOrchard$Apple;", Cond.methodLink RX2 140 yX0_depth, Cond.instanceMethod yX0_depth, Cond.selects RX0 yX0_depth yX0_depth, Cond.code yX0_depth cX0_depth 3 (some .int), Cond.fieldLink RX0 20 "SplayOrchard$Apple" "up" "LSplayOrchard$Apple;"]
def wsX2_plantDepth : List Cond := .code yX2_plantDepth cX2_plantDepth 5 (some .int) :: ((wsX2_plantDepth_r1 ++ wsX2_plantDepth_r2) ++ wsX00 ++ wsX20 ++ wsX10 ++ (vx_atS RX2 129 "java/lang/IndexOutOfBoundsException" ["java/lang/RuntimeException", "java/lang/Exception"]).filter goodWord ++ (vx_atS RX2 212 "java/lang/IllegalArgumentException" ["java/lang/RuntimeException", "java/lang/Exception"]).filter goodWord)
def wsX2_canJoin_r1 : List Cond := [Cond.methodLink RX2 20 yX2_treeOf, Cond.instanceMethod yX2_treeOf, Cond.selects RX2 yX2_treeOf yX2_treeOf, Cond.initialized RX2, Cond.code yX2_treeOf cX2_treeOf 2 (some (.object "SplayOrchard$Tree")), Cond.classLink RX2 125 "java/lang/IndexOutOfBoundsException", Cond.initialized "java/lang/IndexOutOfBoundsException", Cond.fieldLink RX2 11 "SplayOrchard" "rows" "[LSplayOrchard$Tree;", Cond.methodLink RX2 96 yX2_mayJoin, Cond.static yX2_mayJoin, Cond.code yX2_mayJoin cX2_mayJoin 4 (some .boolean), Cond.fieldLink RX2 130 "SplayOrchard$Apple" "size" "I", Cond.methodLink RX2 119 yX1_last, Cond.instanceMethod yX1_last, Cond.selects RX1 yX1_last yX1_last, Cond.initialized RX1, Cond.code yX1_last cX1_last 1 (some (.object "SplayOrchard$Apple")), Cond.fieldLink RX1 7 "SplayOrchard$Tree" "top" "LSplayOrchard$Apple;", Cond.methodLink RX1 22 yX0_greatestUnder, Cond.instanceMethod yX0_greatestUnder, Cond.selects RX0 yX0_greatestUnder yX0_greatestUnder, Cond.initialized RX0, Cond.code yX0_greatestUnder cX0_greatestUnder 2 (some (.object "SplayOrchard$Apple")), Cond.fieldLink RX0 23 "SplayOrchard$Apple" "right" "LSplayOrchard$Apple;"]
def wsX2_canJoin_r2 : List Cond := [Cond.methodLink RX2 115 yX1_first, Cond.instanceMethod yX1_first, Cond.selects RX1 yX1_first yX1_first, Cond.code yX1_first cX1_first 1 (some (.object "SplayOrchard$Apple")), Cond.methodLink RX1 18 yX0_leastUnder, Cond.instanceMethod yX0_leastUnder, Cond.selects RX0 yX0_leastUnder yX0_leastUnder, Cond.code yX0_leastUnder cX0_leastUnder 2 (some (.object "SplayOrchard$Apple")), Cond.fieldLink RX0 17 "SplayOrchard$Apple" "left" "LSplayOrchard$Apple;"]
def wsX2_canJoin : List Cond := .code yX2_canJoin cX2_canJoin 3 (some .boolean) :: ((wsX2_canJoin_r1 ++ wsX2_canJoin_r2) ++ wsX20 ++ wsX00 ++ wsX10 ++ (vx_atS RX2 129 "java/lang/IndexOutOfBoundsException" ["java/lang/RuntimeException", "java/lang/Exception"]).filter goodWord)
def wsX2_meanDepth_r1 : List Cond := [Cond.methodLink RX2 20 yX2_treeOf, Cond.instanceMethod yX2_treeOf, Cond.selects RX2 yX2_treeOf yX2_treeOf, Cond.initialized RX2, Cond.code yX2_treeOf cX2_treeOf 2 (some (.object "SplayOrchard$Tree")), Cond.classLink RX2 125 "java/lang/IndexOutOfBoundsException", Cond.initialized "java/lang/IndexOutOfBoundsException", Cond.fieldLink RX2 11 "SplayOrchard" "rows" "[LSplayOrchard$Tree;", Cond.methodLink RX2 93 yX1_count, Cond.instanceMethod yX1_count, Cond.selects RX1 yX1_count yX1_count, Cond.initialized RX1, Cond.code yX1_count cX1_count 1 (some .int), Cond.fieldLink RX1 7 "SplayOrchard$Tree" "top" "LSplayOrchard$Apple;", Cond.methodLink RX1 63 yX0_countUnder, Cond.instanceMethod yX0_countUnder, Cond.selects RX0 yX0_countUnder yX0_countUnder, Cond.initialized RX0, Cond.code yX0_countUnder cX0_countUnder 4 (some .int), Cond.methodLink RX0 41 yX0_greatestUnder, Cond.instanceMethod yX0_greatestUnder, Cond.selects RX0 yX0_greatestUnder yX0_greatestUnder, Cond.code yX0_greatestUnder cX0_greatestUnder 2 (some (.object "SplayOrchard$Apple")), Cond.fieldLink RX0 23 "SplayOrchard$Apple" "right" "LSplayOrchard$Apple;"]
def wsX2_meanDepth_r2 : List Cond := [Cond.methodLink RX0 37 yX0_leastUnder, Cond.instanceMethod yX0_leastUnder, Cond.selects RX0 yX0_leastUnder yX0_leastUnder, Cond.code yX0_leastUnder cX0_leastUnder 2 (some (.object "SplayOrchard$Apple")), Cond.fieldLink RX0 17 "SplayOrchard$Apple" "left" "LSplayOrchard$Apple;", Cond.methodLink RX0 44 yX0_next, Cond.instanceMethod yX0_next, Cond.selects RX0 yX0_next yX0_next, Cond.code yX0_next cX0_next 2 (some (.object "SplayOrchard$Apple")), Cond.fieldLink RX0 20 "SplayOrchard$Apple" "up" "LSplayOrchard$Apple;", Cond.methodLink RX2 112 yX1_depthSum, Cond.instanceMethod yX1_depthSum, Cond.selects RX1 yX1_depthSum yX1_depthSum, Cond.code yX1_depthSum cX1_depthSum 3 (some .int), Cond.methodLink RX1 57 yX1_first, Cond.instanceMethod yX1_first, Cond.selects RX1 yX1_first yX1_first, Cond.code yX1_first cX1_first 1 (some (.object "SplayOrchard$Apple")), Cond.methodLink RX1 18 yX0_leastUnder, Cond.methodLink RX1 46 yX0_depth, Cond.instanceMethod yX0_depth, Cond.selects RX0 yX0_depth yX0_depth, Cond.code yX0_depth cX0_depth 3 (some .int), Cond.methodLink RX1 60 yX0_next]
def wsX2_meanDepth : List Cond := .code yX2_meanDepth cX2_meanDepth 4 (some .double) :: ((wsX2_meanDepth_r1 ++ wsX2_meanDepth_r2) ++ wsX20 ++ wsX10 ++ wsX00 ++ (vx_atS RX2 129 "java/lang/IndexOutOfBoundsException" ["java/lang/RuntimeException", "java/lang/Exception"]).filter goodWord)
def wsX2_mix : List Cond := .code yX2_mix cX2_mix 3 (some .long) :: ([.constantLong RX2 204 (31)])
def wsX2_mixRow_r1 : List Cond := [Cond.methodLink RX2 181 yX2_sizeOf, Cond.instanceMethod yX2_sizeOf, Cond.selects RX2 yX2_sizeOf yX2_sizeOf, Cond.initialized RX2, Cond.code yX2_sizeOf cX2_sizeOf 2 (some .int), Cond.methodLink RX2 20 yX2_treeOf, Cond.instanceMethod yX2_treeOf, Cond.selects RX2 yX2_treeOf yX2_treeOf, Cond.code yX2_treeOf cX2_treeOf 2 (some (.object "SplayOrchard$Tree")), Cond.classLink RX2 125 "java/lang/IndexOutOfBoundsException", Cond.initialized "java/lang/IndexOutOfBoundsException", Cond.fieldLink RX2 11 "SplayOrchard" "rows" "[LSplayOrchard$Tree;", Cond.methodLink RX2 93 yX1_count, Cond.instanceMethod yX1_count, Cond.selects RX1 yX1_count yX1_count, Cond.initialized RX1, Cond.code yX1_count cX1_count 1 (some .int), Cond.fieldLink RX1 7 "SplayOrchard$Tree" "top" "LSplayOrchard$Apple;", Cond.methodLink RX1 63 yX0_countUnder, Cond.instanceMethod yX0_countUnder, Cond.selects RX0 yX0_countUnder yX0_countUnder, Cond.initialized RX0, Cond.code yX0_countUnder cX0_countUnder 4 (some .int), Cond.methodLink RX0 41 yX0_greatestUnder]
def wsX2_mixRow_r2 : List Cond := [Cond.instanceMethod yX0_greatestUnder, Cond.selects RX0 yX0_greatestUnder yX0_greatestUnder, Cond.code yX0_greatestUnder cX0_greatestUnder 2 (some (.object "SplayOrchard$Apple")), Cond.fieldLink RX0 23 "SplayOrchard$Apple" "right" "LSplayOrchard$Apple;", Cond.methodLink RX0 37 yX0_leastUnder, Cond.instanceMethod yX0_leastUnder, Cond.selects RX0 yX0_leastUnder yX0_leastUnder, Cond.code yX0_leastUnder cX0_leastUnder 2 (some (.object "SplayOrchard$Apple")), Cond.fieldLink RX0 17 "SplayOrchard$Apple" "left" "LSplayOrchard$Apple;", Cond.methodLink RX0 44 yX0_next, Cond.instanceMethod yX0_next, Cond.selects RX0 yX0_next yX0_next, Cond.code yX0_next cX0_next 2 (some (.object "SplayOrchard$Apple")), Cond.fieldLink RX0 20 "SplayOrchard$Apple" "up" "LSplayOrchard$Apple;", Cond.methodLink RX2 167 yX2_mix, Cond.static yX2_mix, Cond.code yX2_mix cX2_mix 3 (some .long), Cond.constantLong RX2 204 (31), Cond.methodLink RX2 184 yX2_top, Cond.instanceMethod yX2_top, Cond.selects RX2 yX2_top yX2_top, Cond.code yX2_top cX2_top 2 (some .int), Cond.fieldLink RX2 82 "SplayOrchard$Tree" "top" "LSplayOrchard$Apple;", Cond.methodLink RX2 105 yX2_sizeOrNone]
def wsX2_mixRow_r3 : List Cond := [Cond.static yX2_sizeOrNone, Cond.code yX2_sizeOrNone cX2_sizeOrNone 1 (some .int), Cond.fieldLink RX2 130 "SplayOrchard$Apple" "size" "I", Cond.methodLink RX2 186 yX2_height, Cond.instanceMethod yX2_height, Cond.selects RX2 yX2_height yX2_height, Cond.code yX2_height cX2_height 2 (some .int), Cond.methodLink RX2 109 yX1_levels, Cond.instanceMethod yX1_levels, Cond.selects RX1 yX1_levels yX1_levels, Cond.code yX1_levels cX1_levels 3 (some .int), Cond.methodLink RX1 66 Lib.Math.max.name, Cond.static Lib.Math.max.name, Cond.initialized "java/lang/Math", Cond.code Lib.Math.max.name Lib.Math.max.code 2 (some .int), Cond.methodLink RX1 57 yX1_first, Cond.instanceMethod yX1_first, Cond.selects RX1 yX1_first yX1_first, Cond.code yX1_first cX1_first 1 (some (.object "SplayOrchard$Apple")), Cond.methodLink RX1 18 yX0_leastUnder, Cond.methodLink RX1 46 yX0_depth, Cond.instanceMethod yX0_depth, Cond.selects RX0 yX0_depth yX0_depth, Cond.code yX0_depth cX0_depth 3 (some .int)]
def wsX2_mixRow_r4 : List Cond := [Cond.methodLink RX1 60 yX0_next, Cond.methodLink RX2 189 yX2_leastHeight, Cond.instanceMethod yX2_leastHeight, Cond.selects RX2 yX2_leastHeight yX2_leastHeight, Cond.code yX2_leastHeight cX2_leastHeight 5 (some .int), Cond.methodLink RX2 192 yX2_depths, Cond.instanceMethod yX2_depths, Cond.selects RX2 yX2_depths yX2_depths, Cond.code yX2_depths cX2_depths 2 (some .int), Cond.methodLink RX2 112 yX1_depthSum, Cond.instanceMethod yX1_depthSum, Cond.selects RX1 yX1_depthSum yX1_depthSum, Cond.code yX1_depthSum cX1_depthSum 3 (some .int), Cond.methodLink RX2 195 yX2_leaves, Cond.instanceMethod yX2_leaves, Cond.selects RX2 yX2_leaves yX2_leaves, Cond.code yX2_leaves cX2_leaves 2 (some .int), Cond.methodLink RX2 133 yX1_leafCount, Cond.instanceMethod yX1_leafCount, Cond.selects RX1 yX1_leafCount yX1_leafCount, Cond.code yX1_leafCount cX1_leafCount 3 (some .int), Cond.fieldLink RX1 72 "SplayOrchard$Apple" "left" "LSplayOrchard$Apple;", Cond.fieldLink RX1 75 "SplayOrchard$Apple" "right" "LSplayOrchard$Apple;", Cond.methodLink RX2 198 yX2_favourite]
def wsX2_mixRow_r5 : List Cond := [Cond.instanceMethod yX2_favourite, Cond.selects RX2 yX2_favourite yX2_favourite, Cond.code yX2_favourite cX2_favourite 2 (some .int), Cond.methodLink RX2 149 yX1_mostBitten, Cond.instanceMethod yX1_mostBitten, Cond.selects RX1 yX1_mostBitten yX1_mostBitten, Cond.code yX1_mostBitten cX1_mostBitten 3 (some (.object "SplayOrchard$Apple")), Cond.fieldLink RX1 78 "SplayOrchard$Apple" "bites" "I", Cond.methodLink RX2 201 yX2_bestToEat, Cond.instanceMethod yX2_bestToEat, Cond.selects RX2 yX2_bestToEat yX2_bestToEat, Cond.code yX2_bestToEat cX2_bestToEat 7 (some .int), Cond.fieldLink RX2 16 "SplayOrchard" "trial" "LSplayOrchard$Tree;", Cond.methodLink RX2 115 yX1_first, Cond.methodLink RX2 156 yX2_tryEating, Cond.instanceMethod yX2_tryEating, Cond.selects RX2 yX2_tryEating yX2_tryEating, Cond.code yX2_tryEating cX2_tryEating 4 none, Cond.fieldLink RX2 221 "SplayOrchard$Apple" "standIn" "LSplayOrchard$Apple;", Cond.methodLink RX2 217 yX1_standInFor, Cond.instanceMethod yX1_standInFor, Cond.selects RX1 yX1_standInFor yX1_standInFor, Cond.code yX1_standInFor cX1_standInFor 3 none, Cond.methodLink RX1 84 yX0_linkStandIn]
def wsX2_mixRow_r6 : List Cond := [Cond.instanceMethod yX0_linkStandIn, Cond.selects RX0 yX0_linkStandIn yX0_linkStandIn, Cond.code yX0_linkStandIn cX0_linkStandIn 1 none, Cond.fieldLink RX0 13 "SplayOrchard$Apple" "standIn" "LSplayOrchard$Apple;", Cond.methodLink RX0 47 yX0_standInOf, Cond.static yX0_standInOf, Cond.code yX0_standInOf cX0_standInOf 1 (some (.object "SplayOrchard$Apple")), Cond.methodLink RX1 87 yX0_standInOf, Cond.methodLink RX2 215 yX1_bringUp, Cond.instanceMethod yX1_bringUp, Cond.selects RX1 yX1_bringUp yX1_bringUp, Cond.code yX1_bringUp cX1_bringUp 6 (some .int), Cond.fieldLink RX1 13 "SplayOrchard$Apple" "up" "LSplayOrchard$Apple;", Cond.methodLink RX1 50 yX0_isOnTheLeft, Cond.instanceMethod yX0_isOnTheLeft, Cond.selects RX0 yX0_isOnTheLeft yX0_isOnTheLeft, Cond.code yX0_isOnTheLeft cX0_isOnTheLeft 1 (some .boolean), Cond.methodLink RX1 54 yX0_turn, Cond.instanceMethod yX0_turn, Cond.selects RX0 yX0_turn yX0_turn, Cond.code yX0_turn cX0_turn 4 none, Cond.methodLink RX0 26 yX0_isOnTheLeft, Cond.methodLink RX0 30 yX0_hangLeft, Cond.instanceMethod yX0_hangLeft]
def wsX2_mixRow_r7 : List Cond := [Cond.selects RX0 yX0_hangLeft yX0_hangLeft, Cond.code yX0_hangLeft cX0_hangLeft 2 none, Cond.methodLink RX0 34 yX0_hangRight, Cond.instanceMethod yX0_hangRight, Cond.selects RX0 yX0_hangRight yX0_hangRight, Cond.code yX0_hangRight cX0_hangRight 2 none, Cond.methodLink RX2 159 yX0_next]
def wsX2_mixRow : List Cond := .code yX2_mixRow cX2_mixRow 6 (some .long) :: ((wsX2_mixRow_r1 ++ (wsX2_mixRow_r2 ++ (wsX2_mixRow_r3 ++ (wsX2_mixRow_r4 ++ (wsX2_mixRow_r5 ++ (wsX2_mixRow_r6 ++ wsX2_mixRow_r7)))))) ++ wsX20 ++ wsX10 ++ wsX00 ++ (vx_atS RX2 129 "java/lang/IndexOutOfBoundsException" ["java/lang/RuntimeException", "java/lang/Exception"]).filter goodWord)
def wsX2_mixApple_r1 : List Cond := [Cond.fieldLink RX2 130 "SplayOrchard$Apple" "size" "I", Cond.fieldLink RX2 143 "SplayOrchard$Apple" "up" "LSplayOrchard$Apple;", Cond.fieldLink RX2 66 "SplayOrchard$Apple" "left" "LSplayOrchard$Apple;", Cond.fieldLink RX2 73 "SplayOrchard$Apple" "right" "LSplayOrchard$Apple;", Cond.fieldLink RX2 62 "SplayOrchard$Apple" "bites" "I", Cond.methodLink RX2 167 yX2_mix, Cond.static yX2_mix, Cond.initialized RX2, Cond.code yX2_mix cX2_mix 3 (some .long), Cond.constantLong RX2 204 (31), Cond.methodLink RX2 140 yX0_depth, Cond.instanceMethod yX0_depth, Cond.selects RX0 yX0_depth yX0_depth, Cond.initialized RX0, Cond.code yX0_depth cX0_depth 3 (some .int), Cond.fieldLink RX0 20 "SplayOrchard$Apple" "up" "LSplayOrchard$Apple;", Cond.methodLink RX2 105 yX2_sizeOrNone, Cond.static yX2_sizeOrNone, Cond.code yX2_sizeOrNone cX2_sizeOrNone 1 (some .int), Cond.methodLink RX2 146 yX0_countUnder, Cond.instanceMethod yX0_countUnder, Cond.selects RX0 yX0_countUnder yX0_countUnder, Cond.code yX0_countUnder cX0_countUnder 4 (some .int), Cond.methodLink RX0 41 yX0_greatestUnder]
def wsX2_mixApple_r2 : List Cond := [Cond.instanceMethod yX0_greatestUnder, Cond.selects RX0 yX0_greatestUnder yX0_greatestUnder, Cond.code yX0_greatestUnder cX0_greatestUnder 2 (some (.object "SplayOrchard$Apple")), Cond.fieldLink RX0 23 "SplayOrchard$Apple" "right" "LSplayOrchard$Apple;", Cond.methodLink RX0 37 yX0_leastUnder, Cond.instanceMethod yX0_leastUnder, Cond.selects RX0 yX0_leastUnder yX0_leastUnder, Cond.code yX0_leastUnder cX0_leastUnder 2 (some (.object "SplayOrchard$Apple")), Cond.fieldLink RX0 17 "SplayOrchard$Apple" "left" "LSplayOrchard$Apple;", Cond.methodLink RX0 44 yX0_next, Cond.instanceMethod yX0_next, Cond.selects RX0 yX0_next yX0_next, Cond.code yX0_next cX0_next 2 (some (.object "SplayOrchard$Apple"))]
def wsX2_mixApple : List Cond := .code yX2_mixApple cX2_mixApple 5 (some .long) :: ((wsX2_mixApple_r1 ++ wsX2_mixApple_r2) ++ wsX00)
def wsX2_digest_r1 : List Cond := [Cond.constantLong RX2 165 (2339), Cond.fieldLink RX2 11 "SplayOrchard" "rows" "[LSplayOrchard$Tree;", Cond.methodLink RX2 28 yX2_apples, Cond.instanceMethod yX2_apples, Cond.selects RX2 yX2_apples yX2_apples, Cond.initialized RX2, Cond.code yX2_apples cX2_apples 6 (some .int), Cond.methodLink RX2 93 yX1_count, Cond.instanceMethod yX1_count, Cond.selects RX1 yX1_count yX1_count, Cond.initialized RX1, Cond.code yX1_count cX1_count 1 (some .int), Cond.fieldLink RX1 7 "SplayOrchard$Tree" "top" "LSplayOrchard$Apple;", Cond.methodLink RX1 63 yX0_countUnder, Cond.instanceMethod yX0_countUnder, Cond.selects RX0 yX0_countUnder yX0_countUnder, Cond.initialized RX0, Cond.code yX0_countUnder cX0_countUnder 4 (some .int), Cond.methodLink RX0 41 yX0_greatestUnder, Cond.instanceMethod yX0_greatestUnder, Cond.selects RX0 yX0_greatestUnder yX0_greatestUnder, Cond.code yX0_greatestUnder cX0_greatestUnder 2 (some (.object "SplayOrchard$Apple")), Cond.fieldLink RX0 23 "SplayOrchard$Apple" "right" "LSplayOrchard$Apple;", Cond.methodLink RX0 37 yX0_leastUnder]
def wsX2_digest_r2 : List Cond := [Cond.instanceMethod yX0_leastUnder, Cond.selects RX0 yX0_leastUnder yX0_leastUnder, Cond.code yX0_leastUnder cX0_leastUnder 2 (some (.object "SplayOrchard$Apple")), Cond.fieldLink RX0 17 "SplayOrchard$Apple" "left" "LSplayOrchard$Apple;", Cond.methodLink RX0 44 yX0_next, Cond.instanceMethod yX0_next, Cond.selects RX0 yX0_next yX0_next, Cond.code yX0_next cX0_next 2 (some (.object "SplayOrchard$Apple")), Cond.fieldLink RX0 20 "SplayOrchard$Apple" "up" "LSplayOrchard$Apple;", Cond.methodLink RX2 167 yX2_mix, Cond.static yX2_mix, Cond.code yX2_mix cX2_mix 3 (some .long), Cond.constantLong RX2 204 (31), Cond.methodLink RX2 171 yX2_turnings, Cond.instanceMethod yX2_turnings, Cond.selects RX2 yX2_turnings yX2_turnings, Cond.code yX2_turnings cX2_turnings 1 (some .int), Cond.fieldLink RX2 102 "SplayOrchard" "turned" "I", Cond.methodLink RX2 174 yX2_mixRow, Cond.instanceMethod yX2_mixRow, Cond.selects RX2 yX2_mixRow yX2_mixRow, Cond.code yX2_mixRow cX2_mixRow 6 (some .long), Cond.methodLink RX2 181 yX2_sizeOf, Cond.instanceMethod yX2_sizeOf]
def wsX2_digest_r3 : List Cond := [Cond.selects RX2 yX2_sizeOf yX2_sizeOf, Cond.code yX2_sizeOf cX2_sizeOf 2 (some .int), Cond.methodLink RX2 20 yX2_treeOf, Cond.instanceMethod yX2_treeOf, Cond.selects RX2 yX2_treeOf yX2_treeOf, Cond.code yX2_treeOf cX2_treeOf 2 (some (.object "SplayOrchard$Tree")), Cond.classLink RX2 125 "java/lang/IndexOutOfBoundsException", Cond.initialized "java/lang/IndexOutOfBoundsException", Cond.methodLink RX2 184 yX2_top, Cond.instanceMethod yX2_top, Cond.selects RX2 yX2_top yX2_top, Cond.code yX2_top cX2_top 2 (some .int), Cond.fieldLink RX2 82 "SplayOrchard$Tree" "top" "LSplayOrchard$Apple;", Cond.methodLink RX2 105 yX2_sizeOrNone, Cond.static yX2_sizeOrNone, Cond.code yX2_sizeOrNone cX2_sizeOrNone 1 (some .int), Cond.fieldLink RX2 130 "SplayOrchard$Apple" "size" "I", Cond.methodLink RX2 186 yX2_height, Cond.instanceMethod yX2_height, Cond.selects RX2 yX2_height yX2_height, Cond.code yX2_height cX2_height 2 (some .int), Cond.methodLink RX2 109 yX1_levels, Cond.instanceMethod yX1_levels, Cond.selects RX1 yX1_levels yX1_levels]
def wsX2_digest_r4 : List Cond := [Cond.code yX1_levels cX1_levels 3 (some .int), Cond.methodLink RX1 66 Lib.Math.max.name, Cond.static Lib.Math.max.name, Cond.initialized "java/lang/Math", Cond.code Lib.Math.max.name Lib.Math.max.code 2 (some .int), Cond.methodLink RX1 57 yX1_first, Cond.instanceMethod yX1_first, Cond.selects RX1 yX1_first yX1_first, Cond.code yX1_first cX1_first 1 (some (.object "SplayOrchard$Apple")), Cond.methodLink RX1 18 yX0_leastUnder, Cond.methodLink RX1 46 yX0_depth, Cond.instanceMethod yX0_depth, Cond.selects RX0 yX0_depth yX0_depth, Cond.code yX0_depth cX0_depth 3 (some .int), Cond.methodLink RX1 60 yX0_next, Cond.methodLink RX2 189 yX2_leastHeight, Cond.instanceMethod yX2_leastHeight, Cond.selects RX2 yX2_leastHeight yX2_leastHeight, Cond.code yX2_leastHeight cX2_leastHeight 5 (some .int), Cond.methodLink RX2 192 yX2_depths, Cond.instanceMethod yX2_depths, Cond.selects RX2 yX2_depths yX2_depths, Cond.code yX2_depths cX2_depths 2 (some .int), Cond.methodLink RX2 112 yX1_depthSum]
def wsX2_digest_r5 : List Cond := [Cond.instanceMethod yX1_depthSum, Cond.selects RX1 yX1_depthSum yX1_depthSum, Cond.code yX1_depthSum cX1_depthSum 3 (some .int), Cond.methodLink RX2 195 yX2_leaves, Cond.instanceMethod yX2_leaves, Cond.selects RX2 yX2_leaves yX2_leaves, Cond.code yX2_leaves cX2_leaves 2 (some .int), Cond.methodLink RX2 133 yX1_leafCount, Cond.instanceMethod yX1_leafCount, Cond.selects RX1 yX1_leafCount yX1_leafCount, Cond.code yX1_leafCount cX1_leafCount 3 (some .int), Cond.fieldLink RX1 72 "SplayOrchard$Apple" "left" "LSplayOrchard$Apple;", Cond.fieldLink RX1 75 "SplayOrchard$Apple" "right" "LSplayOrchard$Apple;", Cond.methodLink RX2 198 yX2_favourite, Cond.instanceMethod yX2_favourite, Cond.selects RX2 yX2_favourite yX2_favourite, Cond.code yX2_favourite cX2_favourite 2 (some .int), Cond.methodLink RX2 149 yX1_mostBitten, Cond.instanceMethod yX1_mostBitten, Cond.selects RX1 yX1_mostBitten yX1_mostBitten, Cond.code yX1_mostBitten cX1_mostBitten 3 (some (.object "SplayOrchard$Apple")), Cond.fieldLink RX1 78 "SplayOrchard$Apple" "bites" "I", Cond.methodLink RX2 201 yX2_bestToEat, Cond.instanceMethod yX2_bestToEat]
def wsX2_digest_r6 : List Cond := [Cond.selects RX2 yX2_bestToEat yX2_bestToEat, Cond.code yX2_bestToEat cX2_bestToEat 7 (some .int), Cond.fieldLink RX2 16 "SplayOrchard" "trial" "LSplayOrchard$Tree;", Cond.methodLink RX2 115 yX1_first, Cond.methodLink RX2 156 yX2_tryEating, Cond.instanceMethod yX2_tryEating, Cond.selects RX2 yX2_tryEating yX2_tryEating, Cond.code yX2_tryEating cX2_tryEating 4 none, Cond.fieldLink RX2 221 "SplayOrchard$Apple" "standIn" "LSplayOrchard$Apple;", Cond.methodLink RX2 217 yX1_standInFor, Cond.instanceMethod yX1_standInFor, Cond.selects RX1 yX1_standInFor yX1_standInFor, Cond.code yX1_standInFor cX1_standInFor 3 none, Cond.methodLink RX1 84 yX0_linkStandIn, Cond.instanceMethod yX0_linkStandIn, Cond.selects RX0 yX0_linkStandIn yX0_linkStandIn, Cond.code yX0_linkStandIn cX0_linkStandIn 1 none, Cond.fieldLink RX0 13 "SplayOrchard$Apple" "standIn" "LSplayOrchard$Apple;", Cond.methodLink RX0 47 yX0_standInOf, Cond.static yX0_standInOf, Cond.code yX0_standInOf cX0_standInOf 1 (some (.object "SplayOrchard$Apple")), Cond.methodLink RX1 87 yX0_standInOf, Cond.methodLink RX2 215 yX1_bringUp, Cond.instanceMethod yX1_bringUp]
def wsX2_digest_r7 : List Cond := [Cond.selects RX1 yX1_bringUp yX1_bringUp, Cond.code yX1_bringUp cX1_bringUp 6 (some .int), Cond.fieldLink RX1 13 "SplayOrchard$Apple" "up" "LSplayOrchard$Apple;", Cond.methodLink RX1 50 yX0_isOnTheLeft, Cond.instanceMethod yX0_isOnTheLeft, Cond.selects RX0 yX0_isOnTheLeft yX0_isOnTheLeft, Cond.code yX0_isOnTheLeft cX0_isOnTheLeft 1 (some .boolean), Cond.methodLink RX1 54 yX0_turn, Cond.instanceMethod yX0_turn, Cond.selects RX0 yX0_turn yX0_turn, Cond.code yX0_turn cX0_turn 4 none, Cond.methodLink RX0 26 yX0_isOnTheLeft, Cond.methodLink RX0 30 yX0_hangLeft, Cond.instanceMethod yX0_hangLeft, Cond.selects RX0 yX0_hangLeft yX0_hangLeft, Cond.code yX0_hangLeft cX0_hangLeft 2 none, Cond.methodLink RX0 34 yX0_hangRight, Cond.instanceMethod yX0_hangRight, Cond.selects RX0 yX0_hangRight yX0_hangRight, Cond.code yX0_hangRight cX0_hangRight 2 none, Cond.methodLink RX2 159 yX0_next, Cond.methodLink RX2 177 yX2_mixApple, Cond.static yX2_mixApple, Cond.code yX2_mixApple cX2_mixApple 5 (some .long)]
def wsX2_digest_r8 : List Cond := [Cond.fieldLink RX2 143 "SplayOrchard$Apple" "up" "LSplayOrchard$Apple;", Cond.fieldLink RX2 66 "SplayOrchard$Apple" "left" "LSplayOrchard$Apple;", Cond.fieldLink RX2 73 "SplayOrchard$Apple" "right" "LSplayOrchard$Apple;", Cond.fieldLink RX2 62 "SplayOrchard$Apple" "bites" "I", Cond.methodLink RX2 140 yX0_depth, Cond.methodLink RX2 146 yX0_countUnder]
def wsX2_digest : List Cond := .code yX2_digest cX2_digest 5 (some .long) :: ((wsX2_digest_r1 ++ (wsX2_digest_r2 ++ (wsX2_digest_r3 ++ (wsX2_digest_r4 ++ (wsX2_digest_r5 ++ (wsX2_digest_r6 ++ (wsX2_digest_r7 ++ wsX2_digest_r8))))))) ++ wsX20 ++ wsX10 ++ wsX00 ++ (vx_atS RX2 129 "java/lang/IndexOutOfBoundsException" ["java/lang/RuntimeException", "java/lang/Exception"]).filter goodWord)
def wsX3_init : List Cond := .code yX3_init cX3_init 2 none :: ([.methodLink RX3 3 objectInit, .instanceMethod objectInit, .code objectInit ⟨#[0xb1]⟩ 1 none, .arrayClass .int, .fieldLink RX3 9 "SplayOrchardModel" "now" "[I", .fieldLink RX3 13 "SplayOrchardModel" "kept" "[I"] ++ wsX30)
def wsX3_thrown : List Cond := .code yX3_thrown cX3_thrown 1 (some .int) :: ([.fieldLink RX3 16 "SplayOrchardModel" "thrown" "I"] ++ wsX30)
def wsX3_no : List Cond := .code yX3_no cX3_no 2 (some .int) :: ([.fieldLink RX3 16 "SplayOrchardModel" "thrown" "I"] ++ wsX30)
def wsX3_isNot : List Cond := .code yX3_isNot cX3_isNot 2 (some .boolean) :: ([.fieldLink RX3 16 "SplayOrchardModel" "thrown" "I"] ++ wsX30)
def wsX3_ok : List Cond := .code yX3_ok cX3_ok 2 (some .int) :: ([.fieldLink RX3 16 "SplayOrchardModel" "thrown" "I"] ++ wsX30)
def wsX3_isRow : List Cond := .code yX3_isRow cX3_isRow 1 (some .boolean) :: ([])
def wsX3_isSize : List Cond := .code yX3_isSize cX3_isSize 1 (some .boolean) :: ([])
def wsX3_keep : List Cond := .code yX3_keep cX3_keep 1 none :: ([.fieldLink RX3 9 "SplayOrchardModel" "now" "[I", .fieldLink RX3 13 "SplayOrchardModel" "kept" "[I", .methodLink RX3 20 arraycopyName, .native arraycopyName, .static arraycopyName, .initialized "java/lang/System", .fieldLink RX3 26 "SplayOrchardModel" "turned" "I", .fieldLink RX3 29 "SplayOrchardModel" "keptTurned" "I"] ++ wsX30)
def wsX3_bringBack : List Cond := .code yX3_bringBack cX3_bringBack 1 none :: ([.fieldLink RX3 13 "SplayOrchardModel" "kept" "[I", .fieldLink RX3 9 "SplayOrchardModel" "now" "[I", .methodLink RX3 20 arraycopyName, .native arraycopyName, .static arraycopyName, .initialized "java/lang/System", .fieldLink RX3 29 "SplayOrchardModel" "keptTurned" "I", .fieldLink RX3 26 "SplayOrchardModel" "turned" "I"] ++ wsX30)
def wsX3_find : List Cond := .code yX3_find cX3_find 4 (some .int) :: ([.fieldLink RX3 9 "SplayOrchardModel" "now" "[I"] ++ wsX30)
def wsX3_deep : List Cond := .code yX3_deep cX3_deep 4 (some .int) :: ([.fieldLink RX3 9 "SplayOrchardModel" "now" "[I"] ++ wsX30)
def wsX3_free : List Cond := .code yX3_free cX3_free 2 (some .int) :: ([.fieldLink RX3 9 "SplayOrchardModel" "now" "[I"] ++ wsX30)
def wsX3_end : List Cond := .code yX3_end cX3_end 4 (some .int) :: ([.fieldLink RX3 9 "SplayOrchardModel" "now" "[I"] ++ wsX30)
def wsX3_hang : List Cond := .code yX3_hang cX3_hang 4 none :: ([.fieldLink RX3 9 "SplayOrchardModel" "now" "[I"] ++ wsX30)
def wsX3_sideOf : List Cond := .code yX3_sideOf cX3_sideOf 2 (some .int) :: ([.fieldLink RX3 9 "SplayOrchardModel" "now" "[I"] ++ wsX30)
def wsX3_across : List Cond := .code yX3_across cX3_across 1 (some .int) :: ([])
def wsX3_turn : List Cond := .code yX3_turn cX3_turn 6 none :: ([.fieldLink RX3 9 "SplayOrchardModel" "now" "[I", .fieldLink RX3 26 "SplayOrchardModel" "turned" "I", .methodLink RX3 32 yX3_sideOf, .instanceMethod yX3_sideOf, .selects RX3 yX3_sideOf yX3_sideOf, .initialized RX3, .code yX3_sideOf cX3_sideOf 2 (some .int), .methodLink RX3 36 yX3_across, .static yX3_across, .code yX3_across cX3_across 1 (some .int), .methodLink RX3 39 yX3_hang, .instanceMethod yX3_hang, .selects RX3 yX3_hang yX3_hang, .code yX3_hang cX3_hang 4 none] ++ wsX30)
def wsX3_raise : List Cond := .code yX3_raise cX3_raise 3 none :: ([.fieldLink RX3 9 "SplayOrchardModel" "now" "[I", .methodLink RX3 32 yX3_sideOf, .instanceMethod yX3_sideOf, .selects RX3 yX3_sideOf yX3_sideOf, .initialized RX3, .code yX3_sideOf cX3_sideOf 2 (some .int), .methodLink RX3 43 yX3_turn, .instanceMethod yX3_turn, .selects RX3 yX3_turn yX3_turn, .code yX3_turn cX3_turn 6 none, .fieldLink RX3 26 "SplayOrchardModel" "turned" "I", .methodLink RX3 36 yX3_across, .static yX3_across, .code yX3_across cX3_across 1 (some .int), .methodLink RX3 39 yX3_hang, .instanceMethod yX3_hang, .selects RX3 yX3_hang yX3_hang, .code yX3_hang cX3_hang 4 none] ++ wsX30)
def wsX3_raiseIn : List Cond := .code yX3_raiseIn cX3_raiseIn 3 none :: ([.fieldLink RX3 9 "SplayOrchardModel" "now" "[I", .methodLink RX3 47 yX3_raise, .instanceMethod yX3_raise, .selects RX3 yX3_raise yX3_raise, .initialized RX3, .code yX3_raise cX3_raise 3 none, .methodLink RX3 32 yX3_sideOf, .instanceMethod yX3_sideOf, .selects RX3 yX3_sideOf yX3_sideOf, .code yX3_sideOf cX3_sideOf 2 (some .int), .methodLink RX3 43 yX3_turn, .instanceMethod yX3_turn, .selects RX3 yX3_turn yX3_turn, .code yX3_turn cX3_turn 6 none, .fieldLink RX3 26 "SplayOrchardModel" "turned" "I", .methodLink RX3 36 yX3_across, .static yX3_across, .code yX3_across cX3_across 1 (some .int), .methodLink RX3 39 yX3_hang, .instanceMethod yX3_hang, .selects RX3 yX3_hang yX3_hang, .code yX3_hang cX3_hang 4 none] ++ wsX30)
def wsX3_count : List Cond := .code yX3_count cX3_count 2 (some .int) :: ([.fieldLink RX3 9 "SplayOrchardModel" "now" "[I", .methodLink RX3 50 yX3_count, .instanceMethod yX3_count, .selects RX3 yX3_count yX3_count, .initialized RX3] ++ wsX30)
def wsX3_high : List Cond := .code yX3_high cX3_high 2 (some .int) :: ([.fieldLink RX3 9 "SplayOrchardModel" "now" "[I", .methodLink RX3 56 Lib.Math.max.name, .static Lib.Math.max.name, .initialized "java/lang/Math", .code Lib.Math.max.name Lib.Math.max.code 2 (some .int), .methodLink RX3 53 yX3_high, .instanceMethod yX3_high, .selects RX3 yX3_high yX3_high, .initialized RX3] ++ wsX30)
def wsX3_depthsOf : List Cond := .code yX3_depthsOf cX3_depthsOf 3 (some .int) :: ([.fieldLink RX3 9 "SplayOrchardModel" "now" "[I", .methodLink RX3 62 yX3_depthsOf, .instanceMethod yX3_depthsOf, .selects RX3 yX3_depthsOf yX3_depthsOf, .initialized RX3] ++ wsX30)
def wsX3_ends : List Cond := .code yX3_ends cX3_ends 2 (some .int) :: ([.fieldLink RX3 9 "SplayOrchardModel" "now" "[I", .methodLink RX3 65 yX3_ends, .instanceMethod yX3_ends, .selects RX3 yX3_ends yX3_ends, .initialized RX3] ++ wsX30)
def wsX3_under : List Cond := .code yX3_under cX3_under 3 (some .int) :: ([.fieldLink RX3 9 "SplayOrchardModel" "now" "[I", .methodLink RX3 50 yX3_count, .instanceMethod yX3_count, .selects RX3 yX3_count yX3_count, .initialized RX3, .code yX3_count cX3_count 2 (some .int), .methodLink RX3 68 yX3_under, .instanceMethod yX3_under, .selects RX3 yX3_under yX3_under] ++ wsX30)
def wsX3_nth : List Cond := .code yX3_nth cX3_nth 4 (some .int) :: ([.fieldLink RX3 9 "SplayOrchardModel" "now" "[I", .methodLink RX3 50 yX3_count, .instanceMethod yX3_count, .selects RX3 yX3_count yX3_count, .initialized RX3, .code yX3_count cX3_count 2 (some .int), .methodLink RX3 71 yX3_nth, .instanceMethod yX3_nth, .selects RX3 yX3_nth yX3_nth] ++ wsX30)
def wsX3_sizeAt : List Cond := .code yX3_sizeAt cX3_sizeAt 2 (some .int) :: ([.fieldLink RX3 9 "SplayOrchardModel" "now" "[I"] ++ wsX30)
def wsX3_plantDeep : List Cond := .code yX3_plantDeep cX3_plantDeep 5 (some .int) :: ([.fieldLink RX3 9 "SplayOrchardModel" "now" "[I"] ++ wsX30)
def wsX3_planted_r1 : List Cond := [Cond.fieldLink RX3 9 "SplayOrchardModel" "now" "[I", Cond.fieldLink RX3 78 "SplayOrchardModel" "many" "I", Cond.methodLink RX3 74 yX3_free, Cond.instanceMethod yX3_free, Cond.selects RX3 yX3_free yX3_free, Cond.initialized RX3, Cond.code yX3_free cX3_free 2 (some .int), Cond.methodLink RX3 39 yX3_hang, Cond.instanceMethod yX3_hang, Cond.selects RX3 yX3_hang yX3_hang, Cond.code yX3_hang cX3_hang 4 none, Cond.methodLink RX3 81 yX3_deep, Cond.instanceMethod yX3_deep, Cond.selects RX3 yX3_deep yX3_deep, Cond.code yX3_deep cX3_deep 4 (some .int), Cond.methodLink RX3 84 yX3_raiseIn, Cond.instanceMethod yX3_raiseIn, Cond.selects RX3 yX3_raiseIn yX3_raiseIn, Cond.code yX3_raiseIn cX3_raiseIn 3 none, Cond.methodLink RX3 47 yX3_raise, Cond.instanceMethod yX3_raise, Cond.selects RX3 yX3_raise yX3_raise, Cond.code yX3_raise cX3_raise 3 none, Cond.methodLink RX3 32 yX3_sideOf]
def wsX3_planted_r2 : List Cond := [Cond.instanceMethod yX3_sideOf, Cond.selects RX3 yX3_sideOf yX3_sideOf, Cond.code yX3_sideOf cX3_sideOf 2 (some .int), Cond.methodLink RX3 43 yX3_turn, Cond.instanceMethod yX3_turn, Cond.selects RX3 yX3_turn yX3_turn, Cond.code yX3_turn cX3_turn 6 none, Cond.fieldLink RX3 26 "SplayOrchardModel" "turned" "I", Cond.methodLink RX3 36 yX3_across, Cond.static yX3_across, Cond.code yX3_across cX3_across 1 (some .int)]
def wsX3_planted : List Cond := .code yX3_planted cX3_planted 7 (some .int) :: ((wsX3_planted_r1 ++ wsX3_planted_r2) ++ wsX30)
def wsX3_plant_r1 : List Cond := [Cond.fieldLink RX3 16 "SplayOrchardModel" "thrown" "I", Cond.fieldLink RX3 78 "SplayOrchardModel" "many" "I", Cond.methodLink RX3 88 yX3_isRow, Cond.static yX3_isRow, Cond.initialized RX3, Cond.code yX3_isRow cX3_isRow 1 (some .boolean), Cond.methodLink RX3 92 yX3_no, Cond.instanceMethod yX3_no, Cond.selects RX3 yX3_no yX3_no, Cond.code yX3_no cX3_no 2 (some .int), Cond.methodLink RX3 95 yX3_isSize, Cond.static yX3_isSize, Cond.code yX3_isSize cX3_isSize 1 (some .boolean), Cond.methodLink RX3 98 yX3_find, Cond.instanceMethod yX3_find, Cond.selects RX3 yX3_find yX3_find, Cond.code yX3_find cX3_find 4 (some .int), Cond.fieldLink RX3 9 "SplayOrchardModel" "now" "[I", Cond.methodLink RX3 101 yX3_planted, Cond.instanceMethod yX3_planted, Cond.selects RX3 yX3_planted yX3_planted, Cond.code yX3_planted cX3_planted 7 (some .int), Cond.methodLink RX3 74 yX3_free, Cond.instanceMethod yX3_free]
def wsX3_plant_r2 : List Cond := [Cond.selects RX3 yX3_free yX3_free, Cond.code yX3_free cX3_free 2 (some .int), Cond.methodLink RX3 39 yX3_hang, Cond.instanceMethod yX3_hang, Cond.selects RX3 yX3_hang yX3_hang, Cond.code yX3_hang cX3_hang 4 none, Cond.methodLink RX3 81 yX3_deep, Cond.instanceMethod yX3_deep, Cond.selects RX3 yX3_deep yX3_deep, Cond.code yX3_deep cX3_deep 4 (some .int), Cond.methodLink RX3 84 yX3_raiseIn, Cond.instanceMethod yX3_raiseIn, Cond.selects RX3 yX3_raiseIn yX3_raiseIn, Cond.code yX3_raiseIn cX3_raiseIn 3 none, Cond.methodLink RX3 47 yX3_raise, Cond.instanceMethod yX3_raise, Cond.selects RX3 yX3_raise yX3_raise, Cond.code yX3_raise cX3_raise 3 none, Cond.methodLink RX3 32 yX3_sideOf, Cond.instanceMethod yX3_sideOf, Cond.selects RX3 yX3_sideOf yX3_sideOf, Cond.code yX3_sideOf cX3_sideOf 2 (some .int), Cond.methodLink RX3 43 yX3_turn, Cond.instanceMethod yX3_turn]
def wsX3_plant_r3 : List Cond := [Cond.selects RX3 yX3_turn yX3_turn, Cond.code yX3_turn cX3_turn 6 none, Cond.fieldLink RX3 26 "SplayOrchardModel" "turned" "I", Cond.methodLink RX3 36 yX3_across, Cond.static yX3_across, Cond.code yX3_across cX3_across 1 (some .int)]
def wsX3_plant : List Cond := .code yX3_plant cX3_plant 3 (some .int) :: ((wsX3_plant_r1 ++ (wsX3_plant_r2 ++ wsX3_plant_r3)) ++ wsX30)
def wsX3_bitten_r1 : List Cond := [Cond.fieldLink RX3 9 "SplayOrchardModel" "now" "[I", Cond.methodLink RX3 81 yX3_deep, Cond.instanceMethod yX3_deep, Cond.selects RX3 yX3_deep yX3_deep, Cond.initialized RX3, Cond.code yX3_deep cX3_deep 4 (some .int), Cond.methodLink RX3 84 yX3_raiseIn, Cond.instanceMethod yX3_raiseIn, Cond.selects RX3 yX3_raiseIn yX3_raiseIn, Cond.code yX3_raiseIn cX3_raiseIn 3 none, Cond.methodLink RX3 47 yX3_raise, Cond.instanceMethod yX3_raise, Cond.selects RX3 yX3_raise yX3_raise, Cond.code yX3_raise cX3_raise 3 none, Cond.methodLink RX3 32 yX3_sideOf, Cond.instanceMethod yX3_sideOf, Cond.selects RX3 yX3_sideOf yX3_sideOf, Cond.code yX3_sideOf cX3_sideOf 2 (some .int), Cond.methodLink RX3 43 yX3_turn, Cond.instanceMethod yX3_turn, Cond.selects RX3 yX3_turn yX3_turn, Cond.code yX3_turn cX3_turn 6 none, Cond.fieldLink RX3 26 "SplayOrchardModel" "turned" "I", Cond.methodLink RX3 36 yX3_across]
def wsX3_bitten_r2 : List Cond := [Cond.static yX3_across, Cond.code yX3_across cX3_across 1 (some .int), Cond.methodLink RX3 39 yX3_hang, Cond.instanceMethod yX3_hang, Cond.selects RX3 yX3_hang yX3_hang, Cond.code yX3_hang cX3_hang 4 none]
def wsX3_bitten : List Cond := .code yX3_bitten cX3_bitten 4 (some .int) :: ((wsX3_bitten_r1 ++ wsX3_bitten_r2) ++ wsX30)
def wsX3_eat_r1 : List Cond := [Cond.fieldLink RX3 16 "SplayOrchardModel" "thrown" "I", Cond.methodLink RX3 88 yX3_isRow, Cond.static yX3_isRow, Cond.initialized RX3, Cond.code yX3_isRow cX3_isRow 1 (some .boolean), Cond.methodLink RX3 92 yX3_no, Cond.instanceMethod yX3_no, Cond.selects RX3 yX3_no yX3_no, Cond.code yX3_no cX3_no 2 (some .int), Cond.methodLink RX3 98 yX3_find, Cond.instanceMethod yX3_find, Cond.selects RX3 yX3_find yX3_find, Cond.code yX3_find cX3_find 4 (some .int), Cond.fieldLink RX3 9 "SplayOrchardModel" "now" "[I", Cond.methodLink RX3 104 yX3_bitten, Cond.instanceMethod yX3_bitten, Cond.selects RX3 yX3_bitten yX3_bitten, Cond.code yX3_bitten cX3_bitten 4 (some .int), Cond.methodLink RX3 81 yX3_deep, Cond.instanceMethod yX3_deep, Cond.selects RX3 yX3_deep yX3_deep, Cond.code yX3_deep cX3_deep 4 (some .int), Cond.methodLink RX3 84 yX3_raiseIn, Cond.instanceMethod yX3_raiseIn]
def wsX3_eat_r2 : List Cond := [Cond.selects RX3 yX3_raiseIn yX3_raiseIn, Cond.code yX3_raiseIn cX3_raiseIn 3 none, Cond.methodLink RX3 47 yX3_raise, Cond.instanceMethod yX3_raise, Cond.selects RX3 yX3_raise yX3_raise, Cond.code yX3_raise cX3_raise 3 none, Cond.methodLink RX3 32 yX3_sideOf, Cond.instanceMethod yX3_sideOf, Cond.selects RX3 yX3_sideOf yX3_sideOf, Cond.code yX3_sideOf cX3_sideOf 2 (some .int), Cond.methodLink RX3 43 yX3_turn, Cond.instanceMethod yX3_turn, Cond.selects RX3 yX3_turn yX3_turn, Cond.code yX3_turn cX3_turn 6 none, Cond.fieldLink RX3 26 "SplayOrchardModel" "turned" "I", Cond.methodLink RX3 36 yX3_across, Cond.static yX3_across, Cond.code yX3_across cX3_across 1 (some .int), Cond.methodLink RX3 39 yX3_hang, Cond.instanceMethod yX3_hang, Cond.selects RX3 yX3_hang yX3_hang, Cond.code yX3_hang cX3_hang 4 none]
def wsX3_eat : List Cond := .code yX3_eat cX3_eat 4 (some .int) :: ((wsX3_eat_r1 ++ wsX3_eat_r2) ++ wsX30)
def wsX3_lowered : List Cond := .code yX3_lowered cX3_lowered 2 (some .int) :: ([.fieldLink RX3 9 "SplayOrchardModel" "now" "[I"] ++ wsX30)
def wsX3_together_r1 : List Cond := [Cond.methodLink RX3 107 yX3_end, Cond.instanceMethod yX3_end, Cond.selects RX3 yX3_end yX3_end, Cond.initialized RX3, Cond.code yX3_end cX3_end 4 (some .int), Cond.fieldLink RX3 9 "SplayOrchardModel" "now" "[I", Cond.methodLink RX3 47 yX3_raise, Cond.instanceMethod yX3_raise, Cond.selects RX3 yX3_raise yX3_raise, Cond.code yX3_raise cX3_raise 3 none, Cond.methodLink RX3 32 yX3_sideOf, Cond.instanceMethod yX3_sideOf, Cond.selects RX3 yX3_sideOf yX3_sideOf, Cond.code yX3_sideOf cX3_sideOf 2 (some .int), Cond.methodLink RX3 43 yX3_turn, Cond.instanceMethod yX3_turn, Cond.selects RX3 yX3_turn yX3_turn, Cond.code yX3_turn cX3_turn 6 none, Cond.fieldLink RX3 26 "SplayOrchardModel" "turned" "I", Cond.methodLink RX3 36 yX3_across, Cond.static yX3_across, Cond.code yX3_across cX3_across 1 (some .int), Cond.methodLink RX3 39 yX3_hang, Cond.instanceMethod yX3_hang]
def wsX3_together_r2 : List Cond := [Cond.selects RX3 yX3_hang yX3_hang, Cond.code yX3_hang cX3_hang 4 none]
def wsX3_together : List Cond := .code yX3_together cX3_together 4 (some .int) :: ((wsX3_together_r1 ++ wsX3_together_r2) ++ wsX30)
def wsX3_picked_r1 : List Cond := [Cond.fieldLink RX3 9 "SplayOrchardModel" "now" "[I", Cond.fieldLink RX3 78 "SplayOrchardModel" "many" "I", Cond.methodLink RX3 84 yX3_raiseIn, Cond.instanceMethod yX3_raiseIn, Cond.selects RX3 yX3_raiseIn yX3_raiseIn, Cond.initialized RX3, Cond.code yX3_raiseIn cX3_raiseIn 3 none, Cond.methodLink RX3 47 yX3_raise, Cond.instanceMethod yX3_raise, Cond.selects RX3 yX3_raise yX3_raise, Cond.code yX3_raise cX3_raise 3 none, Cond.methodLink RX3 32 yX3_sideOf, Cond.instanceMethod yX3_sideOf, Cond.selects RX3 yX3_sideOf yX3_sideOf, Cond.code yX3_sideOf cX3_sideOf 2 (some .int), Cond.methodLink RX3 43 yX3_turn, Cond.instanceMethod yX3_turn, Cond.selects RX3 yX3_turn yX3_turn, Cond.code yX3_turn cX3_turn 6 none, Cond.fieldLink RX3 26 "SplayOrchardModel" "turned" "I", Cond.methodLink RX3 36 yX3_across, Cond.static yX3_across, Cond.code yX3_across cX3_across 1 (some .int), Cond.methodLink RX3 39 yX3_hang]
def wsX3_picked_r2 : List Cond := [Cond.instanceMethod yX3_hang, Cond.selects RX3 yX3_hang yX3_hang, Cond.code yX3_hang cX3_hang 4 none, Cond.methodLink RX3 110 yX3_lowered, Cond.instanceMethod yX3_lowered, Cond.selects RX3 yX3_lowered yX3_lowered, Cond.code yX3_lowered cX3_lowered 2 (some .int), Cond.methodLink RX3 113 yX3_together, Cond.instanceMethod yX3_together, Cond.selects RX3 yX3_together yX3_together, Cond.code yX3_together cX3_together 4 (some .int), Cond.methodLink RX3 107 yX3_end, Cond.instanceMethod yX3_end, Cond.selects RX3 yX3_end yX3_end, Cond.code yX3_end cX3_end 4 (some .int)]
def wsX3_picked : List Cond := .code yX3_picked cX3_picked 6 (some .int) :: ((wsX3_picked_r1 ++ wsX3_picked_r2) ++ wsX30)
def wsX3_pick_r1 : List Cond := [Cond.fieldLink RX3 16 "SplayOrchardModel" "thrown" "I", Cond.methodLink RX3 88 yX3_isRow, Cond.static yX3_isRow, Cond.initialized RX3, Cond.code yX3_isRow cX3_isRow 1 (some .boolean), Cond.methodLink RX3 92 yX3_no, Cond.instanceMethod yX3_no, Cond.selects RX3 yX3_no yX3_no, Cond.code yX3_no cX3_no 2 (some .int), Cond.methodLink RX3 98 yX3_find, Cond.instanceMethod yX3_find, Cond.selects RX3 yX3_find yX3_find, Cond.code yX3_find cX3_find 4 (some .int), Cond.fieldLink RX3 9 "SplayOrchardModel" "now" "[I", Cond.methodLink RX3 116 yX3_picked, Cond.instanceMethod yX3_picked, Cond.selects RX3 yX3_picked yX3_picked, Cond.code yX3_picked cX3_picked 6 (some .int), Cond.fieldLink RX3 78 "SplayOrchardModel" "many" "I", Cond.methodLink RX3 84 yX3_raiseIn, Cond.instanceMethod yX3_raiseIn, Cond.selects RX3 yX3_raiseIn yX3_raiseIn, Cond.code yX3_raiseIn cX3_raiseIn 3 none, Cond.methodLink RX3 47 yX3_raise]
def wsX3_pick_r2 : List Cond := [Cond.instanceMethod yX3_raise, Cond.selects RX3 yX3_raise yX3_raise, Cond.code yX3_raise cX3_raise 3 none, Cond.methodLink RX3 32 yX3_sideOf, Cond.instanceMethod yX3_sideOf, Cond.selects RX3 yX3_sideOf yX3_sideOf, Cond.code yX3_sideOf cX3_sideOf 2 (some .int), Cond.methodLink RX3 43 yX3_turn, Cond.instanceMethod yX3_turn, Cond.selects RX3 yX3_turn yX3_turn, Cond.code yX3_turn cX3_turn 6 none, Cond.fieldLink RX3 26 "SplayOrchardModel" "turned" "I", Cond.methodLink RX3 36 yX3_across, Cond.static yX3_across, Cond.code yX3_across cX3_across 1 (some .int), Cond.methodLink RX3 39 yX3_hang, Cond.instanceMethod yX3_hang, Cond.selects RX3 yX3_hang yX3_hang, Cond.code yX3_hang cX3_hang 4 none, Cond.methodLink RX3 110 yX3_lowered, Cond.instanceMethod yX3_lowered, Cond.selects RX3 yX3_lowered yX3_lowered, Cond.code yX3_lowered cX3_lowered 2 (some .int), Cond.methodLink RX3 113 yX3_together]
def wsX3_pick_r3 : List Cond := [Cond.instanceMethod yX3_together, Cond.selects RX3 yX3_together yX3_together, Cond.code yX3_together cX3_together 4 (some .int), Cond.methodLink RX3 107 yX3_end, Cond.instanceMethod yX3_end, Cond.selects RX3 yX3_end yX3_end, Cond.code yX3_end cX3_end 4 (some .int)]
def wsX3_pick : List Cond := .code yX3_pick cX3_pick 4 (some .int) :: ((wsX3_pick_r1 ++ (wsX3_pick_r2 ++ wsX3_pick_r3)) ++ wsX30)
def wsX3_parted_r1 : List Cond := [Cond.fieldLink RX3 9 "SplayOrchardModel" "now" "[I", Cond.methodLink RX3 68 yX3_under, Cond.instanceMethod yX3_under, Cond.selects RX3 yX3_under yX3_under, Cond.initialized RX3, Cond.code yX3_under cX3_under 3 (some .int), Cond.methodLink RX3 50 yX3_count, Cond.instanceMethod yX3_count, Cond.selects RX3 yX3_count yX3_count, Cond.code yX3_count cX3_count 2 (some .int), Cond.methodLink RX3 71 yX3_nth, Cond.instanceMethod yX3_nth, Cond.selects RX3 yX3_nth yX3_nth, Cond.code yX3_nth cX3_nth 4 (some .int), Cond.methodLink RX3 84 yX3_raiseIn, Cond.instanceMethod yX3_raiseIn, Cond.selects RX3 yX3_raiseIn yX3_raiseIn, Cond.code yX3_raiseIn cX3_raiseIn 3 none, Cond.methodLink RX3 47 yX3_raise, Cond.instanceMethod yX3_raise, Cond.selects RX3 yX3_raise yX3_raise, Cond.code yX3_raise cX3_raise 3 none, Cond.methodLink RX3 32 yX3_sideOf, Cond.instanceMethod yX3_sideOf]
def wsX3_parted_r2 : List Cond := [Cond.selects RX3 yX3_sideOf yX3_sideOf, Cond.code yX3_sideOf cX3_sideOf 2 (some .int), Cond.methodLink RX3 43 yX3_turn, Cond.instanceMethod yX3_turn, Cond.selects RX3 yX3_turn yX3_turn, Cond.code yX3_turn cX3_turn 6 none, Cond.fieldLink RX3 26 "SplayOrchardModel" "turned" "I", Cond.methodLink RX3 36 yX3_across, Cond.static yX3_across, Cond.code yX3_across cX3_across 1 (some .int), Cond.methodLink RX3 39 yX3_hang, Cond.instanceMethod yX3_hang, Cond.selects RX3 yX3_hang yX3_hang, Cond.code yX3_hang cX3_hang 4 none, Cond.methodLink RX3 110 yX3_lowered, Cond.instanceMethod yX3_lowered, Cond.selects RX3 yX3_lowered yX3_lowered, Cond.code yX3_lowered cX3_lowered 2 (some .int)]
def wsX3_parted : List Cond := .code yX3_parted cX3_parted 6 (some .int) :: ((wsX3_parted_r1 ++ wsX3_parted_r2) ++ wsX30)
def wsX3_split_r1 : List Cond := [Cond.fieldLink RX3 16 "SplayOrchardModel" "thrown" "I", Cond.fieldLink RX3 9 "SplayOrchardModel" "now" "[I", Cond.methodLink RX3 88 yX3_isRow, Cond.static yX3_isRow, Cond.initialized RX3, Cond.code yX3_isRow cX3_isRow 1 (some .boolean), Cond.methodLink RX3 92 yX3_no, Cond.instanceMethod yX3_no, Cond.selects RX3 yX3_no yX3_no, Cond.code yX3_no cX3_no 2 (some .int), Cond.methodLink RX3 95 yX3_isSize, Cond.static yX3_isSize, Cond.code yX3_isSize cX3_isSize 1 (some .boolean), Cond.methodLink RX3 119 yX3_parted, Cond.instanceMethod yX3_parted, Cond.selects RX3 yX3_parted yX3_parted, Cond.code yX3_parted cX3_parted 6 (some .int), Cond.methodLink RX3 68 yX3_under, Cond.instanceMethod yX3_under, Cond.selects RX3 yX3_under yX3_under, Cond.code yX3_under cX3_under 3 (some .int), Cond.methodLink RX3 50 yX3_count, Cond.instanceMethod yX3_count, Cond.selects RX3 yX3_count yX3_count]
def wsX3_split_r2 : List Cond := [Cond.code yX3_count cX3_count 2 (some .int), Cond.methodLink RX3 71 yX3_nth, Cond.instanceMethod yX3_nth, Cond.selects RX3 yX3_nth yX3_nth, Cond.code yX3_nth cX3_nth 4 (some .int), Cond.methodLink RX3 84 yX3_raiseIn, Cond.instanceMethod yX3_raiseIn, Cond.selects RX3 yX3_raiseIn yX3_raiseIn, Cond.code yX3_raiseIn cX3_raiseIn 3 none, Cond.methodLink RX3 47 yX3_raise, Cond.instanceMethod yX3_raise, Cond.selects RX3 yX3_raise yX3_raise, Cond.code yX3_raise cX3_raise 3 none, Cond.methodLink RX3 32 yX3_sideOf, Cond.instanceMethod yX3_sideOf, Cond.selects RX3 yX3_sideOf yX3_sideOf, Cond.code yX3_sideOf cX3_sideOf 2 (some .int), Cond.methodLink RX3 43 yX3_turn, Cond.instanceMethod yX3_turn, Cond.selects RX3 yX3_turn yX3_turn, Cond.code yX3_turn cX3_turn 6 none, Cond.fieldLink RX3 26 "SplayOrchardModel" "turned" "I", Cond.methodLink RX3 36 yX3_across, Cond.static yX3_across]
def wsX3_split_r3 : List Cond := [Cond.code yX3_across cX3_across 1 (some .int), Cond.methodLink RX3 39 yX3_hang, Cond.instanceMethod yX3_hang, Cond.selects RX3 yX3_hang yX3_hang, Cond.code yX3_hang cX3_hang 4 none, Cond.methodLink RX3 110 yX3_lowered, Cond.instanceMethod yX3_lowered, Cond.selects RX3 yX3_lowered yX3_lowered, Cond.code yX3_lowered cX3_lowered 2 (some .int)]
def wsX3_split : List Cond := .code yX3_split cX3_split 4 (some .int) :: ((wsX3_split_r1 ++ (wsX3_split_r2 ++ wsX3_split_r3)) ++ wsX30)
def wsX3_fits : List Cond := .code yX3_fits cX3_fits 3 (some .boolean) :: ([.fieldLink RX3 9 "SplayOrchardModel" "now" "[I", .methodLink RX3 107 yX3_end, .instanceMethod yX3_end, .selects RX3 yX3_end yX3_end, .initialized RX3, .code yX3_end cX3_end 4 (some .int)] ++ wsX30)
def wsX3_join_r1 : List Cond := [Cond.fieldLink RX3 16 "SplayOrchardModel" "thrown" "I", Cond.fieldLink RX3 9 "SplayOrchardModel" "now" "[I", Cond.methodLink RX3 88 yX3_isRow, Cond.static yX3_isRow, Cond.initialized RX3, Cond.code yX3_isRow cX3_isRow 1 (some .boolean), Cond.methodLink RX3 92 yX3_no, Cond.instanceMethod yX3_no, Cond.selects RX3 yX3_no yX3_no, Cond.code yX3_no cX3_no 2 (some .int), Cond.methodLink RX3 123 yX3_fits, Cond.instanceMethod yX3_fits, Cond.selects RX3 yX3_fits yX3_fits, Cond.code yX3_fits cX3_fits 3 (some .boolean), Cond.methodLink RX3 107 yX3_end, Cond.instanceMethod yX3_end, Cond.selects RX3 yX3_end yX3_end, Cond.code yX3_end cX3_end 4 (some .int), Cond.methodLink RX3 113 yX3_together, Cond.instanceMethod yX3_together, Cond.selects RX3 yX3_together yX3_together, Cond.code yX3_together cX3_together 4 (some .int), Cond.methodLink RX3 47 yX3_raise, Cond.instanceMethod yX3_raise]
def wsX3_join_r2 : List Cond := [Cond.selects RX3 yX3_raise yX3_raise, Cond.code yX3_raise cX3_raise 3 none, Cond.methodLink RX3 32 yX3_sideOf, Cond.instanceMethod yX3_sideOf, Cond.selects RX3 yX3_sideOf yX3_sideOf, Cond.code yX3_sideOf cX3_sideOf 2 (some .int), Cond.methodLink RX3 43 yX3_turn, Cond.instanceMethod yX3_turn, Cond.selects RX3 yX3_turn yX3_turn, Cond.code yX3_turn cX3_turn 6 none, Cond.fieldLink RX3 26 "SplayOrchardModel" "turned" "I", Cond.methodLink RX3 36 yX3_across, Cond.static yX3_across, Cond.code yX3_across cX3_across 1 (some .int), Cond.methodLink RX3 39 yX3_hang, Cond.instanceMethod yX3_hang, Cond.selects RX3 yX3_hang yX3_hang, Cond.code yX3_hang cX3_hang 4 none, Cond.methodLink RX3 50 yX3_count, Cond.instanceMethod yX3_count, Cond.selects RX3 yX3_count yX3_count, Cond.code yX3_count cX3_count 2 (some .int)]
def wsX3_join : List Cond := .code yX3_join cX3_join 3 (some .int) :: ((wsX3_join_r1 ++ wsX3_join_r2) ++ wsX30)
def wsX3_apples : List Cond := .code yX3_apples cX3_apples 1 (some .int) :: ([.fieldLink RX3 78 "SplayOrchardModel" "many" "I", .methodLink RX3 127 yX3_ok, .instanceMethod yX3_ok, .selects RX3 yX3_ok yX3_ok, .initialized RX3, .code yX3_ok cX3_ok 2 (some .int), .fieldLink RX3 16 "SplayOrchardModel" "thrown" "I"] ++ wsX30)
def wsX3_turnings : List Cond := .code yX3_turnings cX3_turnings 1 (some .int) :: ([.fieldLink RX3 26 "SplayOrchardModel" "turned" "I", .methodLink RX3 127 yX3_ok, .instanceMethod yX3_ok, .selects RX3 yX3_ok yX3_ok, .initialized RX3, .code yX3_ok cX3_ok 2 (some .int), .fieldLink RX3 16 "SplayOrchardModel" "thrown" "I"] ++ wsX30)
def wsX3_sizeOf : List Cond := .code yX3_sizeOf cX3_sizeOf 2 (some .int) :: ([.fieldLink RX3 16 "SplayOrchardModel" "thrown" "I", .fieldLink RX3 9 "SplayOrchardModel" "now" "[I", .methodLink RX3 88 yX3_isRow, .static yX3_isRow, .initialized RX3, .code yX3_isRow cX3_isRow 1 (some .boolean), .methodLink RX3 50 yX3_count, .instanceMethod yX3_count, .selects RX3 yX3_count yX3_count, .code yX3_count cX3_count 2 (some .int), .methodLink RX3 92 yX3_no, .instanceMethod yX3_no, .selects RX3 yX3_no yX3_no, .code yX3_no cX3_no 2 (some .int)] ++ wsX30)
def wsX3_top : List Cond := .code yX3_top cX3_top 2 (some .int) :: ([.fieldLink RX3 16 "SplayOrchardModel" "thrown" "I", .fieldLink RX3 9 "SplayOrchardModel" "now" "[I", .methodLink RX3 88 yX3_isRow, .static yX3_isRow, .initialized RX3, .code yX3_isRow cX3_isRow 1 (some .boolean), .methodLink RX3 130 yX3_sizeAt, .instanceMethod yX3_sizeAt, .selects RX3 yX3_sizeAt yX3_sizeAt, .code yX3_sizeAt cX3_sizeAt 2 (some .int), .methodLink RX3 92 yX3_no, .instanceMethod yX3_no, .selects RX3 yX3_no yX3_no, .code yX3_no cX3_no 2 (some .int)] ++ wsX30)
def wsX3_height : List Cond := .code yX3_height cX3_height 2 (some .int) :: ([.fieldLink RX3 16 "SplayOrchardModel" "thrown" "I", .fieldLink RX3 9 "SplayOrchardModel" "now" "[I", .methodLink RX3 88 yX3_isRow, .static yX3_isRow, .initialized RX3, .code yX3_isRow cX3_isRow 1 (some .boolean), .methodLink RX3 53 yX3_high, .instanceMethod yX3_high, .selects RX3 yX3_high yX3_high, .code yX3_high cX3_high 2 (some .int), .methodLink RX3 56 Lib.Math.max.name, .static Lib.Math.max.name, .initialized "java/lang/Math", .code Lib.Math.max.name Lib.Math.max.code 2 (some .int), .methodLink RX3 92 yX3_no, .instanceMethod yX3_no, .selects RX3 yX3_no yX3_no, .code yX3_no cX3_no 2 (some .int)] ++ wsX30)
def wsX3_lowest : List Cond := .code yX3_lowest cX3_lowest 4 (some .int) :: ([.fieldLink RX3 9 "SplayOrchardModel" "now" "[I", .methodLink RX3 50 yX3_count, .instanceMethod yX3_count, .selects RX3 yX3_count yX3_count, .initialized RX3, .code yX3_count cX3_count 2 (some .int)] ++ wsX30)
def wsX3_leastHeight : List Cond := .code yX3_leastHeight cX3_leastHeight 2 (some .int) :: ([.fieldLink RX3 16 "SplayOrchardModel" "thrown" "I", .methodLink RX3 88 yX3_isRow, .static yX3_isRow, .initialized RX3, .code yX3_isRow cX3_isRow 1 (some .boolean), .methodLink RX3 133 yX3_lowest, .instanceMethod yX3_lowest, .selects RX3 yX3_lowest yX3_lowest, .code yX3_lowest cX3_lowest 4 (some .int), .fieldLink RX3 9 "SplayOrchardModel" "now" "[I", .methodLink RX3 50 yX3_count, .instanceMethod yX3_count, .selects RX3 yX3_count yX3_count, .code yX3_count cX3_count 2 (some .int), .methodLink RX3 92 yX3_no, .instanceMethod yX3_no, .selects RX3 yX3_no yX3_no, .code yX3_no cX3_no 2 (some .int)] ++ wsX30)
def wsX3_depths : List Cond := .code yX3_depths cX3_depths 2 (some .int) :: ([.fieldLink RX3 16 "SplayOrchardModel" "thrown" "I", .fieldLink RX3 9 "SplayOrchardModel" "now" "[I", .methodLink RX3 88 yX3_isRow, .static yX3_isRow, .initialized RX3, .code yX3_isRow cX3_isRow 1 (some .boolean), .methodLink RX3 62 yX3_depthsOf, .instanceMethod yX3_depthsOf, .selects RX3 yX3_depthsOf yX3_depthsOf, .code yX3_depthsOf cX3_depthsOf 3 (some .int), .methodLink RX3 92 yX3_no, .instanceMethod yX3_no, .selects RX3 yX3_no yX3_no, .code yX3_no cX3_no 2 (some .int)] ++ wsX30)
def wsX3_smallest : List Cond := .code yX3_smallest cX3_smallest 2 (some .int) :: ([.fieldLink RX3 16 "SplayOrchardModel" "thrown" "I", .fieldLink RX3 9 "SplayOrchardModel" "now" "[I", .methodLink RX3 88 yX3_isRow, .static yX3_isRow, .initialized RX3, .code yX3_isRow cX3_isRow 1 (some .boolean), .methodLink RX3 107 yX3_end, .instanceMethod yX3_end, .selects RX3 yX3_end yX3_end, .code yX3_end cX3_end 4 (some .int), .methodLink RX3 130 yX3_sizeAt, .instanceMethod yX3_sizeAt, .selects RX3 yX3_sizeAt yX3_sizeAt, .code yX3_sizeAt cX3_sizeAt 2 (some .int), .methodLink RX3 92 yX3_no, .instanceMethod yX3_no, .selects RX3 yX3_no yX3_no, .code yX3_no cX3_no 2 (some .int)] ++ wsX30)
def wsX3_greatest : List Cond := .code yX3_greatest cX3_greatest 2 (some .int) :: ([.fieldLink RX3 16 "SplayOrchardModel" "thrown" "I", .fieldLink RX3 9 "SplayOrchardModel" "now" "[I", .methodLink RX3 88 yX3_isRow, .static yX3_isRow, .initialized RX3, .code yX3_isRow cX3_isRow 1 (some .boolean), .methodLink RX3 107 yX3_end, .instanceMethod yX3_end, .selects RX3 yX3_end yX3_end, .code yX3_end cX3_end 4 (some .int), .methodLink RX3 130 yX3_sizeAt, .instanceMethod yX3_sizeAt, .selects RX3 yX3_sizeAt yX3_sizeAt, .code yX3_sizeAt cX3_sizeAt 2 (some .int), .methodLink RX3 92 yX3_no, .instanceMethod yX3_no, .selects RX3 yX3_no yX3_no, .code yX3_no cX3_no 2 (some .int)] ++ wsX30)
def wsX3_inOrder : List Cond := .code yX3_inOrder cX3_inOrder 3 (some .int) :: ([.fieldLink RX3 16 "SplayOrchardModel" "thrown" "I", .fieldLink RX3 9 "SplayOrchardModel" "now" "[I", .methodLink RX3 88 yX3_isRow, .static yX3_isRow, .initialized RX3, .code yX3_isRow cX3_isRow 1 (some .boolean), .methodLink RX3 50 yX3_count, .instanceMethod yX3_count, .selects RX3 yX3_count yX3_count, .code yX3_count cX3_count 2 (some .int), .methodLink RX3 92 yX3_no, .instanceMethod yX3_no, .selects RX3 yX3_no yX3_no, .code yX3_no cX3_no 2 (some .int), .methodLink RX3 71 yX3_nth, .instanceMethod yX3_nth, .selects RX3 yX3_nth yX3_nth, .code yX3_nth cX3_nth 4 (some .int)] ++ wsX30)
def wsX3_leaves : List Cond := .code yX3_leaves cX3_leaves 2 (some .int) :: ([.fieldLink RX3 16 "SplayOrchardModel" "thrown" "I", .fieldLink RX3 9 "SplayOrchardModel" "now" "[I", .methodLink RX3 88 yX3_isRow, .static yX3_isRow, .initialized RX3, .code yX3_isRow cX3_isRow 1 (some .boolean), .methodLink RX3 65 yX3_ends, .instanceMethod yX3_ends, .selects RX3 yX3_ends yX3_ends, .code yX3_ends cX3_ends 2 (some .int), .methodLink RX3 92 yX3_no, .instanceMethod yX3_no, .selects RX3 yX3_no yX3_no, .code yX3_no cX3_no 2 (some .int)] ++ wsX30)
def wsX3_has : List Cond := .code yX3_has cX3_has 3 (some .boolean) :: ([.fieldLink RX3 16 "SplayOrchardModel" "thrown" "I", .methodLink RX3 88 yX3_isRow, .static yX3_isRow, .initialized RX3, .code yX3_isRow cX3_isRow 1 (some .boolean), .methodLink RX3 98 yX3_find, .instanceMethod yX3_find, .selects RX3 yX3_find yX3_find, .code yX3_find cX3_find 4 (some .int), .fieldLink RX3 9 "SplayOrchardModel" "now" "[I", .methodLink RX3 136 yX3_isNot, .instanceMethod yX3_isNot, .selects RX3 yX3_isNot yX3_isNot, .code yX3_isNot cX3_isNot 2 (some .boolean)] ++ wsX30)
def wsX3_smaller : List Cond := .code yX3_smaller cX3_smaller 3 (some .int) :: ([.fieldLink RX3 16 "SplayOrchardModel" "thrown" "I", .fieldLink RX3 9 "SplayOrchardModel" "now" "[I", .methodLink RX3 88 yX3_isRow, .static yX3_isRow, .initialized RX3, .code yX3_isRow cX3_isRow 1 (some .boolean), .methodLink RX3 68 yX3_under, .instanceMethod yX3_under, .selects RX3 yX3_under yX3_under, .code yX3_under cX3_under 3 (some .int), .methodLink RX3 50 yX3_count, .instanceMethod yX3_count, .selects RX3 yX3_count yX3_count, .code yX3_count cX3_count 2 (some .int), .methodLink RX3 92 yX3_no, .instanceMethod yX3_no, .selects RX3 yX3_no yX3_no, .code yX3_no cX3_no 2 (some .int)] ++ wsX30)
def wsX3_asked : List Cond := .code yX3_asked cX3_asked 4 (some .int) :: ([.fieldLink RX3 16 "SplayOrchardModel" "thrown" "I", .methodLink RX3 88 yX3_isRow, .static yX3_isRow, .initialized RX3, .code yX3_isRow cX3_isRow 1 (some .boolean), .methodLink RX3 92 yX3_no, .instanceMethod yX3_no, .selects RX3 yX3_no yX3_no, .code yX3_no cX3_no 2 (some .int), .methodLink RX3 98 yX3_find, .instanceMethod yX3_find, .selects RX3 yX3_find yX3_find, .code yX3_find cX3_find 4 (some .int), .fieldLink RX3 9 "SplayOrchardModel" "now" "[I"] ++ wsX30)
def wsX3_depthOf : List Cond := .code yX3_depthOf cX3_depthOf 4 (some .int) :: ([.methodLink RX3 139 yX3_asked, .instanceMethod yX3_asked, .selects RX3 yX3_asked yX3_asked, .initialized RX3, .code yX3_asked cX3_asked 4 (some .int), .fieldLink RX3 16 "SplayOrchardModel" "thrown" "I", .methodLink RX3 88 yX3_isRow, .static yX3_isRow, .code yX3_isRow cX3_isRow 1 (some .boolean), .methodLink RX3 92 yX3_no, .instanceMethod yX3_no, .selects RX3 yX3_no yX3_no, .code yX3_no cX3_no 2 (some .int), .methodLink RX3 98 yX3_find, .instanceMethod yX3_find, .selects RX3 yX3_find yX3_find, .code yX3_find cX3_find 4 (some .int), .fieldLink RX3 9 "SplayOrchardModel" "now" "[I", .methodLink RX3 81 yX3_deep, .instanceMethod yX3_deep, .selects RX3 yX3_deep yX3_deep, .code yX3_deep cX3_deep 4 (some .int)] ++ wsX30)
def wsX3_above : List Cond := .code yX3_above cX3_above 4 (some .int) :: ([.fieldLink RX3 9 "SplayOrchardModel" "now" "[I", .methodLink RX3 139 yX3_asked, .instanceMethod yX3_asked, .selects RX3 yX3_asked yX3_asked, .initialized RX3, .code yX3_asked cX3_asked 4 (some .int), .fieldLink RX3 16 "SplayOrchardModel" "thrown" "I", .methodLink RX3 88 yX3_isRow, .static yX3_isRow, .code yX3_isRow cX3_isRow 1 (some .boolean), .methodLink RX3 92 yX3_no, .instanceMethod yX3_no, .selects RX3 yX3_no yX3_no, .code yX3_no cX3_no 2 (some .int), .methodLink RX3 98 yX3_find, .instanceMethod yX3_find, .selects RX3 yX3_find yX3_find, .code yX3_find cX3_find 4 (some .int), .methodLink RX3 130 yX3_sizeAt, .instanceMethod yX3_sizeAt, .selects RX3 yX3_sizeAt yX3_sizeAt, .code yX3_sizeAt cX3_sizeAt 2 (some .int)] ++ wsX30)
def wsX3_leftOf : List Cond := .code yX3_leftOf cX3_leftOf 4 (some .int) :: ([.fieldLink RX3 9 "SplayOrchardModel" "now" "[I", .methodLink RX3 139 yX3_asked, .instanceMethod yX3_asked, .selects RX3 yX3_asked yX3_asked, .initialized RX3, .code yX3_asked cX3_asked 4 (some .int), .fieldLink RX3 16 "SplayOrchardModel" "thrown" "I", .methodLink RX3 88 yX3_isRow, .static yX3_isRow, .code yX3_isRow cX3_isRow 1 (some .boolean), .methodLink RX3 92 yX3_no, .instanceMethod yX3_no, .selects RX3 yX3_no yX3_no, .code yX3_no cX3_no 2 (some .int), .methodLink RX3 98 yX3_find, .instanceMethod yX3_find, .selects RX3 yX3_find yX3_find, .code yX3_find cX3_find 4 (some .int), .methodLink RX3 130 yX3_sizeAt, .instanceMethod yX3_sizeAt, .selects RX3 yX3_sizeAt yX3_sizeAt, .code yX3_sizeAt cX3_sizeAt 2 (some .int)] ++ wsX30)
def wsX3_rightOf : List Cond := .code yX3_rightOf cX3_rightOf 4 (some .int) :: ([.fieldLink RX3 9 "SplayOrchardModel" "now" "[I", .methodLink RX3 139 yX3_asked, .instanceMethod yX3_asked, .selects RX3 yX3_asked yX3_asked, .initialized RX3, .code yX3_asked cX3_asked 4 (some .int), .fieldLink RX3 16 "SplayOrchardModel" "thrown" "I", .methodLink RX3 88 yX3_isRow, .static yX3_isRow, .code yX3_isRow cX3_isRow 1 (some .boolean), .methodLink RX3 92 yX3_no, .instanceMethod yX3_no, .selects RX3 yX3_no yX3_no, .code yX3_no cX3_no 2 (some .int), .methodLink RX3 98 yX3_find, .instanceMethod yX3_find, .selects RX3 yX3_find yX3_find, .code yX3_find cX3_find 4 (some .int), .methodLink RX3 130 yX3_sizeAt, .instanceMethod yX3_sizeAt, .selects RX3 yX3_sizeAt yX3_sizeAt, .code yX3_sizeAt cX3_sizeAt 2 (some .int)] ++ wsX30)
def wsX3_below : List Cond := .code yX3_below cX3_below 4 (some .int) :: ([.methodLink RX3 139 yX3_asked, .instanceMethod yX3_asked, .selects RX3 yX3_asked yX3_asked, .initialized RX3, .code yX3_asked cX3_asked 4 (some .int), .fieldLink RX3 16 "SplayOrchardModel" "thrown" "I", .methodLink RX3 88 yX3_isRow, .static yX3_isRow, .code yX3_isRow cX3_isRow 1 (some .boolean), .methodLink RX3 92 yX3_no, .instanceMethod yX3_no, .selects RX3 yX3_no yX3_no, .code yX3_no cX3_no 2 (some .int), .methodLink RX3 98 yX3_find, .instanceMethod yX3_find, .selects RX3 yX3_find yX3_find, .code yX3_find cX3_find 4 (some .int), .fieldLink RX3 9 "SplayOrchardModel" "now" "[I", .methodLink RX3 50 yX3_count, .instanceMethod yX3_count, .selects RX3 yX3_count yX3_count, .code yX3_count cX3_count 2 (some .int)] ++ wsX30)
def wsX3_eaten : List Cond := .code yX3_eaten cX3_eaten 4 (some .int) :: ([.fieldLink RX3 9 "SplayOrchardModel" "now" "[I", .methodLink RX3 139 yX3_asked, .instanceMethod yX3_asked, .selects RX3 yX3_asked yX3_asked, .initialized RX3, .code yX3_asked cX3_asked 4 (some .int), .fieldLink RX3 16 "SplayOrchardModel" "thrown" "I", .methodLink RX3 88 yX3_isRow, .static yX3_isRow, .code yX3_isRow cX3_isRow 1 (some .boolean), .methodLink RX3 92 yX3_no, .instanceMethod yX3_no, .selects RX3 yX3_no yX3_no, .code yX3_no cX3_no 2 (some .int), .methodLink RX3 98 yX3_find, .instanceMethod yX3_find, .selects RX3 yX3_find yX3_find, .code yX3_find cX3_find 4 (some .int)] ++ wsX30)
def wsX3_liked : List Cond := .code yX3_liked cX3_liked 5 (some .int) :: ([.fieldLink RX3 9 "SplayOrchardModel" "now" "[I", .methodLink RX3 50 yX3_count, .instanceMethod yX3_count, .selects RX3 yX3_count yX3_count, .initialized RX3, .code yX3_count cX3_count 2 (some .int), .methodLink RX3 71 yX3_nth, .instanceMethod yX3_nth, .selects RX3 yX3_nth yX3_nth, .code yX3_nth cX3_nth 4 (some .int), .methodLink RX3 130 yX3_sizeAt, .instanceMethod yX3_sizeAt, .selects RX3 yX3_sizeAt yX3_sizeAt, .code yX3_sizeAt cX3_sizeAt 2 (some .int)] ++ wsX30)
def wsX3_favourite_r1 : List Cond := [Cond.fieldLink RX3 16 "SplayOrchardModel" "thrown" "I", Cond.methodLink RX3 88 yX3_isRow, Cond.static yX3_isRow, Cond.initialized RX3, Cond.code yX3_isRow cX3_isRow 1 (some .boolean), Cond.methodLink RX3 142 yX3_liked, Cond.instanceMethod yX3_liked, Cond.selects RX3 yX3_liked yX3_liked, Cond.code yX3_liked cX3_liked 5 (some .int), Cond.fieldLink RX3 9 "SplayOrchardModel" "now" "[I", Cond.methodLink RX3 50 yX3_count, Cond.instanceMethod yX3_count, Cond.selects RX3 yX3_count yX3_count, Cond.code yX3_count cX3_count 2 (some .int), Cond.methodLink RX3 71 yX3_nth, Cond.instanceMethod yX3_nth, Cond.selects RX3 yX3_nth yX3_nth, Cond.code yX3_nth cX3_nth 4 (some .int), Cond.methodLink RX3 130 yX3_sizeAt, Cond.instanceMethod yX3_sizeAt, Cond.selects RX3 yX3_sizeAt yX3_sizeAt, Cond.code yX3_sizeAt cX3_sizeAt 2 (some .int), Cond.methodLink RX3 92 yX3_no, Cond.instanceMethod yX3_no]
def wsX3_favourite_r2 : List Cond := [Cond.selects RX3 yX3_no yX3_no, Cond.code yX3_no cX3_no 2 (some .int)]
def wsX3_favourite : List Cond := .code yX3_favourite cX3_favourite 2 (some .int) :: ((wsX3_favourite_r1 ++ wsX3_favourite_r2) ++ wsX30)
def wsX3_meet : List Cond := .code yX3_meet cX3_meet 6 (some .int) :: ([.fieldLink RX3 9 "SplayOrchardModel" "now" "[I", .methodLink RX3 139 yX3_asked, .instanceMethod yX3_asked, .selects RX3 yX3_asked yX3_asked, .initialized RX3, .code yX3_asked cX3_asked 4 (some .int), .fieldLink RX3 16 "SplayOrchardModel" "thrown" "I", .methodLink RX3 88 yX3_isRow, .static yX3_isRow, .code yX3_isRow cX3_isRow 1 (some .boolean), .methodLink RX3 92 yX3_no, .instanceMethod yX3_no, .selects RX3 yX3_no yX3_no, .code yX3_no cX3_no 2 (some .int), .methodLink RX3 98 yX3_find, .instanceMethod yX3_find, .selects RX3 yX3_find yX3_find, .code yX3_find cX3_find 4 (some .int), .methodLink RX3 81 yX3_deep, .instanceMethod yX3_deep, .selects RX3 yX3_deep yX3_deep, .code yX3_deep cX3_deep 4 (some .int)] ++ wsX30)
def wsX3_depthBehind_r1 : List Cond := [Cond.methodLink RX3 139 yX3_asked, Cond.instanceMethod yX3_asked, Cond.selects RX3 yX3_asked yX3_asked, Cond.initialized RX3, Cond.code yX3_asked cX3_asked 4 (some .int), Cond.fieldLink RX3 16 "SplayOrchardModel" "thrown" "I", Cond.methodLink RX3 88 yX3_isRow, Cond.static yX3_isRow, Cond.code yX3_isRow cX3_isRow 1 (some .boolean), Cond.methodLink RX3 92 yX3_no, Cond.instanceMethod yX3_no, Cond.selects RX3 yX3_no yX3_no, Cond.code yX3_no cX3_no 2 (some .int), Cond.methodLink RX3 98 yX3_find, Cond.instanceMethod yX3_find, Cond.selects RX3 yX3_find yX3_find, Cond.code yX3_find cX3_find 4 (some .int), Cond.fieldLink RX3 9 "SplayOrchardModel" "now" "[I", Cond.methodLink RX3 145 yX3_keep, Cond.instanceMethod yX3_keep, Cond.selects RX3 yX3_keep yX3_keep, Cond.code yX3_keep cX3_keep 1 none, Cond.fieldLink RX3 13 "SplayOrchardModel" "kept" "[I", Cond.methodLink RX3 20 arraycopyName]
def wsX3_depthBehind_r2 : List Cond := [Cond.native arraycopyName, Cond.static arraycopyName, Cond.initialized "java/lang/System", Cond.fieldLink RX3 26 "SplayOrchardModel" "turned" "I", Cond.fieldLink RX3 29 "SplayOrchardModel" "keptTurned" "I", Cond.methodLink RX3 47 yX3_raise, Cond.instanceMethod yX3_raise, Cond.selects RX3 yX3_raise yX3_raise, Cond.code yX3_raise cX3_raise 3 none, Cond.methodLink RX3 32 yX3_sideOf, Cond.instanceMethod yX3_sideOf, Cond.selects RX3 yX3_sideOf yX3_sideOf, Cond.code yX3_sideOf cX3_sideOf 2 (some .int), Cond.methodLink RX3 43 yX3_turn, Cond.instanceMethod yX3_turn, Cond.selects RX3 yX3_turn yX3_turn, Cond.code yX3_turn cX3_turn 6 none, Cond.methodLink RX3 36 yX3_across, Cond.static yX3_across, Cond.code yX3_across cX3_across 1 (some .int), Cond.methodLink RX3 39 yX3_hang, Cond.instanceMethod yX3_hang, Cond.selects RX3 yX3_hang yX3_hang, Cond.code yX3_hang cX3_hang 4 none]
def wsX3_depthBehind_r3 : List Cond := [Cond.methodLink RX3 81 yX3_deep, Cond.instanceMethod yX3_deep, Cond.selects RX3 yX3_deep yX3_deep, Cond.code yX3_deep cX3_deep 4 (some .int), Cond.methodLink RX3 148 yX3_bringBack, Cond.instanceMethod yX3_bringBack, Cond.selects RX3 yX3_bringBack yX3_bringBack, Cond.code yX3_bringBack cX3_bringBack 1 none]
def wsX3_depthBehind : List Cond := .code yX3_depthBehind cX3_depthBehind 7 (some .int) :: ((wsX3_depthBehind_r1 ++ (wsX3_depthBehind_r2 ++ wsX3_depthBehind_r3)) ++ wsX30)
def wsX3_heightBehind_r1 : List Cond := [Cond.methodLink RX3 139 yX3_asked, Cond.instanceMethod yX3_asked, Cond.selects RX3 yX3_asked yX3_asked, Cond.initialized RX3, Cond.code yX3_asked cX3_asked 4 (some .int), Cond.fieldLink RX3 16 "SplayOrchardModel" "thrown" "I", Cond.methodLink RX3 88 yX3_isRow, Cond.static yX3_isRow, Cond.code yX3_isRow cX3_isRow 1 (some .boolean), Cond.methodLink RX3 92 yX3_no, Cond.instanceMethod yX3_no, Cond.selects RX3 yX3_no yX3_no, Cond.code yX3_no cX3_no 2 (some .int), Cond.methodLink RX3 98 yX3_find, Cond.instanceMethod yX3_find, Cond.selects RX3 yX3_find yX3_find, Cond.code yX3_find cX3_find 4 (some .int), Cond.fieldLink RX3 9 "SplayOrchardModel" "now" "[I", Cond.methodLink RX3 145 yX3_keep, Cond.instanceMethod yX3_keep, Cond.selects RX3 yX3_keep yX3_keep, Cond.code yX3_keep cX3_keep 1 none, Cond.fieldLink RX3 13 "SplayOrchardModel" "kept" "[I", Cond.methodLink RX3 20 arraycopyName]
def wsX3_heightBehind_r2 : List Cond := [Cond.native arraycopyName, Cond.static arraycopyName, Cond.initialized "java/lang/System", Cond.fieldLink RX3 26 "SplayOrchardModel" "turned" "I", Cond.fieldLink RX3 29 "SplayOrchardModel" "keptTurned" "I", Cond.methodLink RX3 47 yX3_raise, Cond.instanceMethod yX3_raise, Cond.selects RX3 yX3_raise yX3_raise, Cond.code yX3_raise cX3_raise 3 none, Cond.methodLink RX3 32 yX3_sideOf, Cond.instanceMethod yX3_sideOf, Cond.selects RX3 yX3_sideOf yX3_sideOf, Cond.code yX3_sideOf cX3_sideOf 2 (some .int), Cond.methodLink RX3 43 yX3_turn, Cond.instanceMethod yX3_turn, Cond.selects RX3 yX3_turn yX3_turn, Cond.code yX3_turn cX3_turn 6 none, Cond.methodLink RX3 36 yX3_across, Cond.static yX3_across, Cond.code yX3_across cX3_across 1 (some .int), Cond.methodLink RX3 39 yX3_hang, Cond.instanceMethod yX3_hang, Cond.selects RX3 yX3_hang yX3_hang, Cond.code yX3_hang cX3_hang 4 none]
def wsX3_heightBehind_r3 : List Cond := [Cond.methodLink RX3 53 yX3_high, Cond.instanceMethod yX3_high, Cond.selects RX3 yX3_high yX3_high, Cond.code yX3_high cX3_high 2 (some .int), Cond.methodLink RX3 56 Lib.Math.max.name, Cond.static Lib.Math.max.name, Cond.initialized "java/lang/Math", Cond.code Lib.Math.max.name Lib.Math.max.code 2 (some .int), Cond.methodLink RX3 148 yX3_bringBack, Cond.instanceMethod yX3_bringBack, Cond.selects RX3 yX3_bringBack yX3_bringBack, Cond.code yX3_bringBack cX3_bringBack 1 none]
def wsX3_heightBehind : List Cond := .code yX3_heightBehind cX3_heightBehind 5 (some .int) :: ((wsX3_heightBehind_r1 ++ (wsX3_heightBehind_r2 ++ wsX3_heightBehind_r3)) ++ wsX30)
def wsX3_best_r1 : List Cond := [Cond.fieldLink RX3 9 "SplayOrchardModel" "now" "[I", Cond.methodLink RX3 50 yX3_count, Cond.instanceMethod yX3_count, Cond.selects RX3 yX3_count yX3_count, Cond.initialized RX3, Cond.code yX3_count cX3_count 2 (some .int), Cond.methodLink RX3 71 yX3_nth, Cond.instanceMethod yX3_nth, Cond.selects RX3 yX3_nth yX3_nth, Cond.code yX3_nth cX3_nth 4 (some .int), Cond.methodLink RX3 145 yX3_keep, Cond.instanceMethod yX3_keep, Cond.selects RX3 yX3_keep yX3_keep, Cond.code yX3_keep cX3_keep 1 none, Cond.fieldLink RX3 13 "SplayOrchardModel" "kept" "[I", Cond.methodLink RX3 20 arraycopyName, Cond.native arraycopyName, Cond.static arraycopyName, Cond.initialized "java/lang/System", Cond.fieldLink RX3 26 "SplayOrchardModel" "turned" "I", Cond.fieldLink RX3 29 "SplayOrchardModel" "keptTurned" "I", Cond.methodLink RX3 47 yX3_raise, Cond.instanceMethod yX3_raise, Cond.selects RX3 yX3_raise yX3_raise]
def wsX3_best_r2 : List Cond := [Cond.code yX3_raise cX3_raise 3 none, Cond.methodLink RX3 32 yX3_sideOf, Cond.instanceMethod yX3_sideOf, Cond.selects RX3 yX3_sideOf yX3_sideOf, Cond.code yX3_sideOf cX3_sideOf 2 (some .int), Cond.methodLink RX3 43 yX3_turn, Cond.instanceMethod yX3_turn, Cond.selects RX3 yX3_turn yX3_turn, Cond.code yX3_turn cX3_turn 6 none, Cond.methodLink RX3 36 yX3_across, Cond.static yX3_across, Cond.code yX3_across cX3_across 1 (some .int), Cond.methodLink RX3 39 yX3_hang, Cond.instanceMethod yX3_hang, Cond.selects RX3 yX3_hang yX3_hang, Cond.code yX3_hang cX3_hang 4 none, Cond.methodLink RX3 62 yX3_depthsOf, Cond.instanceMethod yX3_depthsOf, Cond.selects RX3 yX3_depthsOf yX3_depthsOf, Cond.code yX3_depthsOf cX3_depthsOf 3 (some .int), Cond.methodLink RX3 148 yX3_bringBack, Cond.instanceMethod yX3_bringBack, Cond.selects RX3 yX3_bringBack yX3_bringBack, Cond.code yX3_bringBack cX3_bringBack 1 none]
def wsX3_best_r3 : List Cond := [Cond.methodLink RX3 130 yX3_sizeAt, Cond.instanceMethod yX3_sizeAt, Cond.selects RX3 yX3_sizeAt yX3_sizeAt, Cond.code yX3_sizeAt cX3_sizeAt 2 (some .int)]
def wsX3_best : List Cond := .code yX3_best cX3_best 7 (some .int) :: ((wsX3_best_r1 ++ (wsX3_best_r2 ++ wsX3_best_r3)) ++ wsX30)
def wsX3_bestToEat_r1 : List Cond := [Cond.fieldLink RX3 16 "SplayOrchardModel" "thrown" "I", Cond.methodLink RX3 88 yX3_isRow, Cond.static yX3_isRow, Cond.initialized RX3, Cond.code yX3_isRow cX3_isRow 1 (some .boolean), Cond.methodLink RX3 151 yX3_best, Cond.instanceMethod yX3_best, Cond.selects RX3 yX3_best yX3_best, Cond.code yX3_best cX3_best 7 (some .int), Cond.fieldLink RX3 9 "SplayOrchardModel" "now" "[I", Cond.methodLink RX3 50 yX3_count, Cond.instanceMethod yX3_count, Cond.selects RX3 yX3_count yX3_count, Cond.code yX3_count cX3_count 2 (some .int), Cond.methodLink RX3 71 yX3_nth, Cond.instanceMethod yX3_nth, Cond.selects RX3 yX3_nth yX3_nth, Cond.code yX3_nth cX3_nth 4 (some .int), Cond.methodLink RX3 145 yX3_keep, Cond.instanceMethod yX3_keep, Cond.selects RX3 yX3_keep yX3_keep, Cond.code yX3_keep cX3_keep 1 none, Cond.fieldLink RX3 13 "SplayOrchardModel" "kept" "[I", Cond.methodLink RX3 20 arraycopyName]
def wsX3_bestToEat_r2 : List Cond := [Cond.native arraycopyName, Cond.static arraycopyName, Cond.initialized "java/lang/System", Cond.fieldLink RX3 26 "SplayOrchardModel" "turned" "I", Cond.fieldLink RX3 29 "SplayOrchardModel" "keptTurned" "I", Cond.methodLink RX3 47 yX3_raise, Cond.instanceMethod yX3_raise, Cond.selects RX3 yX3_raise yX3_raise, Cond.code yX3_raise cX3_raise 3 none, Cond.methodLink RX3 32 yX3_sideOf, Cond.instanceMethod yX3_sideOf, Cond.selects RX3 yX3_sideOf yX3_sideOf, Cond.code yX3_sideOf cX3_sideOf 2 (some .int), Cond.methodLink RX3 43 yX3_turn, Cond.instanceMethod yX3_turn, Cond.selects RX3 yX3_turn yX3_turn, Cond.code yX3_turn cX3_turn 6 none, Cond.methodLink RX3 36 yX3_across, Cond.static yX3_across, Cond.code yX3_across cX3_across 1 (some .int), Cond.methodLink RX3 39 yX3_hang, Cond.instanceMethod yX3_hang, Cond.selects RX3 yX3_hang yX3_hang, Cond.code yX3_hang cX3_hang 4 none]
def wsX3_bestToEat_r3 : List Cond := [Cond.methodLink RX3 62 yX3_depthsOf, Cond.instanceMethod yX3_depthsOf, Cond.selects RX3 yX3_depthsOf yX3_depthsOf, Cond.code yX3_depthsOf cX3_depthsOf 3 (some .int), Cond.methodLink RX3 148 yX3_bringBack, Cond.instanceMethod yX3_bringBack, Cond.selects RX3 yX3_bringBack yX3_bringBack, Cond.code yX3_bringBack cX3_bringBack 1 none, Cond.methodLink RX3 130 yX3_sizeAt, Cond.instanceMethod yX3_sizeAt, Cond.selects RX3 yX3_sizeAt yX3_sizeAt, Cond.code yX3_sizeAt cX3_sizeAt 2 (some .int), Cond.methodLink RX3 92 yX3_no, Cond.instanceMethod yX3_no, Cond.selects RX3 yX3_no yX3_no, Cond.code yX3_no cX3_no 2 (some .int)]
def wsX3_bestToEat : List Cond := .code yX3_bestToEat cX3_bestToEat 2 (some .int) :: ((wsX3_bestToEat_r1 ++ (wsX3_bestToEat_r2 ++ wsX3_bestToEat_r3)) ++ wsX30)
def wsX3_plantDepth : List Cond := .code yX3_plantDepth cX3_plantDepth 3 (some .int) :: ([.fieldLink RX3 16 "SplayOrchardModel" "thrown" "I", .methodLink RX3 88 yX3_isRow, .static yX3_isRow, .initialized RX3, .code yX3_isRow cX3_isRow 1 (some .boolean), .methodLink RX3 92 yX3_no, .instanceMethod yX3_no, .selects RX3 yX3_no yX3_no, .code yX3_no cX3_no 2 (some .int), .methodLink RX3 95 yX3_isSize, .static yX3_isSize, .code yX3_isSize cX3_isSize 1 (some .boolean), .methodLink RX3 154 yX3_plantDeep, .instanceMethod yX3_plantDeep, .selects RX3 yX3_plantDeep yX3_plantDeep, .code yX3_plantDeep cX3_plantDeep 5 (some .int), .fieldLink RX3 9 "SplayOrchardModel" "now" "[I"] ++ wsX30)
def wsX3_canJoin : List Cond := .code yX3_canJoin cX3_canJoin 3 (some .boolean) :: ([.fieldLink RX3 16 "SplayOrchardModel" "thrown" "I", .methodLink RX3 88 yX3_isRow, .static yX3_isRow, .initialized RX3, .code yX3_isRow cX3_isRow 1 (some .boolean), .methodLink RX3 123 yX3_fits, .instanceMethod yX3_fits, .selects RX3 yX3_fits yX3_fits, .code yX3_fits cX3_fits 3 (some .boolean), .fieldLink RX3 9 "SplayOrchardModel" "now" "[I", .methodLink RX3 107 yX3_end, .instanceMethod yX3_end, .selects RX3 yX3_end yX3_end, .code yX3_end cX3_end 4 (some .int), .methodLink RX3 136 yX3_isNot, .instanceMethod yX3_isNot, .selects RX3 yX3_isNot yX3_isNot, .code yX3_isNot cX3_isNot 2 (some .boolean)] ++ wsX30)
def wsX3_meanDepth : List Cond := .code yX3_meanDepth cX3_meanDepth 2 (some .double) :: ([.fieldLink RX3 16 "SplayOrchardModel" "thrown" "I", .fieldLink RX3 9 "SplayOrchardModel" "now" "[I", .methodLink RX3 88 yX3_isRow, .static yX3_isRow, .initialized RX3, .code yX3_isRow cX3_isRow 1 (some .boolean), .methodLink RX3 62 yX3_depthsOf, .instanceMethod yX3_depthsOf, .selects RX3 yX3_depthsOf yX3_depthsOf, .code yX3_depthsOf cX3_depthsOf 3 (some .int), .methodLink RX3 50 yX3_count, .instanceMethod yX3_count, .selects RX3 yX3_count yX3_count, .code yX3_count cX3_count 2 (some .int)] ++ wsX30)
def wsX3_digest_r1 : List Cond := [Cond.fieldLink RX3 16 "SplayOrchardModel" "thrown" "I", Cond.constantLong RX3 157 (72509), Cond.fieldLink RX3 78 "SplayOrchardModel" "many" "I", Cond.constantLong RX3 159 (31), Cond.fieldLink RX3 26 "SplayOrchardModel" "turned" "I", Cond.fieldLink RX3 9 "SplayOrchardModel" "now" "[I", Cond.methodLink RX3 50 yX3_count, Cond.instanceMethod yX3_count, Cond.selects RX3 yX3_count yX3_count, Cond.initialized RX3, Cond.code yX3_count cX3_count 2 (some .int), Cond.methodLink RX3 130 yX3_sizeAt, Cond.instanceMethod yX3_sizeAt, Cond.selects RX3 yX3_sizeAt yX3_sizeAt, Cond.code yX3_sizeAt cX3_sizeAt 2 (some .int), Cond.methodLink RX3 53 yX3_high, Cond.instanceMethod yX3_high, Cond.selects RX3 yX3_high yX3_high, Cond.code yX3_high cX3_high 2 (some .int), Cond.methodLink RX3 56 Lib.Math.max.name, Cond.static Lib.Math.max.name, Cond.initialized "java/lang/Math", Cond.code Lib.Math.max.name Lib.Math.max.code 2 (some .int), Cond.methodLink RX3 133 yX3_lowest]
def wsX3_digest_r2 : List Cond := [Cond.instanceMethod yX3_lowest, Cond.selects RX3 yX3_lowest yX3_lowest, Cond.code yX3_lowest cX3_lowest 4 (some .int), Cond.methodLink RX3 62 yX3_depthsOf, Cond.instanceMethod yX3_depthsOf, Cond.selects RX3 yX3_depthsOf yX3_depthsOf, Cond.code yX3_depthsOf cX3_depthsOf 3 (some .int), Cond.methodLink RX3 65 yX3_ends, Cond.instanceMethod yX3_ends, Cond.selects RX3 yX3_ends yX3_ends, Cond.code yX3_ends cX3_ends 2 (some .int), Cond.methodLink RX3 142 yX3_liked, Cond.instanceMethod yX3_liked, Cond.selects RX3 yX3_liked yX3_liked, Cond.code yX3_liked cX3_liked 5 (some .int), Cond.methodLink RX3 71 yX3_nth, Cond.instanceMethod yX3_nth, Cond.selects RX3 yX3_nth yX3_nth, Cond.code yX3_nth cX3_nth 4 (some .int), Cond.methodLink RX3 151 yX3_best, Cond.instanceMethod yX3_best, Cond.selects RX3 yX3_best yX3_best, Cond.code yX3_best cX3_best 7 (some .int), Cond.methodLink RX3 145 yX3_keep]
def wsX3_digest_r3 : List Cond := [Cond.instanceMethod yX3_keep, Cond.selects RX3 yX3_keep yX3_keep, Cond.code yX3_keep cX3_keep 1 none, Cond.fieldLink RX3 13 "SplayOrchardModel" "kept" "[I", Cond.methodLink RX3 20 arraycopyName, Cond.native arraycopyName, Cond.static arraycopyName, Cond.initialized "java/lang/System", Cond.fieldLink RX3 29 "SplayOrchardModel" "keptTurned" "I", Cond.methodLink RX3 47 yX3_raise, Cond.instanceMethod yX3_raise, Cond.selects RX3 yX3_raise yX3_raise, Cond.code yX3_raise cX3_raise 3 none, Cond.methodLink RX3 32 yX3_sideOf, Cond.instanceMethod yX3_sideOf, Cond.selects RX3 yX3_sideOf yX3_sideOf, Cond.code yX3_sideOf cX3_sideOf 2 (some .int), Cond.methodLink RX3 43 yX3_turn, Cond.instanceMethod yX3_turn, Cond.selects RX3 yX3_turn yX3_turn, Cond.code yX3_turn cX3_turn 6 none, Cond.methodLink RX3 36 yX3_across, Cond.static yX3_across, Cond.code yX3_across cX3_across 1 (some .int)]
def wsX3_digest_r4 : List Cond := [Cond.methodLink RX3 39 yX3_hang, Cond.instanceMethod yX3_hang, Cond.selects RX3 yX3_hang yX3_hang, Cond.code yX3_hang cX3_hang 4 none, Cond.methodLink RX3 148 yX3_bringBack, Cond.instanceMethod yX3_bringBack, Cond.selects RX3 yX3_bringBack yX3_bringBack, Cond.code yX3_bringBack cX3_bringBack 1 none, Cond.methodLink RX3 81 yX3_deep, Cond.instanceMethod yX3_deep, Cond.selects RX3 yX3_deep yX3_deep, Cond.code yX3_deep cX3_deep 4 (some .int)]
def wsX3_digest : List Cond := .code yX3_digest cX3_digest 7 (some .long) :: ((wsX3_digest_r1 ++ (wsX3_digest_r2 ++ (wsX3_digest_r3 ++ wsX3_digest_r4))) ++ wsX30)
def wsJ9_max_7cf53 : List Cond := .code yJ9_max_7cf53 cJ9_max_7cf53 2 (some .int) :: ([])
def wsJ9_min_7cf53 : List Cond := .code yJ9_min_7cf53 cJ9_min_7cf53 2 (some .int) :: ([])
def wsL_plant_r1 : List Cond := [Cond.classLink RL 13 "java/lang/IndexOutOfBoundsException", Cond.classLink RL 15 "java/lang/IllegalArgumentException", Cond.classLink RL 17 "java/lang/IllegalStateException", Cond.methodLink RL 7 yX2_plant, Cond.instanceMethod yX2_plant, Cond.selects RX2 yX2_plant yX2_plant, Cond.initialized RX2, Cond.code yX2_plant cX2_plant 5 (some .int), Cond.classLink RX2 32 "java/lang/IllegalStateException", Cond.initialized "java/lang/IllegalStateException", Cond.classLink RX2 45 RX0, Cond.instantiable RX0 6, Cond.initialized RX0, Cond.methodLink RX2 20 yX2_treeOf, Cond.instanceMethod yX2_treeOf, Cond.selects RX2 yX2_treeOf yX2_treeOf, Cond.code yX2_treeOf cX2_treeOf 2 (some (.object "SplayOrchard$Tree")), Cond.classLink RX2 125 "java/lang/IndexOutOfBoundsException", Cond.initialized "java/lang/IndexOutOfBoundsException", Cond.fieldLink RX2 11 "SplayOrchard" "rows" "[LSplayOrchard$Tree;", Cond.methodLink RX2 24 yX2_checkSize, Cond.static yX2_checkSize, Cond.code yX2_checkSize cX2_checkSize 1 none, Cond.classLink RX2 208 "java/lang/IllegalArgumentException"]
def wsL_plant_r2 : List Cond := [Cond.initialized "java/lang/IllegalArgumentException", Cond.methodLink RX2 28 yX2_apples, Cond.instanceMethod yX2_apples, Cond.selects RX2 yX2_apples yX2_apples, Cond.code yX2_apples cX2_apples 6 (some .int), Cond.methodLink RX2 93 yX1_count, Cond.instanceMethod yX1_count, Cond.selects RX1 yX1_count yX1_count, Cond.initialized RX1, Cond.code yX1_count cX1_count 1 (some .int), Cond.fieldLink RX1 7 "SplayOrchard$Tree" "top" "LSplayOrchard$Apple;", Cond.methodLink RX1 63 yX0_countUnder, Cond.instanceMethod yX0_countUnder, Cond.selects RX0 yX0_countUnder yX0_countUnder, Cond.code yX0_countUnder cX0_countUnder 4 (some .int), Cond.methodLink RX0 41 yX0_greatestUnder, Cond.instanceMethod yX0_greatestUnder, Cond.selects RX0 yX0_greatestUnder yX0_greatestUnder, Cond.code yX0_greatestUnder cX0_greatestUnder 2 (some (.object "SplayOrchard$Apple")), Cond.fieldLink RX0 23 "SplayOrchard$Apple" "right" "LSplayOrchard$Apple;", Cond.methodLink RX0 37 yX0_leastUnder, Cond.instanceMethod yX0_leastUnder, Cond.selects RX0 yX0_leastUnder yX0_leastUnder, Cond.code yX0_leastUnder cX0_leastUnder 2 (some (.object "SplayOrchard$Apple"))]
def wsL_plant_r3 : List Cond := [Cond.fieldLink RX0 17 "SplayOrchard$Apple" "left" "LSplayOrchard$Apple;", Cond.methodLink RX0 44 yX0_next, Cond.instanceMethod yX0_next, Cond.selects RX0 yX0_next yX0_next, Cond.code yX0_next cX0_next 2 (some (.object "SplayOrchard$Apple")), Cond.fieldLink RX0 20 "SplayOrchard$Apple" "up" "LSplayOrchard$Apple;", Cond.methodLink RX2 39 yX1_find, Cond.instanceMethod yX1_find, Cond.selects RX1 yX1_find yX1_find, Cond.code yX1_find cX1_find 3 (some (.object "SplayOrchard$Apple")), Cond.fieldLink RX1 32 "SplayOrchard$Apple" "size" "I", Cond.methodLink RX1 29 yX1_nearest, Cond.instanceMethod yX1_nearest, Cond.selects RX1 yX1_nearest yX1_nearest, Cond.code yX1_nearest cX1_nearest 4 (some (.object "SplayOrchard$Apple")), Cond.methodLink RX1 25 yX0_towards, Cond.instanceMethod yX0_towards, Cond.selects RX0 yX0_towards yX0_towards, Cond.code yX0_towards cX0_towards 2 (some (.object "SplayOrchard$Apple")), Cond.fieldLink RX0 7 "SplayOrchard$Apple" "size" "I", Cond.methodLink RX2 47 yX0_init, Cond.instanceMethod yX0_init, Cond.code yX0_init cX0_init 3 none, Cond.methodLink RX0 1 objectInit]
def wsL_plant_r4 : List Cond := [Cond.instanceMethod objectInit, Cond.code objectInit ⟨#[0xb1]⟩ 1 none, Cond.fieldLink RX0 13 "SplayOrchard$Apple" "standIn" "LSplayOrchard$Apple;", Cond.methodLink RX2 50 yX1_hang, Cond.instanceMethod yX1_hang, Cond.selects RX1 yX1_hang yX1_hang, Cond.code yX1_hang cX1_hang 3 none, Cond.methodLink RX1 36 yX1_setTop, Cond.instanceMethod yX1_setTop, Cond.selects RX1 yX1_setTop yX1_setTop, Cond.code yX1_setTop cX1_setTop 2 none, Cond.fieldLink RX1 13 "SplayOrchard$Apple" "up" "LSplayOrchard$Apple;", Cond.methodLink RX1 40 yX0_hangLeft, Cond.instanceMethod yX0_hangLeft, Cond.selects RX0 yX0_hangLeft yX0_hangLeft, Cond.code yX0_hangLeft cX0_hangLeft 2 none, Cond.methodLink RX1 43 yX0_hangRight, Cond.instanceMethod yX0_hangRight, Cond.selects RX0 yX0_hangRight yX0_hangRight, Cond.code yX0_hangRight cX0_hangRight 2 none, Cond.methodLink RX2 54 yX2_bringUp, Cond.instanceMethod yX2_bringUp, Cond.selects RX2 yX2_bringUp yX2_bringUp, Cond.code yX2_bringUp cX2_bringUp 4 (some .int)]
def wsL_plant_r5 : List Cond := [Cond.fieldLink RX2 102 "SplayOrchard" "turned" "I", Cond.methodLink RX2 215 yX1_bringUp, Cond.instanceMethod yX1_bringUp, Cond.selects RX1 yX1_bringUp yX1_bringUp, Cond.code yX1_bringUp cX1_bringUp 6 (some .int), Cond.methodLink RX1 46 yX0_depth, Cond.instanceMethod yX0_depth, Cond.selects RX0 yX0_depth yX0_depth, Cond.code yX0_depth cX0_depth 3 (some .int), Cond.methodLink RX1 50 yX0_isOnTheLeft, Cond.instanceMethod yX0_isOnTheLeft, Cond.selects RX0 yX0_isOnTheLeft yX0_isOnTheLeft, Cond.code yX0_isOnTheLeft cX0_isOnTheLeft 1 (some .boolean), Cond.methodLink RX1 54 yX0_turn, Cond.instanceMethod yX0_turn, Cond.selects RX0 yX0_turn yX0_turn, Cond.code yX0_turn cX0_turn 4 none, Cond.methodLink RX0 26 yX0_isOnTheLeft, Cond.methodLink RX0 30 yX0_hangLeft, Cond.methodLink RX0 34 yX0_hangRight]
def wsL_plant : List Cond := .codeWith yL_plant cL_plant 5 (some .int) [(0, 10, 13, 13), (0, 10, 17, 15), (0, 10, 21, 17)] :: ((wsL_plant_r1 ++ (wsL_plant_r2 ++ (wsL_plant_r3 ++ (wsL_plant_r4 ++ wsL_plant_r5)))) ++ wsX00 ++ wsX20 ++ wsX10 ++ (vx_atS RX2 36 "java/lang/IllegalStateException" ["java/lang/RuntimeException", "java/lang/Exception"]).filter goodWord ++ (vx_atS RX2 129 "java/lang/IndexOutOfBoundsException" ["java/lang/RuntimeException", "java/lang/Exception"]).filter goodWord ++ (vx_atS RX2 212 "java/lang/IllegalArgumentException" ["java/lang/RuntimeException", "java/lang/Exception"]).filter goodWord)
def wsL_eat_r1 : List Cond := [Cond.classLink RL 13 "java/lang/IndexOutOfBoundsException", Cond.classLink RL 17 "java/lang/IllegalStateException", Cond.methodLink RL 19 yX2_eat, Cond.instanceMethod yX2_eat, Cond.selects RX2 yX2_eat yX2_eat, Cond.initialized RX2, Cond.code yX2_eat cX2_eat 5 (some .int), Cond.fieldLink RX2 62 "SplayOrchard$Apple" "bites" "I", Cond.methodLink RX2 20 yX2_treeOf, Cond.instanceMethod yX2_treeOf, Cond.selects RX2 yX2_treeOf yX2_treeOf, Cond.code yX2_treeOf cX2_treeOf 2 (some (.object "SplayOrchard$Tree")), Cond.classLink RX2 125 "java/lang/IndexOutOfBoundsException", Cond.initialized "java/lang/IndexOutOfBoundsException", Cond.fieldLink RX2 11 "SplayOrchard" "rows" "[LSplayOrchard$Tree;", Cond.methodLink RX2 58 yX2_appleOf, Cond.static yX2_appleOf, Cond.code yX2_appleOf cX2_appleOf 3 (some (.object "SplayOrchard$Apple")), Cond.classLink RX2 32 "java/lang/IllegalStateException", Cond.initialized "java/lang/IllegalStateException", Cond.methodLink RX2 39 yX1_find, Cond.instanceMethod yX1_find, Cond.selects RX1 yX1_find yX1_find, Cond.initialized RX1]
def wsL_eat_r2 : List Cond := [Cond.code yX1_find cX1_find 3 (some (.object "SplayOrchard$Apple")), Cond.fieldLink RX1 32 "SplayOrchard$Apple" "size" "I", Cond.methodLink RX1 29 yX1_nearest, Cond.instanceMethod yX1_nearest, Cond.selects RX1 yX1_nearest yX1_nearest, Cond.code yX1_nearest cX1_nearest 4 (some (.object "SplayOrchard$Apple")), Cond.fieldLink RX1 7 "SplayOrchard$Tree" "top" "LSplayOrchard$Apple;", Cond.methodLink RX1 25 yX0_towards, Cond.instanceMethod yX0_towards, Cond.selects RX0 yX0_towards yX0_towards, Cond.initialized RX0, Cond.code yX0_towards cX0_towards 2 (some (.object "SplayOrchard$Apple")), Cond.fieldLink RX0 7 "SplayOrchard$Apple" "size" "I", Cond.fieldLink RX0 17 "SplayOrchard$Apple" "left" "LSplayOrchard$Apple;", Cond.fieldLink RX0 23 "SplayOrchard$Apple" "right" "LSplayOrchard$Apple;", Cond.methodLink RX2 54 yX2_bringUp, Cond.instanceMethod yX2_bringUp, Cond.selects RX2 yX2_bringUp yX2_bringUp, Cond.code yX2_bringUp cX2_bringUp 4 (some .int), Cond.fieldLink RX2 102 "SplayOrchard" "turned" "I", Cond.methodLink RX2 215 yX1_bringUp, Cond.instanceMethod yX1_bringUp, Cond.selects RX1 yX1_bringUp yX1_bringUp, Cond.code yX1_bringUp cX1_bringUp 6 (some .int)]
def wsL_eat_r3 : List Cond := [Cond.fieldLink RX1 13 "SplayOrchard$Apple" "up" "LSplayOrchard$Apple;", Cond.methodLink RX1 46 yX0_depth, Cond.instanceMethod yX0_depth, Cond.selects RX0 yX0_depth yX0_depth, Cond.code yX0_depth cX0_depth 3 (some .int), Cond.fieldLink RX0 20 "SplayOrchard$Apple" "up" "LSplayOrchard$Apple;", Cond.methodLink RX1 50 yX0_isOnTheLeft, Cond.instanceMethod yX0_isOnTheLeft, Cond.selects RX0 yX0_isOnTheLeft yX0_isOnTheLeft, Cond.code yX0_isOnTheLeft cX0_isOnTheLeft 1 (some .boolean), Cond.methodLink RX1 54 yX0_turn, Cond.instanceMethod yX0_turn, Cond.selects RX0 yX0_turn yX0_turn, Cond.code yX0_turn cX0_turn 4 none, Cond.methodLink RX0 26 yX0_isOnTheLeft, Cond.methodLink RX0 30 yX0_hangLeft, Cond.instanceMethod yX0_hangLeft, Cond.selects RX0 yX0_hangLeft yX0_hangLeft, Cond.code yX0_hangLeft cX0_hangLeft 2 none, Cond.methodLink RX0 34 yX0_hangRight, Cond.instanceMethod yX0_hangRight, Cond.selects RX0 yX0_hangRight yX0_hangRight, Cond.code yX0_hangRight cX0_hangRight 2 none]
def wsL_eat : List Cond := .codeWith yL_eat cL_eat 5 (some .int) [(0, 10, 13, 13), (0, 10, 17, 17)] :: ((wsL_eat_r1 ++ (wsL_eat_r2 ++ wsL_eat_r3)) ++ wsX00 ++ wsX20 ++ wsX10 ++ (vx_atS RX2 129 "java/lang/IndexOutOfBoundsException" ["java/lang/RuntimeException", "java/lang/Exception"]).filter goodWord ++ (vx_atS RX2 36 "java/lang/IllegalStateException" ["java/lang/RuntimeException", "java/lang/Exception"]).filter goodWord)
def wsL_pick_r1 : List Cond := [Cond.classLink RL 13 "java/lang/IndexOutOfBoundsException", Cond.classLink RL 17 "java/lang/IllegalStateException", Cond.methodLink RL 22 yX2_pick, Cond.instanceMethod yX2_pick, Cond.selects RX2 yX2_pick yX2_pick, Cond.initialized RX2, Cond.code yX2_pick cX2_pick 5 (some .int), Cond.fieldLink RX2 66 "SplayOrchard$Apple" "left" "LSplayOrchard$Apple;", Cond.fieldLink RX2 73 "SplayOrchard$Apple" "right" "LSplayOrchard$Apple;", Cond.fieldLink RX2 62 "SplayOrchard$Apple" "bites" "I", Cond.methodLink RX2 20 yX2_treeOf, Cond.instanceMethod yX2_treeOf, Cond.selects RX2 yX2_treeOf yX2_treeOf, Cond.code yX2_treeOf cX2_treeOf 2 (some (.object "SplayOrchard$Tree")), Cond.classLink RX2 125 "java/lang/IndexOutOfBoundsException", Cond.initialized "java/lang/IndexOutOfBoundsException", Cond.fieldLink RX2 11 "SplayOrchard" "rows" "[LSplayOrchard$Tree;", Cond.methodLink RX2 58 yX2_appleOf, Cond.static yX2_appleOf, Cond.code yX2_appleOf cX2_appleOf 3 (some (.object "SplayOrchard$Apple")), Cond.classLink RX2 32 "java/lang/IllegalStateException", Cond.initialized "java/lang/IllegalStateException", Cond.methodLink RX2 39 yX1_find, Cond.instanceMethod yX1_find]
def wsL_pick_r2 : List Cond := [Cond.selects RX1 yX1_find yX1_find, Cond.initialized RX1, Cond.code yX1_find cX1_find 3 (some (.object "SplayOrchard$Apple")), Cond.fieldLink RX1 32 "SplayOrchard$Apple" "size" "I", Cond.methodLink RX1 29 yX1_nearest, Cond.instanceMethod yX1_nearest, Cond.selects RX1 yX1_nearest yX1_nearest, Cond.code yX1_nearest cX1_nearest 4 (some (.object "SplayOrchard$Apple")), Cond.fieldLink RX1 7 "SplayOrchard$Tree" "top" "LSplayOrchard$Apple;", Cond.methodLink RX1 25 yX0_towards, Cond.instanceMethod yX0_towards, Cond.selects RX0 yX0_towards yX0_towards, Cond.initialized RX0, Cond.code yX0_towards cX0_towards 2 (some (.object "SplayOrchard$Apple")), Cond.fieldLink RX0 7 "SplayOrchard$Apple" "size" "I", Cond.fieldLink RX0 17 "SplayOrchard$Apple" "left" "LSplayOrchard$Apple;", Cond.fieldLink RX0 23 "SplayOrchard$Apple" "right" "LSplayOrchard$Apple;", Cond.methodLink RX2 54 yX2_bringUp, Cond.instanceMethod yX2_bringUp, Cond.selects RX2 yX2_bringUp yX2_bringUp, Cond.code yX2_bringUp cX2_bringUp 4 (some .int), Cond.fieldLink RX2 102 "SplayOrchard" "turned" "I", Cond.methodLink RX2 215 yX1_bringUp, Cond.instanceMethod yX1_bringUp]
def wsL_pick_r3 : List Cond := [Cond.selects RX1 yX1_bringUp yX1_bringUp, Cond.code yX1_bringUp cX1_bringUp 6 (some .int), Cond.fieldLink RX1 13 "SplayOrchard$Apple" "up" "LSplayOrchard$Apple;", Cond.methodLink RX1 46 yX0_depth, Cond.instanceMethod yX0_depth, Cond.selects RX0 yX0_depth yX0_depth, Cond.code yX0_depth cX0_depth 3 (some .int), Cond.fieldLink RX0 20 "SplayOrchard$Apple" "up" "LSplayOrchard$Apple;", Cond.methodLink RX1 50 yX0_isOnTheLeft, Cond.instanceMethod yX0_isOnTheLeft, Cond.selects RX0 yX0_isOnTheLeft yX0_isOnTheLeft, Cond.code yX0_isOnTheLeft cX0_isOnTheLeft 1 (some .boolean), Cond.methodLink RX1 54 yX0_turn, Cond.instanceMethod yX0_turn, Cond.selects RX0 yX0_turn yX0_turn, Cond.code yX0_turn cX0_turn 4 none, Cond.methodLink RX0 26 yX0_isOnTheLeft, Cond.methodLink RX0 30 yX0_hangLeft, Cond.instanceMethod yX0_hangLeft, Cond.selects RX0 yX0_hangLeft yX0_hangLeft, Cond.code yX0_hangLeft cX0_hangLeft 2 none, Cond.methodLink RX0 34 yX0_hangRight, Cond.instanceMethod yX0_hangRight, Cond.selects RX0 yX0_hangRight yX0_hangRight]
def wsL_pick_r4 : List Cond := [Cond.code yX0_hangRight cX0_hangRight 2 none, Cond.methodLink RX2 70 yX1_setTop, Cond.instanceMethod yX1_setTop, Cond.selects RX1 yX1_setTop yX1_setTop, Cond.code yX1_setTop cX1_setTop 2 none, Cond.methodLink RX2 76 yX2_append, Cond.instanceMethod yX2_append, Cond.selects RX2 yX2_append yX2_append, Cond.code yX2_append cX2_append 4 none, Cond.methodLink RX2 119 yX1_last, Cond.instanceMethod yX1_last, Cond.selects RX1 yX1_last yX1_last, Cond.code yX1_last cX1_last 1 (some (.object "SplayOrchard$Apple")), Cond.methodLink RX1 22 yX0_greatestUnder, Cond.instanceMethod yX0_greatestUnder, Cond.selects RX0 yX0_greatestUnder yX0_greatestUnder, Cond.code yX0_greatestUnder cX0_greatestUnder 2 (some (.object "SplayOrchard$Apple")), Cond.methodLink RX2 90 yX0_hangRight]
def wsL_pick : List Cond := .codeWith yL_pick cL_pick 5 (some .int) [(0, 10, 13, 13), (0, 10, 17, 17)] :: ((wsL_pick_r1 ++ (wsL_pick_r2 ++ (wsL_pick_r3 ++ wsL_pick_r4))) ++ wsX00 ++ wsX20 ++ wsX10 ++ (vx_atS RX2 129 "java/lang/IndexOutOfBoundsException" ["java/lang/RuntimeException", "java/lang/Exception"]).filter goodWord ++ (vx_atS RX2 36 "java/lang/IllegalStateException" ["java/lang/RuntimeException", "java/lang/Exception"]).filter goodWord)
def wsL_split_r1 : List Cond := [Cond.classLink RL 13 "java/lang/IndexOutOfBoundsException", Cond.classLink RL 15 "java/lang/IllegalArgumentException", Cond.classLink RL 17 "java/lang/IllegalStateException", Cond.methodLink RL 25 yX2_split, Cond.instanceMethod yX2_split, Cond.selects RX2 yX2_split yX2_split, Cond.initialized RX2, Cond.code yX2_split cX2_split 7 (some .int), Cond.classLink RX2 32 "java/lang/IllegalStateException", Cond.initialized "java/lang/IllegalStateException", Cond.fieldLink RX2 82 "SplayOrchard$Tree" "top" "LSplayOrchard$Apple;", Cond.fieldLink RX2 73 "SplayOrchard$Apple" "right" "LSplayOrchard$Apple;", Cond.methodLink RX2 20 yX2_treeOf, Cond.instanceMethod yX2_treeOf, Cond.selects RX2 yX2_treeOf yX2_treeOf, Cond.code yX2_treeOf cX2_treeOf 2 (some (.object "SplayOrchard$Tree")), Cond.classLink RX2 125 "java/lang/IndexOutOfBoundsException", Cond.initialized "java/lang/IndexOutOfBoundsException", Cond.fieldLink RX2 11 "SplayOrchard" "rows" "[LSplayOrchard$Tree;", Cond.methodLink RX2 24 yX2_checkSize, Cond.static yX2_checkSize, Cond.code yX2_checkSize cX2_checkSize 1 none, Cond.classLink RX2 208 "java/lang/IllegalArgumentException", Cond.initialized "java/lang/IllegalArgumentException"]
def wsL_split_r2 : List Cond := [Cond.methodLink RX2 87 yX1_greatestBelow, Cond.instanceMethod yX1_greatestBelow, Cond.selects RX1 yX1_greatestBelow yX1_greatestBelow, Cond.initialized RX1, Cond.code yX1_greatestBelow cX1_greatestBelow 4 (some (.object "SplayOrchard$Apple")), Cond.fieldLink RX1 32 "SplayOrchard$Apple" "size" "I", Cond.methodLink RX1 57 yX1_first, Cond.instanceMethod yX1_first, Cond.selects RX1 yX1_first yX1_first, Cond.code yX1_first cX1_first 1 (some (.object "SplayOrchard$Apple")), Cond.fieldLink RX1 7 "SplayOrchard$Tree" "top" "LSplayOrchard$Apple;", Cond.methodLink RX1 18 yX0_leastUnder, Cond.instanceMethod yX0_leastUnder, Cond.selects RX0 yX0_leastUnder yX0_leastUnder, Cond.initialized RX0, Cond.code yX0_leastUnder cX0_leastUnder 2 (some (.object "SplayOrchard$Apple")), Cond.fieldLink RX0 17 "SplayOrchard$Apple" "left" "LSplayOrchard$Apple;", Cond.methodLink RX1 60 yX0_next, Cond.instanceMethod yX0_next, Cond.selects RX0 yX0_next yX0_next, Cond.code yX0_next cX0_next 2 (some (.object "SplayOrchard$Apple")), Cond.fieldLink RX0 23 "SplayOrchard$Apple" "right" "LSplayOrchard$Apple;", Cond.fieldLink RX0 20 "SplayOrchard$Apple" "up" "LSplayOrchard$Apple;", Cond.methodLink RX0 37 yX0_leastUnder]
def wsL_split_r3 : List Cond := [Cond.methodLink RX2 70 yX1_setTop, Cond.instanceMethod yX1_setTop, Cond.selects RX1 yX1_setTop yX1_setTop, Cond.code yX1_setTop cX1_setTop 2 none, Cond.fieldLink RX1 13 "SplayOrchard$Apple" "up" "LSplayOrchard$Apple;", Cond.methodLink RX2 54 yX2_bringUp, Cond.instanceMethod yX2_bringUp, Cond.selects RX2 yX2_bringUp yX2_bringUp, Cond.code yX2_bringUp cX2_bringUp 4 (some .int), Cond.fieldLink RX2 102 "SplayOrchard" "turned" "I", Cond.methodLink RX2 215 yX1_bringUp, Cond.instanceMethod yX1_bringUp, Cond.selects RX1 yX1_bringUp yX1_bringUp, Cond.code yX1_bringUp cX1_bringUp 6 (some .int), Cond.methodLink RX1 46 yX0_depth, Cond.instanceMethod yX0_depth, Cond.selects RX0 yX0_depth yX0_depth, Cond.code yX0_depth cX0_depth 3 (some .int), Cond.methodLink RX1 50 yX0_isOnTheLeft, Cond.instanceMethod yX0_isOnTheLeft, Cond.selects RX0 yX0_isOnTheLeft yX0_isOnTheLeft, Cond.code yX0_isOnTheLeft cX0_isOnTheLeft 1 (some .boolean), Cond.methodLink RX1 54 yX0_turn, Cond.instanceMethod yX0_turn]
def wsL_split_r4 : List Cond := [Cond.selects RX0 yX0_turn yX0_turn, Cond.code yX0_turn cX0_turn 4 none, Cond.methodLink RX0 26 yX0_isOnTheLeft, Cond.methodLink RX0 30 yX0_hangLeft, Cond.instanceMethod yX0_hangLeft, Cond.selects RX0 yX0_hangLeft yX0_hangLeft, Cond.code yX0_hangLeft cX0_hangLeft 2 none, Cond.methodLink RX0 34 yX0_hangRight, Cond.instanceMethod yX0_hangRight, Cond.selects RX0 yX0_hangRight yX0_hangRight, Cond.code yX0_hangRight cX0_hangRight 2 none, Cond.methodLink RX2 90 yX0_hangRight, Cond.methodLink RX2 93 yX1_count, Cond.instanceMethod yX1_count, Cond.selects RX1 yX1_count yX1_count, Cond.code yX1_count cX1_count 1 (some .int), Cond.methodLink RX1 63 yX0_countUnder, Cond.instanceMethod yX0_countUnder, Cond.selects RX0 yX0_countUnder yX0_countUnder, Cond.code yX0_countUnder cX0_countUnder 4 (some .int), Cond.methodLink RX0 41 yX0_greatestUnder, Cond.instanceMethod yX0_greatestUnder, Cond.selects RX0 yX0_greatestUnder yX0_greatestUnder, Cond.code yX0_greatestUnder cX0_greatestUnder 2 (some (.object "SplayOrchard$Apple"))]
def wsL_split_r5 : List Cond := [Cond.methodLink RX0 44 yX0_next]
def wsL_split : List Cond := .codeWith yL_split cL_split 6 (some .int) [(0, 12, 15, 13), (0, 12, 19, 15), (0, 12, 23, 17)] :: ((wsL_split_r1 ++ (wsL_split_r2 ++ (wsL_split_r3 ++ (wsL_split_r4 ++ wsL_split_r5)))) ++ wsX10 ++ wsX00 ++ wsX20 ++ (vx_atS RX2 36 "java/lang/IllegalStateException" ["java/lang/RuntimeException", "java/lang/Exception"]).filter goodWord ++ (vx_atS RX2 129 "java/lang/IndexOutOfBoundsException" ["java/lang/RuntimeException", "java/lang/Exception"]).filter goodWord ++ (vx_atS RX2 212 "java/lang/IllegalArgumentException" ["java/lang/RuntimeException", "java/lang/Exception"]).filter goodWord)
def wsL_join_r1 : List Cond := [Cond.classLink RL 13 "java/lang/IndexOutOfBoundsException", Cond.classLink RL 17 "java/lang/IllegalStateException", Cond.methodLink RL 29 yX2_join, Cond.instanceMethod yX2_join, Cond.selects RX2 yX2_join yX2_join, Cond.initialized RX2, Cond.code yX2_join cX2_join 5 (some .int), Cond.classLink RX2 32 "java/lang/IllegalStateException", Cond.initialized "java/lang/IllegalStateException", Cond.fieldLink RX2 82 "SplayOrchard$Tree" "top" "LSplayOrchard$Apple;", Cond.methodLink RX2 20 yX2_treeOf, Cond.instanceMethod yX2_treeOf, Cond.selects RX2 yX2_treeOf yX2_treeOf, Cond.code yX2_treeOf cX2_treeOf 2 (some (.object "SplayOrchard$Tree")), Cond.classLink RX2 125 "java/lang/IndexOutOfBoundsException", Cond.initialized "java/lang/IndexOutOfBoundsException", Cond.fieldLink RX2 11 "SplayOrchard" "rows" "[LSplayOrchard$Tree;", Cond.methodLink RX2 96 yX2_mayJoin, Cond.static yX2_mayJoin, Cond.code yX2_mayJoin cX2_mayJoin 4 (some .boolean), Cond.fieldLink RX2 130 "SplayOrchard$Apple" "size" "I", Cond.methodLink RX2 119 yX1_last, Cond.instanceMethod yX1_last, Cond.selects RX1 yX1_last yX1_last]
def wsL_join_r2 : List Cond := [Cond.initialized RX1, Cond.code yX1_last cX1_last 1 (some (.object "SplayOrchard$Apple")), Cond.fieldLink RX1 7 "SplayOrchard$Tree" "top" "LSplayOrchard$Apple;", Cond.methodLink RX1 22 yX0_greatestUnder, Cond.instanceMethod yX0_greatestUnder, Cond.selects RX0 yX0_greatestUnder yX0_greatestUnder, Cond.initialized RX0, Cond.code yX0_greatestUnder cX0_greatestUnder 2 (some (.object "SplayOrchard$Apple")), Cond.fieldLink RX0 23 "SplayOrchard$Apple" "right" "LSplayOrchard$Apple;", Cond.methodLink RX2 115 yX1_first, Cond.instanceMethod yX1_first, Cond.selects RX1 yX1_first yX1_first, Cond.code yX1_first cX1_first 1 (some (.object "SplayOrchard$Apple")), Cond.methodLink RX1 18 yX0_leastUnder, Cond.instanceMethod yX0_leastUnder, Cond.selects RX0 yX0_leastUnder yX0_leastUnder, Cond.code yX0_leastUnder cX0_leastUnder 2 (some (.object "SplayOrchard$Apple")), Cond.fieldLink RX0 17 "SplayOrchard$Apple" "left" "LSplayOrchard$Apple;", Cond.methodLink RX2 76 yX2_append, Cond.instanceMethod yX2_append, Cond.selects RX2 yX2_append yX2_append, Cond.code yX2_append cX2_append 4 none, Cond.methodLink RX2 70 yX1_setTop, Cond.instanceMethod yX1_setTop]
def wsL_join_r3 : List Cond := [Cond.selects RX1 yX1_setTop yX1_setTop, Cond.code yX1_setTop cX1_setTop 2 none, Cond.fieldLink RX1 13 "SplayOrchard$Apple" "up" "LSplayOrchard$Apple;", Cond.methodLink RX2 54 yX2_bringUp, Cond.instanceMethod yX2_bringUp, Cond.selects RX2 yX2_bringUp yX2_bringUp, Cond.code yX2_bringUp cX2_bringUp 4 (some .int), Cond.fieldLink RX2 102 "SplayOrchard" "turned" "I", Cond.methodLink RX2 215 yX1_bringUp, Cond.instanceMethod yX1_bringUp, Cond.selects RX1 yX1_bringUp yX1_bringUp, Cond.code yX1_bringUp cX1_bringUp 6 (some .int), Cond.methodLink RX1 46 yX0_depth, Cond.instanceMethod yX0_depth, Cond.selects RX0 yX0_depth yX0_depth, Cond.code yX0_depth cX0_depth 3 (some .int), Cond.fieldLink RX0 20 "SplayOrchard$Apple" "up" "LSplayOrchard$Apple;", Cond.methodLink RX1 50 yX0_isOnTheLeft, Cond.instanceMethod yX0_isOnTheLeft, Cond.selects RX0 yX0_isOnTheLeft yX0_isOnTheLeft, Cond.code yX0_isOnTheLeft cX0_isOnTheLeft 1 (some .boolean), Cond.methodLink RX1 54 yX0_turn, Cond.instanceMethod yX0_turn, Cond.selects RX0 yX0_turn yX0_turn]
def wsL_join_r4 : List Cond := [Cond.code yX0_turn cX0_turn 4 none, Cond.methodLink RX0 26 yX0_isOnTheLeft, Cond.methodLink RX0 30 yX0_hangLeft, Cond.instanceMethod yX0_hangLeft, Cond.selects RX0 yX0_hangLeft yX0_hangLeft, Cond.code yX0_hangLeft cX0_hangLeft 2 none, Cond.methodLink RX0 34 yX0_hangRight, Cond.instanceMethod yX0_hangRight, Cond.selects RX0 yX0_hangRight yX0_hangRight, Cond.code yX0_hangRight cX0_hangRight 2 none, Cond.methodLink RX2 90 yX0_hangRight, Cond.methodLink RX2 93 yX1_count, Cond.instanceMethod yX1_count, Cond.selects RX1 yX1_count yX1_count, Cond.code yX1_count cX1_count 1 (some .int), Cond.methodLink RX1 63 yX0_countUnder, Cond.instanceMethod yX0_countUnder, Cond.selects RX0 yX0_countUnder yX0_countUnder, Cond.code yX0_countUnder cX0_countUnder 4 (some .int), Cond.methodLink RX0 41 yX0_greatestUnder, Cond.methodLink RX0 37 yX0_leastUnder, Cond.methodLink RX0 44 yX0_next, Cond.instanceMethod yX0_next, Cond.selects RX0 yX0_next yX0_next]
def wsL_join_r5 : List Cond := [Cond.code yX0_next cX0_next 2 (some (.object "SplayOrchard$Apple"))]
def wsL_join : List Cond := .codeWith yL_join cL_join 5 (some .int) [(0, 10, 13, 13), (0, 10, 17, 17)] :: ((wsL_join_r1 ++ (wsL_join_r2 ++ (wsL_join_r3 ++ (wsL_join_r4 ++ wsL_join_r5)))) ++ wsX10 ++ wsX20 ++ wsX00 ++ (vx_atS RX2 36 "java/lang/IllegalStateException" ["java/lang/RuntimeException", "java/lang/Exception"]).filter goodWord ++ (vx_atS RX2 129 "java/lang/IndexOutOfBoundsException" ["java/lang/RuntimeException", "java/lang/Exception"]).filter goodWord)
def wsL_sizeOf_r1 : List Cond := [Cond.classLink RL 13 "java/lang/IndexOutOfBoundsException", Cond.methodLink RL 32 yX2_sizeOf, Cond.instanceMethod yX2_sizeOf, Cond.selects RX2 yX2_sizeOf yX2_sizeOf, Cond.initialized RX2, Cond.code yX2_sizeOf cX2_sizeOf 2 (some .int), Cond.methodLink RX2 20 yX2_treeOf, Cond.instanceMethod yX2_treeOf, Cond.selects RX2 yX2_treeOf yX2_treeOf, Cond.code yX2_treeOf cX2_treeOf 2 (some (.object "SplayOrchard$Tree")), Cond.classLink RX2 125 "java/lang/IndexOutOfBoundsException", Cond.initialized "java/lang/IndexOutOfBoundsException", Cond.fieldLink RX2 11 "SplayOrchard" "rows" "[LSplayOrchard$Tree;", Cond.methodLink RX2 93 yX1_count, Cond.instanceMethod yX1_count, Cond.selects RX1 yX1_count yX1_count, Cond.initialized RX1, Cond.code yX1_count cX1_count 1 (some .int), Cond.fieldLink RX1 7 "SplayOrchard$Tree" "top" "LSplayOrchard$Apple;", Cond.methodLink RX1 63 yX0_countUnder, Cond.instanceMethod yX0_countUnder, Cond.selects RX0 yX0_countUnder yX0_countUnder, Cond.initialized RX0, Cond.code yX0_countUnder cX0_countUnder 4 (some .int)]
def wsL_sizeOf_r2 : List Cond := [Cond.methodLink RX0 41 yX0_greatestUnder, Cond.instanceMethod yX0_greatestUnder, Cond.selects RX0 yX0_greatestUnder yX0_greatestUnder, Cond.code yX0_greatestUnder cX0_greatestUnder 2 (some (.object "SplayOrchard$Apple")), Cond.fieldLink RX0 23 "SplayOrchard$Apple" "right" "LSplayOrchard$Apple;", Cond.methodLink RX0 37 yX0_leastUnder, Cond.instanceMethod yX0_leastUnder, Cond.selects RX0 yX0_leastUnder yX0_leastUnder, Cond.code yX0_leastUnder cX0_leastUnder 2 (some (.object "SplayOrchard$Apple")), Cond.fieldLink RX0 17 "SplayOrchard$Apple" "left" "LSplayOrchard$Apple;", Cond.methodLink RX0 44 yX0_next, Cond.instanceMethod yX0_next, Cond.selects RX0 yX0_next yX0_next, Cond.code yX0_next cX0_next 2 (some (.object "SplayOrchard$Apple")), Cond.fieldLink RX0 20 "SplayOrchard$Apple" "up" "LSplayOrchard$Apple;"]
def wsL_sizeOf : List Cond := .codeWith yL_sizeOf cL_sizeOf 4 (some .int) [(0, 9, 12, 13)] :: ((wsL_sizeOf_r1 ++ wsL_sizeOf_r2) ++ wsX20 ++ wsX10 ++ wsX00 ++ (vx_atS RX2 129 "java/lang/IndexOutOfBoundsException" ["java/lang/RuntimeException", "java/lang/Exception"]).filter goodWord)
def wsL_top : List Cond := .codeWith yL_top cL_top 4 (some .int) [(0, 9, 12, 13)] :: ([.classLink RL 13 "java/lang/IndexOutOfBoundsException", .methodLink RL 36 yX2_top, .instanceMethod yX2_top, .selects RX2 yX2_top yX2_top, .initialized RX2, .code yX2_top cX2_top 2 (some .int), .fieldLink RX2 82 "SplayOrchard$Tree" "top" "LSplayOrchard$Apple;", .methodLink RX2 20 yX2_treeOf, .instanceMethod yX2_treeOf, .selects RX2 yX2_treeOf yX2_treeOf, .code yX2_treeOf cX2_treeOf 2 (some (.object "SplayOrchard$Tree")), .classLink RX2 125 "java/lang/IndexOutOfBoundsException", .initialized "java/lang/IndexOutOfBoundsException", .fieldLink RX2 11 "SplayOrchard" "rows" "[LSplayOrchard$Tree;", .methodLink RX2 105 yX2_sizeOrNone, .static yX2_sizeOrNone, .code yX2_sizeOrNone cX2_sizeOrNone 1 (some .int), .fieldLink RX2 130 "SplayOrchard$Apple" "size" "I"] ++ wsX10 ++ wsX20 ++ wsX00 ++ (vx_atS RX2 129 "java/lang/IndexOutOfBoundsException" ["java/lang/RuntimeException", "java/lang/Exception"]).filter goodWord)
def wsL_height_r1 : List Cond := [Cond.classLink RL 13 "java/lang/IndexOutOfBoundsException", Cond.methodLink RL 39 yX2_height, Cond.instanceMethod yX2_height, Cond.selects RX2 yX2_height yX2_height, Cond.initialized RX2, Cond.code yX2_height cX2_height 2 (some .int), Cond.methodLink RX2 20 yX2_treeOf, Cond.instanceMethod yX2_treeOf, Cond.selects RX2 yX2_treeOf yX2_treeOf, Cond.code yX2_treeOf cX2_treeOf 2 (some (.object "SplayOrchard$Tree")), Cond.classLink RX2 125 "java/lang/IndexOutOfBoundsException", Cond.initialized "java/lang/IndexOutOfBoundsException", Cond.fieldLink RX2 11 "SplayOrchard" "rows" "[LSplayOrchard$Tree;", Cond.methodLink RX2 109 yX1_levels, Cond.instanceMethod yX1_levels, Cond.selects RX1 yX1_levels yX1_levels, Cond.initialized RX1, Cond.code yX1_levels cX1_levels 3 (some .int), Cond.methodLink RX1 66 Lib.Math.max.name, Cond.static Lib.Math.max.name, Cond.initialized "java/lang/Math", Cond.code Lib.Math.max.name Lib.Math.max.code 2 (some .int), Cond.methodLink RX1 57 yX1_first, Cond.instanceMethod yX1_first]
def wsL_height_r2 : List Cond := [Cond.selects RX1 yX1_first yX1_first, Cond.code yX1_first cX1_first 1 (some (.object "SplayOrchard$Apple")), Cond.fieldLink RX1 7 "SplayOrchard$Tree" "top" "LSplayOrchard$Apple;", Cond.methodLink RX1 18 yX0_leastUnder, Cond.instanceMethod yX0_leastUnder, Cond.selects RX0 yX0_leastUnder yX0_leastUnder, Cond.initialized RX0, Cond.code yX0_leastUnder cX0_leastUnder 2 (some (.object "SplayOrchard$Apple")), Cond.fieldLink RX0 17 "SplayOrchard$Apple" "left" "LSplayOrchard$Apple;", Cond.methodLink RX1 46 yX0_depth, Cond.instanceMethod yX0_depth, Cond.selects RX0 yX0_depth yX0_depth, Cond.code yX0_depth cX0_depth 3 (some .int), Cond.fieldLink RX0 20 "SplayOrchard$Apple" "up" "LSplayOrchard$Apple;", Cond.methodLink RX1 60 yX0_next, Cond.instanceMethod yX0_next, Cond.selects RX0 yX0_next yX0_next, Cond.code yX0_next cX0_next 2 (some (.object "SplayOrchard$Apple")), Cond.fieldLink RX0 23 "SplayOrchard$Apple" "right" "LSplayOrchard$Apple;", Cond.methodLink RX0 37 yX0_leastUnder]
def wsL_height : List Cond := .codeWith yL_height cL_height 4 (some .int) [(0, 9, 12, 13)] :: ((wsL_height_r1 ++ wsL_height_r2) ++ wsX20 ++ wsX10 ++ wsX00 ++ (vx_atS RX2 129 "java/lang/IndexOutOfBoundsException" ["java/lang/RuntimeException", "java/lang/Exception"]).filter goodWord)
def wsL_leastHeight_r1 : List Cond := [Cond.classLink RL 13 "java/lang/IndexOutOfBoundsException", Cond.methodLink RL 42 yX2_leastHeight, Cond.instanceMethod yX2_leastHeight, Cond.selects RX2 yX2_leastHeight yX2_leastHeight, Cond.initialized RX2, Cond.code yX2_leastHeight cX2_leastHeight 5 (some .int), Cond.methodLink RX2 20 yX2_treeOf, Cond.instanceMethod yX2_treeOf, Cond.selects RX2 yX2_treeOf yX2_treeOf, Cond.code yX2_treeOf cX2_treeOf 2 (some (.object "SplayOrchard$Tree")), Cond.classLink RX2 125 "java/lang/IndexOutOfBoundsException", Cond.initialized "java/lang/IndexOutOfBoundsException", Cond.fieldLink RX2 11 "SplayOrchard" "rows" "[LSplayOrchard$Tree;", Cond.methodLink RX2 93 yX1_count, Cond.instanceMethod yX1_count, Cond.selects RX1 yX1_count yX1_count, Cond.initialized RX1, Cond.code yX1_count cX1_count 1 (some .int), Cond.fieldLink RX1 7 "SplayOrchard$Tree" "top" "LSplayOrchard$Apple;", Cond.methodLink RX1 63 yX0_countUnder, Cond.instanceMethod yX0_countUnder, Cond.selects RX0 yX0_countUnder yX0_countUnder, Cond.initialized RX0, Cond.code yX0_countUnder cX0_countUnder 4 (some .int)]
def wsL_leastHeight_r2 : List Cond := [Cond.methodLink RX0 41 yX0_greatestUnder, Cond.instanceMethod yX0_greatestUnder, Cond.selects RX0 yX0_greatestUnder yX0_greatestUnder, Cond.code yX0_greatestUnder cX0_greatestUnder 2 (some (.object "SplayOrchard$Apple")), Cond.fieldLink RX0 23 "SplayOrchard$Apple" "right" "LSplayOrchard$Apple;", Cond.methodLink RX0 37 yX0_leastUnder, Cond.instanceMethod yX0_leastUnder, Cond.selects RX0 yX0_leastUnder yX0_leastUnder, Cond.code yX0_leastUnder cX0_leastUnder 2 (some (.object "SplayOrchard$Apple")), Cond.fieldLink RX0 17 "SplayOrchard$Apple" "left" "LSplayOrchard$Apple;", Cond.methodLink RX0 44 yX0_next, Cond.instanceMethod yX0_next, Cond.selects RX0 yX0_next yX0_next, Cond.code yX0_next cX0_next 2 (some (.object "SplayOrchard$Apple")), Cond.fieldLink RX0 20 "SplayOrchard$Apple" "up" "LSplayOrchard$Apple;"]
def wsL_leastHeight : List Cond := .codeWith yL_leastHeight cL_leastHeight 4 (some .int) [(0, 9, 12, 13)] :: ((wsL_leastHeight_r1 ++ wsL_leastHeight_r2) ++ wsX20 ++ wsX10 ++ wsX00 ++ (vx_atS RX2 129 "java/lang/IndexOutOfBoundsException" ["java/lang/RuntimeException", "java/lang/Exception"]).filter goodWord)
def wsL_depths_r1 : List Cond := [Cond.classLink RL 13 "java/lang/IndexOutOfBoundsException", Cond.methodLink RL 45 yX2_depths, Cond.instanceMethod yX2_depths, Cond.selects RX2 yX2_depths yX2_depths, Cond.initialized RX2, Cond.code yX2_depths cX2_depths 2 (some .int), Cond.methodLink RX2 20 yX2_treeOf, Cond.instanceMethod yX2_treeOf, Cond.selects RX2 yX2_treeOf yX2_treeOf, Cond.code yX2_treeOf cX2_treeOf 2 (some (.object "SplayOrchard$Tree")), Cond.classLink RX2 125 "java/lang/IndexOutOfBoundsException", Cond.initialized "java/lang/IndexOutOfBoundsException", Cond.fieldLink RX2 11 "SplayOrchard" "rows" "[LSplayOrchard$Tree;", Cond.methodLink RX2 112 yX1_depthSum, Cond.instanceMethod yX1_depthSum, Cond.selects RX1 yX1_depthSum yX1_depthSum, Cond.initialized RX1, Cond.code yX1_depthSum cX1_depthSum 3 (some .int), Cond.methodLink RX1 57 yX1_first, Cond.instanceMethod yX1_first, Cond.selects RX1 yX1_first yX1_first, Cond.code yX1_first cX1_first 1 (some (.object "SplayOrchard$Apple")), Cond.fieldLink RX1 7 "SplayOrchard$Tree" "top" "LSplayOrchard$Apple;", Cond.methodLink RX1 18 yX0_leastUnder]
def wsL_depths_r2 : List Cond := [Cond.instanceMethod yX0_leastUnder, Cond.selects RX0 yX0_leastUnder yX0_leastUnder, Cond.initialized RX0, Cond.code yX0_leastUnder cX0_leastUnder 2 (some (.object "SplayOrchard$Apple")), Cond.fieldLink RX0 17 "SplayOrchard$Apple" "left" "LSplayOrchard$Apple;", Cond.methodLink RX1 46 yX0_depth, Cond.instanceMethod yX0_depth, Cond.selects RX0 yX0_depth yX0_depth, Cond.code yX0_depth cX0_depth 3 (some .int), Cond.fieldLink RX0 20 "SplayOrchard$Apple" "up" "LSplayOrchard$Apple;", Cond.methodLink RX1 60 yX0_next, Cond.instanceMethod yX0_next, Cond.selects RX0 yX0_next yX0_next, Cond.code yX0_next cX0_next 2 (some (.object "SplayOrchard$Apple")), Cond.fieldLink RX0 23 "SplayOrchard$Apple" "right" "LSplayOrchard$Apple;", Cond.methodLink RX0 37 yX0_leastUnder]
def wsL_depths : List Cond := .codeWith yL_depths cL_depths 4 (some .int) [(0, 9, 12, 13)] :: ((wsL_depths_r1 ++ wsL_depths_r2) ++ wsX20 ++ wsX10 ++ wsX00 ++ (vx_atS RX2 129 "java/lang/IndexOutOfBoundsException" ["java/lang/RuntimeException", "java/lang/Exception"]).filter goodWord)
def wsL_smallest_r1 : List Cond := [Cond.classLink RL 13 "java/lang/IndexOutOfBoundsException", Cond.methodLink RL 48 yX2_smallest, Cond.instanceMethod yX2_smallest, Cond.selects RX2 yX2_smallest yX2_smallest, Cond.initialized RX2, Cond.code yX2_smallest cX2_smallest 2 (some .int), Cond.methodLink RX2 20 yX2_treeOf, Cond.instanceMethod yX2_treeOf, Cond.selects RX2 yX2_treeOf yX2_treeOf, Cond.code yX2_treeOf cX2_treeOf 2 (some (.object "SplayOrchard$Tree")), Cond.classLink RX2 125 "java/lang/IndexOutOfBoundsException", Cond.initialized "java/lang/IndexOutOfBoundsException", Cond.fieldLink RX2 11 "SplayOrchard" "rows" "[LSplayOrchard$Tree;", Cond.methodLink RX2 115 yX1_first, Cond.instanceMethod yX1_first, Cond.selects RX1 yX1_first yX1_first, Cond.initialized RX1, Cond.code yX1_first cX1_first 1 (some (.object "SplayOrchard$Apple")), Cond.fieldLink RX1 7 "SplayOrchard$Tree" "top" "LSplayOrchard$Apple;", Cond.methodLink RX1 18 yX0_leastUnder, Cond.instanceMethod yX0_leastUnder, Cond.selects RX0 yX0_leastUnder yX0_leastUnder, Cond.initialized RX0, Cond.code yX0_leastUnder cX0_leastUnder 2 (some (.object "SplayOrchard$Apple"))]
def wsL_smallest_r2 : List Cond := [Cond.fieldLink RX0 17 "SplayOrchard$Apple" "left" "LSplayOrchard$Apple;", Cond.methodLink RX2 105 yX2_sizeOrNone, Cond.static yX2_sizeOrNone, Cond.code yX2_sizeOrNone cX2_sizeOrNone 1 (some .int), Cond.fieldLink RX2 130 "SplayOrchard$Apple" "size" "I"]
def wsL_smallest : List Cond := .codeWith yL_smallest cL_smallest 4 (some .int) [(0, 9, 12, 13)] :: ((wsL_smallest_r1 ++ wsL_smallest_r2) ++ wsX20 ++ wsX10 ++ wsX00 ++ (vx_atS RX2 129 "java/lang/IndexOutOfBoundsException" ["java/lang/RuntimeException", "java/lang/Exception"]).filter goodWord)
def wsL_greatest_r1 : List Cond := [Cond.classLink RL 13 "java/lang/IndexOutOfBoundsException", Cond.methodLink RL 51 yX2_greatest, Cond.instanceMethod yX2_greatest, Cond.selects RX2 yX2_greatest yX2_greatest, Cond.initialized RX2, Cond.code yX2_greatest cX2_greatest 2 (some .int), Cond.methodLink RX2 20 yX2_treeOf, Cond.instanceMethod yX2_treeOf, Cond.selects RX2 yX2_treeOf yX2_treeOf, Cond.code yX2_treeOf cX2_treeOf 2 (some (.object "SplayOrchard$Tree")), Cond.classLink RX2 125 "java/lang/IndexOutOfBoundsException", Cond.initialized "java/lang/IndexOutOfBoundsException", Cond.fieldLink RX2 11 "SplayOrchard" "rows" "[LSplayOrchard$Tree;", Cond.methodLink RX2 119 yX1_last, Cond.instanceMethod yX1_last, Cond.selects RX1 yX1_last yX1_last, Cond.initialized RX1, Cond.code yX1_last cX1_last 1 (some (.object "SplayOrchard$Apple")), Cond.fieldLink RX1 7 "SplayOrchard$Tree" "top" "LSplayOrchard$Apple;", Cond.methodLink RX1 22 yX0_greatestUnder, Cond.instanceMethod yX0_greatestUnder, Cond.selects RX0 yX0_greatestUnder yX0_greatestUnder, Cond.initialized RX0, Cond.code yX0_greatestUnder cX0_greatestUnder 2 (some (.object "SplayOrchard$Apple"))]
def wsL_greatest_r2 : List Cond := [Cond.fieldLink RX0 23 "SplayOrchard$Apple" "right" "LSplayOrchard$Apple;", Cond.methodLink RX2 105 yX2_sizeOrNone, Cond.static yX2_sizeOrNone, Cond.code yX2_sizeOrNone cX2_sizeOrNone 1 (some .int), Cond.fieldLink RX2 130 "SplayOrchard$Apple" "size" "I"]
def wsL_greatest : List Cond := .codeWith yL_greatest cL_greatest 4 (some .int) [(0, 9, 12, 13)] :: ((wsL_greatest_r1 ++ wsL_greatest_r2) ++ wsX20 ++ wsX10 ++ wsX00 ++ (vx_atS RX2 129 "java/lang/IndexOutOfBoundsException" ["java/lang/RuntimeException", "java/lang/Exception"]).filter goodWord)
def wsL_inOrder_r1 : List Cond := [Cond.classLink RL 13 "java/lang/IndexOutOfBoundsException", Cond.methodLink RL 54 yX2_inOrder, Cond.instanceMethod yX2_inOrder, Cond.selects RX2 yX2_inOrder yX2_inOrder, Cond.initialized RX2, Cond.code yX2_inOrder cX2_inOrder 4 (some .int), Cond.classLink RX2 125 "java/lang/IndexOutOfBoundsException", Cond.initialized "java/lang/IndexOutOfBoundsException", Cond.fieldLink RX2 130 "SplayOrchard$Apple" "size" "I", Cond.methodLink RX2 20 yX2_treeOf, Cond.instanceMethod yX2_treeOf, Cond.selects RX2 yX2_treeOf yX2_treeOf, Cond.code yX2_treeOf cX2_treeOf 2 (some (.object "SplayOrchard$Tree")), Cond.fieldLink RX2 11 "SplayOrchard" "rows" "[LSplayOrchard$Tree;", Cond.methodLink RX2 122 yX1_at, Cond.instanceMethod yX1_at, Cond.selects RX1 yX1_at yX1_at, Cond.initialized RX1, Cond.code yX1_at cX1_at 4 (some (.object "SplayOrchard$Apple")), Cond.methodLink RX1 57 yX1_first, Cond.instanceMethod yX1_first, Cond.selects RX1 yX1_first yX1_first, Cond.code yX1_first cX1_first 1 (some (.object "SplayOrchard$Apple")), Cond.fieldLink RX1 7 "SplayOrchard$Tree" "top" "LSplayOrchard$Apple;"]
def wsL_inOrder_r2 : List Cond := [Cond.methodLink RX1 18 yX0_leastUnder, Cond.instanceMethod yX0_leastUnder, Cond.selects RX0 yX0_leastUnder yX0_leastUnder, Cond.initialized RX0, Cond.code yX0_leastUnder cX0_leastUnder 2 (some (.object "SplayOrchard$Apple")), Cond.fieldLink RX0 17 "SplayOrchard$Apple" "left" "LSplayOrchard$Apple;", Cond.methodLink RX1 60 yX0_next, Cond.instanceMethod yX0_next, Cond.selects RX0 yX0_next yX0_next, Cond.code yX0_next cX0_next 2 (some (.object "SplayOrchard$Apple")), Cond.fieldLink RX0 23 "SplayOrchard$Apple" "right" "LSplayOrchard$Apple;", Cond.fieldLink RX0 20 "SplayOrchard$Apple" "up" "LSplayOrchard$Apple;", Cond.methodLink RX0 37 yX0_leastUnder]
def wsL_inOrder : List Cond := .codeWith yL_inOrder cL_inOrder 5 (some .int) [(0, 10, 13, 13)] :: ((wsL_inOrder_r1 ++ wsL_inOrder_r2) ++ wsX00 ++ wsX20 ++ wsX10 ++ (vx_atS RX2 129 "java/lang/IndexOutOfBoundsException" ["java/lang/RuntimeException", "java/lang/Exception"]).filter goodWord)
def wsL_leaves_r1 : List Cond := [Cond.classLink RL 13 "java/lang/IndexOutOfBoundsException", Cond.methodLink RL 57 yX2_leaves, Cond.instanceMethod yX2_leaves, Cond.selects RX2 yX2_leaves yX2_leaves, Cond.initialized RX2, Cond.code yX2_leaves cX2_leaves 2 (some .int), Cond.methodLink RX2 20 yX2_treeOf, Cond.instanceMethod yX2_treeOf, Cond.selects RX2 yX2_treeOf yX2_treeOf, Cond.code yX2_treeOf cX2_treeOf 2 (some (.object "SplayOrchard$Tree")), Cond.classLink RX2 125 "java/lang/IndexOutOfBoundsException", Cond.initialized "java/lang/IndexOutOfBoundsException", Cond.fieldLink RX2 11 "SplayOrchard" "rows" "[LSplayOrchard$Tree;", Cond.methodLink RX2 133 yX1_leafCount, Cond.instanceMethod yX1_leafCount, Cond.selects RX1 yX1_leafCount yX1_leafCount, Cond.initialized RX1, Cond.code yX1_leafCount cX1_leafCount 3 (some .int), Cond.fieldLink RX1 72 "SplayOrchard$Apple" "left" "LSplayOrchard$Apple;", Cond.fieldLink RX1 75 "SplayOrchard$Apple" "right" "LSplayOrchard$Apple;", Cond.methodLink RX1 57 yX1_first, Cond.instanceMethod yX1_first, Cond.selects RX1 yX1_first yX1_first, Cond.code yX1_first cX1_first 1 (some (.object "SplayOrchard$Apple"))]
def wsL_leaves_r2 : List Cond := [Cond.fieldLink RX1 7 "SplayOrchard$Tree" "top" "LSplayOrchard$Apple;", Cond.methodLink RX1 18 yX0_leastUnder, Cond.instanceMethod yX0_leastUnder, Cond.selects RX0 yX0_leastUnder yX0_leastUnder, Cond.initialized RX0, Cond.code yX0_leastUnder cX0_leastUnder 2 (some (.object "SplayOrchard$Apple")), Cond.fieldLink RX0 17 "SplayOrchard$Apple" "left" "LSplayOrchard$Apple;", Cond.methodLink RX1 60 yX0_next, Cond.instanceMethod yX0_next, Cond.selects RX0 yX0_next yX0_next, Cond.code yX0_next cX0_next 2 (some (.object "SplayOrchard$Apple")), Cond.fieldLink RX0 23 "SplayOrchard$Apple" "right" "LSplayOrchard$Apple;", Cond.fieldLink RX0 20 "SplayOrchard$Apple" "up" "LSplayOrchard$Apple;", Cond.methodLink RX0 37 yX0_leastUnder]
def wsL_leaves : List Cond := .codeWith yL_leaves cL_leaves 4 (some .int) [(0, 9, 12, 13)] :: ((wsL_leaves_r1 ++ wsL_leaves_r2) ++ wsX20 ++ wsX00 ++ wsX10 ++ (vx_atS RX2 129 "java/lang/IndexOutOfBoundsException" ["java/lang/RuntimeException", "java/lang/Exception"]).filter goodWord)
def wsL_has_r1 : List Cond := [Cond.classLink RL 13 "java/lang/IndexOutOfBoundsException", Cond.methodLink RL 60 yX2_has, Cond.instanceMethod yX2_has, Cond.selects RX2 yX2_has yX2_has, Cond.initialized RX2, Cond.code yX2_has cX2_has 3 (some .boolean), Cond.methodLink RX2 20 yX2_treeOf, Cond.instanceMethod yX2_treeOf, Cond.selects RX2 yX2_treeOf yX2_treeOf, Cond.code yX2_treeOf cX2_treeOf 2 (some (.object "SplayOrchard$Tree")), Cond.classLink RX2 125 "java/lang/IndexOutOfBoundsException", Cond.initialized "java/lang/IndexOutOfBoundsException", Cond.fieldLink RX2 11 "SplayOrchard" "rows" "[LSplayOrchard$Tree;", Cond.methodLink RX2 39 yX1_find, Cond.instanceMethod yX1_find, Cond.selects RX1 yX1_find yX1_find, Cond.initialized RX1, Cond.code yX1_find cX1_find 3 (some (.object "SplayOrchard$Apple")), Cond.fieldLink RX1 32 "SplayOrchard$Apple" "size" "I", Cond.methodLink RX1 29 yX1_nearest, Cond.instanceMethod yX1_nearest, Cond.selects RX1 yX1_nearest yX1_nearest, Cond.code yX1_nearest cX1_nearest 4 (some (.object "SplayOrchard$Apple")), Cond.fieldLink RX1 7 "SplayOrchard$Tree" "top" "LSplayOrchard$Apple;"]
def wsL_has_r2 : List Cond := [Cond.methodLink RX1 25 yX0_towards, Cond.instanceMethod yX0_towards, Cond.selects RX0 yX0_towards yX0_towards, Cond.initialized RX0, Cond.code yX0_towards cX0_towards 2 (some (.object "SplayOrchard$Apple")), Cond.fieldLink RX0 7 "SplayOrchard$Apple" "size" "I", Cond.fieldLink RX0 17 "SplayOrchard$Apple" "left" "LSplayOrchard$Apple;", Cond.fieldLink RX0 23 "SplayOrchard$Apple" "right" "LSplayOrchard$Apple;"]
def wsL_has : List Cond := .codeWith yL_has cL_has 5 (some .int) [(0, 17, 20, 13)] :: ((wsL_has_r1 ++ wsL_has_r2) ++ wsX20 ++ wsX00 ++ wsX10 ++ (vx_atS RX2 129 "java/lang/IndexOutOfBoundsException" ["java/lang/RuntimeException", "java/lang/Exception"]).filter goodWord)
def wsL_smaller_r1 : List Cond := [Cond.classLink RL 13 "java/lang/IndexOutOfBoundsException", Cond.methodLink RL 64 yX2_smaller, Cond.instanceMethod yX2_smaller, Cond.selects RX2 yX2_smaller yX2_smaller, Cond.initialized RX2, Cond.code yX2_smaller cX2_smaller 3 (some .int), Cond.methodLink RX2 20 yX2_treeOf, Cond.instanceMethod yX2_treeOf, Cond.selects RX2 yX2_treeOf yX2_treeOf, Cond.code yX2_treeOf cX2_treeOf 2 (some (.object "SplayOrchard$Tree")), Cond.classLink RX2 125 "java/lang/IndexOutOfBoundsException", Cond.initialized "java/lang/IndexOutOfBoundsException", Cond.fieldLink RX2 11 "SplayOrchard" "rows" "[LSplayOrchard$Tree;", Cond.methodLink RX2 136 yX1_countBelow, Cond.instanceMethod yX1_countBelow, Cond.selects RX1 yX1_countBelow yX1_countBelow, Cond.initialized RX1, Cond.code yX1_countBelow cX1_countBelow 4 (some .int), Cond.fieldLink RX1 32 "SplayOrchard$Apple" "size" "I", Cond.methodLink RX1 57 yX1_first, Cond.instanceMethod yX1_first, Cond.selects RX1 yX1_first yX1_first, Cond.code yX1_first cX1_first 1 (some (.object "SplayOrchard$Apple")), Cond.fieldLink RX1 7 "SplayOrchard$Tree" "top" "LSplayOrchard$Apple;"]
def wsL_smaller_r2 : List Cond := [Cond.methodLink RX1 18 yX0_leastUnder, Cond.instanceMethod yX0_leastUnder, Cond.selects RX0 yX0_leastUnder yX0_leastUnder, Cond.initialized RX0, Cond.code yX0_leastUnder cX0_leastUnder 2 (some (.object "SplayOrchard$Apple")), Cond.fieldLink RX0 17 "SplayOrchard$Apple" "left" "LSplayOrchard$Apple;", Cond.methodLink RX1 60 yX0_next, Cond.instanceMethod yX0_next, Cond.selects RX0 yX0_next yX0_next, Cond.code yX0_next cX0_next 2 (some (.object "SplayOrchard$Apple")), Cond.fieldLink RX0 23 "SplayOrchard$Apple" "right" "LSplayOrchard$Apple;", Cond.fieldLink RX0 20 "SplayOrchard$Apple" "up" "LSplayOrchard$Apple;", Cond.methodLink RX0 37 yX0_leastUnder]
def wsL_smaller : List Cond := .codeWith yL_smaller cL_smaller 5 (some .int) [(0, 10, 13, 13)] :: ((wsL_smaller_r1 ++ wsL_smaller_r2) ++ wsX20 ++ wsX00 ++ wsX10 ++ (vx_atS RX2 129 "java/lang/IndexOutOfBoundsException" ["java/lang/RuntimeException", "java/lang/Exception"]).filter goodWord)
def wsL_depthOf_r1 : List Cond := [Cond.classLink RL 13 "java/lang/IndexOutOfBoundsException", Cond.classLink RL 17 "java/lang/IllegalStateException", Cond.methodLink RL 67 yX2_depthOf, Cond.instanceMethod yX2_depthOf, Cond.selects RX2 yX2_depthOf yX2_depthOf, Cond.initialized RX2, Cond.code yX2_depthOf cX2_depthOf 3 (some .int), Cond.methodLink RX2 20 yX2_treeOf, Cond.instanceMethod yX2_treeOf, Cond.selects RX2 yX2_treeOf yX2_treeOf, Cond.code yX2_treeOf cX2_treeOf 2 (some (.object "SplayOrchard$Tree")), Cond.classLink RX2 125 "java/lang/IndexOutOfBoundsException", Cond.initialized "java/lang/IndexOutOfBoundsException", Cond.fieldLink RX2 11 "SplayOrchard" "rows" "[LSplayOrchard$Tree;", Cond.methodLink RX2 58 yX2_appleOf, Cond.static yX2_appleOf, Cond.code yX2_appleOf cX2_appleOf 3 (some (.object "SplayOrchard$Apple")), Cond.classLink RX2 32 "java/lang/IllegalStateException", Cond.initialized "java/lang/IllegalStateException", Cond.methodLink RX2 39 yX1_find, Cond.instanceMethod yX1_find, Cond.selects RX1 yX1_find yX1_find, Cond.initialized RX1, Cond.code yX1_find cX1_find 3 (some (.object "SplayOrchard$Apple"))]
def wsL_depthOf_r2 : List Cond := [Cond.fieldLink RX1 32 "SplayOrchard$Apple" "size" "I", Cond.methodLink RX1 29 yX1_nearest, Cond.instanceMethod yX1_nearest, Cond.selects RX1 yX1_nearest yX1_nearest, Cond.code yX1_nearest cX1_nearest 4 (some (.object "SplayOrchard$Apple")), Cond.fieldLink RX1 7 "SplayOrchard$Tree" "top" "LSplayOrchard$Apple;", Cond.methodLink RX1 25 yX0_towards, Cond.instanceMethod yX0_towards, Cond.selects RX0 yX0_towards yX0_towards, Cond.initialized RX0, Cond.code yX0_towards cX0_towards 2 (some (.object "SplayOrchard$Apple")), Cond.fieldLink RX0 7 "SplayOrchard$Apple" "size" "I", Cond.fieldLink RX0 17 "SplayOrchard$Apple" "left" "LSplayOrchard$Apple;", Cond.fieldLink RX0 23 "SplayOrchard$Apple" "right" "LSplayOrchard$Apple;", Cond.methodLink RX2 140 yX0_depth, Cond.instanceMethod yX0_depth, Cond.selects RX0 yX0_depth yX0_depth, Cond.code yX0_depth cX0_depth 3 (some .int), Cond.fieldLink RX0 20 "SplayOrchard$Apple" "up" "LSplayOrchard$Apple;"]
def wsL_depthOf : List Cond := .codeWith yL_depthOf cL_depthOf 5 (some .int) [(0, 10, 13, 13), (0, 10, 17, 17)] :: ((wsL_depthOf_r1 ++ wsL_depthOf_r2) ++ wsX20 ++ wsX00 ++ wsX10 ++ (vx_atS RX2 129 "java/lang/IndexOutOfBoundsException" ["java/lang/RuntimeException", "java/lang/Exception"]).filter goodWord ++ (vx_atS RX2 36 "java/lang/IllegalStateException" ["java/lang/RuntimeException", "java/lang/Exception"]).filter goodWord)
def wsL_above_r1 : List Cond := [Cond.classLink RL 13 "java/lang/IndexOutOfBoundsException", Cond.classLink RL 17 "java/lang/IllegalStateException", Cond.methodLink RL 70 yX2_above, Cond.instanceMethod yX2_above, Cond.selects RX2 yX2_above yX2_above, Cond.initialized RX2, Cond.code yX2_above cX2_above 3 (some .int), Cond.fieldLink RX2 143 "SplayOrchard$Apple" "up" "LSplayOrchard$Apple;", Cond.methodLink RX2 20 yX2_treeOf, Cond.instanceMethod yX2_treeOf, Cond.selects RX2 yX2_treeOf yX2_treeOf, Cond.code yX2_treeOf cX2_treeOf 2 (some (.object "SplayOrchard$Tree")), Cond.classLink RX2 125 "java/lang/IndexOutOfBoundsException", Cond.initialized "java/lang/IndexOutOfBoundsException", Cond.fieldLink RX2 11 "SplayOrchard" "rows" "[LSplayOrchard$Tree;", Cond.methodLink RX2 58 yX2_appleOf, Cond.static yX2_appleOf, Cond.code yX2_appleOf cX2_appleOf 3 (some (.object "SplayOrchard$Apple")), Cond.classLink RX2 32 "java/lang/IllegalStateException", Cond.initialized "java/lang/IllegalStateException", Cond.methodLink RX2 39 yX1_find, Cond.instanceMethod yX1_find, Cond.selects RX1 yX1_find yX1_find, Cond.initialized RX1]
def wsL_above_r2 : List Cond := [Cond.code yX1_find cX1_find 3 (some (.object "SplayOrchard$Apple")), Cond.fieldLink RX1 32 "SplayOrchard$Apple" "size" "I", Cond.methodLink RX1 29 yX1_nearest, Cond.instanceMethod yX1_nearest, Cond.selects RX1 yX1_nearest yX1_nearest, Cond.code yX1_nearest cX1_nearest 4 (some (.object "SplayOrchard$Apple")), Cond.fieldLink RX1 7 "SplayOrchard$Tree" "top" "LSplayOrchard$Apple;", Cond.methodLink RX1 25 yX0_towards, Cond.instanceMethod yX0_towards, Cond.selects RX0 yX0_towards yX0_towards, Cond.initialized RX0, Cond.code yX0_towards cX0_towards 2 (some (.object "SplayOrchard$Apple")), Cond.fieldLink RX0 7 "SplayOrchard$Apple" "size" "I", Cond.fieldLink RX0 17 "SplayOrchard$Apple" "left" "LSplayOrchard$Apple;", Cond.fieldLink RX0 23 "SplayOrchard$Apple" "right" "LSplayOrchard$Apple;", Cond.methodLink RX2 105 yX2_sizeOrNone, Cond.static yX2_sizeOrNone, Cond.code yX2_sizeOrNone cX2_sizeOrNone 1 (some .int), Cond.fieldLink RX2 130 "SplayOrchard$Apple" "size" "I"]
def wsL_above : List Cond := .codeWith yL_above cL_above 5 (some .int) [(0, 10, 13, 13), (0, 10, 17, 17)] :: ((wsL_above_r1 ++ wsL_above_r2) ++ wsX00 ++ wsX20 ++ wsX10 ++ (vx_atS RX2 129 "java/lang/IndexOutOfBoundsException" ["java/lang/RuntimeException", "java/lang/Exception"]).filter goodWord ++ (vx_atS RX2 36 "java/lang/IllegalStateException" ["java/lang/RuntimeException", "java/lang/Exception"]).filter goodWord)
def wsL_leftOf_r1 : List Cond := [Cond.classLink RL 13 "java/lang/IndexOutOfBoundsException", Cond.classLink RL 17 "java/lang/IllegalStateException", Cond.methodLink RL 73 yX2_leftOf, Cond.instanceMethod yX2_leftOf, Cond.selects RX2 yX2_leftOf yX2_leftOf, Cond.initialized RX2, Cond.code yX2_leftOf cX2_leftOf 3 (some .int), Cond.fieldLink RX2 66 "SplayOrchard$Apple" "left" "LSplayOrchard$Apple;", Cond.methodLink RX2 20 yX2_treeOf, Cond.instanceMethod yX2_treeOf, Cond.selects RX2 yX2_treeOf yX2_treeOf, Cond.code yX2_treeOf cX2_treeOf 2 (some (.object "SplayOrchard$Tree")), Cond.classLink RX2 125 "java/lang/IndexOutOfBoundsException", Cond.initialized "java/lang/IndexOutOfBoundsException", Cond.fieldLink RX2 11 "SplayOrchard" "rows" "[LSplayOrchard$Tree;", Cond.methodLink RX2 58 yX2_appleOf, Cond.static yX2_appleOf, Cond.code yX2_appleOf cX2_appleOf 3 (some (.object "SplayOrchard$Apple")), Cond.classLink RX2 32 "java/lang/IllegalStateException", Cond.initialized "java/lang/IllegalStateException", Cond.methodLink RX2 39 yX1_find, Cond.instanceMethod yX1_find, Cond.selects RX1 yX1_find yX1_find, Cond.initialized RX1]
def wsL_leftOf_r2 : List Cond := [Cond.code yX1_find cX1_find 3 (some (.object "SplayOrchard$Apple")), Cond.fieldLink RX1 32 "SplayOrchard$Apple" "size" "I", Cond.methodLink RX1 29 yX1_nearest, Cond.instanceMethod yX1_nearest, Cond.selects RX1 yX1_nearest yX1_nearest, Cond.code yX1_nearest cX1_nearest 4 (some (.object "SplayOrchard$Apple")), Cond.fieldLink RX1 7 "SplayOrchard$Tree" "top" "LSplayOrchard$Apple;", Cond.methodLink RX1 25 yX0_towards, Cond.instanceMethod yX0_towards, Cond.selects RX0 yX0_towards yX0_towards, Cond.initialized RX0, Cond.code yX0_towards cX0_towards 2 (some (.object "SplayOrchard$Apple")), Cond.fieldLink RX0 7 "SplayOrchard$Apple" "size" "I", Cond.fieldLink RX0 17 "SplayOrchard$Apple" "left" "LSplayOrchard$Apple;", Cond.fieldLink RX0 23 "SplayOrchard$Apple" "right" "LSplayOrchard$Apple;", Cond.methodLink RX2 105 yX2_sizeOrNone, Cond.static yX2_sizeOrNone, Cond.code yX2_sizeOrNone cX2_sizeOrNone 1 (some .int), Cond.fieldLink RX2 130 "SplayOrchard$Apple" "size" "I"]
def wsL_leftOf : List Cond := .codeWith yL_leftOf cL_leftOf 5 (some .int) [(0, 10, 13, 13), (0, 10, 17, 17)] :: ((wsL_leftOf_r1 ++ wsL_leftOf_r2) ++ wsX00 ++ wsX20 ++ wsX10 ++ (vx_atS RX2 129 "java/lang/IndexOutOfBoundsException" ["java/lang/RuntimeException", "java/lang/Exception"]).filter goodWord ++ (vx_atS RX2 36 "java/lang/IllegalStateException" ["java/lang/RuntimeException", "java/lang/Exception"]).filter goodWord)
def wsL_rightOf_r1 : List Cond := [Cond.classLink RL 13 "java/lang/IndexOutOfBoundsException", Cond.classLink RL 17 "java/lang/IllegalStateException", Cond.methodLink RL 76 yX2_rightOf, Cond.instanceMethod yX2_rightOf, Cond.selects RX2 yX2_rightOf yX2_rightOf, Cond.initialized RX2, Cond.code yX2_rightOf cX2_rightOf 3 (some .int), Cond.fieldLink RX2 73 "SplayOrchard$Apple" "right" "LSplayOrchard$Apple;", Cond.methodLink RX2 20 yX2_treeOf, Cond.instanceMethod yX2_treeOf, Cond.selects RX2 yX2_treeOf yX2_treeOf, Cond.code yX2_treeOf cX2_treeOf 2 (some (.object "SplayOrchard$Tree")), Cond.classLink RX2 125 "java/lang/IndexOutOfBoundsException", Cond.initialized "java/lang/IndexOutOfBoundsException", Cond.fieldLink RX2 11 "SplayOrchard" "rows" "[LSplayOrchard$Tree;", Cond.methodLink RX2 58 yX2_appleOf, Cond.static yX2_appleOf, Cond.code yX2_appleOf cX2_appleOf 3 (some (.object "SplayOrchard$Apple")), Cond.classLink RX2 32 "java/lang/IllegalStateException", Cond.initialized "java/lang/IllegalStateException", Cond.methodLink RX2 39 yX1_find, Cond.instanceMethod yX1_find, Cond.selects RX1 yX1_find yX1_find, Cond.initialized RX1]
def wsL_rightOf_r2 : List Cond := [Cond.code yX1_find cX1_find 3 (some (.object "SplayOrchard$Apple")), Cond.fieldLink RX1 32 "SplayOrchard$Apple" "size" "I", Cond.methodLink RX1 29 yX1_nearest, Cond.instanceMethod yX1_nearest, Cond.selects RX1 yX1_nearest yX1_nearest, Cond.code yX1_nearest cX1_nearest 4 (some (.object "SplayOrchard$Apple")), Cond.fieldLink RX1 7 "SplayOrchard$Tree" "top" "LSplayOrchard$Apple;", Cond.methodLink RX1 25 yX0_towards, Cond.instanceMethod yX0_towards, Cond.selects RX0 yX0_towards yX0_towards, Cond.initialized RX0, Cond.code yX0_towards cX0_towards 2 (some (.object "SplayOrchard$Apple")), Cond.fieldLink RX0 7 "SplayOrchard$Apple" "size" "I", Cond.fieldLink RX0 17 "SplayOrchard$Apple" "left" "LSplayOrchard$Apple;", Cond.fieldLink RX0 23 "SplayOrchard$Apple" "right" "LSplayOrchard$Apple;", Cond.methodLink RX2 105 yX2_sizeOrNone, Cond.static yX2_sizeOrNone, Cond.code yX2_sizeOrNone cX2_sizeOrNone 1 (some .int), Cond.fieldLink RX2 130 "SplayOrchard$Apple" "size" "I"]
def wsL_rightOf : List Cond := .codeWith yL_rightOf cL_rightOf 5 (some .int) [(0, 10, 13, 13), (0, 10, 17, 17)] :: ((wsL_rightOf_r1 ++ wsL_rightOf_r2) ++ wsX00 ++ wsX20 ++ wsX10 ++ (vx_atS RX2 129 "java/lang/IndexOutOfBoundsException" ["java/lang/RuntimeException", "java/lang/Exception"]).filter goodWord ++ (vx_atS RX2 36 "java/lang/IllegalStateException" ["java/lang/RuntimeException", "java/lang/Exception"]).filter goodWord)
def wsL_below_r1 : List Cond := [Cond.classLink RL 13 "java/lang/IndexOutOfBoundsException", Cond.classLink RL 17 "java/lang/IllegalStateException", Cond.methodLink RL 79 yX2_below, Cond.instanceMethod yX2_below, Cond.selects RX2 yX2_below yX2_below, Cond.initialized RX2, Cond.code yX2_below cX2_below 3 (some .int), Cond.methodLink RX2 20 yX2_treeOf, Cond.instanceMethod yX2_treeOf, Cond.selects RX2 yX2_treeOf yX2_treeOf, Cond.code yX2_treeOf cX2_treeOf 2 (some (.object "SplayOrchard$Tree")), Cond.classLink RX2 125 "java/lang/IndexOutOfBoundsException", Cond.initialized "java/lang/IndexOutOfBoundsException", Cond.fieldLink RX2 11 "SplayOrchard" "rows" "[LSplayOrchard$Tree;", Cond.methodLink RX2 58 yX2_appleOf, Cond.static yX2_appleOf, Cond.code yX2_appleOf cX2_appleOf 3 (some (.object "SplayOrchard$Apple")), Cond.classLink RX2 32 "java/lang/IllegalStateException", Cond.initialized "java/lang/IllegalStateException", Cond.methodLink RX2 39 yX1_find, Cond.instanceMethod yX1_find, Cond.selects RX1 yX1_find yX1_find, Cond.initialized RX1, Cond.code yX1_find cX1_find 3 (some (.object "SplayOrchard$Apple"))]
def wsL_below_r2 : List Cond := [Cond.fieldLink RX1 32 "SplayOrchard$Apple" "size" "I", Cond.methodLink RX1 29 yX1_nearest, Cond.instanceMethod yX1_nearest, Cond.selects RX1 yX1_nearest yX1_nearest, Cond.code yX1_nearest cX1_nearest 4 (some (.object "SplayOrchard$Apple")), Cond.fieldLink RX1 7 "SplayOrchard$Tree" "top" "LSplayOrchard$Apple;", Cond.methodLink RX1 25 yX0_towards, Cond.instanceMethod yX0_towards, Cond.selects RX0 yX0_towards yX0_towards, Cond.initialized RX0, Cond.code yX0_towards cX0_towards 2 (some (.object "SplayOrchard$Apple")), Cond.fieldLink RX0 7 "SplayOrchard$Apple" "size" "I", Cond.fieldLink RX0 17 "SplayOrchard$Apple" "left" "LSplayOrchard$Apple;", Cond.fieldLink RX0 23 "SplayOrchard$Apple" "right" "LSplayOrchard$Apple;", Cond.methodLink RX2 146 yX0_countUnder, Cond.instanceMethod yX0_countUnder, Cond.selects RX0 yX0_countUnder yX0_countUnder, Cond.code yX0_countUnder cX0_countUnder 4 (some .int), Cond.methodLink RX0 41 yX0_greatestUnder, Cond.instanceMethod yX0_greatestUnder, Cond.selects RX0 yX0_greatestUnder yX0_greatestUnder, Cond.code yX0_greatestUnder cX0_greatestUnder 2 (some (.object "SplayOrchard$Apple")), Cond.methodLink RX0 37 yX0_leastUnder, Cond.instanceMethod yX0_leastUnder]
def wsL_below_r3 : List Cond := [Cond.selects RX0 yX0_leastUnder yX0_leastUnder, Cond.code yX0_leastUnder cX0_leastUnder 2 (some (.object "SplayOrchard$Apple")), Cond.methodLink RX0 44 yX0_next, Cond.instanceMethod yX0_next, Cond.selects RX0 yX0_next yX0_next, Cond.code yX0_next cX0_next 2 (some (.object "SplayOrchard$Apple")), Cond.fieldLink RX0 20 "SplayOrchard$Apple" "up" "LSplayOrchard$Apple;"]
def wsL_below : List Cond := .codeWith yL_below cL_below 5 (some .int) [(0, 10, 13, 13), (0, 10, 17, 17)] :: ((wsL_below_r1 ++ (wsL_below_r2 ++ wsL_below_r3)) ++ wsX20 ++ wsX00 ++ wsX10 ++ (vx_atS RX2 129 "java/lang/IndexOutOfBoundsException" ["java/lang/RuntimeException", "java/lang/Exception"]).filter goodWord ++ (vx_atS RX2 36 "java/lang/IllegalStateException" ["java/lang/RuntimeException", "java/lang/Exception"]).filter goodWord)
def wsL_eaten_r1 : List Cond := [Cond.classLink RL 13 "java/lang/IndexOutOfBoundsException", Cond.classLink RL 17 "java/lang/IllegalStateException", Cond.methodLink RL 82 yX2_eaten, Cond.instanceMethod yX2_eaten, Cond.selects RX2 yX2_eaten yX2_eaten, Cond.initialized RX2, Cond.code yX2_eaten cX2_eaten 3 (some .int), Cond.fieldLink RX2 62 "SplayOrchard$Apple" "bites" "I", Cond.methodLink RX2 20 yX2_treeOf, Cond.instanceMethod yX2_treeOf, Cond.selects RX2 yX2_treeOf yX2_treeOf, Cond.code yX2_treeOf cX2_treeOf 2 (some (.object "SplayOrchard$Tree")), Cond.classLink RX2 125 "java/lang/IndexOutOfBoundsException", Cond.initialized "java/lang/IndexOutOfBoundsException", Cond.fieldLink RX2 11 "SplayOrchard" "rows" "[LSplayOrchard$Tree;", Cond.methodLink RX2 58 yX2_appleOf, Cond.static yX2_appleOf, Cond.code yX2_appleOf cX2_appleOf 3 (some (.object "SplayOrchard$Apple")), Cond.classLink RX2 32 "java/lang/IllegalStateException", Cond.initialized "java/lang/IllegalStateException", Cond.methodLink RX2 39 yX1_find, Cond.instanceMethod yX1_find, Cond.selects RX1 yX1_find yX1_find, Cond.initialized RX1]
def wsL_eaten_r2 : List Cond := [Cond.code yX1_find cX1_find 3 (some (.object "SplayOrchard$Apple")), Cond.fieldLink RX1 32 "SplayOrchard$Apple" "size" "I", Cond.methodLink RX1 29 yX1_nearest, Cond.instanceMethod yX1_nearest, Cond.selects RX1 yX1_nearest yX1_nearest, Cond.code yX1_nearest cX1_nearest 4 (some (.object "SplayOrchard$Apple")), Cond.fieldLink RX1 7 "SplayOrchard$Tree" "top" "LSplayOrchard$Apple;", Cond.methodLink RX1 25 yX0_towards, Cond.instanceMethod yX0_towards, Cond.selects RX0 yX0_towards yX0_towards, Cond.initialized RX0, Cond.code yX0_towards cX0_towards 2 (some (.object "SplayOrchard$Apple")), Cond.fieldLink RX0 7 "SplayOrchard$Apple" "size" "I", Cond.fieldLink RX0 17 "SplayOrchard$Apple" "left" "LSplayOrchard$Apple;", Cond.fieldLink RX0 23 "SplayOrchard$Apple" "right" "LSplayOrchard$Apple;"]
def wsL_eaten : List Cond := .codeWith yL_eaten cL_eaten 5 (some .int) [(0, 10, 13, 13), (0, 10, 17, 17)] :: ((wsL_eaten_r1 ++ wsL_eaten_r2) ++ wsX00 ++ wsX20 ++ wsX10 ++ (vx_atS RX2 129 "java/lang/IndexOutOfBoundsException" ["java/lang/RuntimeException", "java/lang/Exception"]).filter goodWord ++ (vx_atS RX2 36 "java/lang/IllegalStateException" ["java/lang/RuntimeException", "java/lang/Exception"]).filter goodWord)
def wsL_favourite_r1 : List Cond := [Cond.classLink RL 13 "java/lang/IndexOutOfBoundsException", Cond.methodLink RL 85 yX2_favourite, Cond.instanceMethod yX2_favourite, Cond.selects RX2 yX2_favourite yX2_favourite, Cond.initialized RX2, Cond.code yX2_favourite cX2_favourite 2 (some .int), Cond.methodLink RX2 20 yX2_treeOf, Cond.instanceMethod yX2_treeOf, Cond.selects RX2 yX2_treeOf yX2_treeOf, Cond.code yX2_treeOf cX2_treeOf 2 (some (.object "SplayOrchard$Tree")), Cond.classLink RX2 125 "java/lang/IndexOutOfBoundsException", Cond.initialized "java/lang/IndexOutOfBoundsException", Cond.fieldLink RX2 11 "SplayOrchard" "rows" "[LSplayOrchard$Tree;", Cond.methodLink RX2 149 yX1_mostBitten, Cond.instanceMethod yX1_mostBitten, Cond.selects RX1 yX1_mostBitten yX1_mostBitten, Cond.initialized RX1, Cond.code yX1_mostBitten cX1_mostBitten 3 (some (.object "SplayOrchard$Apple")), Cond.fieldLink RX1 78 "SplayOrchard$Apple" "bites" "I", Cond.methodLink RX1 57 yX1_first, Cond.instanceMethod yX1_first, Cond.selects RX1 yX1_first yX1_first, Cond.code yX1_first cX1_first 1 (some (.object "SplayOrchard$Apple")), Cond.fieldLink RX1 7 "SplayOrchard$Tree" "top" "LSplayOrchard$Apple;"]
def wsL_favourite_r2 : List Cond := [Cond.methodLink RX1 18 yX0_leastUnder, Cond.instanceMethod yX0_leastUnder, Cond.selects RX0 yX0_leastUnder yX0_leastUnder, Cond.initialized RX0, Cond.code yX0_leastUnder cX0_leastUnder 2 (some (.object "SplayOrchard$Apple")), Cond.fieldLink RX0 17 "SplayOrchard$Apple" "left" "LSplayOrchard$Apple;", Cond.methodLink RX1 60 yX0_next, Cond.instanceMethod yX0_next, Cond.selects RX0 yX0_next yX0_next, Cond.code yX0_next cX0_next 2 (some (.object "SplayOrchard$Apple")), Cond.fieldLink RX0 23 "SplayOrchard$Apple" "right" "LSplayOrchard$Apple;", Cond.fieldLink RX0 20 "SplayOrchard$Apple" "up" "LSplayOrchard$Apple;", Cond.methodLink RX0 37 yX0_leastUnder, Cond.methodLink RX2 105 yX2_sizeOrNone, Cond.static yX2_sizeOrNone, Cond.code yX2_sizeOrNone cX2_sizeOrNone 1 (some .int), Cond.fieldLink RX2 130 "SplayOrchard$Apple" "size" "I"]
def wsL_favourite : List Cond := .codeWith yL_favourite cL_favourite 4 (some .int) [(0, 9, 12, 13)] :: ((wsL_favourite_r1 ++ wsL_favourite_r2) ++ wsX20 ++ wsX00 ++ wsX10 ++ (vx_atS RX2 129 "java/lang/IndexOutOfBoundsException" ["java/lang/RuntimeException", "java/lang/Exception"]).filter goodWord)
def wsL_meet_r1 : List Cond := [Cond.classLink RL 13 "java/lang/IndexOutOfBoundsException", Cond.classLink RL 17 "java/lang/IllegalStateException", Cond.methodLink RL 88 yX2_meet, Cond.instanceMethod yX2_meet, Cond.selects RX2 yX2_meet yX2_meet, Cond.initialized RX2, Cond.code yX2_meet cX2_meet 7 (some .int), Cond.methodLink RX2 20 yX2_treeOf, Cond.instanceMethod yX2_treeOf, Cond.selects RX2 yX2_treeOf yX2_treeOf, Cond.code yX2_treeOf cX2_treeOf 2 (some (.object "SplayOrchard$Tree")), Cond.classLink RX2 125 "java/lang/IndexOutOfBoundsException", Cond.initialized "java/lang/IndexOutOfBoundsException", Cond.fieldLink RX2 11 "SplayOrchard" "rows" "[LSplayOrchard$Tree;", Cond.methodLink RX2 58 yX2_appleOf, Cond.static yX2_appleOf, Cond.code yX2_appleOf cX2_appleOf 3 (some (.object "SplayOrchard$Apple")), Cond.classLink RX2 32 "java/lang/IllegalStateException", Cond.initialized "java/lang/IllegalStateException", Cond.methodLink RX2 39 yX1_find, Cond.instanceMethod yX1_find, Cond.selects RX1 yX1_find yX1_find, Cond.initialized RX1, Cond.code yX1_find cX1_find 3 (some (.object "SplayOrchard$Apple"))]
def wsL_meet_r2 : List Cond := [Cond.fieldLink RX1 32 "SplayOrchard$Apple" "size" "I", Cond.methodLink RX1 29 yX1_nearest, Cond.instanceMethod yX1_nearest, Cond.selects RX1 yX1_nearest yX1_nearest, Cond.code yX1_nearest cX1_nearest 4 (some (.object "SplayOrchard$Apple")), Cond.fieldLink RX1 7 "SplayOrchard$Tree" "top" "LSplayOrchard$Apple;", Cond.methodLink RX1 25 yX0_towards, Cond.instanceMethod yX0_towards, Cond.selects RX0 yX0_towards yX0_towards, Cond.initialized RX0, Cond.code yX0_towards cX0_towards 2 (some (.object "SplayOrchard$Apple")), Cond.fieldLink RX0 7 "SplayOrchard$Apple" "size" "I", Cond.fieldLink RX0 17 "SplayOrchard$Apple" "left" "LSplayOrchard$Apple;", Cond.fieldLink RX0 23 "SplayOrchard$Apple" "right" "LSplayOrchard$Apple;", Cond.methodLink RX2 152 yX1_meeting, Cond.instanceMethod yX1_meeting, Cond.selects RX1 yX1_meeting yX1_meeting, Cond.code yX1_meeting cX1_meeting 6 (some (.object "SplayOrchard$Apple")), Cond.methodLink RX1 81 Lib.Math.min.name, Cond.static Lib.Math.min.name, Cond.initialized "java/lang/Math", Cond.code Lib.Math.min.name Lib.Math.min.code 2 (some .int), Cond.methodLink RX1 66 Lib.Math.max.name, Cond.static Lib.Math.max.name]
def wsL_meet_r3 : List Cond := [Cond.code Lib.Math.max.name Lib.Math.max.code 2 (some .int), Cond.methodLink RX2 105 yX2_sizeOrNone, Cond.static yX2_sizeOrNone, Cond.code yX2_sizeOrNone cX2_sizeOrNone 1 (some .int), Cond.fieldLink RX2 130 "SplayOrchard$Apple" "size" "I"]
def wsL_meet : List Cond := .codeWith yL_meet cL_meet 6 (some .int) [(0, 12, 15, 13), (0, 12, 19, 17)] :: ((wsL_meet_r1 ++ (wsL_meet_r2 ++ wsL_meet_r3)) ++ wsX20 ++ wsX00 ++ wsX10 ++ (vx_atS RX2 129 "java/lang/IndexOutOfBoundsException" ["java/lang/RuntimeException", "java/lang/Exception"]).filter goodWord ++ (vx_atS RX2 36 "java/lang/IllegalStateException" ["java/lang/RuntimeException", "java/lang/Exception"]).filter goodWord)
def wsL_depthBehind_r1 : List Cond := [Cond.classLink RL 13 "java/lang/IndexOutOfBoundsException", Cond.classLink RL 17 "java/lang/IllegalStateException", Cond.methodLink RL 91 yX2_depthBehind, Cond.instanceMethod yX2_depthBehind, Cond.selects RX2 yX2_depthBehind yX2_depthBehind, Cond.initialized RX2, Cond.code yX2_depthBehind cX2_depthBehind 5 (some .int), Cond.fieldLink RX2 16 "SplayOrchard" "trial" "LSplayOrchard$Tree;", Cond.methodLink RX2 20 yX2_treeOf, Cond.instanceMethod yX2_treeOf, Cond.selects RX2 yX2_treeOf yX2_treeOf, Cond.code yX2_treeOf cX2_treeOf 2 (some (.object "SplayOrchard$Tree")), Cond.classLink RX2 125 "java/lang/IndexOutOfBoundsException", Cond.initialized "java/lang/IndexOutOfBoundsException", Cond.fieldLink RX2 11 "SplayOrchard" "rows" "[LSplayOrchard$Tree;", Cond.methodLink RX2 58 yX2_appleOf, Cond.static yX2_appleOf, Cond.code yX2_appleOf cX2_appleOf 3 (some (.object "SplayOrchard$Apple")), Cond.classLink RX2 32 "java/lang/IllegalStateException", Cond.initialized "java/lang/IllegalStateException", Cond.methodLink RX2 39 yX1_find, Cond.instanceMethod yX1_find, Cond.selects RX1 yX1_find yX1_find, Cond.initialized RX1]
def wsL_depthBehind_r2 : List Cond := [Cond.code yX1_find cX1_find 3 (some (.object "SplayOrchard$Apple")), Cond.fieldLink RX1 32 "SplayOrchard$Apple" "size" "I", Cond.methodLink RX1 29 yX1_nearest, Cond.instanceMethod yX1_nearest, Cond.selects RX1 yX1_nearest yX1_nearest, Cond.code yX1_nearest cX1_nearest 4 (some (.object "SplayOrchard$Apple")), Cond.fieldLink RX1 7 "SplayOrchard$Tree" "top" "LSplayOrchard$Apple;", Cond.methodLink RX1 25 yX0_towards, Cond.instanceMethod yX0_towards, Cond.selects RX0 yX0_towards yX0_towards, Cond.initialized RX0, Cond.code yX0_towards cX0_towards 2 (some (.object "SplayOrchard$Apple")), Cond.fieldLink RX0 7 "SplayOrchard$Apple" "size" "I", Cond.fieldLink RX0 17 "SplayOrchard$Apple" "left" "LSplayOrchard$Apple;", Cond.fieldLink RX0 23 "SplayOrchard$Apple" "right" "LSplayOrchard$Apple;", Cond.methodLink RX2 156 yX2_tryEating, Cond.instanceMethod yX2_tryEating, Cond.selects RX2 yX2_tryEating yX2_tryEating, Cond.code yX2_tryEating cX2_tryEating 4 none, Cond.fieldLink RX2 221 "SplayOrchard$Apple" "standIn" "LSplayOrchard$Apple;", Cond.methodLink RX2 217 yX1_standInFor, Cond.instanceMethod yX1_standInFor, Cond.selects RX1 yX1_standInFor yX1_standInFor, Cond.code yX1_standInFor cX1_standInFor 3 none]
def wsL_depthBehind_r3 : List Cond := [Cond.methodLink RX1 57 yX1_first, Cond.instanceMethod yX1_first, Cond.selects RX1 yX1_first yX1_first, Cond.code yX1_first cX1_first 1 (some (.object "SplayOrchard$Apple")), Cond.methodLink RX1 18 yX0_leastUnder, Cond.instanceMethod yX0_leastUnder, Cond.selects RX0 yX0_leastUnder yX0_leastUnder, Cond.code yX0_leastUnder cX0_leastUnder 2 (some (.object "SplayOrchard$Apple")), Cond.methodLink RX1 84 yX0_linkStandIn, Cond.instanceMethod yX0_linkStandIn, Cond.selects RX0 yX0_linkStandIn yX0_linkStandIn, Cond.code yX0_linkStandIn cX0_linkStandIn 1 none, Cond.fieldLink RX0 13 "SplayOrchard$Apple" "standIn" "LSplayOrchard$Apple;", Cond.fieldLink RX0 20 "SplayOrchard$Apple" "up" "LSplayOrchard$Apple;", Cond.methodLink RX0 47 yX0_standInOf, Cond.static yX0_standInOf, Cond.code yX0_standInOf cX0_standInOf 1 (some (.object "SplayOrchard$Apple")), Cond.methodLink RX1 60 yX0_next, Cond.instanceMethod yX0_next, Cond.selects RX0 yX0_next yX0_next, Cond.code yX0_next cX0_next 2 (some (.object "SplayOrchard$Apple")), Cond.methodLink RX0 37 yX0_leastUnder, Cond.methodLink RX1 87 yX0_standInOf, Cond.methodLink RX2 215 yX1_bringUp]
def wsL_depthBehind_r4 : List Cond := [Cond.instanceMethod yX1_bringUp, Cond.selects RX1 yX1_bringUp yX1_bringUp, Cond.code yX1_bringUp cX1_bringUp 6 (some .int), Cond.fieldLink RX1 13 "SplayOrchard$Apple" "up" "LSplayOrchard$Apple;", Cond.methodLink RX1 46 yX0_depth, Cond.instanceMethod yX0_depth, Cond.selects RX0 yX0_depth yX0_depth, Cond.code yX0_depth cX0_depth 3 (some .int), Cond.methodLink RX1 50 yX0_isOnTheLeft, Cond.instanceMethod yX0_isOnTheLeft, Cond.selects RX0 yX0_isOnTheLeft yX0_isOnTheLeft, Cond.code yX0_isOnTheLeft cX0_isOnTheLeft 1 (some .boolean), Cond.methodLink RX1 54 yX0_turn, Cond.instanceMethod yX0_turn, Cond.selects RX0 yX0_turn yX0_turn, Cond.code yX0_turn cX0_turn 4 none, Cond.methodLink RX0 26 yX0_isOnTheLeft, Cond.methodLink RX0 30 yX0_hangLeft, Cond.instanceMethod yX0_hangLeft, Cond.selects RX0 yX0_hangLeft yX0_hangLeft, Cond.code yX0_hangLeft cX0_hangLeft 2 none, Cond.methodLink RX0 34 yX0_hangRight, Cond.instanceMethod yX0_hangRight, Cond.selects RX0 yX0_hangRight yX0_hangRight]
def wsL_depthBehind_r5 : List Cond := [Cond.code yX0_hangRight cX0_hangRight 2 none, Cond.methodLink RX2 140 yX0_depth]
def wsL_depthBehind : List Cond := .codeWith yL_depthBehind cL_depthBehind 6 (some .int) [(0, 12, 15, 13), (0, 12, 19, 17)] :: ((wsL_depthBehind_r1 ++ (wsL_depthBehind_r2 ++ (wsL_depthBehind_r3 ++ (wsL_depthBehind_r4 ++ wsL_depthBehind_r5)))) ++ wsX20 ++ wsX00 ++ wsX10 ++ (vx_atS RX2 129 "java/lang/IndexOutOfBoundsException" ["java/lang/RuntimeException", "java/lang/Exception"]).filter goodWord ++ (vx_atS RX2 36 "java/lang/IllegalStateException" ["java/lang/RuntimeException", "java/lang/Exception"]).filter goodWord)
def wsL_heightBehind_r1 : List Cond := [Cond.classLink RL 13 "java/lang/IndexOutOfBoundsException", Cond.classLink RL 17 "java/lang/IllegalStateException", Cond.methodLink RL 94 yX2_heightBehind, Cond.instanceMethod yX2_heightBehind, Cond.selects RX2 yX2_heightBehind yX2_heightBehind, Cond.initialized RX2, Cond.code yX2_heightBehind cX2_heightBehind 4 (some .int), Cond.fieldLink RX2 16 "SplayOrchard" "trial" "LSplayOrchard$Tree;", Cond.methodLink RX2 20 yX2_treeOf, Cond.instanceMethod yX2_treeOf, Cond.selects RX2 yX2_treeOf yX2_treeOf, Cond.code yX2_treeOf cX2_treeOf 2 (some (.object "SplayOrchard$Tree")), Cond.classLink RX2 125 "java/lang/IndexOutOfBoundsException", Cond.initialized "java/lang/IndexOutOfBoundsException", Cond.fieldLink RX2 11 "SplayOrchard" "rows" "[LSplayOrchard$Tree;", Cond.methodLink RX2 58 yX2_appleOf, Cond.static yX2_appleOf, Cond.code yX2_appleOf cX2_appleOf 3 (some (.object "SplayOrchard$Apple")), Cond.classLink RX2 32 "java/lang/IllegalStateException", Cond.initialized "java/lang/IllegalStateException", Cond.methodLink RX2 39 yX1_find, Cond.instanceMethod yX1_find, Cond.selects RX1 yX1_find yX1_find, Cond.initialized RX1]
def wsL_heightBehind_r2 : List Cond := [Cond.code yX1_find cX1_find 3 (some (.object "SplayOrchard$Apple")), Cond.fieldLink RX1 32 "SplayOrchard$Apple" "size" "I", Cond.methodLink RX1 29 yX1_nearest, Cond.instanceMethod yX1_nearest, Cond.selects RX1 yX1_nearest yX1_nearest, Cond.code yX1_nearest cX1_nearest 4 (some (.object "SplayOrchard$Apple")), Cond.fieldLink RX1 7 "SplayOrchard$Tree" "top" "LSplayOrchard$Apple;", Cond.methodLink RX1 25 yX0_towards, Cond.instanceMethod yX0_towards, Cond.selects RX0 yX0_towards yX0_towards, Cond.initialized RX0, Cond.code yX0_towards cX0_towards 2 (some (.object "SplayOrchard$Apple")), Cond.fieldLink RX0 7 "SplayOrchard$Apple" "size" "I", Cond.fieldLink RX0 17 "SplayOrchard$Apple" "left" "LSplayOrchard$Apple;", Cond.fieldLink RX0 23 "SplayOrchard$Apple" "right" "LSplayOrchard$Apple;", Cond.methodLink RX2 156 yX2_tryEating, Cond.instanceMethod yX2_tryEating, Cond.selects RX2 yX2_tryEating yX2_tryEating, Cond.code yX2_tryEating cX2_tryEating 4 none, Cond.fieldLink RX2 221 "SplayOrchard$Apple" "standIn" "LSplayOrchard$Apple;", Cond.methodLink RX2 217 yX1_standInFor, Cond.instanceMethod yX1_standInFor, Cond.selects RX1 yX1_standInFor yX1_standInFor, Cond.code yX1_standInFor cX1_standInFor 3 none]
def wsL_heightBehind_r3 : List Cond := [Cond.methodLink RX1 57 yX1_first, Cond.instanceMethod yX1_first, Cond.selects RX1 yX1_first yX1_first, Cond.code yX1_first cX1_first 1 (some (.object "SplayOrchard$Apple")), Cond.methodLink RX1 18 yX0_leastUnder, Cond.instanceMethod yX0_leastUnder, Cond.selects RX0 yX0_leastUnder yX0_leastUnder, Cond.code yX0_leastUnder cX0_leastUnder 2 (some (.object "SplayOrchard$Apple")), Cond.methodLink RX1 84 yX0_linkStandIn, Cond.instanceMethod yX0_linkStandIn, Cond.selects RX0 yX0_linkStandIn yX0_linkStandIn, Cond.code yX0_linkStandIn cX0_linkStandIn 1 none, Cond.fieldLink RX0 13 "SplayOrchard$Apple" "standIn" "LSplayOrchard$Apple;", Cond.fieldLink RX0 20 "SplayOrchard$Apple" "up" "LSplayOrchard$Apple;", Cond.methodLink RX0 47 yX0_standInOf, Cond.static yX0_standInOf, Cond.code yX0_standInOf cX0_standInOf 1 (some (.object "SplayOrchard$Apple")), Cond.methodLink RX1 60 yX0_next, Cond.instanceMethod yX0_next, Cond.selects RX0 yX0_next yX0_next, Cond.code yX0_next cX0_next 2 (some (.object "SplayOrchard$Apple")), Cond.methodLink RX0 37 yX0_leastUnder, Cond.methodLink RX1 87 yX0_standInOf, Cond.methodLink RX2 215 yX1_bringUp]
def wsL_heightBehind_r4 : List Cond := [Cond.instanceMethod yX1_bringUp, Cond.selects RX1 yX1_bringUp yX1_bringUp, Cond.code yX1_bringUp cX1_bringUp 6 (some .int), Cond.fieldLink RX1 13 "SplayOrchard$Apple" "up" "LSplayOrchard$Apple;", Cond.methodLink RX1 46 yX0_depth, Cond.instanceMethod yX0_depth, Cond.selects RX0 yX0_depth yX0_depth, Cond.code yX0_depth cX0_depth 3 (some .int), Cond.methodLink RX1 50 yX0_isOnTheLeft, Cond.instanceMethod yX0_isOnTheLeft, Cond.selects RX0 yX0_isOnTheLeft yX0_isOnTheLeft, Cond.code yX0_isOnTheLeft cX0_isOnTheLeft 1 (some .boolean), Cond.methodLink RX1 54 yX0_turn, Cond.instanceMethod yX0_turn, Cond.selects RX0 yX0_turn yX0_turn, Cond.code yX0_turn cX0_turn 4 none, Cond.methodLink RX0 26 yX0_isOnTheLeft, Cond.methodLink RX0 30 yX0_hangLeft, Cond.instanceMethod yX0_hangLeft, Cond.selects RX0 yX0_hangLeft yX0_hangLeft, Cond.code yX0_hangLeft cX0_hangLeft 2 none, Cond.methodLink RX0 34 yX0_hangRight, Cond.instanceMethod yX0_hangRight, Cond.selects RX0 yX0_hangRight yX0_hangRight]
def wsL_heightBehind_r5 : List Cond := [Cond.code yX0_hangRight cX0_hangRight 2 none, Cond.methodLink RX2 109 yX1_levels, Cond.instanceMethod yX1_levels, Cond.selects RX1 yX1_levels yX1_levels, Cond.code yX1_levels cX1_levels 3 (some .int), Cond.methodLink RX1 66 Lib.Math.max.name, Cond.static Lib.Math.max.name, Cond.initialized "java/lang/Math", Cond.code Lib.Math.max.name Lib.Math.max.code 2 (some .int)]
def wsL_heightBehind : List Cond := .codeWith yL_heightBehind cL_heightBehind 5 (some .int) [(0, 10, 13, 13), (0, 10, 17, 17)] :: ((wsL_heightBehind_r1 ++ (wsL_heightBehind_r2 ++ (wsL_heightBehind_r3 ++ (wsL_heightBehind_r4 ++ wsL_heightBehind_r5)))) ++ wsX20 ++ wsX00 ++ wsX10 ++ (vx_atS RX2 129 "java/lang/IndexOutOfBoundsException" ["java/lang/RuntimeException", "java/lang/Exception"]).filter goodWord ++ (vx_atS RX2 36 "java/lang/IllegalStateException" ["java/lang/RuntimeException", "java/lang/Exception"]).filter goodWord)
def wsL_bestToEat_r1 : List Cond := [Cond.classLink RL 13 "java/lang/IndexOutOfBoundsException", Cond.methodLink RL 97 yX2_bestToEat, Cond.instanceMethod yX2_bestToEat, Cond.selects RX2 yX2_bestToEat yX2_bestToEat, Cond.initialized RX2, Cond.code yX2_bestToEat cX2_bestToEat 7 (some .int), Cond.fieldLink RX2 16 "SplayOrchard" "trial" "LSplayOrchard$Tree;", Cond.methodLink RX2 20 yX2_treeOf, Cond.instanceMethod yX2_treeOf, Cond.selects RX2 yX2_treeOf yX2_treeOf, Cond.code yX2_treeOf cX2_treeOf 2 (some (.object "SplayOrchard$Tree")), Cond.classLink RX2 125 "java/lang/IndexOutOfBoundsException", Cond.initialized "java/lang/IndexOutOfBoundsException", Cond.fieldLink RX2 11 "SplayOrchard" "rows" "[LSplayOrchard$Tree;", Cond.methodLink RX2 115 yX1_first, Cond.instanceMethod yX1_first, Cond.selects RX1 yX1_first yX1_first, Cond.initialized RX1, Cond.code yX1_first cX1_first 1 (some (.object "SplayOrchard$Apple")), Cond.fieldLink RX1 7 "SplayOrchard$Tree" "top" "LSplayOrchard$Apple;", Cond.methodLink RX1 18 yX0_leastUnder, Cond.instanceMethod yX0_leastUnder, Cond.selects RX0 yX0_leastUnder yX0_leastUnder, Cond.initialized RX0]
def wsL_bestToEat_r2 : List Cond := [Cond.code yX0_leastUnder cX0_leastUnder 2 (some (.object "SplayOrchard$Apple")), Cond.fieldLink RX0 17 "SplayOrchard$Apple" "left" "LSplayOrchard$Apple;", Cond.methodLink RX2 156 yX2_tryEating, Cond.instanceMethod yX2_tryEating, Cond.selects RX2 yX2_tryEating yX2_tryEating, Cond.code yX2_tryEating cX2_tryEating 4 none, Cond.fieldLink RX2 221 "SplayOrchard$Apple" "standIn" "LSplayOrchard$Apple;", Cond.methodLink RX2 217 yX1_standInFor, Cond.instanceMethod yX1_standInFor, Cond.selects RX1 yX1_standInFor yX1_standInFor, Cond.code yX1_standInFor cX1_standInFor 3 none, Cond.methodLink RX1 57 yX1_first, Cond.methodLink RX1 84 yX0_linkStandIn, Cond.instanceMethod yX0_linkStandIn, Cond.selects RX0 yX0_linkStandIn yX0_linkStandIn, Cond.code yX0_linkStandIn cX0_linkStandIn 1 none, Cond.fieldLink RX0 13 "SplayOrchard$Apple" "standIn" "LSplayOrchard$Apple;", Cond.fieldLink RX0 20 "SplayOrchard$Apple" "up" "LSplayOrchard$Apple;", Cond.fieldLink RX0 23 "SplayOrchard$Apple" "right" "LSplayOrchard$Apple;", Cond.methodLink RX0 47 yX0_standInOf, Cond.static yX0_standInOf, Cond.code yX0_standInOf cX0_standInOf 1 (some (.object "SplayOrchard$Apple")), Cond.methodLink RX1 60 yX0_next, Cond.instanceMethod yX0_next]
def wsL_bestToEat_r3 : List Cond := [Cond.selects RX0 yX0_next yX0_next, Cond.code yX0_next cX0_next 2 (some (.object "SplayOrchard$Apple")), Cond.methodLink RX0 37 yX0_leastUnder, Cond.methodLink RX1 87 yX0_standInOf, Cond.methodLink RX2 215 yX1_bringUp, Cond.instanceMethod yX1_bringUp, Cond.selects RX1 yX1_bringUp yX1_bringUp, Cond.code yX1_bringUp cX1_bringUp 6 (some .int), Cond.fieldLink RX1 13 "SplayOrchard$Apple" "up" "LSplayOrchard$Apple;", Cond.methodLink RX1 46 yX0_depth, Cond.instanceMethod yX0_depth, Cond.selects RX0 yX0_depth yX0_depth, Cond.code yX0_depth cX0_depth 3 (some .int), Cond.methodLink RX1 50 yX0_isOnTheLeft, Cond.instanceMethod yX0_isOnTheLeft, Cond.selects RX0 yX0_isOnTheLeft yX0_isOnTheLeft, Cond.code yX0_isOnTheLeft cX0_isOnTheLeft 1 (some .boolean), Cond.methodLink RX1 54 yX0_turn, Cond.instanceMethod yX0_turn, Cond.selects RX0 yX0_turn yX0_turn, Cond.code yX0_turn cX0_turn 4 none, Cond.methodLink RX0 26 yX0_isOnTheLeft, Cond.methodLink RX0 30 yX0_hangLeft, Cond.instanceMethod yX0_hangLeft]
def wsL_bestToEat_r4 : List Cond := [Cond.selects RX0 yX0_hangLeft yX0_hangLeft, Cond.code yX0_hangLeft cX0_hangLeft 2 none, Cond.methodLink RX0 34 yX0_hangRight, Cond.instanceMethod yX0_hangRight, Cond.selects RX0 yX0_hangRight yX0_hangRight, Cond.code yX0_hangRight cX0_hangRight 2 none, Cond.methodLink RX2 112 yX1_depthSum, Cond.instanceMethod yX1_depthSum, Cond.selects RX1 yX1_depthSum yX1_depthSum, Cond.code yX1_depthSum cX1_depthSum 3 (some .int), Cond.methodLink RX2 159 yX0_next, Cond.methodLink RX2 105 yX2_sizeOrNone, Cond.static yX2_sizeOrNone, Cond.code yX2_sizeOrNone cX2_sizeOrNone 1 (some .int), Cond.fieldLink RX2 130 "SplayOrchard$Apple" "size" "I"]
def wsL_bestToEat : List Cond := .codeWith yL_bestToEat cL_bestToEat 4 (some .int) [(0, 9, 12, 13)] :: ((wsL_bestToEat_r1 ++ (wsL_bestToEat_r2 ++ (wsL_bestToEat_r3 ++ wsL_bestToEat_r4))) ++ wsX20 ++ wsX10 ++ wsX00 ++ (vx_atS RX2 129 "java/lang/IndexOutOfBoundsException" ["java/lang/RuntimeException", "java/lang/Exception"]).filter goodWord)
def wsL_plantDepth_r1 : List Cond := [Cond.classLink RL 13 "java/lang/IndexOutOfBoundsException", Cond.classLink RL 15 "java/lang/IllegalArgumentException", Cond.methodLink RL 100 yX2_plantDepth, Cond.instanceMethod yX2_plantDepth, Cond.selects RX2 yX2_plantDepth yX2_plantDepth, Cond.initialized RX2, Cond.code yX2_plantDepth cX2_plantDepth 5 (some .int), Cond.fieldLink RX2 130 "SplayOrchard$Apple" "size" "I", Cond.methodLink RX2 20 yX2_treeOf, Cond.instanceMethod yX2_treeOf, Cond.selects RX2 yX2_treeOf yX2_treeOf, Cond.code yX2_treeOf cX2_treeOf 2 (some (.object "SplayOrchard$Tree")), Cond.classLink RX2 125 "java/lang/IndexOutOfBoundsException", Cond.initialized "java/lang/IndexOutOfBoundsException", Cond.fieldLink RX2 11 "SplayOrchard" "rows" "[LSplayOrchard$Tree;", Cond.methodLink RX2 24 yX2_checkSize, Cond.static yX2_checkSize, Cond.code yX2_checkSize cX2_checkSize 1 none, Cond.classLink RX2 208 "java/lang/IllegalArgumentException", Cond.initialized "java/lang/IllegalArgumentException", Cond.methodLink RX2 162 yX1_nearest, Cond.instanceMethod yX1_nearest, Cond.selects RX1 yX1_nearest yX1_nearest, Cond.initialized RX1]
def wsL_plantDepth_r2 : List Cond := [Cond.code yX1_nearest cX1_nearest 4 (some (.object "SplayOrchard$Apple")), Cond.fieldLink RX1 7 "SplayOrchard$Tree" "top" "LSplayOrchard$Apple;", Cond.methodLink RX1 25 yX0_towards, Cond.instanceMethod yX0_towards, Cond.selects RX0 yX0_towards yX0_towards, Cond.initialized RX0, Cond.code yX0_towards cX0_towards 2 (some (.object "SplayOrchard$Apple")), Cond.fieldLink RX0 7 "SplayOrchard$Apple" "size" "I", Cond.fieldLink RX0 17 "SplayOrchard$Apple" "left" "LSplayOrchard$Apple;", Cond.fieldLink RX0 23 "SplayOrchard$Apple" "right" "LSplayOrchard$Apple;", Cond.methodLink RX2 140 yX0_depth, Cond.instanceMethod yX0_depth, Cond.selects RX0 yX0_depth yX0_depth, Cond.code yX0_depth cX0_depth 3 (some .int), Cond.fieldLink RX0 20 "SplayOrchard$Apple" "up" "LSplayOrchard$Apple;"]
def wsL_plantDepth : List Cond := .codeWith yL_plantDepth cL_plantDepth 5 (some .int) [(0, 10, 13, 13), (0, 10, 17, 15)] :: ((wsL_plantDepth_r1 ++ wsL_plantDepth_r2) ++ wsX00 ++ wsX20 ++ wsX10 ++ (vx_atS RX2 129 "java/lang/IndexOutOfBoundsException" ["java/lang/RuntimeException", "java/lang/Exception"]).filter goodWord ++ (vx_atS RX2 212 "java/lang/IllegalArgumentException" ["java/lang/RuntimeException", "java/lang/Exception"]).filter goodWord)
def wsL_canJoin_r1 : List Cond := [Cond.classLink RL 13 "java/lang/IndexOutOfBoundsException", Cond.methodLink RL 103 yX2_canJoin, Cond.instanceMethod yX2_canJoin, Cond.selects RX2 yX2_canJoin yX2_canJoin, Cond.initialized RX2, Cond.code yX2_canJoin cX2_canJoin 3 (some .boolean), Cond.methodLink RX2 20 yX2_treeOf, Cond.instanceMethod yX2_treeOf, Cond.selects RX2 yX2_treeOf yX2_treeOf, Cond.code yX2_treeOf cX2_treeOf 2 (some (.object "SplayOrchard$Tree")), Cond.classLink RX2 125 "java/lang/IndexOutOfBoundsException", Cond.initialized "java/lang/IndexOutOfBoundsException", Cond.fieldLink RX2 11 "SplayOrchard" "rows" "[LSplayOrchard$Tree;", Cond.methodLink RX2 96 yX2_mayJoin, Cond.static yX2_mayJoin, Cond.code yX2_mayJoin cX2_mayJoin 4 (some .boolean), Cond.fieldLink RX2 130 "SplayOrchard$Apple" "size" "I", Cond.methodLink RX2 119 yX1_last, Cond.instanceMethod yX1_last, Cond.selects RX1 yX1_last yX1_last, Cond.initialized RX1, Cond.code yX1_last cX1_last 1 (some (.object "SplayOrchard$Apple")), Cond.fieldLink RX1 7 "SplayOrchard$Tree" "top" "LSplayOrchard$Apple;", Cond.methodLink RX1 22 yX0_greatestUnder]
def wsL_canJoin_r2 : List Cond := [Cond.instanceMethod yX0_greatestUnder, Cond.selects RX0 yX0_greatestUnder yX0_greatestUnder, Cond.initialized RX0, Cond.code yX0_greatestUnder cX0_greatestUnder 2 (some (.object "SplayOrchard$Apple")), Cond.fieldLink RX0 23 "SplayOrchard$Apple" "right" "LSplayOrchard$Apple;", Cond.methodLink RX2 115 yX1_first, Cond.instanceMethod yX1_first, Cond.selects RX1 yX1_first yX1_first, Cond.code yX1_first cX1_first 1 (some (.object "SplayOrchard$Apple")), Cond.methodLink RX1 18 yX0_leastUnder, Cond.instanceMethod yX0_leastUnder, Cond.selects RX0 yX0_leastUnder yX0_leastUnder, Cond.code yX0_leastUnder cX0_leastUnder 2 (some (.object "SplayOrchard$Apple")), Cond.fieldLink RX0 17 "SplayOrchard$Apple" "left" "LSplayOrchard$Apple;"]
def wsL_canJoin : List Cond := .codeWith yL_canJoin cL_canJoin 5 (some .int) [(0, 17, 20, 13)] :: ((wsL_canJoin_r1 ++ wsL_canJoin_r2) ++ wsX20 ++ wsX00 ++ wsX10 ++ (vx_atS RX2 129 "java/lang/IndexOutOfBoundsException" ["java/lang/RuntimeException", "java/lang/Exception"]).filter goodWord)
def wsL_meanDepth_r1 : List Cond := [Cond.classLink RL 13 "java/lang/IndexOutOfBoundsException", Cond.methodLink RL 106 yX2_meanDepth, Cond.instanceMethod yX2_meanDepth, Cond.selects RX2 yX2_meanDepth yX2_meanDepth, Cond.initialized RX2, Cond.code yX2_meanDepth cX2_meanDepth 4 (some .double), Cond.methodLink RX2 20 yX2_treeOf, Cond.instanceMethod yX2_treeOf, Cond.selects RX2 yX2_treeOf yX2_treeOf, Cond.code yX2_treeOf cX2_treeOf 2 (some (.object "SplayOrchard$Tree")), Cond.classLink RX2 125 "java/lang/IndexOutOfBoundsException", Cond.initialized "java/lang/IndexOutOfBoundsException", Cond.fieldLink RX2 11 "SplayOrchard" "rows" "[LSplayOrchard$Tree;", Cond.methodLink RX2 93 yX1_count, Cond.instanceMethod yX1_count, Cond.selects RX1 yX1_count yX1_count, Cond.initialized RX1, Cond.code yX1_count cX1_count 1 (some .int), Cond.fieldLink RX1 7 "SplayOrchard$Tree" "top" "LSplayOrchard$Apple;", Cond.methodLink RX1 63 yX0_countUnder, Cond.instanceMethod yX0_countUnder, Cond.selects RX0 yX0_countUnder yX0_countUnder, Cond.initialized RX0, Cond.code yX0_countUnder cX0_countUnder 4 (some .int)]
def wsL_meanDepth_r2 : List Cond := [Cond.methodLink RX0 41 yX0_greatestUnder, Cond.instanceMethod yX0_greatestUnder, Cond.selects RX0 yX0_greatestUnder yX0_greatestUnder, Cond.code yX0_greatestUnder cX0_greatestUnder 2 (some (.object "SplayOrchard$Apple")), Cond.fieldLink RX0 23 "SplayOrchard$Apple" "right" "LSplayOrchard$Apple;", Cond.methodLink RX0 37 yX0_leastUnder, Cond.instanceMethod yX0_leastUnder, Cond.selects RX0 yX0_leastUnder yX0_leastUnder, Cond.code yX0_leastUnder cX0_leastUnder 2 (some (.object "SplayOrchard$Apple")), Cond.fieldLink RX0 17 "SplayOrchard$Apple" "left" "LSplayOrchard$Apple;", Cond.methodLink RX0 44 yX0_next, Cond.instanceMethod yX0_next, Cond.selects RX0 yX0_next yX0_next, Cond.code yX0_next cX0_next 2 (some (.object "SplayOrchard$Apple")), Cond.fieldLink RX0 20 "SplayOrchard$Apple" "up" "LSplayOrchard$Apple;", Cond.methodLink RX2 112 yX1_depthSum, Cond.instanceMethod yX1_depthSum, Cond.selects RX1 yX1_depthSum yX1_depthSum, Cond.code yX1_depthSum cX1_depthSum 3 (some .int), Cond.methodLink RX1 57 yX1_first, Cond.instanceMethod yX1_first, Cond.selects RX1 yX1_first yX1_first, Cond.code yX1_first cX1_first 1 (some (.object "SplayOrchard$Apple")), Cond.methodLink RX1 18 yX0_leastUnder]
def wsL_meanDepth_r3 : List Cond := [Cond.methodLink RX1 46 yX0_depth, Cond.instanceMethod yX0_depth, Cond.selects RX0 yX0_depth yX0_depth, Cond.code yX0_depth cX0_depth 3 (some .int), Cond.methodLink RX1 60 yX0_next]
def wsL_meanDepth : List Cond := .codeWith yL_meanDepth cL_meanDepth 4 (some .int) [(0, 8, 11, 13)] :: ((wsL_meanDepth_r1 ++ (wsL_meanDepth_r2 ++ wsL_meanDepth_r3)) ++ wsX20 ++ wsX10 ++ wsX00 ++ (vx_atS RX2 129 "java/lang/IndexOutOfBoundsException" ["java/lang/RuntimeException", "java/lang/Exception"]).filter goodWord)
def wsL_law0_r1 : List Cond := [Cond.classLink RL 8 RX2, Cond.instantiable RX2 3, Cond.initialized RX2, Cond.classLink RL 111 RX3, Cond.instantiable RX3 6, Cond.initialized RX3, Cond.arrayClass .long, Cond.arrayClass .double, Cond.methodLink RL 110 yX2_init, Cond.instanceMethod yX2_init, Cond.code yX2_init cX2_init 2 none, Cond.methodLink RX2 1 objectInit, Cond.instanceMethod objectInit, Cond.code objectInit ⟨#[0xb1]⟩ 1 none, Cond.classLink RX2 9 RX1, Cond.fieldLink RX2 11 "SplayOrchard" "rows" "[LSplayOrchard$Tree;", Cond.instantiable RX1 1, Cond.initialized RX1, Cond.fieldLink RX2 16 "SplayOrchard" "trial" "LSplayOrchard$Tree;", Cond.instanceMethod yX1_init, Cond.code yX1_init cX1_init 1 none, Cond.methodLink RX1 1 objectInit, Cond.methodLink RL 113 yX3_init, Cond.instanceMethod yX3_init]
def wsL_law0_r2 : List Cond := [Cond.code yX3_init cX3_init 2 none, Cond.methodLink RX3 3 objectInit, Cond.arrayClass .int, Cond.fieldLink RX3 9 "SplayOrchardModel" "now" "[I", Cond.fieldLink RX3 13 "SplayOrchardModel" "kept" "[I", Cond.methodLink RL 114 yL_plant, Cond.static yL_plant, Cond.initialized RL, Cond.codeWith yL_plant cL_plant 5 (some .int) [(0, 10, 13, 13), (0, 10, 17, 15), (0, 10, 21, 17)], Cond.classLink RL 13 "java/lang/IndexOutOfBoundsException", Cond.classLink RL 15 "java/lang/IllegalArgumentException", Cond.classLink RL 17 "java/lang/IllegalStateException", Cond.methodLink RL 7 yX2_plant, Cond.instanceMethod yX2_plant, Cond.selects RX2 yX2_plant yX2_plant, Cond.code yX2_plant cX2_plant 5 (some .int), Cond.classLink RX2 32 "java/lang/IllegalStateException", Cond.initialized "java/lang/IllegalStateException", Cond.classLink RX2 45 RX0, Cond.instantiable RX0 6, Cond.initialized RX0, Cond.methodLink RX2 20 yX2_treeOf, Cond.instanceMethod yX2_treeOf, Cond.selects RX2 yX2_treeOf yX2_treeOf]
def wsL_law0_r3 : List Cond := [Cond.code yX2_treeOf cX2_treeOf 2 (some (.object "SplayOrchard$Tree")), Cond.classLink RX2 125 "java/lang/IndexOutOfBoundsException", Cond.initialized "java/lang/IndexOutOfBoundsException", Cond.methodLink RX2 24 yX2_checkSize, Cond.static yX2_checkSize, Cond.code yX2_checkSize cX2_checkSize 1 none, Cond.classLink RX2 208 "java/lang/IllegalArgumentException", Cond.initialized "java/lang/IllegalArgumentException", Cond.methodLink RX2 28 yX2_apples, Cond.instanceMethod yX2_apples, Cond.selects RX2 yX2_apples yX2_apples, Cond.code yX2_apples cX2_apples 6 (some .int), Cond.methodLink RX2 93 yX1_count, Cond.instanceMethod yX1_count, Cond.selects RX1 yX1_count yX1_count, Cond.code yX1_count cX1_count 1 (some .int), Cond.fieldLink RX1 7 "SplayOrchard$Tree" "top" "LSplayOrchard$Apple;", Cond.methodLink RX1 63 yX0_countUnder, Cond.instanceMethod yX0_countUnder, Cond.selects RX0 yX0_countUnder yX0_countUnder, Cond.code yX0_countUnder cX0_countUnder 4 (some .int), Cond.methodLink RX0 41 yX0_greatestUnder, Cond.instanceMethod yX0_greatestUnder, Cond.selects RX0 yX0_greatestUnder yX0_greatestUnder]
def wsL_law0_r4 : List Cond := [Cond.code yX0_greatestUnder cX0_greatestUnder 2 (some (.object "SplayOrchard$Apple")), Cond.fieldLink RX0 23 "SplayOrchard$Apple" "right" "LSplayOrchard$Apple;", Cond.methodLink RX0 37 yX0_leastUnder, Cond.instanceMethod yX0_leastUnder, Cond.selects RX0 yX0_leastUnder yX0_leastUnder, Cond.code yX0_leastUnder cX0_leastUnder 2 (some (.object "SplayOrchard$Apple")), Cond.fieldLink RX0 17 "SplayOrchard$Apple" "left" "LSplayOrchard$Apple;", Cond.methodLink RX0 44 yX0_next, Cond.instanceMethod yX0_next, Cond.selects RX0 yX0_next yX0_next, Cond.code yX0_next cX0_next 2 (some (.object "SplayOrchard$Apple")), Cond.fieldLink RX0 20 "SplayOrchard$Apple" "up" "LSplayOrchard$Apple;", Cond.methodLink RX2 39 yX1_find, Cond.instanceMethod yX1_find, Cond.selects RX1 yX1_find yX1_find, Cond.code yX1_find cX1_find 3 (some (.object "SplayOrchard$Apple")), Cond.fieldLink RX1 32 "SplayOrchard$Apple" "size" "I", Cond.methodLink RX1 29 yX1_nearest, Cond.instanceMethod yX1_nearest, Cond.selects RX1 yX1_nearest yX1_nearest, Cond.code yX1_nearest cX1_nearest 4 (some (.object "SplayOrchard$Apple")), Cond.methodLink RX1 25 yX0_towards, Cond.instanceMethod yX0_towards, Cond.selects RX0 yX0_towards yX0_towards]
def wsL_law0_r5 : List Cond := [Cond.code yX0_towards cX0_towards 2 (some (.object "SplayOrchard$Apple")), Cond.fieldLink RX0 7 "SplayOrchard$Apple" "size" "I", Cond.methodLink RX2 47 yX0_init, Cond.instanceMethod yX0_init, Cond.code yX0_init cX0_init 3 none, Cond.methodLink RX0 1 objectInit, Cond.fieldLink RX0 13 "SplayOrchard$Apple" "standIn" "LSplayOrchard$Apple;", Cond.methodLink RX2 50 yX1_hang, Cond.instanceMethod yX1_hang, Cond.selects RX1 yX1_hang yX1_hang, Cond.code yX1_hang cX1_hang 3 none, Cond.methodLink RX1 36 yX1_setTop, Cond.instanceMethod yX1_setTop, Cond.selects RX1 yX1_setTop yX1_setTop, Cond.code yX1_setTop cX1_setTop 2 none, Cond.fieldLink RX1 13 "SplayOrchard$Apple" "up" "LSplayOrchard$Apple;", Cond.methodLink RX1 40 yX0_hangLeft, Cond.instanceMethod yX0_hangLeft, Cond.selects RX0 yX0_hangLeft yX0_hangLeft, Cond.code yX0_hangLeft cX0_hangLeft 2 none, Cond.methodLink RX1 43 yX0_hangRight, Cond.instanceMethod yX0_hangRight, Cond.selects RX0 yX0_hangRight yX0_hangRight, Cond.code yX0_hangRight cX0_hangRight 2 none]
def wsL_law0_r6 : List Cond := [Cond.methodLink RX2 54 yX2_bringUp, Cond.instanceMethod yX2_bringUp, Cond.selects RX2 yX2_bringUp yX2_bringUp, Cond.code yX2_bringUp cX2_bringUp 4 (some .int), Cond.fieldLink RX2 102 "SplayOrchard" "turned" "I", Cond.methodLink RX2 215 yX1_bringUp, Cond.instanceMethod yX1_bringUp, Cond.selects RX1 yX1_bringUp yX1_bringUp, Cond.code yX1_bringUp cX1_bringUp 6 (some .int), Cond.methodLink RX1 46 yX0_depth, Cond.instanceMethod yX0_depth, Cond.selects RX0 yX0_depth yX0_depth, Cond.code yX0_depth cX0_depth 3 (some .int), Cond.methodLink RX1 50 yX0_isOnTheLeft, Cond.instanceMethod yX0_isOnTheLeft, Cond.selects RX0 yX0_isOnTheLeft yX0_isOnTheLeft, Cond.code yX0_isOnTheLeft cX0_isOnTheLeft 1 (some .boolean), Cond.methodLink RX1 54 yX0_turn, Cond.instanceMethod yX0_turn, Cond.selects RX0 yX0_turn yX0_turn, Cond.code yX0_turn cX0_turn 4 none, Cond.methodLink RX0 26 yX0_isOnTheLeft, Cond.methodLink RX0 30 yX0_hangLeft, Cond.methodLink RX0 34 yX0_hangRight]
def wsL_law0_r7 : List Cond := [Cond.methodLink RL 119 yX3_plant, Cond.instanceMethod yX3_plant, Cond.selects RX3 yX3_plant yX3_plant, Cond.code yX3_plant cX3_plant 3 (some .int), Cond.fieldLink RX3 16 "SplayOrchardModel" "thrown" "I", Cond.fieldLink RX3 78 "SplayOrchardModel" "many" "I", Cond.methodLink RX3 88 yX3_isRow, Cond.static yX3_isRow, Cond.code yX3_isRow cX3_isRow 1 (some .boolean), Cond.methodLink RX3 92 yX3_no, Cond.instanceMethod yX3_no, Cond.selects RX3 yX3_no yX3_no, Cond.code yX3_no cX3_no 2 (some .int), Cond.methodLink RX3 95 yX3_isSize, Cond.static yX3_isSize, Cond.code yX3_isSize cX3_isSize 1 (some .boolean), Cond.methodLink RX3 98 yX3_find, Cond.instanceMethod yX3_find, Cond.selects RX3 yX3_find yX3_find, Cond.code yX3_find cX3_find 4 (some .int), Cond.methodLink RX3 101 yX3_planted, Cond.instanceMethod yX3_planted, Cond.selects RX3 yX3_planted yX3_planted, Cond.code yX3_planted cX3_planted 7 (some .int)]
def wsL_law0_r8 : List Cond := [Cond.methodLink RX3 74 yX3_free, Cond.instanceMethod yX3_free, Cond.selects RX3 yX3_free yX3_free, Cond.code yX3_free cX3_free 2 (some .int), Cond.methodLink RX3 39 yX3_hang, Cond.instanceMethod yX3_hang, Cond.selects RX3 yX3_hang yX3_hang, Cond.code yX3_hang cX3_hang 4 none, Cond.methodLink RX3 81 yX3_deep, Cond.instanceMethod yX3_deep, Cond.selects RX3 yX3_deep yX3_deep, Cond.code yX3_deep cX3_deep 4 (some .int), Cond.methodLink RX3 84 yX3_raiseIn, Cond.instanceMethod yX3_raiseIn, Cond.selects RX3 yX3_raiseIn yX3_raiseIn, Cond.code yX3_raiseIn cX3_raiseIn 3 none, Cond.methodLink RX3 47 yX3_raise, Cond.instanceMethod yX3_raise, Cond.selects RX3 yX3_raise yX3_raise, Cond.code yX3_raise cX3_raise 3 none, Cond.methodLink RX3 32 yX3_sideOf, Cond.instanceMethod yX3_sideOf, Cond.selects RX3 yX3_sideOf yX3_sideOf, Cond.code yX3_sideOf cX3_sideOf 2 (some .int)]
def wsL_law0_r9 : List Cond := [Cond.methodLink RX3 43 yX3_turn, Cond.instanceMethod yX3_turn, Cond.selects RX3 yX3_turn yX3_turn, Cond.code yX3_turn cX3_turn 6 none, Cond.fieldLink RX3 26 "SplayOrchardModel" "turned" "I", Cond.methodLink RX3 36 yX3_across, Cond.static yX3_across, Cond.code yX3_across cX3_across 1 (some .int), Cond.methodLink RL 120 yX3_thrown, Cond.instanceMethod yX3_thrown, Cond.selects RX3 yX3_thrown yX3_thrown, Cond.code yX3_thrown cX3_thrown 1 (some .int), Cond.methodLink RL 124 yL_eat, Cond.static yL_eat, Cond.codeWith yL_eat cL_eat 5 (some .int) [(0, 10, 13, 13), (0, 10, 17, 17)], Cond.methodLink RL 19 yX2_eat, Cond.instanceMethod yX2_eat, Cond.selects RX2 yX2_eat yX2_eat, Cond.code yX2_eat cX2_eat 5 (some .int), Cond.fieldLink RX2 62 "SplayOrchard$Apple" "bites" "I", Cond.methodLink RX2 58 yX2_appleOf, Cond.static yX2_appleOf, Cond.code yX2_appleOf cX2_appleOf 3 (some (.object "SplayOrchard$Apple")), Cond.methodLink RL 126 yX3_eat]
def wsL_law0_r10 : List Cond := [Cond.instanceMethod yX3_eat, Cond.selects RX3 yX3_eat yX3_eat, Cond.code yX3_eat cX3_eat 4 (some .int), Cond.methodLink RX3 104 yX3_bitten, Cond.instanceMethod yX3_bitten, Cond.selects RX3 yX3_bitten yX3_bitten, Cond.code yX3_bitten cX3_bitten 4 (some .int), Cond.methodLink RL 127 yL_pick, Cond.static yL_pick, Cond.codeWith yL_pick cL_pick 5 (some .int) [(0, 10, 13, 13), (0, 10, 17, 17)], Cond.methodLink RL 22 yX2_pick, Cond.instanceMethod yX2_pick, Cond.selects RX2 yX2_pick yX2_pick, Cond.code yX2_pick cX2_pick 5 (some .int), Cond.fieldLink RX2 66 "SplayOrchard$Apple" "left" "LSplayOrchard$Apple;", Cond.fieldLink RX2 73 "SplayOrchard$Apple" "right" "LSplayOrchard$Apple;", Cond.methodLink RX2 70 yX1_setTop, Cond.methodLink RX2 76 yX2_append, Cond.instanceMethod yX2_append, Cond.selects RX2 yX2_append yX2_append, Cond.code yX2_append cX2_append 4 none, Cond.methodLink RX2 119 yX1_last, Cond.instanceMethod yX1_last, Cond.selects RX1 yX1_last yX1_last]
def wsL_law0_r11 : List Cond := [Cond.code yX1_last cX1_last 1 (some (.object "SplayOrchard$Apple")), Cond.methodLink RX1 22 yX0_greatestUnder, Cond.methodLink RX2 90 yX0_hangRight, Cond.methodLink RL 129 yX3_pick, Cond.instanceMethod yX3_pick, Cond.selects RX3 yX3_pick yX3_pick, Cond.code yX3_pick cX3_pick 4 (some .int), Cond.methodLink RX3 116 yX3_picked, Cond.instanceMethod yX3_picked, Cond.selects RX3 yX3_picked yX3_picked, Cond.code yX3_picked cX3_picked 6 (some .int), Cond.methodLink RX3 110 yX3_lowered, Cond.instanceMethod yX3_lowered, Cond.selects RX3 yX3_lowered yX3_lowered, Cond.code yX3_lowered cX3_lowered 2 (some .int), Cond.methodLink RX3 113 yX3_together, Cond.instanceMethod yX3_together, Cond.selects RX3 yX3_together yX3_together, Cond.code yX3_together cX3_together 4 (some .int), Cond.methodLink RX3 107 yX3_end, Cond.instanceMethod yX3_end, Cond.selects RX3 yX3_end yX3_end, Cond.code yX3_end cX3_end 4 (some .int), Cond.methodLink RL 130 yL_split]
def wsL_law0_r12 : List Cond := [Cond.static yL_split, Cond.codeWith yL_split cL_split 6 (some .int) [(0, 12, 15, 13), (0, 12, 19, 15), (0, 12, 23, 17)], Cond.methodLink RL 25 yX2_split, Cond.instanceMethod yX2_split, Cond.selects RX2 yX2_split yX2_split, Cond.code yX2_split cX2_split 7 (some .int), Cond.fieldLink RX2 82 "SplayOrchard$Tree" "top" "LSplayOrchard$Apple;", Cond.methodLink RX2 87 yX1_greatestBelow, Cond.instanceMethod yX1_greatestBelow, Cond.selects RX1 yX1_greatestBelow yX1_greatestBelow, Cond.code yX1_greatestBelow cX1_greatestBelow 4 (some (.object "SplayOrchard$Apple")), Cond.methodLink RX1 57 yX1_first, Cond.instanceMethod yX1_first, Cond.selects RX1 yX1_first yX1_first, Cond.code yX1_first cX1_first 1 (some (.object "SplayOrchard$Apple")), Cond.methodLink RX1 18 yX0_leastUnder, Cond.methodLink RX1 60 yX0_next, Cond.methodLink RL 133 yX3_split, Cond.instanceMethod yX3_split, Cond.selects RX3 yX3_split yX3_split, Cond.code yX3_split cX3_split 4 (some .int), Cond.methodLink RX3 119 yX3_parted, Cond.instanceMethod yX3_parted, Cond.selects RX3 yX3_parted yX3_parted]
def wsL_law0_r13 : List Cond := [Cond.code yX3_parted cX3_parted 6 (some .int), Cond.methodLink RX3 68 yX3_under, Cond.instanceMethod yX3_under, Cond.selects RX3 yX3_under yX3_under, Cond.code yX3_under cX3_under 3 (some .int), Cond.methodLink RX3 50 yX3_count, Cond.instanceMethod yX3_count, Cond.selects RX3 yX3_count yX3_count, Cond.code yX3_count cX3_count 2 (some .int), Cond.methodLink RX3 71 yX3_nth, Cond.instanceMethod yX3_nth, Cond.selects RX3 yX3_nth yX3_nth, Cond.code yX3_nth cX3_nth 4 (some .int), Cond.methodLink RL 134 yL_join, Cond.static yL_join, Cond.codeWith yL_join cL_join 5 (some .int) [(0, 10, 13, 13), (0, 10, 17, 17)], Cond.methodLink RL 29 yX2_join, Cond.instanceMethod yX2_join, Cond.selects RX2 yX2_join yX2_join, Cond.code yX2_join cX2_join 5 (some .int), Cond.methodLink RX2 96 yX2_mayJoin, Cond.static yX2_mayJoin, Cond.code yX2_mayJoin cX2_mayJoin 4 (some .boolean), Cond.fieldLink RX2 130 "SplayOrchard$Apple" "size" "I"]
def wsL_law0_r14 : List Cond := [Cond.methodLink RX2 115 yX1_first, Cond.methodLink RL 136 yX3_join, Cond.instanceMethod yX3_join, Cond.selects RX3 yX3_join yX3_join, Cond.code yX3_join cX3_join 3 (some .int), Cond.methodLink RX3 123 yX3_fits, Cond.instanceMethod yX3_fits, Cond.selects RX3 yX3_fits yX3_fits, Cond.code yX3_fits cX3_fits 3 (some .boolean), Cond.methodLink RL 137 yX2_apples, Cond.methodLink RL 140 yX3_apples, Cond.instanceMethod yX3_apples, Cond.selects RX3 yX3_apples yX3_apples, Cond.code yX3_apples cX3_apples 1 (some .int), Cond.methodLink RX3 127 yX3_ok, Cond.instanceMethod yX3_ok, Cond.selects RX3 yX3_ok yX3_ok, Cond.code yX3_ok cX3_ok 2 (some .int), Cond.methodLink RL 141 yX2_turnings, Cond.instanceMethod yX2_turnings, Cond.selects RX2 yX2_turnings yX2_turnings, Cond.code yX2_turnings cX2_turnings 1 (some .int), Cond.methodLink RL 144 yX3_turnings, Cond.instanceMethod yX3_turnings]
def wsL_law0_r15 : List Cond := [Cond.selects RX3 yX3_turnings yX3_turnings, Cond.code yX3_turnings cX3_turnings 1 (some .int), Cond.methodLink RL 145 yL_sizeOf, Cond.static yL_sizeOf, Cond.codeWith yL_sizeOf cL_sizeOf 4 (some .int) [(0, 9, 12, 13)], Cond.methodLink RL 32 yX2_sizeOf, Cond.instanceMethod yX2_sizeOf, Cond.selects RX2 yX2_sizeOf yX2_sizeOf, Cond.code yX2_sizeOf cX2_sizeOf 2 (some .int), Cond.methodLink RL 148 yX3_sizeOf, Cond.instanceMethod yX3_sizeOf, Cond.selects RX3 yX3_sizeOf yX3_sizeOf, Cond.code yX3_sizeOf cX3_sizeOf 2 (some .int), Cond.methodLink RL 149 yL_top, Cond.static yL_top, Cond.codeWith yL_top cL_top 4 (some .int) [(0, 9, 12, 13)], Cond.methodLink RL 36 yX2_top, Cond.instanceMethod yX2_top, Cond.selects RX2 yX2_top yX2_top, Cond.code yX2_top cX2_top 2 (some .int), Cond.methodLink RX2 105 yX2_sizeOrNone, Cond.static yX2_sizeOrNone, Cond.code yX2_sizeOrNone cX2_sizeOrNone 1 (some .int), Cond.methodLink RL 151 yX3_top]
def wsL_law0_r16 : List Cond := [Cond.instanceMethod yX3_top, Cond.selects RX3 yX3_top yX3_top, Cond.code yX3_top cX3_top 2 (some .int), Cond.methodLink RX3 130 yX3_sizeAt, Cond.instanceMethod yX3_sizeAt, Cond.selects RX3 yX3_sizeAt yX3_sizeAt, Cond.code yX3_sizeAt cX3_sizeAt 2 (some .int), Cond.methodLink RL 152 yL_height, Cond.static yL_height, Cond.codeWith yL_height cL_height 4 (some .int) [(0, 9, 12, 13)], Cond.methodLink RL 39 yX2_height, Cond.instanceMethod yX2_height, Cond.selects RX2 yX2_height yX2_height, Cond.code yX2_height cX2_height 2 (some .int), Cond.methodLink RX2 109 yX1_levels, Cond.instanceMethod yX1_levels, Cond.selects RX1 yX1_levels yX1_levels, Cond.code yX1_levels cX1_levels 3 (some .int), Cond.methodLink RX1 66 Lib.Math.max.name, Cond.static Lib.Math.max.name, Cond.initialized "java/lang/Math", Cond.code Lib.Math.max.name Lib.Math.max.code 2 (some .int), Cond.methodLink RL 154 yX3_height, Cond.instanceMethod yX3_height]
def wsL_law0_r17 : List Cond := [Cond.selects RX3 yX3_height yX3_height, Cond.code yX3_height cX3_height 2 (some .int), Cond.methodLink RX3 53 yX3_high, Cond.instanceMethod yX3_high, Cond.selects RX3 yX3_high yX3_high, Cond.code yX3_high cX3_high 2 (some .int), Cond.methodLink RX3 56 Lib.Math.max.name, Cond.methodLink RL 155 yL_leastHeight, Cond.static yL_leastHeight, Cond.codeWith yL_leastHeight cL_leastHeight 4 (some .int) [(0, 9, 12, 13)], Cond.methodLink RL 42 yX2_leastHeight, Cond.instanceMethod yX2_leastHeight, Cond.selects RX2 yX2_leastHeight yX2_leastHeight, Cond.code yX2_leastHeight cX2_leastHeight 5 (some .int), Cond.methodLink RL 157 yX3_leastHeight, Cond.instanceMethod yX3_leastHeight, Cond.selects RX3 yX3_leastHeight yX3_leastHeight, Cond.code yX3_leastHeight cX3_leastHeight 2 (some .int), Cond.methodLink RX3 133 yX3_lowest, Cond.instanceMethod yX3_lowest, Cond.selects RX3 yX3_lowest yX3_lowest, Cond.code yX3_lowest cX3_lowest 4 (some .int), Cond.methodLink RL 158 yL_depths, Cond.static yL_depths]
def wsL_law0_r18 : List Cond := [Cond.codeWith yL_depths cL_depths 4 (some .int) [(0, 9, 12, 13)], Cond.methodLink RL 45 yX2_depths, Cond.instanceMethod yX2_depths, Cond.selects RX2 yX2_depths yX2_depths, Cond.code yX2_depths cX2_depths 2 (some .int), Cond.methodLink RX2 112 yX1_depthSum, Cond.instanceMethod yX1_depthSum, Cond.selects RX1 yX1_depthSum yX1_depthSum, Cond.code yX1_depthSum cX1_depthSum 3 (some .int), Cond.methodLink RL 160 yX3_depths, Cond.instanceMethod yX3_depths, Cond.selects RX3 yX3_depths yX3_depths, Cond.code yX3_depths cX3_depths 2 (some .int), Cond.methodLink RX3 62 yX3_depthsOf, Cond.instanceMethod yX3_depthsOf, Cond.selects RX3 yX3_depthsOf yX3_depthsOf, Cond.code yX3_depthsOf cX3_depthsOf 3 (some .int), Cond.methodLink RL 161 yL_smallest, Cond.static yL_smallest, Cond.codeWith yL_smallest cL_smallest 4 (some .int) [(0, 9, 12, 13)], Cond.methodLink RL 48 yX2_smallest, Cond.instanceMethod yX2_smallest, Cond.selects RX2 yX2_smallest yX2_smallest, Cond.code yX2_smallest cX2_smallest 2 (some .int)]
def wsL_law0_r19 : List Cond := [Cond.methodLink RL 163 yX3_smallest, Cond.instanceMethod yX3_smallest, Cond.selects RX3 yX3_smallest yX3_smallest, Cond.code yX3_smallest cX3_smallest 2 (some .int), Cond.methodLink RL 164 yL_greatest, Cond.static yL_greatest, Cond.codeWith yL_greatest cL_greatest 4 (some .int) [(0, 9, 12, 13)], Cond.methodLink RL 51 yX2_greatest, Cond.instanceMethod yX2_greatest, Cond.selects RX2 yX2_greatest yX2_greatest, Cond.code yX2_greatest cX2_greatest 2 (some .int), Cond.methodLink RL 166 yX3_greatest, Cond.instanceMethod yX3_greatest, Cond.selects RX3 yX3_greatest yX3_greatest, Cond.code yX3_greatest cX3_greatest 2 (some .int), Cond.methodLink RL 167 yL_inOrder, Cond.static yL_inOrder, Cond.codeWith yL_inOrder cL_inOrder 5 (some .int) [(0, 10, 13, 13)], Cond.methodLink RL 54 yX2_inOrder, Cond.instanceMethod yX2_inOrder, Cond.selects RX2 yX2_inOrder yX2_inOrder, Cond.code yX2_inOrder cX2_inOrder 4 (some .int), Cond.methodLink RX2 122 yX1_at, Cond.instanceMethod yX1_at]
def wsL_law0_r20 : List Cond := [Cond.selects RX1 yX1_at yX1_at, Cond.code yX1_at cX1_at 4 (some (.object "SplayOrchard$Apple")), Cond.methodLink RL 169 yX3_inOrder, Cond.instanceMethod yX3_inOrder, Cond.selects RX3 yX3_inOrder yX3_inOrder, Cond.code yX3_inOrder cX3_inOrder 3 (some .int), Cond.methodLink RL 170 yL_leaves, Cond.static yL_leaves, Cond.codeWith yL_leaves cL_leaves 4 (some .int) [(0, 9, 12, 13)], Cond.methodLink RL 57 yX2_leaves, Cond.instanceMethod yX2_leaves, Cond.selects RX2 yX2_leaves yX2_leaves, Cond.code yX2_leaves cX2_leaves 2 (some .int), Cond.methodLink RX2 133 yX1_leafCount, Cond.instanceMethod yX1_leafCount, Cond.selects RX1 yX1_leafCount yX1_leafCount, Cond.code yX1_leafCount cX1_leafCount 3 (some .int), Cond.fieldLink RX1 72 "SplayOrchard$Apple" "left" "LSplayOrchard$Apple;", Cond.fieldLink RX1 75 "SplayOrchard$Apple" "right" "LSplayOrchard$Apple;", Cond.methodLink RL 172 yX3_leaves, Cond.instanceMethod yX3_leaves, Cond.selects RX3 yX3_leaves yX3_leaves, Cond.code yX3_leaves cX3_leaves 2 (some .int), Cond.methodLink RX3 65 yX3_ends]
def wsL_law0_r21 : List Cond := [Cond.instanceMethod yX3_ends, Cond.selects RX3 yX3_ends yX3_ends, Cond.code yX3_ends cX3_ends 2 (some .int), Cond.methodLink RL 173 yL_has, Cond.static yL_has, Cond.codeWith yL_has cL_has 5 (some .int) [(0, 17, 20, 13)], Cond.methodLink RL 60 yX2_has, Cond.instanceMethod yX2_has, Cond.selects RX2 yX2_has yX2_has, Cond.code yX2_has cX2_has 3 (some .boolean), Cond.methodLink RL 175 yX3_has, Cond.instanceMethod yX3_has, Cond.selects RX3 yX3_has yX3_has, Cond.code yX3_has cX3_has 3 (some .boolean), Cond.methodLink RX3 136 yX3_isNot, Cond.instanceMethod yX3_isNot, Cond.selects RX3 yX3_isNot yX3_isNot, Cond.code yX3_isNot cX3_isNot 2 (some .boolean), Cond.methodLink RL 176 yL_smaller, Cond.static yL_smaller, Cond.codeWith yL_smaller cL_smaller 5 (some .int) [(0, 10, 13, 13)], Cond.methodLink RL 64 yX2_smaller, Cond.instanceMethod yX2_smaller, Cond.selects RX2 yX2_smaller yX2_smaller]
def wsL_law0_r22 : List Cond := [Cond.code yX2_smaller cX2_smaller 3 (some .int), Cond.methodLink RX2 136 yX1_countBelow, Cond.instanceMethod yX1_countBelow, Cond.selects RX1 yX1_countBelow yX1_countBelow, Cond.code yX1_countBelow cX1_countBelow 4 (some .int), Cond.methodLink RL 178 yX3_smaller, Cond.instanceMethod yX3_smaller, Cond.selects RX3 yX3_smaller yX3_smaller, Cond.code yX3_smaller cX3_smaller 3 (some .int), Cond.methodLink RL 179 yL_depthOf, Cond.static yL_depthOf, Cond.codeWith yL_depthOf cL_depthOf 5 (some .int) [(0, 10, 13, 13), (0, 10, 17, 17)], Cond.methodLink RL 67 yX2_depthOf, Cond.instanceMethod yX2_depthOf, Cond.selects RX2 yX2_depthOf yX2_depthOf, Cond.code yX2_depthOf cX2_depthOf 3 (some .int), Cond.methodLink RX2 140 yX0_depth, Cond.methodLink RL 181 yX3_depthOf, Cond.instanceMethod yX3_depthOf, Cond.selects RX3 yX3_depthOf yX3_depthOf, Cond.code yX3_depthOf cX3_depthOf 4 (some .int), Cond.methodLink RX3 139 yX3_asked, Cond.instanceMethod yX3_asked, Cond.selects RX3 yX3_asked yX3_asked]
def wsL_law0_r23 : List Cond := [Cond.code yX3_asked cX3_asked 4 (some .int), Cond.methodLink RL 182 yL_above, Cond.static yL_above, Cond.codeWith yL_above cL_above 5 (some .int) [(0, 10, 13, 13), (0, 10, 17, 17)], Cond.methodLink RL 70 yX2_above, Cond.instanceMethod yX2_above, Cond.selects RX2 yX2_above yX2_above, Cond.code yX2_above cX2_above 3 (some .int), Cond.fieldLink RX2 143 "SplayOrchard$Apple" "up" "LSplayOrchard$Apple;", Cond.methodLink RL 184 yX3_above, Cond.instanceMethod yX3_above, Cond.selects RX3 yX3_above yX3_above, Cond.code yX3_above cX3_above 4 (some .int), Cond.methodLink RL 185 yL_leftOf, Cond.static yL_leftOf, Cond.codeWith yL_leftOf cL_leftOf 5 (some .int) [(0, 10, 13, 13), (0, 10, 17, 17)], Cond.methodLink RL 73 yX2_leftOf, Cond.instanceMethod yX2_leftOf, Cond.selects RX2 yX2_leftOf yX2_leftOf, Cond.code yX2_leftOf cX2_leftOf 3 (some .int), Cond.methodLink RL 187 yX3_leftOf, Cond.instanceMethod yX3_leftOf, Cond.selects RX3 yX3_leftOf yX3_leftOf, Cond.code yX3_leftOf cX3_leftOf 4 (some .int)]
def wsL_law0_r24 : List Cond := [Cond.methodLink RL 188 yL_rightOf, Cond.static yL_rightOf, Cond.codeWith yL_rightOf cL_rightOf 5 (some .int) [(0, 10, 13, 13), (0, 10, 17, 17)], Cond.methodLink RL 76 yX2_rightOf, Cond.instanceMethod yX2_rightOf, Cond.selects RX2 yX2_rightOf yX2_rightOf, Cond.code yX2_rightOf cX2_rightOf 3 (some .int), Cond.methodLink RL 190 yX3_rightOf, Cond.instanceMethod yX3_rightOf, Cond.selects RX3 yX3_rightOf yX3_rightOf, Cond.code yX3_rightOf cX3_rightOf 4 (some .int), Cond.methodLink RL 191 yL_below, Cond.static yL_below, Cond.codeWith yL_below cL_below 5 (some .int) [(0, 10, 13, 13), (0, 10, 17, 17)], Cond.methodLink RL 79 yX2_below, Cond.instanceMethod yX2_below, Cond.selects RX2 yX2_below yX2_below, Cond.code yX2_below cX2_below 3 (some .int), Cond.methodLink RX2 146 yX0_countUnder, Cond.methodLink RL 193 yX3_below, Cond.instanceMethod yX3_below, Cond.selects RX3 yX3_below yX3_below, Cond.code yX3_below cX3_below 4 (some .int), Cond.methodLink RL 194 yL_eaten]
def wsL_law0_r25 : List Cond := [Cond.static yL_eaten, Cond.codeWith yL_eaten cL_eaten 5 (some .int) [(0, 10, 13, 13), (0, 10, 17, 17)], Cond.methodLink RL 82 yX2_eaten, Cond.instanceMethod yX2_eaten, Cond.selects RX2 yX2_eaten yX2_eaten, Cond.code yX2_eaten cX2_eaten 3 (some .int), Cond.methodLink RL 196 yX3_eaten, Cond.instanceMethod yX3_eaten, Cond.selects RX3 yX3_eaten yX3_eaten, Cond.code yX3_eaten cX3_eaten 4 (some .int), Cond.methodLink RL 197 yL_favourite, Cond.static yL_favourite, Cond.codeWith yL_favourite cL_favourite 4 (some .int) [(0, 9, 12, 13)], Cond.methodLink RL 85 yX2_favourite, Cond.instanceMethod yX2_favourite, Cond.selects RX2 yX2_favourite yX2_favourite, Cond.code yX2_favourite cX2_favourite 2 (some .int), Cond.methodLink RX2 149 yX1_mostBitten, Cond.instanceMethod yX1_mostBitten, Cond.selects RX1 yX1_mostBitten yX1_mostBitten, Cond.code yX1_mostBitten cX1_mostBitten 3 (some (.object "SplayOrchard$Apple")), Cond.fieldLink RX1 78 "SplayOrchard$Apple" "bites" "I", Cond.methodLink RL 199 yX3_favourite, Cond.instanceMethod yX3_favourite]
def wsL_law0_r26 : List Cond := [Cond.selects RX3 yX3_favourite yX3_favourite, Cond.code yX3_favourite cX3_favourite 2 (some .int), Cond.methodLink RX3 142 yX3_liked, Cond.instanceMethod yX3_liked, Cond.selects RX3 yX3_liked yX3_liked, Cond.code yX3_liked cX3_liked 5 (some .int), Cond.methodLink RL 200 yL_meet, Cond.static yL_meet, Cond.codeWith yL_meet cL_meet 6 (some .int) [(0, 12, 15, 13), (0, 12, 19, 17)], Cond.methodLink RL 88 yX2_meet, Cond.instanceMethod yX2_meet, Cond.selects RX2 yX2_meet yX2_meet, Cond.code yX2_meet cX2_meet 7 (some .int), Cond.methodLink RX2 152 yX1_meeting, Cond.instanceMethod yX1_meeting, Cond.selects RX1 yX1_meeting yX1_meeting, Cond.code yX1_meeting cX1_meeting 6 (some (.object "SplayOrchard$Apple")), Cond.methodLink RX1 81 Lib.Math.min.name, Cond.static Lib.Math.min.name, Cond.code Lib.Math.min.name Lib.Math.min.code 2 (some .int), Cond.methodLink RL 202 yX3_meet, Cond.instanceMethod yX3_meet, Cond.selects RX3 yX3_meet yX3_meet, Cond.code yX3_meet cX3_meet 6 (some .int)]
def wsL_law0_r27 : List Cond := [Cond.methodLink RL 203 yL_depthBehind, Cond.static yL_depthBehind, Cond.codeWith yL_depthBehind cL_depthBehind 6 (some .int) [(0, 12, 15, 13), (0, 12, 19, 17)], Cond.methodLink RL 91 yX2_depthBehind, Cond.instanceMethod yX2_depthBehind, Cond.selects RX2 yX2_depthBehind yX2_depthBehind, Cond.code yX2_depthBehind cX2_depthBehind 5 (some .int), Cond.methodLink RX2 156 yX2_tryEating, Cond.instanceMethod yX2_tryEating, Cond.selects RX2 yX2_tryEating yX2_tryEating, Cond.code yX2_tryEating cX2_tryEating 4 none, Cond.fieldLink RX2 221 "SplayOrchard$Apple" "standIn" "LSplayOrchard$Apple;", Cond.methodLink RX2 217 yX1_standInFor, Cond.instanceMethod yX1_standInFor, Cond.selects RX1 yX1_standInFor yX1_standInFor, Cond.code yX1_standInFor cX1_standInFor 3 none, Cond.methodLink RX1 84 yX0_linkStandIn, Cond.instanceMethod yX0_linkStandIn, Cond.selects RX0 yX0_linkStandIn yX0_linkStandIn, Cond.code yX0_linkStandIn cX0_linkStandIn 1 none, Cond.methodLink RX0 47 yX0_standInOf, Cond.static yX0_standInOf, Cond.code yX0_standInOf cX0_standInOf 1 (some (.object "SplayOrchard$Apple")), Cond.methodLink RX1 87 yX0_standInOf]
def wsL_law0_r28 : List Cond := [Cond.methodLink RL 205 yX3_depthBehind, Cond.instanceMethod yX3_depthBehind, Cond.selects RX3 yX3_depthBehind yX3_depthBehind, Cond.code yX3_depthBehind cX3_depthBehind 7 (some .int), Cond.methodLink RX3 145 yX3_keep, Cond.instanceMethod yX3_keep, Cond.selects RX3 yX3_keep yX3_keep, Cond.code yX3_keep cX3_keep 1 none, Cond.methodLink RX3 20 arraycopyName, Cond.native arraycopyName, Cond.static arraycopyName, Cond.initialized "java/lang/System", Cond.fieldLink RX3 29 "SplayOrchardModel" "keptTurned" "I", Cond.methodLink RX3 148 yX3_bringBack, Cond.instanceMethod yX3_bringBack, Cond.selects RX3 yX3_bringBack yX3_bringBack, Cond.code yX3_bringBack cX3_bringBack 1 none, Cond.methodLink RL 206 yL_heightBehind, Cond.static yL_heightBehind, Cond.codeWith yL_heightBehind cL_heightBehind 5 (some .int) [(0, 10, 13, 13), (0, 10, 17, 17)], Cond.methodLink RL 94 yX2_heightBehind, Cond.instanceMethod yX2_heightBehind, Cond.selects RX2 yX2_heightBehind yX2_heightBehind, Cond.code yX2_heightBehind cX2_heightBehind 4 (some .int)]
def wsL_law0_r29 : List Cond := [Cond.methodLink RL 208 yX3_heightBehind, Cond.instanceMethod yX3_heightBehind, Cond.selects RX3 yX3_heightBehind yX3_heightBehind, Cond.code yX3_heightBehind cX3_heightBehind 5 (some .int), Cond.methodLink RL 209 yL_bestToEat, Cond.static yL_bestToEat, Cond.codeWith yL_bestToEat cL_bestToEat 4 (some .int) [(0, 9, 12, 13)], Cond.methodLink RL 97 yX2_bestToEat, Cond.instanceMethod yX2_bestToEat, Cond.selects RX2 yX2_bestToEat yX2_bestToEat, Cond.code yX2_bestToEat cX2_bestToEat 7 (some .int), Cond.methodLink RX2 159 yX0_next, Cond.methodLink RL 211 yX3_bestToEat, Cond.instanceMethod yX3_bestToEat, Cond.selects RX3 yX3_bestToEat yX3_bestToEat, Cond.code yX3_bestToEat cX3_bestToEat 2 (some .int), Cond.methodLink RX3 151 yX3_best, Cond.instanceMethod yX3_best, Cond.selects RX3 yX3_best yX3_best, Cond.code yX3_best cX3_best 7 (some .int), Cond.methodLink RL 212 yL_plantDepth, Cond.static yL_plantDepth, Cond.codeWith yL_plantDepth cL_plantDepth 5 (some .int) [(0, 10, 13, 13), (0, 10, 17, 15)], Cond.methodLink RL 100 yX2_plantDepth]
def wsL_law0_r30 : List Cond := [Cond.instanceMethod yX2_plantDepth, Cond.selects RX2 yX2_plantDepth yX2_plantDepth, Cond.code yX2_plantDepth cX2_plantDepth 5 (some .int), Cond.methodLink RX2 162 yX1_nearest, Cond.methodLink RL 214 yX3_plantDepth, Cond.instanceMethod yX3_plantDepth, Cond.selects RX3 yX3_plantDepth yX3_plantDepth, Cond.code yX3_plantDepth cX3_plantDepth 3 (some .int), Cond.methodLink RX3 154 yX3_plantDeep, Cond.instanceMethod yX3_plantDeep, Cond.selects RX3 yX3_plantDeep yX3_plantDeep, Cond.code yX3_plantDeep cX3_plantDeep 5 (some .int), Cond.methodLink RL 215 yL_canJoin, Cond.static yL_canJoin, Cond.codeWith yL_canJoin cL_canJoin 5 (some .int) [(0, 17, 20, 13)], Cond.methodLink RL 103 yX2_canJoin, Cond.instanceMethod yX2_canJoin, Cond.selects RX2 yX2_canJoin yX2_canJoin, Cond.code yX2_canJoin cX2_canJoin 3 (some .boolean), Cond.methodLink RL 217 yX3_canJoin, Cond.instanceMethod yX3_canJoin, Cond.selects RX3 yX3_canJoin yX3_canJoin, Cond.code yX3_canJoin cX3_canJoin 3 (some .boolean), Cond.methodLink RL 218 yL_meanDepth]
def wsL_law0_r31 : List Cond := [Cond.static yL_meanDepth, Cond.codeWith yL_meanDepth cL_meanDepth 4 (some .int) [(0, 8, 11, 13)], Cond.methodLink RL 106 yX2_meanDepth, Cond.instanceMethod yX2_meanDepth, Cond.selects RX2 yX2_meanDepth yX2_meanDepth, Cond.code yX2_meanDepth cX2_meanDepth 4 (some .double), Cond.methodLink RL 221 yX3_meanDepth, Cond.instanceMethod yX3_meanDepth, Cond.selects RX3 yX3_meanDepth yX3_meanDepth, Cond.code yX3_meanDepth cX3_meanDepth 2 (some .double), Cond.methodLink RL 222 yX2_digest, Cond.instanceMethod yX2_digest, Cond.selects RX2 yX2_digest yX2_digest, Cond.code yX2_digest cX2_digest 5 (some .long), Cond.constantLong RX2 165 (2339), Cond.methodLink RX2 167 yX2_mix, Cond.static yX2_mix, Cond.code yX2_mix cX2_mix 3 (some .long), Cond.constantLong RX2 204 (31), Cond.methodLink RX2 171 yX2_turnings, Cond.methodLink RX2 174 yX2_mixRow, Cond.instanceMethod yX2_mixRow, Cond.selects RX2 yX2_mixRow yX2_mixRow, Cond.code yX2_mixRow cX2_mixRow 6 (some .long)]
def wsL_law0_r32 : List Cond := [Cond.methodLink RX2 181 yX2_sizeOf, Cond.methodLink RX2 184 yX2_top, Cond.methodLink RX2 186 yX2_height, Cond.methodLink RX2 189 yX2_leastHeight, Cond.methodLink RX2 192 yX2_depths, Cond.methodLink RX2 195 yX2_leaves, Cond.methodLink RX2 198 yX2_favourite, Cond.methodLink RX2 201 yX2_bestToEat, Cond.methodLink RX2 177 yX2_mixApple, Cond.static yX2_mixApple, Cond.code yX2_mixApple cX2_mixApple 5 (some .long), Cond.methodLink RL 226 yX3_digest, Cond.instanceMethod yX3_digest, Cond.selects RX3 yX3_digest yX3_digest, Cond.code yX3_digest cX3_digest 7 (some .long), Cond.constantLong RX3 157 (72509), Cond.constantLong RX3 159 (31)]
def wsL_law0 : List Cond := (wsL_law0_r1 ++ (wsL_law0_r2 ++ (wsL_law0_r3 ++ (wsL_law0_r4 ++ (wsL_law0_r5 ++ (wsL_law0_r6 ++ (wsL_law0_r7 ++ (wsL_law0_r8 ++ (wsL_law0_r9 ++ (wsL_law0_r10 ++ (wsL_law0_r11 ++ (wsL_law0_r12 ++ (wsL_law0_r13 ++ (wsL_law0_r14 ++ (wsL_law0_r15 ++ (wsL_law0_r16 ++ (wsL_law0_r17 ++ (wsL_law0_r18 ++ (wsL_law0_r19 ++ (wsL_law0_r20 ++ (wsL_law0_r21 ++ (wsL_law0_r22 ++ (wsL_law0_r23 ++ (wsL_law0_r24 ++ (wsL_law0_r25 ++ (wsL_law0_r26 ++ (wsL_law0_r27 ++ (wsL_law0_r28 ++ (wsL_law0_r29 ++ (wsL_law0_r30 ++ (wsL_law0_r31 ++ wsL_law0_r32))))))))))))))))))))))))))))))) ++ wsX20 ++ wsX30 ++ wsX10 ++ wsX00 ++ ([] : List Cond)
def wsL_law : List Cond := wsL_law0 ++ (vx_atS RX2 36 "java/lang/IllegalStateException" ["java/lang/RuntimeException", "java/lang/Exception"]).filter goodWord ++ (vx_atS RX2 129 "java/lang/IndexOutOfBoundsException" ["java/lang/RuntimeException", "java/lang/Exception"]).filter goodWord ++ (vx_atS RX2 212 "java/lang/IllegalArgumentException" ["java/lang/RuntimeException", "java/lang/Exception"]).filter goodWord
end
section
/-! PURE: trees of numbers (the library's RArray with no leaves' words: a branch is a node), their places, the turning of a node, and pointers that stand for a tree -/
abbrev Tr : Type := _root_.Lean.RArray Unit
abbrev PF : Type := Nat → Nat → Option Nat
abbrev Cx : Type := List (Bool × Nat × Tr)
abbrev tE : Tr := .leaf ()
abbrev tN (k : Nat) (l r : Tr) : Tr := .branch k l r
def bt (s : Bool) : Nat := bif s then 1 else 0
theorem bt_f : bt false = 0 := rfl
theorem bt_t : bt true = 1 := rfl
def tids : Tr → List Nat
  | .leaf _ => []
  | .branch k l r => tids l ++ k :: tids r
def rt : Tr → Option Nat
  | .leaf _ => none
  | .branch k _ _ => some k
theorem tids_leaf (u : Unit) : tids (.leaf u) = [] := rfl
theorem tids_branch (k : Nat) (l r : Tr) : tids (.branch k l r) = tids l ++ k :: tids r := rfl
theorem rt_leaf (u : Unit) : rt (.leaf u) = none := rfl
theorem rt_branch (k : Nat) (l r : Tr) : rt (.branch k l r) = some k := rfl
theorem rt_mem {t : Tr} {k : Nat} (h : rt t = some k) : k ∈ tids t := by
  cases t with
  | leaf u => cases h
  | branch a l r =>
    cases h
    simp [tids]
theorem rt_none {t : Tr} (h : rt t = none) : t = .leaf () := by
  cases t with
  | leaf u => rfl
  | branch a l r => cases h
theorem rt_some {t : Tr} {k : Nat} (h : rt t = some k) : ∃ l r, t = .branch k l r := by
  cases t with
  | leaf u => cases h
  | branch a l r =>
    cases h
    exact ⟨l, r, rfl⟩
/-- one pointer set -/
def sP (P : PF) (k a : Nat) (v : Option Nat) : PF := fun j b => if j = k ∧ b = a then v else P j b
theorem sP_eq (P : PF) (k a : Nat) (v : Option Nat) : sP P k a v k a = v := by simp [sP]
theorem sP_ne {P : PF} {k a j b : Nat} {v : Option Nat} (h : ¬ (j = k ∧ b = a)) : sP P k a v j b = P j b := by simp only [sP, if_neg h]
theorem sP_nk {P : PF} {k a j b : Nat} {v : Option Nat} (h : j ≠ k) : sP P k a v j b = P j b := sP_ne (fun q => h q.1)
theorem sP_na {P : PF} {k a j b : Nat} {v : Option Nat} (h : b ≠ a) : sP P k a v j b = P j b := sP_ne (fun q => h q.2)
/-- pointers that stand for a tree: 0 left, 1 right, 2 above -/
def rep (P : PF) : Option Nat → Tr → Prop
  | _, .leaf _ => True
  | par, .branch k l r => P 2 k = par ∧ P 0 k = rt l ∧ P 1 k = rt r ∧ rep P (some k) l ∧ rep P (some k) r
theorem rep_re {P P' : PF} {par' : Option Nat} : ∀ (t : Tr) (par : Option Nat), rep P par t → (∀ x ∈ tids t, P' 0 x = P 0 x ∧ P' 1 x = P 1 x ∧ (rt t ≠ some x → P' 2 x = P 2 x) ∧ (rt t = some x → P' 2 x = par')) → (tids t).Nodup → rep P' par' t := by
  intro t
  induction t generalizing par' with
  | leaf u => intros; trivial
  | branch k l r ihl ihr =>
    intro par h hx hn
    obtain ⟨h2, h0, h1, hl, hr⟩ := h
    rw [tids_branch] at hn hx
    obtain ⟨nl, nkr, hd⟩ := List.nodup_append.mp hn
    obtain ⟨nk, nr⟩ := List.nodup_cons.mp nkr
    have hk := hx k (by simp)
    refine ⟨hk.2.2.2 rfl, by rw [hk.1, h0], by rw [hk.2.1, h1], ihl (some k) hl (fun x hxl => ?_) nl, ihr (some k) hr (fun x hxr => ?_) nr⟩
    · have q := hx x (by simp [hxl])
      have hne : k ≠ x := fun e => hd x hxl k (by simp) e.symm
      refine ⟨q.1, q.2.1, fun _ => q.2.2.1 (by simpa [rt] using hne), fun e => ?_⟩
      rw [q.2.2.1 (by simpa [rt] using hne)]
      obtain ⟨a, b, rfl⟩ := rt_some e
      exact hl.1
    · have q := hx x (by simp [hxr])
      have hne : k ≠ x := fun e => nk (by rw [e]; exact hxr)
      refine ⟨q.1, q.2.1, fun _ => q.2.2.1 (by simpa [rt] using hne), fun e => ?_⟩
      rw [q.2.2.1 (by simpa [rt] using hne)]
      obtain ⟨a, b, rfl⟩ := rt_some e
      exact hr.1
theorem rep_congr {P P' : PF} : ∀ (t : Tr) (par : Option Nat), rep P par t → (∀ x ∈ tids t, P' 0 x = P 0 x ∧ P' 1 x = P 1 x ∧ P' 2 x = P 2 x) → rep P' par t := by
  intro t
  induction t with
  | leaf u => intros; trivial
  | branch k l r ihl ihr =>
    intro par h hx
    obtain ⟨h2, h0, h1, hl, hr⟩ := h
    have hk := hx k (by simp [tids])
    exact ⟨by rw [hk.2.2, h2], by rw [hk.1, h0], by rw [hk.2.1, h1], ihl _ hl (fun x q => hx x (by simp [tids, q])), ihr _ hr (fun x q => hx x (by simp [tids, q]))⟩
/-- a node with one side in hand -/
def nd (s : Bool) (p : Nat) (t u : Tr) : Tr := bif s then .branch p u t else .branch p t u
def plug : Tr → Cx → Tr
  | t, [] => t
  | t, (s, p, u) :: C => plug (nd s p t u) C
def parC : Cx → Option Nat
  | [] => none
  | (_, p, _) :: _ => some p
def repC (P : PF) : Option Nat → Cx → Prop
  | _, [] => True
  | x, (s, p, u) :: C => P (bt s) p = x ∧ P (bt (!s)) p = rt u ∧ rep P (some p) u ∧ P 2 p = parC C ∧ repC P (some p) C
/-- a tree at a place -/
def Zp (P : PF) (t : Tr) (C : Cx) : Prop := rep P (parC C) t ∧ repC P (rt t) C
theorem rt_nd (s : Bool) (p : Nat) (t u : Tr) : rt (nd s p t u) = some p := by cases s <;> rfl
theorem tids_nd (s : Bool) (p : Nat) (t u : Tr) : tids (nd s p t u) = bif s then tids u ++ p :: tids t else tids t ++ p :: tids u := by cases s <;> rfl
theorem Zp_step {P : PF} {t u : Tr} {C : Cx} {s : Bool} {p : Nat} : Zp P t ((s, p, u) :: C) ↔ Zp P (nd s p t u) C := by
  cases s
  · constructor
    · rintro ⟨h1, h2, h3, h4, h5, h6⟩
      exact ⟨⟨h5, h2, h3, h1, h4⟩, h6⟩
    · rintro ⟨⟨h5, h2, h3, h1, h4⟩, h6⟩
      exact ⟨h1, h2, h3, h4, h5, h6⟩
  · constructor
    · rintro ⟨h1, h2, h3, h4, h5, h6⟩
      exact ⟨⟨h5, h3, h2, h4, h1⟩, h6⟩
    · rintro ⟨⟨h5, h3, h2, h4, h1⟩, h6⟩
      exact ⟨h1, h2, h3, h4, h5, h6⟩
theorem Zp_plug {P : PF} : ∀ (C : Cx) (t : Tr), Zp P t C ↔ rep P none (plug t C) := by
  intro C
  induction C with
  | nil => intro t; exact ⟨fun h => h.1, fun h => ⟨h, trivial⟩⟩
  | cons f C ih =>
    intro t
    obtain ⟨s, p, u⟩ := f
    exact Zp_step.trans (ih _)
def cL : Cx → List Nat
  | [] => []
  | (s, p, u) :: C => cL C ++ (bif s then tids u ++ [p] else [])
def cR : Cx → List Nat
  | [] => []
  | (s, p, u) :: C => (bif s then [] else p :: tids u) ++ cR C
theorem tids_plug : ∀ (C : Cx) (t : Tr), tids (plug t C) = cL C ++ tids t ++ cR C := by
  intro C
  induction C with
  | nil => intro t; simp [plug, cL, cR]
  | cons f C ih =>
    intro t
    obtain ⟨s, p, u⟩ := f
    rw [plug, ih, tids_nd]
    cases s <;> simp [cL, cR]
theorem repC_congr {P P' : PF} : ∀ (C : Cx) (x : Option Nat), repC P x C → (∀ y, y ∈ cL C ∨ y ∈ cR C → P' 0 y = P 0 y ∧ P' 1 y = P 1 y ∧ P' 2 y = P 2 y) → repC P' x C := by
  intro C
  induction C with
  | nil => intros; trivial
  | cons f C ih =>
    intro x h hx
    obtain ⟨s, p, u⟩ := f
    obtain ⟨h1, h2, h3, h4, h5⟩ := h
    have hp := hx p (by cases s <;> simp [cL, cR])
    refine ⟨?_, ?_, rep_congr u _ h3 (fun y q => hx y (by cases s <;> simp [cL, cR, q])), by rw [hp.2.2, h4], ih _ h5 (fun y q => hx y ?_)⟩
    · cases s
      · rw [bt_f] at h1 ⊢; rw [hp.1, h1]
      · rw [bt_t] at h1 ⊢; rw [hp.2.1, h1]
    · cases s
      · show P' 1 p = _; rw [hp.2.1]; exact h2
      · show P' 0 p = _; rw [hp.1]; exact h2
    · rcases q with q | q
      · exact Or.inl (by simp [cL, q])
      · exact Or.inr (by simp [cR, q])
/-- k, with what is below it, takes the place of p above it: its new sides -/
def rtn (s : Bool) (l r : Tr) (p : Nat) (u : Tr) : Tr × Tr := bif s then (.branch p u l, r) else (l, .branch p r u)
theorem tids_rtn (s : Bool) (k : Nat) (l r : Tr) (p : Nat) (u : Tr) : tids (.branch k (rtn s l r p u).1 (rtn s l r p u).2) = tids (nd s p (.branch k l r) u) := by
  cases s <;> simp [rtn, nd, tids]
def hng (P : PF) (k up : Option Nat) (s : Nat) : PF :=
  match k with
  | some c => sP (match up with | some u => sP P s u k | none => P) 2 c up
  | none => match up with | some u => sP P s u k | none => P
def sdd (P : PF) (k p : Nat) : Nat := if P 0 p = some k then 0 else 1
def trn (P : PF) (k : Nat) : PF := match P 2 k with
  | none => P
  | some p => match P 2 p with
    | none => sP (hng (hng P (P (1 - sdd P k p) k) (some p) (sdd P k p)) (some p) (some k) (1 - sdd P k p)) 2 k none
    | some q => sP (sP (hng (hng P (P (1 - sdd P k p) k) (some p) (sdd P k p)) (some p) (some k) (1 - sdd P k p)) 2 k (some q)) (sdd P p q) q (some k)
/-- bringing up -/
def spl (k : Nat) : Cx → Tr → Tr → Tr
  | [], l, r => .branch k l r
  | [(s, p, u)], l, r => .branch k (rtn s l r p u).1 (rtn s l r p u).2
  | (s1, p1, u1) :: (s2, p2, u2) :: C, l, r =>
    if s1 = s2 then spl k C (rtn s1 l r p1 (nd s1 p2 u1 u2)).1 (rtn s1 l r p1 (nd s1 p2 u1 u2)).2
    else spl k C (rtn s2 (rtn s1 l r p1 u1).1 (rtn s1 l r p1 u1).2 p2 u2).1 (rtn s2 (rtn s1 l r p1 u1).1 (rtn s1 l r p1 u1).2 p2 u2).2
theorem sdd_of {P : PF} {s : Bool} {p k : Nat} {u : Tr} {C : Cx} (h : repC P (some k) ((s, p, u) :: C)) (hk : k ∉ tids u) : sdd P k p = bt s := by
  obtain ⟨h1, h2, -⟩ := h
  cases s
  · show (if P 0 p = some k then 0 else 1) = 0
    rw [if_pos (by exact h1)]
  · show (if P 0 p = some k then 0 else 1) = 1
    have h2 : P 0 p = rt u := h2
    rw [if_neg (fun e => hk (rt_mem (by rw [← h2, e])))]
/-- what the turning writes, by places -/
def trv (P : PF) (k p : Nat) (s : Bool) (b : Option Nat) (g : Option Nat) (fs : Nat) (j x : Nat) : Option Nat :=
  if j = 2 ∧ x = k then g
  else if g = some x ∧ j = fs then some k
  else if j = 2 ∧ x = p then some k
  else if j = bt (!s) ∧ x = k then some p
  else if j = 2 ∧ b = some x then some p
  else if j = bt s ∧ x = p then b
  else P j x
theorem trn_at {P : PF} {k p : Nat} {s : Bool} (hp : P 2 k = some p) (hs : sdd P k p = bt s) (hkp : k ≠ p) (hg : ∀ q, P 2 p = some q → q ≠ k ∧ q ≠ p ∧ P (bt (!s)) k ≠ some q) (hb : P (bt (!s)) k ≠ some k ∧ P (bt (!s)) k ≠ some p) (j x : Nat) :
    trn P k j x = trv P k p s (P (bt (!s)) k) (P 2 p) (match P 2 p with | none => 0 | some q => sdd P p q) j x := by
  have e1 : 1 - sdd P k p = bt (!s) := by rw [hs]; cases s <;> rfl
  unfold trn
  rw [hp]
  dsimp only
  rw [e1, hs]
  cases hP : P 2 p with
  | none =>
    cases hB : P (bt (!s)) k with
    | none =>
      cases s <;> simp only [trv, hng, sP, bt, Bool.not_true, Bool.not_false, cond_true, cond_false] <;> grind (splits := 30)
    | some b =>
      rw [hB] at hb
      cases s <;> simp only [trv, hng, sP, bt, Bool.not_true, Bool.not_false, cond_true, cond_false] <;> grind (splits := 30)
  | some q =>
    have hq := hg q hP
    dsimp only
    have hsq : sdd P p q = 0 ∨ sdd P p q = 1 := by unfold sdd; split <;> simp
    generalize sdd P p q = f at hsq
    cases hB : P (bt (!s)) k with
    | none =>
      cases s <;> simp only [trv, hng, sP, bt, Bool.not_true, Bool.not_false, cond_true, cond_false] <;> grind (splits := 30)
    | some b =>
      rw [hB] at hb hq
      cases s <;> simp only [trv, hng, sP, bt, Bool.not_true, Bool.not_false, cond_true, cond_false] <;> grind (splits := 30)
theorem trn_apart {k p : Nat} {s : Bool} {l r u : Tr} {C : Cx} (hn : (tids (plug (.branch k l r) ((s, p, u) :: C))).Nodup) :
    (∀ x ∈ tids l, x ≠ k ∧ x ≠ p ∧ x ∉ tids r ∧ x ∉ tids u ∧ x ∉ cL C ∧ x ∉ cR C) ∧ (∀ x ∈ tids r, x ≠ k ∧ x ≠ p ∧ x ∉ tids u ∧ x ∉ cL C ∧ x ∉ cR C) ∧ (∀ x ∈ tids u, x ≠ k ∧ x ≠ p ∧ x ∉ cL C ∧ x ∉ cR C) ∧ k ≠ p ∧ k ∉ cL C ∧ k ∉ cR C ∧ p ∉ cL C ∧ p ∉ cR C ∧ (tids l).Nodup ∧ (tids r).Nodup ∧ (tids u).Nodup := by
  rw [tids_plug] at hn
  cases s <;> simp only [cL, cR, tids, cond_true, cond_false, List.append_nil, List.nil_append, List.nodup_append, List.nodup_cons, List.mem_append, List.mem_cons] at hn <;> (refine ⟨fun x hx => ⟨?_, ?_, ?_, ?_, ?_, ?_⟩, fun x hx => ⟨?_, ?_, ?_, ?_, ?_⟩, fun x hx => ⟨?_, ?_, ?_, ?_⟩, ?_, ?_, ?_, ?_, ?_, ?_, ?_, ?_⟩ <;> grind (splits := 30))
theorem trn_apart2 {q : Nat} {f : Bool × Nat × Tr} {s2 : Bool} {t u2 : Tr} {C2 : Cx} (hn : (tids (plug t (f :: (s2, q, u2) :: C2))).Nodup) : q ∉ tids u2 ∧ q ∉ cL C2 ∧ q ∉ cR C2 := by
  obtain ⟨s, p, u⟩ := f
  rw [plug, tids_plug] at hn
  generalize tids (nd s p t u) = N at hn
  cases s2 <;> simp only [cL, cR, cond_true, cond_false, List.append_nil, List.nil_append, List.nodup_append, List.nodup_cons, List.mem_append, List.mem_cons] at hn <;> (refine ⟨?_, ?_, ?_⟩ <;> grind (splits := 30))
theorem rt_in {t : Tr} {x : Nat} (h : rt t = some x) : x ∈ tids t := rt_mem h
theorem parC_mem {C : Cx} {q : Nat} (h : parC C = some q) : q ∈ cL C ∨ q ∈ cR C := by
  cases C with
  | nil => cases h
  | cons f C =>
    obtain ⟨s, p, u⟩ := f
    cases h
    cases s <;> simp [cL, cR]
theorem trn_zip {P : PF} {k p : Nat} {s : Bool} {l r u : Tr} {C : Cx} (h : Zp P (.branch k l r) ((s, p, u) :: C)) (hn : (tids (plug (.branch k l r) ((s, p, u) :: C))).Nodup) :
    Zp (trn P k) (.branch k (rtn s l r p u).1 (rtn s l r p u).2) C ∧ (∀ j x, x ∉ tids (plug (.branch k l r) ((s, p, u) :: C)) → trn P k j x = P j x) ∧ (∀ j x, 3 ≤ j → trn P k j x = P j x) := by
  obtain ⟨⟨hk2, hk0, hk1, hl, hr⟩, hC⟩ := h
  have hC0 := hC
  obtain ⟨c1, c2, c3, c4, c5⟩ := hC
  have hmem : ∀ x, x ∈ tids (plug (.branch k l r) ((s, p, u) :: C)) ↔ x ∈ cL C ∨ x ∈ cR C ∨ x ∈ tids u ∨ x = p ∨ x = k ∨ x ∈ tids l ∨ x ∈ tids r := by
    intro x
    rw [tids_plug]
    cases s <;> simp [cL, cR, tids] <;> grind
  obtain ⟨al, ar, au, akp, akL, akR, apL, apR, nl, nr, nu⟩ := trn_apart hn
  have hs : sdd P k p = bt s := sdd_of hC0 (fun q => (au k q).1 rfl)
  have hbv : P (bt (!s)) k = rt (bif s then l else r) := by cases s <;> assumption
  have hbm : ∀ x, P (bt (!s)) k = some x → x ∈ tids (bif s then l else r) := fun x e => rt_mem (by rw [← hbv, e])
  have hbl : ∀ x, P (bt (!s)) k = some x → x ≠ k ∧ x ≠ p ∧ x ∉ tids u ∧ x ∉ cL C ∧ x ∉ cR C := by
    intro x e
    have h1 := hbm x e
    cases s
    · exact ar x h1
    · have := al x h1
      exact ⟨this.1, this.2.1, this.2.2.2⟩
  have hgm : ∀ q, P 2 p = some q → q ∈ cL C ∨ q ∈ cR C := fun q e => parC_mem (by rw [← c4, e])
  have key := trn_at (P := P) (k := k) (p := p) (s := s) hk2 hs akp (fun q e => by
    have h1 := hgm q e
    refine ⟨?_, ?_, fun e2 => ?_⟩
    · rintro rfl; rcases h1 with h1 | h1 <;> contradiction
    · rintro rfl; rcases h1 with h1 | h1 <;> contradiction
    · have h2 := hbl q e2
      rcases h1 with h1 | h1
      · exact h2.2.2.2.1 h1
      · exact h2.2.2.2.2 h1) ⟨fun e => (hbl k e).1 rfl, fun e => (hbl p e).2.1 rfl⟩
  have hf : (match P 2 p with | none => 0 | some q => sdd P p q) = 0 ∨ (match P 2 p with | none => 0 | some q => sdd P p q) = 1 := by
    split
    · exact Or.inl rfl
    · unfold sdd; split <;> simp
  have hf2 : ∀ q, P 2 p = some q → ∀ s2 u2 C2, C = (s2, q, u2) :: C2 → (match P 2 p with | none => 0 | some q => sdd P p q) = bt s2 := by
    intro q e s2 u2 C2 hCe
    rw [e]
    subst hCe
    exact sdd_of c5 (fun q => by cases s2 <;> simp [cL, cR] at apL apR <;> grind)
  generalize (match P 2 p with | none => 0 | some q => sdd P p q) = fs at key hf hf2
  have hb01 : (bt s = 0 ∧ bt (!s) = 1) ∨ (bt s = 1 ∧ bt (!s) = 0) := by cases s <;> simp [bt]
  have gk : P 2 p ≠ some k := fun e => by rcases hgm k e with q | q <;> contradiction
  have gp : P 2 p ≠ some p := fun e => by rcases hgm p e with q | q <;> contradiction
  have bk : P (bt (!s)) k ≠ some k := fun e => (hbl k e).1 rfl
  have bp : P (bt (!s)) k ≠ some p := fun e => (hbl p e).2.1 rfl
  have E1 : trn P k 2 k = parC C := by rw [key, ← c4]; simp [trv]
  have E2 : trn P k (bt (!s)) k = some p := by rw [key]; unfold trv; grind
  have E3 : trn P k (bt s) k = P (bt s) k := by rw [key]; unfold trv; grind
  have E4 : trn P k 2 p = some k := by rw [key]; unfold trv; grind
  have E5 : trn P k (bt s) p = P (bt (!s)) k := by rw [key]; unfold trv; grind
  have E6 : trn P k (bt (!s)) p = P (bt (!s)) p := by rw [key]; unfold trv; grind
  have E7 : ∀ x, x ≠ k → x ≠ p → P 2 p ≠ some x → ∀ j, trn P k j x = if j = 2 ∧ P (bt (!s)) k = some x then some p else P j x := by
    intro x h1 h2 h3 j
    rw [key]; unfold trv; grind
  have E8 : ∀ q, P 2 p = some q → q ≠ k → q ≠ p → P (bt (!s)) k ≠ some q → ∀ j, trn P k j q = if j = fs then some k else P j q := by
    intro q h1 h2 h3 h4 j
    rw [key]; unfold trv; grind
  have E9 : ∀ x, x ∈ tids l ∨ x ∈ tids r ∨ x ∈ tids u → x ≠ k ∧ x ≠ p ∧ P 2 p ≠ some x := by
    intro x hx
    rcases hx with hx | hx | hx
    · have := al x hx
      exact ⟨this.1, this.2.1, fun e => by rcases hgm x e with q | q; exact this.2.2.2.2.1 q; exact this.2.2.2.2.2 q⟩
    · have := ar x hx
      exact ⟨this.1, this.2.1, fun e => by rcases hgm x e with q | q; exact this.2.2.2.1 q; exact this.2.2.2.2 q⟩
    · have := au x hx
      exact ⟨this.1, this.2.1, fun e => by rcases hgm x e with q | q; exact this.2.2.1 q; exact this.2.2.2 q⟩
  have ru : rep (trn P k) (some p) u := by
    refine rep_congr u _ c3 (fun x hx => ?_)
    obtain ⟨h1, h2, h3⟩ := E9 x (Or.inr (Or.inr hx))
    have h4 : P (bt (!s)) k ≠ some x := fun e => (hbl x e).2.2.1 hx
    simp [E7 x h1 h2 h3, h4]
  refine ⟨⟨?_, ?_⟩, fun j x hx => ?_, fun j x hj => ?_⟩
  · cases s
    · have hbl' : P 1 k = rt r := hk1
      refine ⟨E1, E3.trans hk0, E2, rep_congr l _ hl (fun x hx => ?_), E4, E5.trans hk1, E6.trans c2, ?_, ru⟩
      · obtain ⟨h1, h2, h3⟩ := E9 x (Or.inl hx)
        have h4 : P (bt (!false)) k ≠ some x := fun e => (al x hx).2.2.1 (hbm x e)
        refine ⟨?_, ?_, ?_⟩ <;> rw [E7 x h1 h2 h3, if_neg (fun z => h4 z.2)]
      · refine rep_re r _ hr (fun x hx => ?_) nr
        obtain ⟨h1, h2, h3⟩ := E9 x (Or.inr (Or.inl hx))
        simp only [E7 x h1 h2 h3]
        have e : P (bt (!false)) k = rt r := hk1
        rw [e]
        grind
    · refine ⟨E1, E2, E3.trans hk1, ⟨E4, E6.trans c2, E5.trans hk0, ru, ?_⟩, rep_congr r _ hr (fun x hx => ?_)⟩
      · refine rep_re l _ hl (fun x hx => ?_) nl
        obtain ⟨h1, h2, h3⟩ := E9 x (Or.inl hx)
        simp only [E7 x h1 h2 h3]
        have e : P (bt (!true)) k = rt l := hk0
        rw [e]
        grind
      · obtain ⟨h1, h2, h3⟩ := E9 x (Or.inr (Or.inl hx))
        have h4 : P (bt (!true)) k ≠ some x := fun e => (al x (hbm x e)).2.2.1 hx
        refine ⟨?_, ?_, ?_⟩ <;> rw [E7 x h1 h2 h3, if_neg (fun z => h4 z.2)]
  · cases C with
    | nil => trivial
    | cons f C2 =>
      obtain ⟨s2, q, u2⟩ := f
      obtain ⟨d1, d2, d3, d4, d5⟩ := c5
      have hq : P 2 p = some q := c4
      have hfs := hf2 q hq s2 u2 C2 rfl
      have hin : ∀ x, x ∈ cL ((s2, q, u2) :: C2) ∨ x ∈ cR ((s2, q, u2) :: C2) → x ≠ k ∧ x ≠ p ∧ P (bt (!s)) k ≠ some x := by
        intro x hx
        refine ⟨?_, ?_, fun e => ?_⟩
        · rintro rfl; rcases hx with h | h <;> contradiction
        · rintro rfl; rcases hx with h | h <;> contradiction
        · have := hbl x e
          rcases hx with h | h
          · exact this.2.2.2.1 h
          · exact this.2.2.2.2 h
      have hqC : q ∈ cL ((s2, q, u2) :: C2) ∨ q ∈ cR ((s2, q, u2) :: C2) := parC_mem rfl
      have E8' := E8 q hq (hin q hqC).1 (hin q hqC).2.1 (hin q hqC).2.2
      have hnC : q ∉ tids u2 ∧ q ∉ cL C2 ∧ q ∉ cR C2 := trn_apart2 hn
      have hoth : ∀ x, x ∈ tids u2 ∨ x ∈ cL C2 ∨ x ∈ cR C2 → ∀ j, trn P k j x = P j x := by
        intro x hx j
        have h1 := hin x (by cases s2 <;> simp only [cL, cR, cond_true, cond_false, List.append_nil, List.nil_append, List.mem_append, List.mem_cons] <;> grind)
        have h2 : P 2 p ≠ some x := by
          rw [hq]
          intro e
          cases e
          rcases hx with h | h | h
          · exact hnC.1 h
          · exact hnC.2.1 h
          · exact hnC.2.2 h
        rw [E7 x h1.1 h1.2.1 h2, if_neg (fun z => h1.2.2 z.2)]
      have hb2 : (bt s2 = 0 ∧ bt (!s2) = 1) ∨ (bt s2 = 1 ∧ bt (!s2) = 0) := by cases s2 <;> simp [bt]
      refine ⟨by rw [E8', if_pos hfs.symm]; rfl, by rw [E8', if_neg (by omega)]; exact d2, rep_congr u2 _ d3 (fun x hx => ⟨hoth x (Or.inl hx) 0, hoth x (Or.inl hx) 1, hoth x (Or.inl hx) 2⟩), by rw [E8', if_neg (by omega)]; exact d4, repC_congr C2 _ d5 (fun x hx => ⟨hoth x (Or.inr hx) 0, hoth x (Or.inr hx) 1, hoth x (Or.inr hx) 2⟩)⟩
  · rw [key]
    have hx' : ¬ (x ∈ cL C ∨ x ∈ cR C ∨ x ∈ tids u ∨ x = p ∨ x = k ∨ x ∈ tids l ∨ x ∈ tids r) := fun q => hx ((hmem x).mpr q)
    have h1 : P 2 p ≠ some x := fun e => hx' (by rcases hgm x e with q | q <;> simp [q])
    have h2 : P (bt (!s)) k ≠ some x := fun e => hx' (by have := hbm x e; cases s <;> simp_all)
    unfold trv
    grind
  · rw [key]
    unfold trv
    cases s <;> simp only [bt, Bool.not_true, Bool.not_false, cond_true, cond_false] <;> grind
theorem tids_zip (a : Nat) (l r : Tr) (C : Cx) : tids (plug (.branch a l r) C) = (cL C ++ tids l) ++ a :: (tids r ++ cR C) := by
  rw [tids_plug, tids_branch]
  simp
/-- bringing up, as pointers -/
def rai (k : Nat) : Cx → PF → PF
  | [], P => P
  | [_], P => trn P k
  | (s1, p1, _) :: (s2, _, _) :: C, P => rai k C (trn (if s1 = s2 then trn P p1 else trn P k) k)
theorem tids_plug_eq {t t' : Tr} (h : tids t = tids t') (C : Cx) : tids (plug t C) = tids (plug t' C) := by rw [tids_plug, tids_plug, h]
theorem tids_rtn_plug (s : Bool) (k : Nat) (l r : Tr) (p : Nat) (u : Tr) (C : Cx) : tids (plug (.branch k (rtn s l r p u).1 (rtn s l r p u).2) C) = tids (plug (.branch k l r) ((s, p, u) :: C)) := tids_plug_eq (tids_rtn s k l r p u) C
theorem nd_zz (s : Bool) (p1 p2 : Nat) (K u1 u2 : Tr) : ∃ x y, nd s p1 K u1 = .branch p1 x y ∧ Lean.RArray.branch p1 (rtn s x y p2 u2).1 (rtn s x y p2 u2).2 = nd s p1 K (nd s p2 u1 u2) := by
  cases s
  · exact ⟨_, _, rfl, rfl⟩
  · exact ⟨_, _, rfl, rfl⟩
theorem rai_step {P : PF} {k s1 p1 u1 s2 p2 u2 l r C} (h : Zp P (.branch k l r) ((s1, p1, u1) :: (s2, p2, u2) :: C)) (hn : (tids (plug (.branch k l r) ((s1, p1, u1) :: (s2, p2, u2) :: C))).Nodup) :
    ∃ l' r', spl k ((s1, p1, u1) :: (s2, p2, u2) :: C) l r = spl k C l' r' ∧ Zp (trn (if s1 = s2 then trn P p1 else trn P k) k) (.branch k l' r') C ∧ tids (plug (.branch k l' r') C) = tids (plug (.branch k l r) ((s1, p1, u1) :: (s2, p2, u2) :: C)) ∧ (∀ j x, x ∉ tids (plug (.branch k l r) ((s1, p1, u1) :: (s2, p2, u2) :: C)) → trn (if s1 = s2 then trn P p1 else trn P k) k j x = P j x) ∧ (∀ j x, 3 ≤ j → trn (if s1 = s2 then trn P p1 else trn P k) k j x = P j x) := by
  by_cases hs : s1 = s2
  · subst hs
    obtain ⟨x, y, e1, e2⟩ := nd_zz s1 p1 p2 (.branch k l r) u1 u2
    have h1 := Zp_step.mp h
    rw [e1] at h1
    have hn1 : (tids (plug (.branch p1 x y) ((s1, p2, u2) :: C))).Nodup := by rw [← e1]; exact hn
    obtain ⟨g1, g2, g3⟩ := trn_zip h1 hn1
    rw [e2] at g1
    have g1 := Zp_step.mpr g1
    have hids : tids (plug (.branch k l r) ((s1, p1, nd s1 p2 u1 u2) :: C)) = tids (plug (.branch k l r) ((s1, p1, u1) :: (s1, p2, u2) :: C)) := by
      show tids (plug (nd s1 p1 _ _) C) = tids (plug (nd s1 p2 (nd s1 p1 _ _) _) C)
      apply tids_plug_eq
      cases s1 <;> simp [tids_nd]
    obtain ⟨f1, f2, f3⟩ := trn_zip g1 (by rw [hids]; exact hn)
    refine ⟨_, _, by rw [spl, if_pos rfl], by rw [if_pos rfl]; exact f1, by rw [tids_rtn_plug, hids], fun j z hz => ?_, fun j z hj => ?_⟩
    · rw [if_pos rfl, f2 j z (by rw [hids]; exact hz), g2 j z (by rw [← e1]; exact hz)]
    · rw [if_pos rfl, f3 j z hj, g3 j z hj]
  · obtain ⟨g1, g2, g3⟩ := trn_zip h hn
    have hids := tids_rtn_plug s1 k l r p1 u1 ((s2, p2, u2) :: C)
    obtain ⟨f1, f2, f3⟩ := trn_zip g1 (by rw [hids]; exact hn)
    refine ⟨_, _, by rw [spl, if_neg hs], by rw [if_neg hs]; exact f1, by rw [tids_rtn_plug, hids], fun j z hz => ?_, fun j z hj => ?_⟩
    · rw [if_neg hs, f2 j z (by rw [hids]; exact hz), g2 j z hz]
    · rw [if_neg hs, f3 j z hj, g3 j z hj]
theorem rai_zip {k : Nat} : ∀ (n : Nat) (C : Cx) (P : PF) (l r : Tr), C.length ≤ n → Zp P (.branch k l r) C → (tids (plug (.branch k l r) C)).Nodup →
    rep (rai k C P) none (spl k C l r) ∧ rt (spl k C l r) = some k ∧ tids (spl k C l r) = tids (plug (.branch k l r) C) ∧ (∀ j x, x ∉ tids (plug (.branch k l r) C) → rai k C P j x = P j x) ∧ (∀ j x, 3 ≤ j → rai k C P j x = P j x) := by
  intro n
  induction n with
  | zero =>
    intro C P l r hl h hn
    have : C = [] := List.length_eq_zero_iff.mp (by omega)
    subst this
    exact ⟨h.1, rfl, rfl, fun _ _ _ => rfl, fun _ _ _ => rfl⟩
  | succ n ih =>
    intro C P l r hl h hn
    match C, hl, h, hn with
    | [], _, h, _ => exact ⟨h.1, rfl, rfl, fun _ _ _ => rfl, fun _ _ _ => rfl⟩
    | [(s, p, u)], _, h, hn =>
      obtain ⟨g1, g2, g3⟩ := trn_zip h hn
      exact ⟨g1.1, rfl, tids_rtn_plug s k l r p u [], g2, g3⟩
    | (s1, p1, u1) :: (s2, p2, u2) :: C, hl, h, hn =>
      obtain ⟨l', r', e1, e2, e3, e4, e5⟩ := rai_step h hn
      obtain ⟨i1, i2, i3, i4, i5⟩ := ih C _ l' r' (by simp only [List.length_cons] at hl; omega) e2 (by rw [e3]; exact hn)
      rw [e1]
      refine ⟨i1, i2, by rw [i3, e3], fun j x hx => ?_, fun j x hj => ?_⟩
      · show rai k C _ j x = P j x
        rw [i4 j x (by rw [e3]; exact hx), e4 j x hx]
      · show rai k C _ j x = P j x
        rw [i5 j x hj, e5 j x hj]
/-- the places of a tree, in the order of its nodes -/
abbrev Zi : Type := Nat × Tr × Tr × Cx
def zs : Tr → Cx → List Zi
  | .leaf _, _ => []
  | .branch k l r, C => zs l ((false, k, r) :: C) ++ (k, l, r, C) :: zs r ((true, k, l) :: C)
theorem zs_ids : ∀ (t : Tr) (C : Cx), (zs t C).map (fun z => z.1) = tids t := by
  intro t
  induction t with
  | leaf u => intro C; rfl
  | branch k l r ihl ihr =>
    intro C
    simp [zs, tids, ihl, ihr]
theorem zs_plug : ∀ (t : Tr) (C : Cx) (z : Zi), z ∈ zs t C → plug (.branch z.1 z.2.1 z.2.2.1) z.2.2.2 = plug t C := by
  intro t
  induction t with
  | leaf u => intro C z h; cases h
  | branch k l r ihl ihr =>
    intro C z h
    rcases List.mem_append.mp h with h | h
    · exact ihl _ z h
    · rcases List.mem_cons.mp h with h | h
      · subst h; rfl
      · exact ihr _ z h
theorem zs_mem {t : Tr} {C : Cx} {a : Nat} (h : a ∈ tids t) : ∃ l r C', (a, l, r, C') ∈ zs t C := by
  rw [← zs_ids t C] at h
  obtain ⟨⟨b, l, r, C'⟩, h1, h2⟩ := List.mem_map.mp h
  cases h2
  exact ⟨l, r, C', h1⟩
theorem split_uniq {a : Nat} : ∀ {p q p' q' : List Nat}, (p ++ a :: q).Nodup → p ++ a :: q = p' ++ a :: q' → p = p' ∧ q = q' := by
  intro p
  induction p with
  | nil =>
    intro q p' q' hn h
    cases p' with
    | nil => exact ⟨rfl, (List.cons.inj h).2⟩
    | cons b p' =>
      obtain ⟨h1, h2⟩ := List.cons.inj h
      exact absurd (by rw [h2]; simp) (List.nodup_cons.mp hn).1
  | cons b p ih =>
    intro q p' q' hn h
    cases p' with
    | nil =>
      obtain ⟨h1, h2⟩ := List.cons.inj h
      subst h1
      exact absurd (by simp) (List.nodup_cons.mp hn).1
    | cons b' p' =>
      obtain ⟨h1, h2⟩ := List.cons.inj h
      subst h1
      obtain ⟨h3, h4⟩ := ih (List.nodup_cons.mp hn).2 h2
      exact ⟨by rw [h3], h4⟩
/-- behind a place come those to its right -/
theorem zs_next {t : Tr} {pre post : List Zi} {a : Nat} {l r : Tr} {C : Cx} (hn : (tids t).Nodup) (h : zs t [] = pre ++ (a, l, r, C) :: post) : post.map (fun z => z.1) = tids r ++ cR C ∧ pre.map (fun z => z.1) = cL C ++ tids l ∧ t = plug (.branch a l r) C := by
  have h1 := zs_ids t []
  have h2 : t = plug (.branch a l r) C := (zs_plug t [] (a, l, r, C) (by rw [h]; simp)).symm
  rw [h, List.map_append, List.map_cons] at h1
  have h3 : tids t = (cL C ++ tids l) ++ a :: (tids r ++ cR C) := by rw [h2]; exact tids_zip a l r C
  have h4 := split_uniq (a := a) (by rw [h1]; exact hn) (h1.trans h3)
  exact ⟨h4.2, h4.1, h2⟩
theorem zs_uniq {t : Tr} {a : Nat} {l r l' r' : Tr} {C C' : Cx} (hn : (tids t).Nodup) (h : (a, l, r, C) ∈ zs t []) (h' : (a, l', r', C') ∈ zs t []) : l = l' ∧ r = r' ∧ C = C' := by
  obtain ⟨p, q, h1⟩ := List.append_of_mem h
  have h2 := h'
  rw [h1] at h2
  have h3 := zs_ids t []
  rw [h1, List.map_append, List.map_cons] at h3
  rw [← h3] at hn
  rcases List.mem_append.mp h2 with h4 | h4
  · exact absurd rfl ((List.nodup_append.mp hn).2.2 a (List.mem_map.mpr ⟨_, h4, rfl⟩) a (by simp))
  · rcases List.mem_cons.mp h4 with h4 | h4
    · cases h4
      exact ⟨rfl, rfl, rfl⟩
    · exact absurd (List.mem_map.mpr ⟨_, h4, rfl⟩) (List.nodup_cons.mp (List.nodup_append.mp hn).2.1).1
/-- every place is one of them -/
theorem zs_all : ∀ (C : Cx) (t : Tr) (a : Nat) (l r : Tr), t = .branch a l r → (a, l, r, C) ∈ zs (plug t C) [] ∧ ∀ z, z ∈ zs t C → z ∈ zs (plug t C) [] := by
  intro C
  induction C with
  | nil => intro t a l r e; subst e; exact ⟨by simp [plug, zs], fun z h => h⟩
  | cons f C ih =>
    intro t a l r e
    obtain ⟨s, p, u⟩ := f
    have h1 : ∀ z, z ∈ zs t ((s, p, u) :: C) → z ∈ zs (plug t ((s, p, u) :: C)) [] := by
      intro z hz
      cases s
      · exact (ih (nd false p t u) p t u rfl).2 z (List.mem_append_left _ hz)
      · exact (ih (nd true p t u) p u t rfl).2 z (List.mem_append_right _ (List.mem_cons_of_mem _ hz))
    refine ⟨h1 _ ?_, h1⟩
    subst e
    simp [zs]
theorem zs_at (a : Nat) (l r : Tr) (C : Cx) : (a, l, r, C) ∈ zs (plug (.branch a l r) C) [] := (zs_all C _ a l r rfl).1
/-- how deep, by the chain upwards -/
def UC (P : PF) : Nat → Option Nat → Prop
  | 0, r => r = none
  | d + 1, r => ∃ a, r = some a ∧ UC P d (P 2 a)
theorem UC_of {P : PF} : ∀ (C : Cx) (x : Option Nat), repC P x C → UC P C.length (parC C) := by
  intro C
  induction C with
  | nil => intro x _; rfl
  | cons f C ih =>
    intro x h
    obtain ⟨s, p, u⟩ := f
    exact ⟨p, rfl, by rw [h.2.2.2.1]; exact ih _ h.2.2.2.2⟩
/-- depths added, height, ends -/
def dsm : Tr → Nat → Nat
  | .leaf _, _ => 0
  | .branch _ l r, h => h + dsm l (h + 1) + dsm r (h + 1)
def hgt : Tr → Nat
  | .leaf _ => 0
  | .branch _ l r => 1 + max (hgt l) (hgt r)
def isE : Tr → Bool
  | .leaf _ => true
  | .branch _ _ _ => false
def lvs : Tr → Nat
  | .leaf _ => 0
  | .branch _ l r => if isE l && isE r then 1 else lvs l + lvs r
theorem dsm_zs : ∀ (t : Tr) (C : Cx), ((zs t C).map (fun z => z.2.2.2.length)).sum = dsm t C.length := by
  intro t
  induction t with
  | leaf u => intro C; rfl
  | branch k l r ihl ihr =>
    intro C
    simp only [zs, dsm, List.map_append, List.map_cons, List.sum_append, List.sum_cons, ihl, ihr, List.length_cons]
    omega
theorem lvs_zs : ∀ (t : Tr) (C : Cx), ((zs t C).filter (fun z => isE z.2.1 && isE z.2.2.1)).length = lvs t := by
  intro t
  induction t with
  | leaf u => intro C; rfl
  | branch k l r ihl ihr =>
    intro C
    simp only [zs, lvs, List.filter_append, List.filter_cons, List.length_append, ihl]
    by_cases h : (isE l && isE r) = true
    · rw [if_pos h, if_pos h, List.length_cons, ihr]
      cases l <;> cases r <;> simp_all [isE, lvs]
    · rw [if_neg h, if_neg h, ihr]
theorem hgt_E {t : Tr} (h : isE t = true) : hgt t = 0 := by cases t <;> first | rfl | cases h
theorem hgt_zs : ∀ (t : Tr) (C : Cx) (m : Nat), ((zs t C).map (fun z => z.2.2.2.length + 1)).foldl max m = if isE t then m else max m (C.length + hgt t) := by
  intro t
  induction t with
  | leaf u => intro C m; simp [zs, isE]
  | branch k l r ihl ihr =>
    intro C m
    have e : isE (.branch k l r) = false := rfl
    have h3 : hgt (.branch k l r) = 1 + max (hgt l) (hgt r) := rfl
    simp only [zs, List.map_append, List.map_cons, List.foldl_append, List.foldl_cons, ihl, ihr, List.length_cons, e, h3]
    have h1 := @hgt_E l
    have h2 := @hgt_E r
    rcases Bool.eq_false_or_eq_true (isE l) with hl | hl <;> rcases Bool.eq_false_or_eq_true (isE r) with hr | hr <;> simp only [hl, hr, if_true, if_false, Bool.false_eq_true] <;> (try have a1 := h1 hl) <;> (try have a2 := h2 hr) <;> omega
end
section
/-! PURE: trees under a change of numbers, searching, planting, the order of sizes -/
def mp (φ : Nat → Nat) : Tr → Tr
  | .leaf u => .leaf u
  | .branch k l r => .branch (φ k) (mp φ l) (mp φ r)
def mpC (φ : Nat → Nat) (C : Cx) : Cx := C.map (fun f => (f.1, φ f.2.1, mp φ f.2.2))
def mpZ (φ : Nat → Nat) (z : Zi) : Zi := (φ z.1, mp φ z.2.1, mp φ z.2.2.1, mpC φ z.2.2.2)
theorem mp_tids (φ : Nat → Nat) : ∀ t : Tr, tids (mp φ t) = (tids t).map φ := by
  intro t
  induction t with
  | leaf u => rfl
  | branch k l r ihl ihr => simp [mp, tids, ihl, ihr]
theorem mp_rt (φ : Nat → Nat) (t : Tr) : rt (mp φ t) = (rt t).map φ := by cases t <;> rfl
theorem mp_isE (φ : Nat → Nat) (t : Tr) : isE (mp φ t) = isE t := by cases t <;> rfl
theorem mp_nd (φ : Nat → Nat) (s : Bool) (p : Nat) (t u : Tr) : mp φ (nd s p t u) = nd s (φ p) (mp φ t) (mp φ u) := by cases s <;> rfl
theorem mp_plug (φ : Nat → Nat) : ∀ (C : Cx) (t : Tr), mp φ (plug t C) = plug (mp φ t) (mpC φ C) := by
  intro C
  induction C with
  | nil => intro t; rfl
  | cons f C ih =>
    intro t
    obtain ⟨s, p, u⟩ := f
    show mp φ (plug (nd s p t u) C) = plug (nd s (φ p) (mp φ t) (mp φ u)) (mpC φ C)
    rw [ih, mp_nd]
theorem mp_zs (φ : Nat → Nat) : ∀ (t : Tr) (C : Cx), zs (mp φ t) (mpC φ C) = (zs t C).map (mpZ φ) := by
  intro t
  induction t with
  | leaf u => intro C; rfl
  | branch k l r ihl ihr =>
    intro C
    have h1 := ihl ((false, k, r) :: C)
    have h2 := ihr ((true, k, l) :: C)
    simp only [mp, zs, List.map_append, List.map_cons]
    rw [← h1, ← h2]
    rfl
theorem mp_dsm (φ : Nat → Nat) : ∀ (t : Tr) (h : Nat), dsm (mp φ t) h = dsm t h := by
  intro t
  induction t with
  | leaf u => intro h; rfl
  | branch k l r ihl ihr => intro h; simp [mp, dsm, ihl, ihr]
theorem mp_hgt (φ : Nat → Nat) : ∀ t : Tr, hgt (mp φ t) = hgt t := by
  intro t
  induction t with
  | leaf u => rfl
  | branch k l r ihl ihr => simp [mp, hgt, ihl, ihr]
theorem mp_lvs (φ : Nat → Nat) : ∀ t : Tr, lvs (mp φ t) = lvs t := by
  intro t
  induction t with
  | leaf u => rfl
  | branch k l r ihl ihr => simp [mp, lvs, ihl, ihr, mp_isE]
theorem mpC_length (φ : Nat → Nat) (C : Cx) : (mpC φ C).length = C.length := by simp [mpC]
theorem mpC_parC (φ : Nat → Nat) (C : Cx) : parC (mpC φ C) = (parC C).map φ := by cases C <;> rfl
theorem mp_rtn (φ : Nat → Nat) (s : Bool) (l r : Tr) (p : Nat) (u : Tr) : rtn s (mp φ l) (mp φ r) (φ p) (mp φ u) = (mp φ (rtn s l r p u).1, mp φ (rtn s l r p u).2) := by cases s <;> rfl
theorem mp_spl (φ : Nat → Nat) (k : Nat) : ∀ (n : Nat) (C : Cx) (l r : Tr), C.length ≤ n → mp φ (spl k C l r) = spl (φ k) (mpC φ C) (mp φ l) (mp φ r) := by
  intro n
  induction n with
  | zero =>
    intro C l r hl
    have : C = [] := List.length_eq_zero_iff.mp (by omega)
    subst this
    rfl
  | succ n ih =>
    intro C l r hl
    match C, hl with
    | [], _ => rfl
    | [(s, p, u)], _ =>
      show Lean.RArray.branch (φ k) (mp φ (rtn s l r p u).1) (mp φ (rtn s l r p u).2) = .branch (φ k) (rtn s (mp φ l) (mp φ r) (φ p) (mp φ u)).1 (rtn s (mp φ l) (mp φ r) (φ p) (mp φ u)).2
      rw [mp_rtn]
    | (s1, p1, u1) :: (s2, p2, u2) :: C, hl =>
      have hl2 : C.length ≤ n := by simp only [List.length_cons] at hl; omega
      show mp φ (spl k ((s1, p1, u1) :: (s2, p2, u2) :: C) l r) = spl (φ k) ((s1, φ p1, mp φ u1) :: (s2, φ p2, mp φ u2) :: mpC φ C) (mp φ l) (mp φ r)
      unfold spl
      by_cases hs : s1 = s2
      · rw [if_pos hs, if_pos hs, ih C _ _ hl2, ← mp_nd, mp_rtn]
      · rw [if_neg hs, if_neg hs, ih C _ _ hl2, mp_rtn, mp_rtn]
theorem mp_congr {φ ψ : Nat → Nat} : ∀ t : Tr, (∀ a ∈ tids t, φ a = ψ a) → mp φ t = mp ψ t := by
  intro t
  induction t with
  | leaf u => intro _; rfl
  | branch k l r ihl ihr =>
    intro h
    simp only [mp]
    rw [h k (by simp [tids]), ihl (fun a ha => h a (by simp [tids, ha])), ihr (fun a ha => h a (by simp [tids, ha]))]
/-- searching -/
def fnd (sz : Nat → Nat) (z : Int) : Tr → Option Nat
  | .leaf _ => none
  | .branch k l r => if z = (sz k : Int) then some k else if z < (sz k : Int) then fnd sz z l else fnd sz z r
def srt (sz : Nat → Nat) (t : Tr) : Prop := (tids t).Pairwise (fun a b => sz a < sz b)
theorem fnd_mem {sz : Nat → Nat} {z : Int} : ∀ (t : Tr) (a : Nat), fnd sz z t = some a → a ∈ tids t ∧ z = (sz a : Int) := by
  intro t
  induction t with
  | leaf u => intro a h; cases h
  | branch k l r ihl ihr =>
    intro a h
    unfold fnd at h
    split at h
    · cases h
      exact ⟨by simp [tids], by assumption⟩
    · split at h
      · have := ihl a h
        exact ⟨by simp [tids, this.1], this.2⟩
      · have := ihr a h
        exact ⟨by simp [tids, this.1], this.2⟩
theorem srt_l {sz : Nat → Nat} {k : Nat} {l r : Tr} (h : srt sz (.branch k l r)) : srt sz l ∧ srt sz r ∧ (∀ a ∈ tids l, sz a < sz k) ∧ (∀ a ∈ tids r, sz k < sz a) := by
  unfold srt at h ⊢
  rw [tids_branch, List.pairwise_append] at h
  obtain ⟨h1, h2, h3⟩ := h
  obtain ⟨h4, h5⟩ := List.pairwise_cons.mp h2
  exact ⟨h1, h5, fun a ha => h3 a ha k (by simp), h4⟩
theorem fnd_of {sz : Nat → Nat} {z : Int} : ∀ (t : Tr) (a : Nat), srt sz t → a ∈ tids t → z = (sz a : Int) → fnd sz z t = some a := by
  intro t
  induction t with
  | leaf u => intro a _ h; cases h
  | branch k l r ihl ihr =>
    intro a hs ha hz
    obtain ⟨h1, h2, h3, h4⟩ := srt_l hs
    unfold fnd
    rw [tids_branch] at ha
    rcases List.mem_append.mp ha with h | h
    · have := h3 a h
      rw [if_neg (by omega), if_pos (by omega)]
      exact ihl a h1 h hz
    · rcases List.mem_cons.mp h with h | h
      · subst h
        rw [if_pos hz]
      · have := h4 a h
        rw [if_neg (by omega), if_neg (by omega)]
        exact ihr a h2 h hz
theorem fnd_mp {sz sz' : Nat → Nat} {z : Int} {φ : Nat → Nat} : ∀ t : Tr, (∀ a ∈ tids t, sz' (φ a) = sz a) → fnd sz' z (mp φ t) = (fnd sz z t).map φ := by
  intro t
  induction t with
  | leaf u => intro _; rfl
  | branch k l r ihl ihr =>
    intro h
    have hk := h k (by simp [tids])
    have e1 := ihl (fun a ha => h a (by simp [tids, ha]))
    have e2 := ihr (fun a ha => h a (by simp [tids, ha]))
    simp only [mp, fnd, hk]
    split
    · rfl
    · split
      · exact e1
      · exact e2
/-- the way to where a size belongs -/
def inc (sz : Nat → Nat) (z : Int) : Tr → Cx → Cx
  | .leaf _, C => C
  | .branch k l r, C => if z < (sz k : Int) then inc sz z l ((false, k, r) :: C) else inc sz z r ((true, k, l) :: C)
theorem plug_inc {sz : Nat → Nat} {z : Int} : ∀ (t : Tr) (C : Cx), plug (.leaf ()) (inc sz z t C) = plug t C := by
  intro t
  induction t with
  | leaf u => intro C; rfl
  | branch k l r ihl ihr =>
    intro C
    unfold inc
    split
    · rw [ihl]; rfl
    · rw [ihr]; rfl
theorem inc_mp {sz sz' : Nat → Nat} {z : Int} {φ : Nat → Nat} : ∀ (t : Tr) (C : Cx), (∀ a ∈ tids t, sz' (φ a) = sz a) → inc sz' z (mp φ t) (mpC φ C) = mpC φ (inc sz z t C) := by
  intro t
  induction t with
  | leaf u => intro C _; rfl
  | branch k l r ihl ihr =>
    intro C h
    have hk := h k (by simp [tids])
    simp only [mp, inc, hk]
    split
    · exact ihl ((false, k, r) :: C) (fun a ha => h a (by simp [tids, ha]))
    · exact ihr ((true, k, l) :: C) (fun a ha => h a (by simp [tids, ha]))
/-- planting keeps the order -/
theorem inc_lr {sz : Nat → Nat} {z : Int} : ∀ (t : Tr) (C : Cx), srt sz t → fnd sz z t = none → (∀ a ∈ cL C, (sz a : Int) < z) → (∀ a ∈ cR C, z < (sz a : Int)) → (∀ a ∈ cL (inc sz z t C), (sz a : Int) < z) ∧ (∀ a ∈ cR (inc sz z t C), z < (sz a : Int)) := by
  intro t
  induction t with
  | leaf u => intro C _ _ h1 h2; exact ⟨h1, h2⟩
  | branch k l r ihl ihr =>
    intro C hs hf h1 h2
    obtain ⟨s1, s2, s3, s4⟩ := srt_l hs
    unfold fnd at hf
    split at hf
    · cases hf
    · rename_i hne
      unfold inc
      split at hf
      · rename_i hlt
        rw [if_pos hlt]
        refine ihl _ s1 hf (fun a ha => h1 a (by simpa [cL] using ha)) (fun a ha => ?_)
        simp only [cR, cond_false, List.cons_append, List.mem_cons, List.mem_append] at ha
        rcases ha with ha | ha | ha
        · subst ha; exact hlt
        · have := s4 a ha; omega
        · exact h2 a ha
      · rename_i hlt
        rw [if_neg hlt]
        refine ihr _ s2 hf (fun a ha => ?_) (fun a ha => h2 a (by simpa [cR] using ha))
        simp only [cL, cond_true, List.mem_append, List.mem_cons, List.not_mem_nil, or_false] at ha
        rcases ha with ha | ha | ha
        · exact h1 a ha
        · have := s3 a ha; omega
        · subst ha; omega
/-- those smaller than a size -/
def blw (sz : Nat → Nat) (z : Int) (t : Tr) : List Nat := (tids t).takeWhile (fun a => decide ((sz a : Int) < z))
theorem tw_all {p : Nat → Bool} : ∀ {l : List Nat} (r : List Nat), (∀ a ∈ l, p a = true) → (l ++ r).takeWhile p = l ++ r.takeWhile p := by
  intro l
  induction l with
  | nil => intros; rfl
  | cons a l ih =>
    intro r h
    rw [List.cons_append, List.takeWhile_cons, if_pos (h a (by simp)), ih r (fun b hb => h b (by simp [hb]))]
    rfl
theorem tw_stop {p : Nat → Bool} {k : Nat} (hk : p k = false) : ∀ {l : List Nat} (r : List Nat), (l ++ k :: r).takeWhile p = l.takeWhile p := by
  intro l
  induction l with
  | nil => intro r; simp [hk]
  | cons a l ih =>
    intro r
    rw [List.cons_append, List.takeWhile_cons, List.takeWhile_cons]
    split
    · rw [ih]
    · rfl
theorem blw_branch {sz : Nat → Nat} {z : Int} {k : Nat} {l r : Tr} (h : srt sz (.branch k l r)) : blw sz z (.branch k l r) = if (sz k : Int) < z then tids l ++ k :: blw sz z r else blw sz z l := by
  obtain ⟨s1, s2, s3, s4⟩ := srt_l h
  unfold blw
  rw [tids_branch]
  split
  · rename_i hk
    rw [tw_all _ (fun a ha => by have := s3 a ha; simp; omega), List.takeWhile_cons, if_pos (by simpa using hk)]
  · rename_i hk
    exact tw_stop (by simpa using hk) _
/-- where two meet -/
def lca : Tr → Nat → Nat → Nat
  | .leaf _, a, _ => a
  | .branch k l r, a, b => if a ∈ tids l ∧ b ∈ tids l then lca l a b else if a ∈ tids r ∧ b ∈ tids r then lca r a b else k
def dp : Tr → Nat → Nat
  | .leaf _, _ => 0
  | .branch k l r, a => if a = k then 0 else if a ∈ tids l then dp l a + 1 else dp r a + 1
def pa : Tr → Option Nat → Nat → Option Nat
  | .leaf _, par, _ => par
  | .branch k l r, par, a => if a = k then par else if a ∈ tids l then pa l (some k) a else pa r (some k) a
theorem zs_dp : ∀ (t : Tr) (C : Cx), (tids t).Nodup → ∀ z ∈ zs t C, z.2.2.2.length = C.length + dp t z.1 ∧ parC z.2.2.2 = pa t (parC C) z.1 := by
  intro t
  induction t with
  | leaf u => intro C _ z h; cases h
  | branch k l r ihl ihr =>
    intro C hn z h
    rw [tids_branch] at hn
    obtain ⟨nl, nkr, hd⟩ := List.nodup_append.mp hn
    obtain ⟨nk, nr⟩ := List.nodup_cons.mp nkr
    have hl : ∀ (C : Cx) (z : Zi), z ∈ zs l C → z.1 ∈ tids l := fun C z hz => by rw [← zs_ids l C]; exact List.mem_map.mpr ⟨z, hz, rfl⟩
    have hr : ∀ (C : Cx) (z : Zi), z ∈ zs r C → z.1 ∈ tids r := fun C z hz => by rw [← zs_ids r C]; exact List.mem_map.mpr ⟨z, hz, rfl⟩
    rcases List.mem_append.mp h with h | h
    · have h1 := ihl _ nl z h
      have h2 := hl _ z h
      have h3 : z.1 ≠ k := fun e => hd z.1 h2 k (by simp) e
      unfold dp pa
      rw [if_neg h3, if_pos h2, if_neg h3, if_pos h2]
      exact ⟨by rw [h1.1, List.length_cons]; omega, h1.2⟩
    · rcases List.mem_cons.mp h with h | h
      · subst h
        unfold dp pa
        rw [if_pos rfl, if_pos rfl]
        exact ⟨rfl, rfl⟩
      · have h1 := ihr _ nr z h
        have h2 := hr _ z h
        have h3 : z.1 ≠ k := fun e => nk (by rw [← e]; exact h2)
        have h4 : z.1 ∉ tids l := fun e => hd z.1 e z.1 (by simp [h2]) rfl
        unfold dp pa
        rw [if_neg h3, if_neg h4, if_neg h3, if_neg h4]
        exact ⟨by rw [h1.1, List.length_cons]; omega, h1.2⟩
theorem pa_in : ∀ (t : Tr) (par : Option Nat) (a : Nat), (tids t).Nodup → a ∈ tids t → (dp t a = 0 ∧ pa t par a = par) ∨ ∃ p, pa t par a = some p ∧ p ∈ tids t ∧ dp t a = dp t p + 1 := by
  intro t
  induction t with
  | leaf u => intro _ a _ h; cases h
  | branch k l r ihl ihr =>
    intro par a hn ha
    rw [tids_branch] at hn ha
    obtain ⟨nl, nkr, hd⟩ := List.nodup_append.mp hn
    obtain ⟨nk, nr⟩ := List.nodup_cons.mp nkr
    by_cases hak : a = k
    · left
      unfold dp pa
      rw [if_pos hak, if_pos hak]
      exact ⟨rfl, rfl⟩
    · right
      by_cases hal : a ∈ tids l
      · have hdp : dp (.branch k l r) a = dp l a + 1 := by rw [dp, if_neg hak, if_pos hal]
        have hpa : pa (.branch k l r) par a = pa l (some k) a := by rw [pa, if_neg hak, if_pos hal]
        rcases ihl (some k) a nl hal with ⟨h1, h2⟩ | ⟨p, h1, h2, h3⟩
        · refine ⟨k, by rw [hpa, h2], by simp [tids], ?_⟩
          rw [hdp, h1, dp, if_pos rfl]
        · refine ⟨p, by rw [hpa, h1], by simp [tids, h2], ?_⟩
          have hpk : p ≠ k := fun e => hd p h2 k (by simp) e
          rw [hdp, h3, dp, if_neg hpk, if_pos h2]
      · have har : a ∈ tids r := by
          rcases List.mem_append.mp ha with h | h
          · exact absurd h hal
          · rcases List.mem_cons.mp h with h | h
            · exact absurd h hak
            · exact h
        have hdp : dp (.branch k l r) a = dp r a + 1 := by rw [dp, if_neg hak, if_neg hal]
        have hpa : pa (.branch k l r) par a = pa r (some k) a := by rw [pa, if_neg hak, if_neg hal]
        rcases ihr (some k) a nr har with ⟨h1, h2⟩ | ⟨p, h1, h2, h3⟩
        · refine ⟨k, by rw [hpa, h2], by simp [tids], ?_⟩
          rw [hdp, h1, dp, if_pos rfl]
        · refine ⟨p, by rw [hpa, h1], by simp [tids, h2], ?_⟩
          have hpk : p ≠ k := fun e => nk (by rw [← e]; exact h2)
          have hpl : p ∉ tids l := fun e => hd p e p (by simp [h2]) rfl
          rw [hdp, h3, dp, if_neg hpk, if_neg hpl]
theorem lca_step : ∀ (t : Tr) (par : Option Nat) (a b : Nat), (tids t).Nodup → a ∈ tids t → b ∈ tids t → a ≠ b → dp t b ≤ dp t a → ∃ p, pa t par a = some p ∧ p ∈ tids t ∧ lca t p b = lca t a b ∧ lca t b p = lca t b a ∧ dp t a = dp t p + 1 := by
  intro t
  induction t with
  | leaf u => intro _ a b _ h; cases h
  | branch k l r ihl ihr =>
    intro par a b hn ha hb hab hd'
    have hn0 := hn
    have ha0 := ha
    rw [tids_branch] at hn ha hb
    obtain ⟨nl, nkr, hd⟩ := List.nodup_append.mp hn
    obtain ⟨nk, nr⟩ := List.nodup_cons.mp nkr
    have hkl : k ∉ tids l := fun h => hd k h k (by simp) rfl
    have hrl : ∀ x, x ∈ tids r → x ∉ tids l := fun x h h' => hd x h' x (by simp [h]) rfl
    have key := pa_in (.branch k l r) par a hn0 ha0
    have hak : a ≠ k := by
      intro e
      have h0 : dp (.branch k l r) a = 0 := by rw [dp, if_pos e]
      rw [h0] at hd'
      have hb' : b ≠ k := fun e2 => hab (e.trans e2.symm)
      have : dp (.branch k l r) b ≠ 0 := by
        rw [dp, if_neg hb']
        split <;> omega
      omega
    rcases key with ⟨h1, h2⟩ | ⟨p, h1, h2, h3⟩
    · exfalso
      have : dp (.branch k l r) a ≠ 0 := by
        rw [dp, if_neg hak]
        split <;> omega
      omega
    · refine ⟨p, h1, h2, ?_, ?_, h3⟩
      all_goals
        by_cases hal : a ∈ tids l
        · have hpa : pa (.branch k l r) par a = pa l (some k) a := by rw [pa, if_neg hak, if_pos hal]
          have har : a ∉ tids r := fun h => hrl a h hal
          rcases pa_in l (some k) a nl hal with ⟨g1, g2⟩ | ⟨p', g1, g2, g3⟩
          · have hpk : p = k := by rw [hpa, g2] at h1; exact (Option.some.inj h1).symm
            subst hpk
            have hbl : b ∉ tids l := by
              intro hbl
              have hbk : b ≠ p := fun e => hkl (by rw [← e]; exact hbl)
              rw [dp, dp, if_neg hbk, if_pos hbl, if_neg hak, if_pos hal, g1] at hd'
              rcases pa_in l (some p) b nl hbl with ⟨q1, q2⟩ | ⟨p2, q1, q2, q3⟩
              · obtain ⟨l1, l2, C1, m1⟩ := zs_mem (C := []) hal
                obtain ⟨l3, l4, C2, m2⟩ := zs_mem (C := []) hbl
                have e1 := (zs_dp l [] nl _ m1).1
                have e2 := (zs_dp l [] nl _ m2).1
                rw [g1] at e1
                rw [q1] at e2
                have e3 : C1 = [] := List.length_eq_zero_iff.mp e1
                have e4 : C2 = [] := List.length_eq_zero_iff.mp e2
                subst e3; subst e4
                have p1 := zs_plug l [] _ m1
                have p2 := zs_plug l [] _ m2
                dsimp only [plug] at p1 p2
                rw [← p2] at p1
                injection p1 with p1
                exact hab p1
              · omega
            simp [lca, hal, har, hbl, hkl, nk]
          · have hpp : p' = p := by rw [hpa, g1] at h1; exact Option.some.inj h1
            subst hpp
            have hpr : p' ∉ tids r := fun h => hrl p' h g2
            by_cases hbl : b ∈ tids l
            · have hbk : b ≠ k := fun e => hkl (by rw [← e]; exact hbl)
              have hdl : dp l b ≤ dp l a := by rw [dp, dp, if_neg hbk, if_pos hbl, if_neg hak, if_pos hal] at hd'; omega
              obtain ⟨p2, q1, q2, q3, q4, q5⟩ := ihl (some k) a b nl hal hbl hab hdl
              have : p2 = p' := by rw [g1] at q1; exact (Option.some.inj q1).symm
              subst this
              simp [lca, hal, hbl, g2, q3, q4]
            · simp [lca, hal, hbl, g2, har, hpr]
        · have har : a ∈ tids r := by
            rcases List.mem_append.mp ha with h | h
            · exact absurd h hal
            · rcases List.mem_cons.mp h with h | h
              · exact absurd h hak
              · exact h
          have hpa : pa (.branch k l r) par a = pa r (some k) a := by rw [pa, if_neg hak, if_neg hal]
          rcases pa_in r (some k) a nr har with ⟨g1, g2⟩ | ⟨p', g1, g2, g3⟩
          · have hpk : p = k := by rw [hpa, g2] at h1; exact (Option.some.inj h1).symm
            subst hpk
            have hbr : b ∉ tids r := by
              intro hbr
              have hbk : b ≠ p := fun e => nk (by rw [← e]; exact hbr)
              have hbl : b ∉ tids l := hrl b hbr
              rw [dp, dp, if_neg hbk, if_neg hbl, if_neg hak, if_neg hal, g1] at hd'
              rcases pa_in r (some p) b nr hbr with ⟨q1, q2⟩ | ⟨p2, q1, q2, q3⟩
              · obtain ⟨l1, l2, C1, m1⟩ := zs_mem (C := []) har
                obtain ⟨l3, l4, C2, m2⟩ := zs_mem (C := []) hbr
                have e1 := (zs_dp r [] nr _ m1).1
                have e2 := (zs_dp r [] nr _ m2).1
                rw [g1] at e1
                rw [q1] at e2
                have e3 : C1 = [] := List.length_eq_zero_iff.mp e1
                have e4 : C2 = [] := List.length_eq_zero_iff.mp e2
                subst e3; subst e4
                have p1 := zs_plug r [] _ m1
                have p2 := zs_plug r [] _ m2
                dsimp only [plug] at p1 p2
                rw [← p2] at p1
                injection p1 with p1
                exact hab p1
              · omega
            simp [lca, hal, hbr, hkl, nk]
          · have hpp : p' = p := by rw [hpa, g1] at h1; exact Option.some.inj h1
            subst hpp
            have hpl : p' ∉ tids l := hrl p' g2
            by_cases hbr : b ∈ tids r
            · have hbk : b ≠ k := fun e => nk (by rw [← e]; exact hbr)
              have hbl : b ∉ tids l := hrl b hbr
              have hdl : dp r b ≤ dp r a := by rw [dp, dp, if_neg hbk, if_neg hbl, if_neg hak, if_neg hal] at hd'; omega
              obtain ⟨p2, q1, q2, q3, q4, q5⟩ := ihr (some k) a b nr har hbr hab hdl
              have : p2 = p' := by rw [g1] at q1; exact (Option.some.inj q1).symm
              subst this
              simp [lca, hal, hbl, hbr, har, hpl, g2, q3, q4]
            · simp [lca, hal, hbr, hpl]
end
section
theorem dX0_init_0 : decode cX0_init 0 = .ok (.aload_n 0, 1) := by decide +kernel
theorem dX0_init_1 : decode cX0_init 1 = .ok (.invokespecial 1, 3) := by decide +kernel
theorem dX0_init_4 : decode cX0_init 4 = .ok (.aload_n 0, 1) := by decide +kernel
theorem dX0_init_5 : decode cX0_init 5 = .ok (.iload_n 1, 1) := by decide +kernel
theorem dX0_init_6 : decode cX0_init 6 = .ok (.putfield 7, 3) := by decide +kernel
theorem dX0_init_9 : decode cX0_init 9 = .ok (.aload_n 0, 1) := by decide +kernel
theorem dX0_init_10 : decode cX0_init 10 = .ok (.aload_n 2, 1) := by decide +kernel
theorem dX0_init_11 : decode cX0_init 11 = .ok (.putfield 13, 3) := by decide +kernel
theorem dX0_init_14 : decode cX0_init 14 = .ok (.return_, 1) := by decide +kernel
theorem dX0_hangLeft_0 : decode cX0_hangLeft 0 = .ok (.aload_n 0, 1) := by decide +kernel
theorem dX0_hangLeft_1 : decode cX0_hangLeft 1 = .ok (.aload_n 1, 1) := by decide +kernel
theorem dX0_hangLeft_2 : decode cX0_hangLeft 2 = .ok (.putfield 17, 3) := by decide +kernel
theorem dX0_hangLeft_5 : decode cX0_hangLeft 5 = .ok (.aload_n 1, 1) := by decide +kernel
theorem dX0_hangLeft_6 : decode cX0_hangLeft 6 = .ok (.ifnull 8, 3) := by decide +kernel
theorem dX0_hangLeft_9 : decode cX0_hangLeft 9 = .ok (.aload_n 1, 1) := by decide +kernel
theorem dX0_hangLeft_10 : decode cX0_hangLeft 10 = .ok (.aload_n 0, 1) := by decide +kernel
theorem dX0_hangLeft_11 : decode cX0_hangLeft 11 = .ok (.putfield 20, 3) := by decide +kernel
theorem dX0_hangLeft_14 : decode cX0_hangLeft 14 = .ok (.return_, 1) := by decide +kernel
theorem dX0_hangRight_0 : decode cX0_hangRight 0 = .ok (.aload_n 0, 1) := by decide +kernel
theorem dX0_hangRight_1 : decode cX0_hangRight 1 = .ok (.aload_n 1, 1) := by decide +kernel
theorem dX0_hangRight_2 : decode cX0_hangRight 2 = .ok (.putfield 23, 3) := by decide +kernel
theorem dX0_hangRight_5 : decode cX0_hangRight 5 = .ok (.aload_n 1, 1) := by decide +kernel
theorem dX0_hangRight_6 : decode cX0_hangRight 6 = .ok (.ifnull 8, 3) := by decide +kernel
theorem dX0_hangRight_9 : decode cX0_hangRight 9 = .ok (.aload_n 1, 1) := by decide +kernel
theorem dX0_hangRight_10 : decode cX0_hangRight 10 = .ok (.aload_n 0, 1) := by decide +kernel
theorem dX0_hangRight_11 : decode cX0_hangRight 11 = .ok (.putfield 20, 3) := by decide +kernel
theorem dX0_hangRight_14 : decode cX0_hangRight 14 = .ok (.return_, 1) := by decide +kernel
theorem dX0_isOnTheLeft_0 : decode cX0_isOnTheLeft 0 = .ok (.aload_n 0, 1) := by decide +kernel
theorem dX0_isOnTheLeft_1 : decode cX0_isOnTheLeft 1 = .ok (.getfield 20, 3) := by decide +kernel
theorem dX0_isOnTheLeft_4 : decode cX0_isOnTheLeft 4 = .ok (.ifnull 18, 3) := by decide +kernel
theorem dX0_isOnTheLeft_7 : decode cX0_isOnTheLeft 7 = .ok (.aload_n 0, 1) := by decide +kernel
theorem dX0_isOnTheLeft_8 : decode cX0_isOnTheLeft 8 = .ok (.getfield 20, 3) := by decide +kernel
theorem dX0_isOnTheLeft_11 : decode cX0_isOnTheLeft 11 = .ok (.getfield 17, 3) := by decide +kernel
theorem dX0_isOnTheLeft_14 : decode cX0_isOnTheLeft 14 = .ok (.aload_n 0, 1) := by decide +kernel
theorem dX0_isOnTheLeft_15 : decode cX0_isOnTheLeft 15 = .ok (.if_acmp .ne 7, 3) := by decide +kernel
theorem dX0_isOnTheLeft_18 : decode cX0_isOnTheLeft 18 = .ok (.iconst 1, 1) := by decide +kernel
theorem dX0_isOnTheLeft_19 : decode cX0_isOnTheLeft 19 = .ok (.goto 4, 3) := by decide +kernel
theorem dX0_isOnTheLeft_22 : decode cX0_isOnTheLeft 22 = .ok (.iconst 0, 1) := by decide +kernel
theorem dX0_isOnTheLeft_23 : decode cX0_isOnTheLeft 23 = .ok (.ireturn, 1) := by decide +kernel
set_option maxRecDepth 20000 in
theorem ggX0_turn_X0_isOnTheLeft : GoodIn wsX0_turn wsX0_isOnTheLeft := goodIn_r _ [8, 1, 3, 17, 18, 19, 20, 21, 22] (by decide +kernel) (by decide +kernel)
set_option maxRecDepth 20000 in
theorem gX0_turn_X0_isOnTheLeft : GoodIn wsX0_turn (wsV RX0 26 RX0 yX0_isOnTheLeft wsX0_isOnTheLeft) := goodIn_app (goodIn_of _ (by decide +kernel)) ggX0_turn_X0_isOnTheLeft
set_option maxRecDepth 20000 in
theorem ggX0_turn_X0_hangLeft : GoodIn wsX0_turn wsX0_hangLeft := goodIn_r _ [12, 3, 1, 17, 18, 19, 20, 21, 22] (by decide +kernel) (by decide +kernel)
set_option maxRecDepth 20000 in
theorem gX0_turn_X0_hangLeft : GoodIn wsX0_turn (wsV RX0 30 RX0 yX0_hangLeft wsX0_hangLeft) := goodIn_app (goodIn_of _ (by decide +kernel)) ggX0_turn_X0_hangLeft
set_option maxRecDepth 20000 in
theorem ggX0_turn_X0_hangRight : GoodIn wsX0_turn wsX0_hangRight := goodIn_r _ [16, 2, 1, 17, 18, 19, 20, 21, 22] (by decide +kernel) (by decide +kernel)
set_option maxRecDepth 20000 in
theorem gX0_turn_X0_hangRight : GoodIn wsX0_turn (wsV RX0 34 RX0 yX0_hangRight wsX0_hangRight) := goodIn_app (goodIn_of _ (by decide +kernel)) ggX0_turn_X0_hangRight
theorem dX0_turn_0 : decode cX0_turn 0 = .ok (.aload_n 0, 1) := by decide +kernel
theorem dX0_turn_1 : decode cX0_turn 1 = .ok (.getfield 20, 3) := by decide +kernel
theorem dX0_turn_4 : decode cX0_turn 4 = .ok (.astore_n 1, 1) := by decide +kernel
theorem dX0_turn_5 : decode cX0_turn 5 = .ok (.aload_n 1, 1) := by decide +kernel
theorem dX0_turn_6 : decode cX0_turn 6 = .ok (.ifnonnull 4, 3) := by decide +kernel
theorem dX0_turn_9 : decode cX0_turn 9 = .ok (.return_, 1) := by decide +kernel
theorem dX0_turn_10 : decode cX0_turn 10 = .ok (.aload_n 1, 1) := by decide +kernel
theorem dX0_turn_11 : decode cX0_turn 11 = .ok (.getfield 20, 3) := by decide +kernel
theorem dX0_turn_14 : decode cX0_turn 14 = .ok (.astore_n 2, 1) := by decide +kernel
theorem dX0_turn_15 : decode cX0_turn 15 = .ok (.aload_n 1, 1) := by decide +kernel
theorem dX0_turn_16 : decode cX0_turn 16 = .ok (.invokevirtual 26, 3) := by decide +kernel
theorem dX0_turn_19 : decode cX0_turn 19 = .ok (.istore_n 3, 1) := by decide +kernel
theorem dX0_turn_20 : decode cX0_turn 20 = .ok (.aload_n 0, 1) := by decide +kernel
theorem dX0_turn_21 : decode cX0_turn 21 = .ok (.invokevirtual 26, 3) := by decide +kernel
theorem dX0_turn_24 : decode cX0_turn 24 = .ok (.ifCond .eq 19, 3) := by decide +kernel
theorem dX0_turn_27 : decode cX0_turn 27 = .ok (.aload_n 1, 1) := by decide +kernel
theorem dX0_turn_28 : decode cX0_turn 28 = .ok (.aload_n 0, 1) := by decide +kernel
theorem dX0_turn_29 : decode cX0_turn 29 = .ok (.getfield 23, 3) := by decide +kernel
theorem dX0_turn_32 : decode cX0_turn 32 = .ok (.invokevirtual 30, 3) := by decide +kernel
theorem dX0_turn_35 : decode cX0_turn 35 = .ok (.aload_n 0, 1) := by decide +kernel
theorem dX0_turn_36 : decode cX0_turn 36 = .ok (.aload_n 1, 1) := by decide +kernel
theorem dX0_turn_37 : decode cX0_turn 37 = .ok (.invokevirtual 34, 3) := by decide +kernel
theorem dX0_turn_40 : decode cX0_turn 40 = .ok (.goto 16, 3) := by decide +kernel
theorem dX0_turn_43 : decode cX0_turn 43 = .ok (.aload_n 1, 1) := by decide +kernel
theorem dX0_turn_44 : decode cX0_turn 44 = .ok (.aload_n 0, 1) := by decide +kernel
theorem dX0_turn_45 : decode cX0_turn 45 = .ok (.getfield 17, 3) := by decide +kernel
theorem dX0_turn_48 : decode cX0_turn 48 = .ok (.invokevirtual 34, 3) := by decide +kernel
theorem dX0_turn_51 : decode cX0_turn 51 = .ok (.aload_n 0, 1) := by decide +kernel
theorem dX0_turn_52 : decode cX0_turn 52 = .ok (.aload_n 1, 1) := by decide +kernel
theorem dX0_turn_53 : decode cX0_turn 53 = .ok (.invokevirtual 30, 3) := by decide +kernel
theorem dX0_turn_56 : decode cX0_turn 56 = .ok (.aload_n 0, 1) := by decide +kernel
theorem dX0_turn_57 : decode cX0_turn 57 = .ok (.aload_n 2, 1) := by decide +kernel
theorem dX0_turn_58 : decode cX0_turn 58 = .ok (.putfield 20, 3) := by decide +kernel
theorem dX0_turn_61 : decode cX0_turn 61 = .ok (.aload_n 2, 1) := by decide +kernel
theorem dX0_turn_62 : decode cX0_turn 62 = .ok (.ifnull 15, 3) := by decide +kernel
theorem dX0_turn_65 : decode cX0_turn 65 = .ok (.iload_n 3, 1) := by decide +kernel
theorem dX0_turn_66 : decode cX0_turn 66 = .ok (.ifCond .eq 11, 3) := by decide +kernel
theorem dX0_turn_69 : decode cX0_turn 69 = .ok (.aload_n 2, 1) := by decide +kernel
theorem dX0_turn_70 : decode cX0_turn 70 = .ok (.aload_n 0, 1) := by decide +kernel
theorem dX0_turn_71 : decode cX0_turn 71 = .ok (.invokevirtual 30, 3) := by decide +kernel
theorem dX0_turn_74 : decode cX0_turn 74 = .ok (.goto 12, 3) := by decide +kernel
theorem dX0_turn_77 : decode cX0_turn 77 = .ok (.aload_n 2, 1) := by decide +kernel
theorem dX0_turn_78 : decode cX0_turn 78 = .ok (.ifnull 8, 3) := by decide +kernel
theorem dX0_turn_81 : decode cX0_turn 81 = .ok (.aload_n 2, 1) := by decide +kernel
theorem dX0_turn_82 : decode cX0_turn 82 = .ok (.aload_n 0, 1) := by decide +kernel
theorem dX0_turn_83 : decode cX0_turn 83 = .ok (.invokevirtual 34, 3) := by decide +kernel
theorem dX0_turn_86 : decode cX0_turn 86 = .ok (.return_, 1) := by decide +kernel
theorem dX0_depth_0 : decode cX0_depth 0 = .ok (.iconst 0, 1) := by decide +kernel
theorem dX0_depth_1 : decode cX0_depth 1 = .ok (.istore_n 1, 1) := by decide +kernel
theorem dX0_depth_2 : decode cX0_depth 2 = .ok (.aload_n 0, 1) := by decide +kernel
theorem dX0_depth_3 : decode cX0_depth 3 = .ok (.getfield 20, 3) := by decide +kernel
theorem dX0_depth_6 : decode cX0_depth 6 = .ok (.astore_n 2, 1) := by decide +kernel
theorem dX0_depth_7 : decode cX0_depth 7 = .ok (.aload_n 2, 1) := by decide +kernel
theorem dX0_depth_8 : decode cX0_depth 8 = .ok (.ifnull 14, 3) := by decide +kernel
theorem dX0_depth_11 : decode cX0_depth 11 = .ok (.iinc 1 1, 3) := by decide +kernel
theorem dX0_depth_14 : decode cX0_depth 14 = .ok (.aload_n 2, 1) := by decide +kernel
theorem dX0_depth_15 : decode cX0_depth 15 = .ok (.getfield 20, 3) := by decide +kernel
theorem dX0_depth_18 : decode cX0_depth 18 = .ok (.astore_n 2, 1) := by decide +kernel
theorem dX0_depth_19 : decode cX0_depth 19 = .ok (.goto (-12), 3) := by decide +kernel
theorem dX0_depth_22 : decode cX0_depth 22 = .ok (.iload_n 1, 1) := by decide +kernel
theorem dX0_depth_23 : decode cX0_depth 23 = .ok (.ireturn, 1) := by decide +kernel
theorem dX0_towards_0 : decode cX0_towards 0 = .ok (.iload_n 1, 1) := by decide +kernel
theorem dX0_towards_1 : decode cX0_towards 1 = .ok (.aload_n 0, 1) := by decide +kernel
theorem dX0_towards_2 : decode cX0_towards 2 = .ok (.getfield 7, 3) := by decide +kernel
theorem dX0_towards_5 : decode cX0_towards 5 = .ok (.if_icmp .ne 5, 3) := by decide +kernel
theorem dX0_towards_8 : decode cX0_towards 8 = .ok (.aconst_null, 1) := by decide +kernel
theorem dX0_towards_9 : decode cX0_towards 9 = .ok (.areturn, 1) := by decide +kernel
theorem dX0_towards_10 : decode cX0_towards 10 = .ok (.iload_n 1, 1) := by decide +kernel
theorem dX0_towards_11 : decode cX0_towards 11 = .ok (.aload_n 0, 1) := by decide +kernel
theorem dX0_towards_12 : decode cX0_towards 12 = .ok (.getfield 7, 3) := by decide +kernel
theorem dX0_towards_15 : decode cX0_towards 15 = .ok (.if_icmp .ge 10, 3) := by decide +kernel
theorem dX0_towards_18 : decode cX0_towards 18 = .ok (.aload_n 0, 1) := by decide +kernel
theorem dX0_towards_19 : decode cX0_towards 19 = .ok (.getfield 17, 3) := by decide +kernel
theorem dX0_towards_22 : decode cX0_towards 22 = .ok (.goto 7, 3) := by decide +kernel
theorem dX0_towards_25 : decode cX0_towards 25 = .ok (.aload_n 0, 1) := by decide +kernel
theorem dX0_towards_26 : decode cX0_towards 26 = .ok (.getfield 23, 3) := by decide +kernel
theorem dX0_towards_29 : decode cX0_towards 29 = .ok (.areturn, 1) := by decide +kernel
theorem dX0_leastUnder_0 : decode cX0_leastUnder 0 = .ok (.aload_n 0, 1) := by decide +kernel
theorem dX0_leastUnder_1 : decode cX0_leastUnder 1 = .ok (.astore_n 1, 1) := by decide +kernel
theorem dX0_leastUnder_2 : decode cX0_leastUnder 2 = .ok (.aload_n 1, 1) := by decide +kernel
theorem dX0_leastUnder_3 : decode cX0_leastUnder 3 = .ok (.getfield 17, 3) := by decide +kernel
theorem dX0_leastUnder_6 : decode cX0_leastUnder 6 = .ok (.ifnull 11, 3) := by decide +kernel
theorem dX0_leastUnder_9 : decode cX0_leastUnder 9 = .ok (.aload_n 1, 1) := by decide +kernel
theorem dX0_leastUnder_10 : decode cX0_leastUnder 10 = .ok (.getfield 17, 3) := by decide +kernel
theorem dX0_leastUnder_13 : decode cX0_leastUnder 13 = .ok (.astore_n 1, 1) := by decide +kernel
theorem dX0_leastUnder_14 : decode cX0_leastUnder 14 = .ok (.goto (-12), 3) := by decide +kernel
theorem dX0_leastUnder_17 : decode cX0_leastUnder 17 = .ok (.aload_n 1, 1) := by decide +kernel
theorem dX0_leastUnder_18 : decode cX0_leastUnder 18 = .ok (.areturn, 1) := by decide +kernel
theorem dX0_greatestUnder_0 : decode cX0_greatestUnder 0 = .ok (.aload_n 0, 1) := by decide +kernel
theorem dX0_greatestUnder_1 : decode cX0_greatestUnder 1 = .ok (.astore_n 1, 1) := by decide +kernel
theorem dX0_greatestUnder_2 : decode cX0_greatestUnder 2 = .ok (.aload_n 1, 1) := by decide +kernel
theorem dX0_greatestUnder_3 : decode cX0_greatestUnder 3 = .ok (.getfield 23, 3) := by decide +kernel
theorem dX0_greatestUnder_6 : decode cX0_greatestUnder 6 = .ok (.ifnull 11, 3) := by decide +kernel
theorem dX0_greatestUnder_9 : decode cX0_greatestUnder 9 = .ok (.aload_n 1, 1) := by decide +kernel
theorem dX0_greatestUnder_10 : decode cX0_greatestUnder 10 = .ok (.getfield 23, 3) := by decide +kernel
theorem dX0_greatestUnder_13 : decode cX0_greatestUnder 13 = .ok (.astore_n 1, 1) := by decide +kernel
theorem dX0_greatestUnder_14 : decode cX0_greatestUnder 14 = .ok (.goto (-12), 3) := by decide +kernel
theorem dX0_greatestUnder_17 : decode cX0_greatestUnder 17 = .ok (.aload_n 1, 1) := by decide +kernel
theorem dX0_greatestUnder_18 : decode cX0_greatestUnder 18 = .ok (.areturn, 1) := by decide +kernel
set_option maxRecDepth 20000 in
theorem ggX0_next_X0_leastUnder : GoodIn wsX0_next wsX0_leastUnder := goodIn_r _ [7, 8, 9, 10, 11, 12, 13, 14] (by decide +kernel) (by decide +kernel)
set_option maxRecDepth 20000 in
theorem gX0_next_X0_leastUnder : GoodIn wsX0_next (wsV RX0 37 RX0 yX0_leastUnder wsX0_leastUnder) := goodIn_app (goodIn_of _ (by decide +kernel)) ggX0_next_X0_leastUnder
theorem dX0_next_0 : decode cX0_next 0 = .ok (.aload_n 0, 1) := by decide +kernel
theorem dX0_next_1 : decode cX0_next 1 = .ok (.getfield 23, 3) := by decide +kernel
theorem dX0_next_4 : decode cX0_next 4 = .ok (.ifnull 11, 3) := by decide +kernel
theorem dX0_next_7 : decode cX0_next 7 = .ok (.aload_n 0, 1) := by decide +kernel
theorem dX0_next_8 : decode cX0_next 8 = .ok (.getfield 23, 3) := by decide +kernel
theorem dX0_next_11 : decode cX0_next 11 = .ok (.invokevirtual 37, 3) := by decide +kernel
theorem dX0_next_14 : decode cX0_next 14 = .ok (.areturn, 1) := by decide +kernel
theorem dX0_next_15 : decode cX0_next 15 = .ok (.aload_n 0, 1) := by decide +kernel
theorem dX0_next_16 : decode cX0_next 16 = .ok (.astore_n 1, 1) := by decide +kernel
theorem dX0_next_17 : decode cX0_next 17 = .ok (.aload_n 1, 1) := by decide +kernel
theorem dX0_next_18 : decode cX0_next 18 = .ok (.getfield 20, 3) := by decide +kernel
theorem dX0_next_21 : decode cX0_next 21 = .ok (.ifnull 22, 3) := by decide +kernel
theorem dX0_next_24 : decode cX0_next 24 = .ok (.aload_n 1, 1) := by decide +kernel
theorem dX0_next_25 : decode cX0_next 25 = .ok (.getfield 20, 3) := by decide +kernel
theorem dX0_next_28 : decode cX0_next 28 = .ok (.getfield 23, 3) := by decide +kernel
theorem dX0_next_31 : decode cX0_next 31 = .ok (.aload_n 1, 1) := by decide +kernel
theorem dX0_next_32 : decode cX0_next 32 = .ok (.if_acmp .ne 11, 3) := by decide +kernel
theorem dX0_next_35 : decode cX0_next 35 = .ok (.aload_n 1, 1) := by decide +kernel
theorem dX0_next_36 : decode cX0_next 36 = .ok (.getfield 20, 3) := by decide +kernel
theorem dX0_next_39 : decode cX0_next 39 = .ok (.astore_n 1, 1) := by decide +kernel
theorem dX0_next_40 : decode cX0_next 40 = .ok (.goto (-23), 3) := by decide +kernel
theorem dX0_next_43 : decode cX0_next 43 = .ok (.aload_n 1, 1) := by decide +kernel
theorem dX0_next_44 : decode cX0_next 44 = .ok (.getfield 20, 3) := by decide +kernel
theorem dX0_next_47 : decode cX0_next 47 = .ok (.areturn, 1) := by decide +kernel
set_option maxRecDepth 20000 in
theorem ggX0_countUnder_X0_greatestUnder : GoodIn wsX0_countUnder wsX0_greatestUnder := goodIn_r _ [5, 6, 17, 18, 19, 20, 21, 22] (by decide +kernel) (by decide +kernel)
set_option maxRecDepth 20000 in
theorem gX0_countUnder_X0_greatestUnder : GoodIn wsX0_countUnder (wsV RX0 41 RX0 yX0_greatestUnder wsX0_greatestUnder) := goodIn_app (goodIn_of _ (by decide +kernel)) ggX0_countUnder_X0_greatestUnder
set_option maxRecDepth 20000 in
theorem ggX0_countUnder_X0_leastUnder : GoodIn wsX0_countUnder wsX0_leastUnder := goodIn_r _ [10, 11, 17, 18, 19, 20, 21, 22] (by decide +kernel) (by decide +kernel)
set_option maxRecDepth 20000 in
theorem gX0_countUnder_X0_leastUnder : GoodIn wsX0_countUnder (wsV RX0 37 RX0 yX0_leastUnder wsX0_leastUnder) := goodIn_app (goodIn_of _ (by decide +kernel)) ggX0_countUnder_X0_leastUnder
set_option maxRecDepth 20000 in
theorem ggX0_countUnder_X0_next : GoodIn wsX0_countUnder wsX0_next := goodIn_r _ [15, 6, 16, 7, 8, 9, 4, 10, 11, 17, 18, 19, 20, 21, 22] (by decide +kernel) (by decide +kernel)
set_option maxRecDepth 20000 in
theorem gX0_countUnder_X0_next : GoodIn wsX0_countUnder (wsV RX0 44 RX0 yX0_next wsX0_next) := goodIn_app (goodIn_of _ (by decide +kernel)) ggX0_countUnder_X0_next
theorem dX0_countUnder_0 : decode cX0_countUnder 0 = .ok (.aload_n 0, 1) := by decide +kernel
theorem dX0_countUnder_1 : decode cX0_countUnder 1 = .ok (.invokevirtual 41, 3) := by decide +kernel
theorem dX0_countUnder_4 : decode cX0_countUnder 4 = .ok (.astore_n 1, 1) := by decide +kernel
theorem dX0_countUnder_5 : decode cX0_countUnder 5 = .ok (.iconst 0, 1) := by decide +kernel
theorem dX0_countUnder_6 : decode cX0_countUnder 6 = .ok (.istore_n 2, 1) := by decide +kernel
theorem dX0_countUnder_7 : decode cX0_countUnder 7 = .ok (.aload_n 0, 1) := by decide +kernel
theorem dX0_countUnder_8 : decode cX0_countUnder 8 = .ok (.invokevirtual 37, 3) := by decide +kernel
theorem dX0_countUnder_11 : decode cX0_countUnder 11 = .ok (.astore_n 3, 1) := by decide +kernel
theorem dX0_countUnder_12 : decode cX0_countUnder 12 = .ok (.aload_n 3, 1) := by decide +kernel
theorem dX0_countUnder_13 : decode cX0_countUnder 13 = .ok (.ifnull 19, 3) := by decide +kernel
theorem dX0_countUnder_16 : decode cX0_countUnder 16 = .ok (.aload_n 3, 1) := by decide +kernel
theorem dX0_countUnder_17 : decode cX0_countUnder 17 = .ok (.aload_n 1, 1) := by decide +kernel
theorem dX0_countUnder_18 : decode cX0_countUnder 18 = .ok (.if_acmp .eq 14, 3) := by decide +kernel
theorem dX0_countUnder_21 : decode cX0_countUnder 21 = .ok (.iinc 2 1, 3) := by decide +kernel
theorem dX0_countUnder_24 : decode cX0_countUnder 24 = .ok (.aload_n 3, 1) := by decide +kernel
theorem dX0_countUnder_25 : decode cX0_countUnder 25 = .ok (.invokevirtual 44, 3) := by decide +kernel
theorem dX0_countUnder_28 : decode cX0_countUnder 28 = .ok (.astore_n 3, 1) := by decide +kernel
theorem dX0_countUnder_29 : decode cX0_countUnder 29 = .ok (.goto (-17), 3) := by decide +kernel
theorem dX0_countUnder_32 : decode cX0_countUnder 32 = .ok (.iload_n 2, 1) := by decide +kernel
theorem dX0_countUnder_33 : decode cX0_countUnder 33 = .ok (.ireturn, 1) := by decide +kernel
set_option maxRecDepth 20000 in
theorem ggX0_linkStandIn_X0_standInOf : GoodIn wsX0_linkStandIn wsX0_standInOf := goodIn_r _ [8, 1, 9, 10, 11, 12, 13, 14] (by decide +kernel) (by decide +kernel)
set_option maxRecDepth 20000 in
theorem gX0_linkStandIn_X0_standInOf : GoodIn wsX0_linkStandIn (va_wsS RX0 47 yX0_standInOf wsX0_standInOf) := goodIn_app (goodIn_of _ (by decide +kernel)) ggX0_linkStandIn_X0_standInOf
theorem dX0_linkStandIn_0 : decode cX0_linkStandIn 0 = .ok (.aload_n 0, 1) := by decide +kernel
theorem dX0_linkStandIn_1 : decode cX0_linkStandIn 1 = .ok (.getfield 13, 3) := by decide +kernel
theorem dX0_linkStandIn_4 : decode cX0_linkStandIn 4 = .ok (.ifnull 45, 3) := by decide +kernel
theorem dX0_linkStandIn_7 : decode cX0_linkStandIn 7 = .ok (.aload_n 0, 1) := by decide +kernel
theorem dX0_linkStandIn_8 : decode cX0_linkStandIn 8 = .ok (.getfield 13, 3) := by decide +kernel
theorem dX0_linkStandIn_11 : decode cX0_linkStandIn 11 = .ok (.aload_n 0, 1) := by decide +kernel
theorem dX0_linkStandIn_12 : decode cX0_linkStandIn 12 = .ok (.getfield 20, 3) := by decide +kernel
theorem dX0_linkStandIn_15 : decode cX0_linkStandIn 15 = .ok (.invokestatic 47, 3) := by decide +kernel
theorem dX0_linkStandIn_18 : decode cX0_linkStandIn 18 = .ok (.putfield 20, 3) := by decide +kernel
theorem dX0_linkStandIn_21 : decode cX0_linkStandIn 21 = .ok (.aload_n 0, 1) := by decide +kernel
theorem dX0_linkStandIn_22 : decode cX0_linkStandIn 22 = .ok (.getfield 13, 3) := by decide +kernel
theorem dX0_linkStandIn_25 : decode cX0_linkStandIn 25 = .ok (.aload_n 0, 1) := by decide +kernel
theorem dX0_linkStandIn_26 : decode cX0_linkStandIn 26 = .ok (.getfield 17, 3) := by decide +kernel
theorem dX0_linkStandIn_29 : decode cX0_linkStandIn 29 = .ok (.invokestatic 47, 3) := by decide +kernel
theorem dX0_linkStandIn_32 : decode cX0_linkStandIn 32 = .ok (.putfield 17, 3) := by decide +kernel
theorem dX0_linkStandIn_35 : decode cX0_linkStandIn 35 = .ok (.aload_n 0, 1) := by decide +kernel
theorem dX0_linkStandIn_36 : decode cX0_linkStandIn 36 = .ok (.getfield 13, 3) := by decide +kernel
theorem dX0_linkStandIn_39 : decode cX0_linkStandIn 39 = .ok (.aload_n 0, 1) := by decide +kernel
theorem dX0_linkStandIn_40 : decode cX0_linkStandIn 40 = .ok (.getfield 23, 3) := by decide +kernel
theorem dX0_linkStandIn_43 : decode cX0_linkStandIn 43 = .ok (.invokestatic 47, 3) := by decide +kernel
theorem dX0_linkStandIn_46 : decode cX0_linkStandIn 46 = .ok (.putfield 23, 3) := by decide +kernel
theorem dX0_linkStandIn_49 : decode cX0_linkStandIn 49 = .ok (.return_, 1) := by decide +kernel
theorem dX0_standInOf_0 : decode cX0_standInOf 0 = .ok (.aload_n 0, 1) := by decide +kernel
theorem dX0_standInOf_1 : decode cX0_standInOf 1 = .ok (.ifnonnull 7, 3) := by decide +kernel
theorem dX0_standInOf_4 : decode cX0_standInOf 4 = .ok (.aconst_null, 1) := by decide +kernel
theorem dX0_standInOf_5 : decode cX0_standInOf 5 = .ok (.goto 7, 3) := by decide +kernel
theorem dX0_standInOf_8 : decode cX0_standInOf 8 = .ok (.aload_n 0, 1) := by decide +kernel
theorem dX0_standInOf_9 : decode cX0_standInOf 9 = .ok (.getfield 13, 3) := by decide +kernel
theorem dX0_standInOf_12 : decode cX0_standInOf 12 = .ok (.areturn, 1) := by decide +kernel
theorem dX1_init_0 : decode cX1_init 0 = .ok (.aload_n 0, 1) := by decide +kernel
theorem dX1_init_1 : decode cX1_init 1 = .ok (.invokespecial 1, 3) := by decide +kernel
theorem dX1_init_4 : decode cX1_init 4 = .ok (.return_, 1) := by decide +kernel
theorem dX1_setTop_0 : decode cX1_setTop 0 = .ok (.aload_n 0, 1) := by decide +kernel
theorem dX1_setTop_1 : decode cX1_setTop 1 = .ok (.aload_n 1, 1) := by decide +kernel
theorem dX1_setTop_2 : decode cX1_setTop 2 = .ok (.putfield 7, 3) := by decide +kernel
theorem dX1_setTop_5 : decode cX1_setTop 5 = .ok (.aload_n 1, 1) := by decide +kernel
theorem dX1_setTop_6 : decode cX1_setTop 6 = .ok (.ifnull 8, 3) := by decide +kernel
theorem dX1_setTop_9 : decode cX1_setTop 9 = .ok (.aload_n 1, 1) := by decide +kernel
theorem dX1_setTop_10 : decode cX1_setTop 10 = .ok (.aconst_null, 1) := by decide +kernel
theorem dX1_setTop_11 : decode cX1_setTop 11 = .ok (.putfield 13, 3) := by decide +kernel
theorem dX1_setTop_14 : decode cX1_setTop 14 = .ok (.return_, 1) := by decide +kernel
set_option maxRecDepth 20000 in
theorem ggX1_first_X0_leastUnder : GoodIn wsX1_first wsX0_leastUnder := goodIn_r _ [6, 7, 9, 10, 11, 12, 13, 14] (by decide +kernel) (by decide +kernel)
set_option maxRecDepth 20000 in
theorem gX1_first_X0_leastUnder : GoodIn wsX1_first (wsV RX1 18 RX0 yX0_leastUnder wsX0_leastUnder) := goodIn_app (goodIn_of _ (by decide +kernel)) ggX1_first_X0_leastUnder
theorem dX1_first_0 : decode cX1_first 0 = .ok (.aload_n 0, 1) := by decide +kernel
theorem dX1_first_1 : decode cX1_first 1 = .ok (.getfield 7, 3) := by decide +kernel
theorem dX1_first_4 : decode cX1_first 4 = .ok (.ifnonnull 7, 3) := by decide +kernel
theorem dX1_first_7 : decode cX1_first 7 = .ok (.aconst_null, 1) := by decide +kernel
theorem dX1_first_8 : decode cX1_first 8 = .ok (.goto 10, 3) := by decide +kernel
theorem dX1_first_11 : decode cX1_first 11 = .ok (.aload_n 0, 1) := by decide +kernel
theorem dX1_first_12 : decode cX1_first 12 = .ok (.getfield 7, 3) := by decide +kernel
theorem dX1_first_15 : decode cX1_first 15 = .ok (.invokevirtual 18, 3) := by decide +kernel
theorem dX1_first_18 : decode cX1_first 18 = .ok (.areturn, 1) := by decide +kernel
set_option maxRecDepth 20000 in
theorem ggX1_last_X0_greatestUnder : GoodIn wsX1_last wsX0_greatestUnder := goodIn_r _ [6, 7, 9, 10, 11, 12, 13, 14] (by decide +kernel) (by decide +kernel)
set_option maxRecDepth 20000 in
theorem gX1_last_X0_greatestUnder : GoodIn wsX1_last (wsV RX1 22 RX0 yX0_greatestUnder wsX0_greatestUnder) := goodIn_app (goodIn_of _ (by decide +kernel)) ggX1_last_X0_greatestUnder
theorem dX1_last_0 : decode cX1_last 0 = .ok (.aload_n 0, 1) := by decide +kernel
theorem dX1_last_1 : decode cX1_last 1 = .ok (.getfield 7, 3) := by decide +kernel
theorem dX1_last_4 : decode cX1_last 4 = .ok (.ifnonnull 7, 3) := by decide +kernel
theorem dX1_last_7 : decode cX1_last 7 = .ok (.aconst_null, 1) := by decide +kernel
theorem dX1_last_8 : decode cX1_last 8 = .ok (.goto 10, 3) := by decide +kernel
theorem dX1_last_11 : decode cX1_last 11 = .ok (.aload_n 0, 1) := by decide +kernel
theorem dX1_last_12 : decode cX1_last 12 = .ok (.getfield 7, 3) := by decide +kernel
theorem dX1_last_15 : decode cX1_last 15 = .ok (.invokevirtual 22, 3) := by decide +kernel
theorem dX1_last_18 : decode cX1_last 18 = .ok (.areturn, 1) := by decide +kernel
set_option maxRecDepth 20000 in
theorem ggX1_nearest_X0_towards : GoodIn wsX1_nearest wsX0_towards := goodIn_r _ [6, 7, 8, 9, 11, 12, 13, 14, 15, 16] (by decide +kernel) (by decide +kernel)
set_option maxRecDepth 20000 in
theorem gX1_nearest_X0_towards : GoodIn wsX1_nearest (wsV RX1 25 RX0 yX0_towards wsX0_towards) := goodIn_app (goodIn_of _ (by decide +kernel)) ggX1_nearest_X0_towards
theorem dX1_nearest_0 : decode cX1_nearest 0 = .ok (.aconst_null, 1) := by decide +kernel
theorem dX1_nearest_1 : decode cX1_nearest 1 = .ok (.astore_n 2, 1) := by decide +kernel
theorem dX1_nearest_2 : decode cX1_nearest 2 = .ok (.aload_n 0, 1) := by decide +kernel
theorem dX1_nearest_3 : decode cX1_nearest 3 = .ok (.getfield 7, 3) := by decide +kernel
theorem dX1_nearest_6 : decode cX1_nearest 6 = .ok (.astore_n 3, 1) := by decide +kernel
theorem dX1_nearest_7 : decode cX1_nearest 7 = .ok (.aload_n 3, 1) := by decide +kernel
theorem dX1_nearest_8 : decode cX1_nearest 8 = .ok (.ifnull 14, 3) := by decide +kernel
theorem dX1_nearest_11 : decode cX1_nearest 11 = .ok (.aload_n 3, 1) := by decide +kernel
theorem dX1_nearest_12 : decode cX1_nearest 12 = .ok (.astore_n 2, 1) := by decide +kernel
theorem dX1_nearest_13 : decode cX1_nearest 13 = .ok (.aload_n 3, 1) := by decide +kernel
theorem dX1_nearest_14 : decode cX1_nearest 14 = .ok (.iload_n 1, 1) := by decide +kernel
theorem dX1_nearest_15 : decode cX1_nearest 15 = .ok (.invokevirtual 25, 3) := by decide +kernel
theorem dX1_nearest_18 : decode cX1_nearest 18 = .ok (.astore_n 3, 1) := by decide +kernel
theorem dX1_nearest_19 : decode cX1_nearest 19 = .ok (.goto (-12), 3) := by decide +kernel
theorem dX1_nearest_22 : decode cX1_nearest 22 = .ok (.aload_n 2, 1) := by decide +kernel
theorem dX1_nearest_23 : decode cX1_nearest 23 = .ok (.areturn, 1) := by decide +kernel
set_option maxRecDepth 20000 in
theorem ggX1_find_X1_nearest : GoodIn wsX1_find wsX1_nearest := goodIn_r _ [6, 7, 8, 9, 10, 11, 12, 13, 14, 15, 22, 16, 17, 18, 19, 20, 21] (by decide +kernel) (by decide +kernel)
set_option maxRecDepth 20000 in
theorem gX1_find_X1_nearest : GoodIn wsX1_find (wsV RX1 29 RX1 yX1_nearest wsX1_nearest) := goodIn_app (goodIn_of _ (by decide +kernel)) ggX1_find_X1_nearest
theorem dX1_find_0 : decode cX1_find 0 = .ok (.aload_n 0, 1) := by decide +kernel
theorem dX1_find_1 : decode cX1_find 1 = .ok (.iload_n 1, 1) := by decide +kernel
theorem dX1_find_2 : decode cX1_find 2 = .ok (.invokevirtual 29, 3) := by decide +kernel
theorem dX1_find_5 : decode cX1_find 5 = .ok (.astore_n 2, 1) := by decide +kernel
theorem dX1_find_6 : decode cX1_find 6 = .ok (.aload_n 2, 1) := by decide +kernel
theorem dX1_find_7 : decode cX1_find 7 = .ok (.ifnull 15, 3) := by decide +kernel
theorem dX1_find_10 : decode cX1_find 10 = .ok (.aload_n 2, 1) := by decide +kernel
theorem dX1_find_11 : decode cX1_find 11 = .ok (.getfield 32, 3) := by decide +kernel
theorem dX1_find_14 : decode cX1_find 14 = .ok (.iload_n 1, 1) := by decide +kernel
theorem dX1_find_15 : decode cX1_find 15 = .ok (.if_icmp .ne 7, 3) := by decide +kernel
theorem dX1_find_18 : decode cX1_find 18 = .ok (.aload_n 2, 1) := by decide +kernel
theorem dX1_find_19 : decode cX1_find 19 = .ok (.goto 4, 3) := by decide +kernel
theorem dX1_find_22 : decode cX1_find 22 = .ok (.aconst_null, 1) := by decide +kernel
theorem dX1_find_23 : decode cX1_find 23 = .ok (.areturn, 1) := by decide +kernel
set_option maxRecDepth 20000 in
theorem ggX1_hang_X1_nearest : GoodIn wsX1_hang wsX1_nearest := goodIn_r _ [6, 7, 8, 9, 10, 11, 12, 13, 14, 15, 36, 30, 31, 32, 33, 34, 35] (by decide +kernel) (by decide +kernel)
set_option maxRecDepth 20000 in
theorem gX1_hang_X1_nearest : GoodIn wsX1_hang (wsV RX1 29 RX1 yX1_nearest wsX1_nearest) := goodIn_app (goodIn_of _ (by decide +kernel)) ggX1_hang_X1_nearest
set_option maxRecDepth 20000 in
theorem ggX1_hang_X1_setTop : GoodIn wsX1_hang wsX1_setTop := goodIn_r _ [19, 7, 20, 36, 30, 31, 32, 33, 34, 35] (by decide +kernel) (by decide +kernel)
set_option maxRecDepth 20000 in
theorem gX1_hang_X1_setTop : GoodIn wsX1_hang (wsV RX1 36 RX1 yX1_setTop wsX1_setTop) := goodIn_app (goodIn_of _ (by decide +kernel)) ggX1_hang_X1_setTop
set_option maxRecDepth 20000 in
theorem ggX1_hang_X0_hangLeft : GoodIn wsX1_hang wsX0_hangLeft := goodIn_r _ [24, 14, 25, 30, 31, 32, 33, 34, 35] (by decide +kernel) (by decide +kernel)
set_option maxRecDepth 20000 in
theorem gX1_hang_X0_hangLeft : GoodIn wsX1_hang (wsV RX1 40 RX0 yX0_hangLeft wsX0_hangLeft) := goodIn_app (goodIn_of _ (by decide +kernel)) ggX1_hang_X0_hangLeft
set_option maxRecDepth 20000 in
theorem ggX1_hang_X0_hangRight : GoodIn wsX1_hang wsX0_hangRight := goodIn_r _ [29, 15, 25, 30, 31, 32, 33, 34, 35] (by decide +kernel) (by decide +kernel)
set_option maxRecDepth 20000 in
theorem gX1_hang_X0_hangRight : GoodIn wsX1_hang (wsV RX1 43 RX0 yX0_hangRight wsX0_hangRight) := goodIn_app (goodIn_of _ (by decide +kernel)) ggX1_hang_X0_hangRight
theorem dX1_hang_0 : decode cX1_hang 0 = .ok (.aload_n 0, 1) := by decide +kernel
theorem dX1_hang_1 : decode cX1_hang 1 = .ok (.aload_n 1, 1) := by decide +kernel
theorem dX1_hang_2 : decode cX1_hang 2 = .ok (.getfield 32, 3) := by decide +kernel
theorem dX1_hang_5 : decode cX1_hang 5 = .ok (.invokevirtual 29, 3) := by decide +kernel
theorem dX1_hang_8 : decode cX1_hang 8 = .ok (.astore_n 2, 1) := by decide +kernel
theorem dX1_hang_9 : decode cX1_hang 9 = .ok (.aload_n 2, 1) := by decide +kernel
theorem dX1_hang_10 : decode cX1_hang 10 = .ok (.ifnonnull 11, 3) := by decide +kernel
theorem dX1_hang_13 : decode cX1_hang 13 = .ok (.aload_n 0, 1) := by decide +kernel
theorem dX1_hang_14 : decode cX1_hang 14 = .ok (.aload_n 1, 1) := by decide +kernel
theorem dX1_hang_15 : decode cX1_hang 15 = .ok (.invokevirtual 36, 3) := by decide +kernel
theorem dX1_hang_18 : decode cX1_hang 18 = .ok (.goto 27, 3) := by decide +kernel
theorem dX1_hang_21 : decode cX1_hang 21 = .ok (.aload_n 1, 1) := by decide +kernel
theorem dX1_hang_22 : decode cX1_hang 22 = .ok (.getfield 32, 3) := by decide +kernel
theorem dX1_hang_25 : decode cX1_hang 25 = .ok (.aload_n 2, 1) := by decide +kernel
theorem dX1_hang_26 : decode cX1_hang 26 = .ok (.getfield 32, 3) := by decide +kernel
theorem dX1_hang_29 : decode cX1_hang 29 = .ok (.if_icmp .ge 11, 3) := by decide +kernel
theorem dX1_hang_32 : decode cX1_hang 32 = .ok (.aload_n 2, 1) := by decide +kernel
theorem dX1_hang_33 : decode cX1_hang 33 = .ok (.aload_n 1, 1) := by decide +kernel
theorem dX1_hang_34 : decode cX1_hang 34 = .ok (.invokevirtual 40, 3) := by decide +kernel
theorem dX1_hang_37 : decode cX1_hang 37 = .ok (.goto 8, 3) := by decide +kernel
theorem dX1_hang_40 : decode cX1_hang 40 = .ok (.aload_n 2, 1) := by decide +kernel
theorem dX1_hang_41 : decode cX1_hang 41 = .ok (.aload_n 1, 1) := by decide +kernel
theorem dX1_hang_42 : decode cX1_hang 42 = .ok (.invokevirtual 43, 3) := by decide +kernel
theorem dX1_hang_45 : decode cX1_hang 45 = .ok (.return_, 1) := by decide +kernel
set_option maxRecDepth 20000 in
theorem ggX1_bringUp_X0_depth : GoodIn wsX1_bringUp wsX0_depth := goodIn_r _ [7, 8, 28, 29, 30, 31, 32, 33] (by decide +kernel) (by decide +kernel)
set_option maxRecDepth 20000 in
theorem gX1_bringUp_X0_depth : GoodIn wsX1_bringUp (wsV RX1 46 RX0 yX0_depth wsX0_depth) := goodIn_app (goodIn_of _ (by decide +kernel)) ggX1_bringUp_X0_depth
set_option maxRecDepth 20000 in
theorem ggX1_bringUp_X0_isOnTheLeft : GoodIn wsX1_bringUp wsX0_isOnTheLeft := goodIn_r _ [12, 8, 13, 28, 29, 30, 31, 32, 33] (by decide +kernel) (by decide +kernel)
set_option maxRecDepth 20000 in
theorem gX1_bringUp_X0_isOnTheLeft : GoodIn wsX1_bringUp (wsV RX1 50 RX0 yX0_isOnTheLeft wsX0_isOnTheLeft) := goodIn_app (goodIn_of _ (by decide +kernel)) ggX1_bringUp_X0_isOnTheLeft
set_option maxRecDepth 20000 in
theorem ggX1_bringUp_X0_turn : GoodIn wsX1_bringUp wsX0_turn := goodIn_r _ [17, 8, 18, 13, 19, 10, 11, 6, 12, 20, 21, 22, 23, 24, 25, 26, 27, 28, 29, 30, 31, 32, 33] (by decide +kernel) (by decide +kernel)
set_option maxRecDepth 20000 in
theorem gX1_bringUp_X0_turn : GoodIn wsX1_bringUp (wsV RX1 54 RX0 yX0_turn wsX0_turn) := goodIn_app (goodIn_of _ (by decide +kernel)) ggX1_bringUp_X0_turn
theorem dX1_bringUp_0 : decode cX1_bringUp 0 = .ok (.aload_n 1, 1) := by decide +kernel
theorem dX1_bringUp_1 : decode cX1_bringUp 1 = .ok (.invokevirtual 46, 3) := by decide +kernel
theorem dX1_bringUp_4 : decode cX1_bringUp 4 = .ok (.istore_n 2, 1) := by decide +kernel
theorem dX1_bringUp_5 : decode cX1_bringUp 5 = .ok (.iload_n 2, 1) := by decide +kernel
theorem dX1_bringUp_6 : decode cX1_bringUp 6 = .ok (.istore_n 3, 1) := by decide +kernel
theorem dX1_bringUp_7 : decode cX1_bringUp 7 = .ok (.iload_n 3, 1) := by decide +kernel
theorem dX1_bringUp_8 : decode cX1_bringUp 8 = .ok (.ifCond .le 57, 3) := by decide +kernel
theorem dX1_bringUp_11 : decode cX1_bringUp 11 = .ok (.aload_n 1, 1) := by decide +kernel
theorem dX1_bringUp_12 : decode cX1_bringUp 12 = .ok (.getfield 13, 3) := by decide +kernel
theorem dX1_bringUp_15 : decode cX1_bringUp 15 = .ok (.astore 4, 2) := by decide +kernel
theorem dX1_bringUp_17 : decode cX1_bringUp 17 = .ok (.aload 4, 2) := by decide +kernel
theorem dX1_bringUp_19 : decode cX1_bringUp 19 = .ok (.ifnull 36, 3) := by decide +kernel
theorem dX1_bringUp_22 : decode cX1_bringUp 22 = .ok (.aload 4, 2) := by decide +kernel
theorem dX1_bringUp_24 : decode cX1_bringUp 24 = .ok (.getfield 13, 3) := by decide +kernel
theorem dX1_bringUp_27 : decode cX1_bringUp 27 = .ok (.ifnull 28, 3) := by decide +kernel
theorem dX1_bringUp_30 : decode cX1_bringUp 30 = .ok (.aload_n 1, 1) := by decide +kernel
theorem dX1_bringUp_31 : decode cX1_bringUp 31 = .ok (.invokevirtual 50, 3) := by decide +kernel
theorem dX1_bringUp_34 : decode cX1_bringUp 34 = .ok (.aload 4, 2) := by decide +kernel
theorem dX1_bringUp_36 : decode cX1_bringUp 36 = .ok (.invokevirtual 50, 3) := by decide +kernel
theorem dX1_bringUp_39 : decode cX1_bringUp 39 = .ok (.if_icmp .ne 8, 3) := by decide +kernel
theorem dX1_bringUp_42 : decode cX1_bringUp 42 = .ok (.aload 4, 2) := by decide +kernel
theorem dX1_bringUp_44 : decode cX1_bringUp 44 = .ok (.goto 4, 3) := by decide +kernel
theorem dX1_bringUp_47 : decode cX1_bringUp 47 = .ok (.aload_n 1, 1) := by decide +kernel
theorem dX1_bringUp_48 : decode cX1_bringUp 48 = .ok (.astore 5, 2) := by decide +kernel
theorem dX1_bringUp_50 : decode cX1_bringUp 50 = .ok (.aload 5, 2) := by decide +kernel
theorem dX1_bringUp_52 : decode cX1_bringUp 52 = .ok (.invokevirtual 54, 3) := by decide +kernel
theorem dX1_bringUp_55 : decode cX1_bringUp 55 = .ok (.aload_n 1, 1) := by decide +kernel
theorem dX1_bringUp_56 : decode cX1_bringUp 56 = .ok (.invokevirtual 54, 3) := by decide +kernel
theorem dX1_bringUp_59 : decode cX1_bringUp 59 = .ok (.iinc 3 (-2), 3) := by decide +kernel
theorem dX1_bringUp_62 : decode cX1_bringUp 62 = .ok (.goto (-55), 3) := by decide +kernel
theorem dX1_bringUp_65 : decode cX1_bringUp 65 = .ok (.aload_n 0, 1) := by decide +kernel
theorem dX1_bringUp_66 : decode cX1_bringUp 66 = .ok (.aload_n 1, 1) := by decide +kernel
theorem dX1_bringUp_67 : decode cX1_bringUp 67 = .ok (.putfield 7, 3) := by decide +kernel
theorem dX1_bringUp_70 : decode cX1_bringUp 70 = .ok (.iload_n 2, 1) := by decide +kernel
theorem dX1_bringUp_71 : decode cX1_bringUp 71 = .ok (.ireturn, 1) := by decide +kernel
set_option maxRecDepth 20000 in
theorem ggX1_at_X1_first : GoodIn wsX1_at wsX1_first := goodIn_r _ [5, 6, 7, 8, 9, 10, 11, 12, 20, 21, 22, 23, 24, 25, 26] (by decide +kernel) (by decide +kernel)
set_option maxRecDepth 20000 in
theorem gX1_at_X1_first : GoodIn wsX1_at (wsV RX1 57 RX1 yX1_first wsX1_first) := goodIn_app (goodIn_of _ (by decide +kernel)) ggX1_at_X1_first
set_option maxRecDepth 20000 in
theorem ggX1_at_X0_next : GoodIn wsX1_at wsX0_next := goodIn_r _ [16, 17, 18, 19, 8, 9, 10, 11, 12, 21, 22, 23, 24, 25, 26] (by decide +kernel) (by decide +kernel)
set_option maxRecDepth 20000 in
theorem gX1_at_X0_next : GoodIn wsX1_at (wsV RX1 60 RX0 yX0_next wsX0_next) := goodIn_app (goodIn_of _ (by decide +kernel)) ggX1_at_X0_next
theorem dX1_at_0 : decode cX1_at 0 = .ok (.iconst 0, 1) := by decide +kernel
theorem dX1_at_1 : decode cX1_at 1 = .ok (.istore_n 2, 1) := by decide +kernel
theorem dX1_at_2 : decode cX1_at 2 = .ok (.aload_n 0, 1) := by decide +kernel
theorem dX1_at_3 : decode cX1_at 3 = .ok (.invokevirtual 57, 3) := by decide +kernel
theorem dX1_at_6 : decode cX1_at 6 = .ok (.astore_n 3, 1) := by decide +kernel
theorem dX1_at_7 : decode cX1_at 7 = .ok (.aload_n 3, 1) := by decide +kernel
theorem dX1_at_8 : decode cX1_at 8 = .ok (.ifnull 21, 3) := by decide +kernel
theorem dX1_at_11 : decode cX1_at 11 = .ok (.iload_n 2, 1) := by decide +kernel
theorem dX1_at_12 : decode cX1_at 12 = .ok (.iload_n 1, 1) := by decide +kernel
theorem dX1_at_13 : decode cX1_at 13 = .ok (.if_icmp .ne 5, 3) := by decide +kernel
theorem dX1_at_16 : decode cX1_at 16 = .ok (.aload_n 3, 1) := by decide +kernel
theorem dX1_at_17 : decode cX1_at 17 = .ok (.areturn, 1) := by decide +kernel
theorem dX1_at_18 : decode cX1_at 18 = .ok (.iinc 2 1, 3) := by decide +kernel
theorem dX1_at_21 : decode cX1_at 21 = .ok (.aload_n 3, 1) := by decide +kernel
theorem dX1_at_22 : decode cX1_at 22 = .ok (.invokevirtual 60, 3) := by decide +kernel
theorem dX1_at_25 : decode cX1_at 25 = .ok (.astore_n 3, 1) := by decide +kernel
theorem dX1_at_26 : decode cX1_at 26 = .ok (.goto (-19), 3) := by decide +kernel
theorem dX1_at_29 : decode cX1_at 29 = .ok (.aconst_null, 1) := by decide +kernel
theorem dX1_at_30 : decode cX1_at 30 = .ok (.areturn, 1) := by decide +kernel
set_option maxRecDepth 20000 in
theorem ggX1_count_X0_countUnder : GoodIn wsX1_count wsX0_countUnder := goodIn_r _ [6, 7, 8, 9, 5, 10, 11, 12, 13, 14, 15, 16, 17, 18, 19, 20, 21, 23, 24, 25, 26, 27, 28] (by decide +kernel) (by decide +kernel)
set_option maxRecDepth 20000 in
theorem gX1_count_X0_countUnder : GoodIn wsX1_count (wsV RX1 63 RX0 yX0_countUnder wsX0_countUnder) := goodIn_app (goodIn_of _ (by decide +kernel)) ggX1_count_X0_countUnder
theorem dX1_count_0 : decode cX1_count 0 = .ok (.aload_n 0, 1) := by decide +kernel
theorem dX1_count_1 : decode cX1_count 1 = .ok (.getfield 7, 3) := by decide +kernel
theorem dX1_count_4 : decode cX1_count 4 = .ok (.ifnonnull 7, 3) := by decide +kernel
theorem dX1_count_7 : decode cX1_count 7 = .ok (.iconst 0, 1) := by decide +kernel
theorem dX1_count_8 : decode cX1_count 8 = .ok (.goto 12, 3) := by decide +kernel
theorem dX1_count_11 : decode cX1_count 11 = .ok (.aload_n 0, 1) := by decide +kernel
theorem dX1_count_12 : decode cX1_count 12 = .ok (.getfield 7, 3) := by decide +kernel
theorem dX1_count_15 : decode cX1_count 15 = .ok (.invokevirtual 63, 3) := by decide +kernel
theorem dX1_count_18 : decode cX1_count 18 = .ok (.iconst 1, 1) := by decide +kernel
theorem dX1_count_19 : decode cX1_count 19 = .ok (.iadd, 1) := by decide +kernel
theorem dX1_count_20 : decode cX1_count 20 = .ok (.ireturn, 1) := by decide +kernel
set_option maxRecDepth 20000 in
theorem ggX1_countBelow_X1_first : GoodIn wsX1_countBelow wsX1_first := goodIn_r _ [6, 7, 8, 9, 10, 11, 12, 13, 27, 21, 22, 23, 24, 25, 26] (by decide +kernel) (by decide +kernel)
set_option maxRecDepth 20000 in
theorem gX1_countBelow_X1_first : GoodIn wsX1_countBelow (wsV RX1 57 RX1 yX1_first wsX1_first) := goodIn_app (goodIn_of _ (by decide +kernel)) ggX1_countBelow_X1_first
set_option maxRecDepth 20000 in
theorem ggX1_countBelow_X0_next : GoodIn wsX1_countBelow wsX0_next := goodIn_r _ [17, 18, 19, 20, 9, 10, 11, 12, 13, 21, 22, 23, 24, 25, 26] (by decide +kernel) (by decide +kernel)
set_option maxRecDepth 20000 in
theorem gX1_countBelow_X0_next : GoodIn wsX1_countBelow (wsV RX1 60 RX0 yX0_next wsX0_next) := goodIn_app (goodIn_of _ (by decide +kernel)) ggX1_countBelow_X0_next
theorem dX1_countBelow_0 : decode cX1_countBelow 0 = .ok (.iconst 0, 1) := by decide +kernel
theorem dX1_countBelow_1 : decode cX1_countBelow 1 = .ok (.istore_n 2, 1) := by decide +kernel
theorem dX1_countBelow_2 : decode cX1_countBelow 2 = .ok (.aload_n 0, 1) := by decide +kernel
theorem dX1_countBelow_3 : decode cX1_countBelow 3 = .ok (.invokevirtual 57, 3) := by decide +kernel
theorem dX1_countBelow_6 : decode cX1_countBelow 6 = .ok (.astore_n 3, 1) := by decide +kernel
theorem dX1_countBelow_7 : decode cX1_countBelow 7 = .ok (.aload_n 3, 1) := by decide +kernel
theorem dX1_countBelow_8 : decode cX1_countBelow 8 = .ok (.ifnull 22, 3) := by decide +kernel
theorem dX1_countBelow_11 : decode cX1_countBelow 11 = .ok (.aload_n 3, 1) := by decide +kernel
theorem dX1_countBelow_12 : decode cX1_countBelow 12 = .ok (.getfield 32, 3) := by decide +kernel
theorem dX1_countBelow_15 : decode cX1_countBelow 15 = .ok (.iload_n 1, 1) := by decide +kernel
theorem dX1_countBelow_16 : decode cX1_countBelow 16 = .ok (.if_icmp .ge 14, 3) := by decide +kernel
theorem dX1_countBelow_19 : decode cX1_countBelow 19 = .ok (.iinc 2 1, 3) := by decide +kernel
theorem dX1_countBelow_22 : decode cX1_countBelow 22 = .ok (.aload_n 3, 1) := by decide +kernel
theorem dX1_countBelow_23 : decode cX1_countBelow 23 = .ok (.invokevirtual 60, 3) := by decide +kernel
theorem dX1_countBelow_26 : decode cX1_countBelow 26 = .ok (.astore_n 3, 1) := by decide +kernel
theorem dX1_countBelow_27 : decode cX1_countBelow 27 = .ok (.goto (-20), 3) := by decide +kernel
theorem dX1_countBelow_30 : decode cX1_countBelow 30 = .ok (.iload_n 2, 1) := by decide +kernel
theorem dX1_countBelow_31 : decode cX1_countBelow 31 = .ok (.ireturn, 1) := by decide +kernel
set_option maxRecDepth 20000 in
theorem ggX1_greatestBelow_X1_first : GoodIn wsX1_greatestBelow wsX1_first := goodIn_r _ [6, 7, 8, 9, 10, 11, 12, 13, 27, 21, 22, 23, 24, 25, 26] (by decide +kernel) (by decide +kernel)
set_option maxRecDepth 20000 in
theorem gX1_greatestBelow_X1_first : GoodIn wsX1_greatestBelow (wsV RX1 57 RX1 yX1_first wsX1_first) := goodIn_app (goodIn_of _ (by decide +kernel)) ggX1_greatestBelow_X1_first
set_option maxRecDepth 20000 in
theorem ggX1_greatestBelow_X0_next : GoodIn wsX1_greatestBelow wsX0_next := goodIn_r _ [17, 18, 19, 20, 9, 10, 11, 12, 13, 21, 22, 23, 24, 25, 26] (by decide +kernel) (by decide +kernel)
set_option maxRecDepth 20000 in
theorem gX1_greatestBelow_X0_next : GoodIn wsX1_greatestBelow (wsV RX1 60 RX0 yX0_next wsX0_next) := goodIn_app (goodIn_of _ (by decide +kernel)) ggX1_greatestBelow_X0_next
theorem dX1_greatestBelow_0 : decode cX1_greatestBelow 0 = .ok (.aconst_null, 1) := by decide +kernel
theorem dX1_greatestBelow_1 : decode cX1_greatestBelow 1 = .ok (.astore_n 2, 1) := by decide +kernel
theorem dX1_greatestBelow_2 : decode cX1_greatestBelow 2 = .ok (.aload_n 0, 1) := by decide +kernel
theorem dX1_greatestBelow_3 : decode cX1_greatestBelow 3 = .ok (.invokevirtual 57, 3) := by decide +kernel
theorem dX1_greatestBelow_6 : decode cX1_greatestBelow 6 = .ok (.astore_n 3, 1) := by decide +kernel
theorem dX1_greatestBelow_7 : decode cX1_greatestBelow 7 = .ok (.aload_n 3, 1) := by decide +kernel
theorem dX1_greatestBelow_8 : decode cX1_greatestBelow 8 = .ok (.ifnull 21, 3) := by decide +kernel
theorem dX1_greatestBelow_11 : decode cX1_greatestBelow 11 = .ok (.aload_n 3, 1) := by decide +kernel
theorem dX1_greatestBelow_12 : decode cX1_greatestBelow 12 = .ok (.getfield 32, 3) := by decide +kernel
theorem dX1_greatestBelow_15 : decode cX1_greatestBelow 15 = .ok (.iload_n 1, 1) := by decide +kernel
theorem dX1_greatestBelow_16 : decode cX1_greatestBelow 16 = .ok (.if_icmp .ge 13, 3) := by decide +kernel
theorem dX1_greatestBelow_19 : decode cX1_greatestBelow 19 = .ok (.aload_n 3, 1) := by decide +kernel
theorem dX1_greatestBelow_20 : decode cX1_greatestBelow 20 = .ok (.astore_n 2, 1) := by decide +kernel
theorem dX1_greatestBelow_21 : decode cX1_greatestBelow 21 = .ok (.aload_n 3, 1) := by decide +kernel
theorem dX1_greatestBelow_22 : decode cX1_greatestBelow 22 = .ok (.invokevirtual 60, 3) := by decide +kernel
theorem dX1_greatestBelow_25 : decode cX1_greatestBelow 25 = .ok (.astore_n 3, 1) := by decide +kernel
theorem dX1_greatestBelow_26 : decode cX1_greatestBelow 26 = .ok (.goto (-19), 3) := by decide +kernel
theorem dX1_greatestBelow_29 : decode cX1_greatestBelow 29 = .ok (.aload_n 2, 1) := by decide +kernel
theorem dX1_greatestBelow_30 : decode cX1_greatestBelow 30 = .ok (.areturn, 1) := by decide +kernel
set_option maxRecDepth 20000 in
theorem ggX1_levels_X1_first : GoodIn wsX1_levels wsX1_first := goodIn_r _ [9, 10, 11, 12, 13, 14, 15, 16, 28, 29, 30, 31, 32, 33, 34] (by decide +kernel) (by decide +kernel)
set_option maxRecDepth 20000 in
theorem gX1_levels_X1_first : GoodIn wsX1_levels (wsV RX1 57 RX1 yX1_first wsX1_first) := goodIn_app (goodIn_of _ (by decide +kernel)) ggX1_levels_X1_first
set_option maxRecDepth 20000 in
theorem ggX1_levels_X0_depth : GoodIn wsX1_levels wsX0_depth := goodIn_r _ [20, 21, 29, 30, 31, 32, 33, 34] (by decide +kernel) (by decide +kernel)
set_option maxRecDepth 20000 in
theorem gX1_levels_X0_depth : GoodIn wsX1_levels (wsV RX1 46 RX0 yX0_depth wsX0_depth) := goodIn_app (goodIn_of _ (by decide +kernel)) ggX1_levels_X0_depth
set_option maxRecDepth 20000 in
theorem ggX1_levels_X0_next : GoodIn wsX1_levels wsX0_next := goodIn_r _ [25, 26, 21, 27, 12, 13, 14, 15, 16, 29, 30, 31, 32, 33, 34] (by decide +kernel) (by decide +kernel)
set_option maxRecDepth 20000 in
theorem gX1_levels_X0_next : GoodIn wsX1_levels (wsV RX1 60 RX0 yX0_next wsX0_next) := goodIn_app (goodIn_of _ (by decide +kernel)) ggX1_levels_X0_next
theorem dX1_levels_0 : decode cX1_levels 0 = .ok (.iconst 0, 1) := by decide +kernel
theorem dX1_levels_1 : decode cX1_levels 1 = .ok (.istore_n 1, 1) := by decide +kernel
theorem dX1_levels_2 : decode cX1_levels 2 = .ok (.aload_n 0, 1) := by decide +kernel
theorem dX1_levels_3 : decode cX1_levels 3 = .ok (.invokevirtual 57, 3) := by decide +kernel
theorem dX1_levels_6 : decode cX1_levels 6 = .ok (.astore_n 2, 1) := by decide +kernel
theorem dX1_levels_7 : decode cX1_levels 7 = .ok (.aload_n 2, 1) := by decide +kernel
theorem dX1_levels_8 : decode cX1_levels 8 = .ok (.ifnull 22, 3) := by decide +kernel
theorem dX1_levels_11 : decode cX1_levels 11 = .ok (.iload_n 1, 1) := by decide +kernel
theorem dX1_levels_12 : decode cX1_levels 12 = .ok (.aload_n 2, 1) := by decide +kernel
theorem dX1_levels_13 : decode cX1_levels 13 = .ok (.invokevirtual 46, 3) := by decide +kernel
theorem dX1_levels_16 : decode cX1_levels 16 = .ok (.iconst 1, 1) := by decide +kernel
theorem dX1_levels_17 : decode cX1_levels 17 = .ok (.iadd, 1) := by decide +kernel
theorem dX1_levels_18 : decode cX1_levels 18 = .ok (.invokestatic 66, 3) := by decide +kernel
theorem dX1_levels_21 : decode cX1_levels 21 = .ok (.istore_n 1, 1) := by decide +kernel
theorem dX1_levels_22 : decode cX1_levels 22 = .ok (.aload_n 2, 1) := by decide +kernel
theorem dX1_levels_23 : decode cX1_levels 23 = .ok (.invokevirtual 60, 3) := by decide +kernel
theorem dX1_levels_26 : decode cX1_levels 26 = .ok (.astore_n 2, 1) := by decide +kernel
theorem dX1_levels_27 : decode cX1_levels 27 = .ok (.goto (-20), 3) := by decide +kernel
theorem dX1_levels_30 : decode cX1_levels 30 = .ok (.iload_n 1, 1) := by decide +kernel
theorem dX1_levels_31 : decode cX1_levels 31 = .ok (.ireturn, 1) := by decide +kernel
set_option maxRecDepth 20000 in
theorem ggX1_depthSum_X1_first : GoodIn wsX1_depthSum wsX1_first := goodIn_r _ [5, 6, 7, 8, 9, 10, 11, 12, 24, 25, 26, 27, 28, 29, 30] (by decide +kernel) (by decide +kernel)
set_option maxRecDepth 20000 in
theorem gX1_depthSum_X1_first : GoodIn wsX1_depthSum (wsV RX1 57 RX1 yX1_first wsX1_first) := goodIn_app (goodIn_of _ (by decide +kernel)) ggX1_depthSum_X1_first
set_option maxRecDepth 20000 in
theorem ggX1_depthSum_X0_depth : GoodIn wsX1_depthSum wsX0_depth := goodIn_r _ [16, 17, 25, 26, 27, 28, 29, 30] (by decide +kernel) (by decide +kernel)
set_option maxRecDepth 20000 in
theorem gX1_depthSum_X0_depth : GoodIn wsX1_depthSum (wsV RX1 46 RX0 yX0_depth wsX0_depth) := goodIn_app (goodIn_of _ (by decide +kernel)) ggX1_depthSum_X0_depth
set_option maxRecDepth 20000 in
theorem ggX1_depthSum_X0_next : GoodIn wsX1_depthSum wsX0_next := goodIn_r _ [21, 22, 17, 23, 8, 9, 10, 11, 12, 25, 26, 27, 28, 29, 30] (by decide +kernel) (by decide +kernel)
set_option maxRecDepth 20000 in
theorem gX1_depthSum_X0_next : GoodIn wsX1_depthSum (wsV RX1 60 RX0 yX0_next wsX0_next) := goodIn_app (goodIn_of _ (by decide +kernel)) ggX1_depthSum_X0_next
theorem dX1_depthSum_0 : decode cX1_depthSum 0 = .ok (.iconst 0, 1) := by decide +kernel
theorem dX1_depthSum_1 : decode cX1_depthSum 1 = .ok (.istore_n 1, 1) := by decide +kernel
theorem dX1_depthSum_2 : decode cX1_depthSum 2 = .ok (.aload_n 0, 1) := by decide +kernel
theorem dX1_depthSum_3 : decode cX1_depthSum 3 = .ok (.invokevirtual 57, 3) := by decide +kernel
theorem dX1_depthSum_6 : decode cX1_depthSum 6 = .ok (.astore_n 2, 1) := by decide +kernel
theorem dX1_depthSum_7 : decode cX1_depthSum 7 = .ok (.aload_n 2, 1) := by decide +kernel
theorem dX1_depthSum_8 : decode cX1_depthSum 8 = .ok (.ifnull 18, 3) := by decide +kernel
theorem dX1_depthSum_11 : decode cX1_depthSum 11 = .ok (.iload_n 1, 1) := by decide +kernel
theorem dX1_depthSum_12 : decode cX1_depthSum 12 = .ok (.aload_n 2, 1) := by decide +kernel
theorem dX1_depthSum_13 : decode cX1_depthSum 13 = .ok (.invokevirtual 46, 3) := by decide +kernel
theorem dX1_depthSum_16 : decode cX1_depthSum 16 = .ok (.iadd, 1) := by decide +kernel
theorem dX1_depthSum_17 : decode cX1_depthSum 17 = .ok (.istore_n 1, 1) := by decide +kernel
theorem dX1_depthSum_18 : decode cX1_depthSum 18 = .ok (.aload_n 2, 1) := by decide +kernel
theorem dX1_depthSum_19 : decode cX1_depthSum 19 = .ok (.invokevirtual 60, 3) := by decide +kernel
theorem dX1_depthSum_22 : decode cX1_depthSum 22 = .ok (.astore_n 2, 1) := by decide +kernel
theorem dX1_depthSum_23 : decode cX1_depthSum 23 = .ok (.goto (-16), 3) := by decide +kernel
theorem dX1_depthSum_26 : decode cX1_depthSum 26 = .ok (.iload_n 1, 1) := by decide +kernel
theorem dX1_depthSum_27 : decode cX1_depthSum 27 = .ok (.ireturn, 1) := by decide +kernel
set_option maxRecDepth 20000 in
theorem ggX1_leafCount_X1_first : GoodIn wsX1_leafCount wsX1_first := goodIn_r _ [7, 8, 9, 10, 11, 12, 13, 14, 28, 22, 23, 24, 25, 26, 27] (by decide +kernel) (by decide +kernel)
set_option maxRecDepth 20000 in
theorem gX1_leafCount_X1_first : GoodIn wsX1_leafCount (wsV RX1 57 RX1 yX1_first wsX1_first) := goodIn_app (goodIn_of _ (by decide +kernel)) ggX1_leafCount_X1_first
set_option maxRecDepth 20000 in
theorem ggX1_leafCount_X0_next : GoodIn wsX1_leafCount wsX0_next := goodIn_r _ [18, 19, 20, 21, 10, 11, 12, 13, 14, 22, 23, 24, 25, 26, 27] (by decide +kernel) (by decide +kernel)
set_option maxRecDepth 20000 in
theorem gX1_leafCount_X0_next : GoodIn wsX1_leafCount (wsV RX1 60 RX0 yX0_next wsX0_next) := goodIn_app (goodIn_of _ (by decide +kernel)) ggX1_leafCount_X0_next
theorem dX1_leafCount_0 : decode cX1_leafCount 0 = .ok (.iconst 0, 1) := by decide +kernel
theorem dX1_leafCount_1 : decode cX1_leafCount 1 = .ok (.istore_n 1, 1) := by decide +kernel
theorem dX1_leafCount_2 : decode cX1_leafCount 2 = .ok (.aload_n 0, 1) := by decide +kernel
theorem dX1_leafCount_3 : decode cX1_leafCount 3 = .ok (.invokevirtual 57, 3) := by decide +kernel
theorem dX1_leafCount_6 : decode cX1_leafCount 6 = .ok (.astore_n 2, 1) := by decide +kernel
theorem dX1_leafCount_7 : decode cX1_leafCount 7 = .ok (.aload_n 2, 1) := by decide +kernel
theorem dX1_leafCount_8 : decode cX1_leafCount 8 = .ok (.ifnull 28, 3) := by decide +kernel
theorem dX1_leafCount_11 : decode cX1_leafCount 11 = .ok (.aload_n 2, 1) := by decide +kernel
theorem dX1_leafCount_12 : decode cX1_leafCount 12 = .ok (.getfield 72, 3) := by decide +kernel
theorem dX1_leafCount_15 : decode cX1_leafCount 15 = .ok (.ifnonnull 13, 3) := by decide +kernel
theorem dX1_leafCount_18 : decode cX1_leafCount 18 = .ok (.aload_n 2, 1) := by decide +kernel
theorem dX1_leafCount_19 : decode cX1_leafCount 19 = .ok (.getfield 75, 3) := by decide +kernel
theorem dX1_leafCount_22 : decode cX1_leafCount 22 = .ok (.ifnonnull 6, 3) := by decide +kernel
theorem dX1_leafCount_25 : decode cX1_leafCount 25 = .ok (.iinc 1 1, 3) := by decide +kernel
theorem dX1_leafCount_28 : decode cX1_leafCount 28 = .ok (.aload_n 2, 1) := by decide +kernel
theorem dX1_leafCount_29 : decode cX1_leafCount 29 = .ok (.invokevirtual 60, 3) := by decide +kernel
theorem dX1_leafCount_32 : decode cX1_leafCount 32 = .ok (.astore_n 2, 1) := by decide +kernel
theorem dX1_leafCount_33 : decode cX1_leafCount 33 = .ok (.goto (-26), 3) := by decide +kernel
theorem dX1_leafCount_36 : decode cX1_leafCount 36 = .ok (.iload_n 1, 1) := by decide +kernel
theorem dX1_leafCount_37 : decode cX1_leafCount 37 = .ok (.ireturn, 1) := by decide +kernel
set_option maxRecDepth 20000 in
theorem ggX1_mostBitten_X1_first : GoodIn wsX1_mostBitten wsX1_first := goodIn_r _ [6, 7, 8, 9, 10, 11, 12, 13, 27, 21, 22, 23, 24, 25, 26] (by decide +kernel) (by decide +kernel)
set_option maxRecDepth 20000 in
theorem gX1_mostBitten_X1_first : GoodIn wsX1_mostBitten (wsV RX1 57 RX1 yX1_first wsX1_first) := goodIn_app (goodIn_of _ (by decide +kernel)) ggX1_mostBitten_X1_first
set_option maxRecDepth 20000 in
theorem ggX1_mostBitten_X0_next : GoodIn wsX1_mostBitten wsX0_next := goodIn_r _ [17, 18, 19, 20, 9, 10, 11, 12, 13, 21, 22, 23, 24, 25, 26] (by decide +kernel) (by decide +kernel)
set_option maxRecDepth 20000 in
theorem gX1_mostBitten_X0_next : GoodIn wsX1_mostBitten (wsV RX1 60 RX0 yX0_next wsX0_next) := goodIn_app (goodIn_of _ (by decide +kernel)) ggX1_mostBitten_X0_next
theorem dX1_mostBitten_0 : decode cX1_mostBitten 0 = .ok (.aconst_null, 1) := by decide +kernel
theorem dX1_mostBitten_1 : decode cX1_mostBitten 1 = .ok (.astore_n 1, 1) := by decide +kernel
theorem dX1_mostBitten_2 : decode cX1_mostBitten 2 = .ok (.aload_n 0, 1) := by decide +kernel
theorem dX1_mostBitten_3 : decode cX1_mostBitten 3 = .ok (.invokevirtual 57, 3) := by decide +kernel
theorem dX1_mostBitten_6 : decode cX1_mostBitten 6 = .ok (.astore_n 2, 1) := by decide +kernel
theorem dX1_mostBitten_7 : decode cX1_mostBitten 7 = .ok (.aload_n 2, 1) := by decide +kernel
theorem dX1_mostBitten_8 : decode cX1_mostBitten 8 = .ok (.ifnull 28, 3) := by decide +kernel
theorem dX1_mostBitten_11 : decode cX1_mostBitten 11 = .ok (.aload_n 1, 1) := by decide +kernel
theorem dX1_mostBitten_12 : decode cX1_mostBitten 12 = .ok (.ifnull 14, 3) := by decide +kernel
theorem dX1_mostBitten_15 : decode cX1_mostBitten 15 = .ok (.aload_n 2, 1) := by decide +kernel
theorem dX1_mostBitten_16 : decode cX1_mostBitten 16 = .ok (.getfield 78, 3) := by decide +kernel
theorem dX1_mostBitten_19 : decode cX1_mostBitten 19 = .ok (.aload_n 1, 1) := by decide +kernel
theorem dX1_mostBitten_20 : decode cX1_mostBitten 20 = .ok (.getfield 78, 3) := by decide +kernel
theorem dX1_mostBitten_23 : decode cX1_mostBitten 23 = .ok (.if_icmp .le 5, 3) := by decide +kernel
theorem dX1_mostBitten_26 : decode cX1_mostBitten 26 = .ok (.aload_n 2, 1) := by decide +kernel
theorem dX1_mostBitten_27 : decode cX1_mostBitten 27 = .ok (.astore_n 1, 1) := by decide +kernel
theorem dX1_mostBitten_28 : decode cX1_mostBitten 28 = .ok (.aload_n 2, 1) := by decide +kernel
theorem dX1_mostBitten_29 : decode cX1_mostBitten 29 = .ok (.invokevirtual 60, 3) := by decide +kernel
theorem dX1_mostBitten_32 : decode cX1_mostBitten 32 = .ok (.astore_n 2, 1) := by decide +kernel
theorem dX1_mostBitten_33 : decode cX1_mostBitten 33 = .ok (.goto (-26), 3) := by decide +kernel
theorem dX1_mostBitten_36 : decode cX1_mostBitten 36 = .ok (.aload_n 1, 1) := by decide +kernel
theorem dX1_mostBitten_37 : decode cX1_mostBitten 37 = .ok (.areturn, 1) := by decide +kernel
set_option maxRecDepth 20000 in
theorem ggX1_meeting_X0_towards : GoodIn wsX1_meeting wsX0_towards := goodIn_r _ [14, 15, 16, 17, 18, 19, 20, 21, 22, 23] (by decide +kernel) (by decide +kernel)
set_option maxRecDepth 20000 in
theorem gX1_meeting_X0_towards : GoodIn wsX1_meeting (wsV RX1 25 RX0 yX0_towards wsX0_towards) := goodIn_app (goodIn_of _ (by decide +kernel)) ggX1_meeting_X0_towards
theorem dX1_meeting_0 : decode cX1_meeting 0 = .ok (.aload_n 1, 1) := by decide +kernel
theorem dX1_meeting_1 : decode cX1_meeting 1 = .ok (.getfield 32, 3) := by decide +kernel
theorem dX1_meeting_4 : decode cX1_meeting 4 = .ok (.aload_n 2, 1) := by decide +kernel
theorem dX1_meeting_5 : decode cX1_meeting 5 = .ok (.getfield 32, 3) := by decide +kernel
theorem dX1_meeting_8 : decode cX1_meeting 8 = .ok (.invokestatic 81, 3) := by decide +kernel
theorem dX1_meeting_11 : decode cX1_meeting 11 = .ok (.istore_n 3, 1) := by decide +kernel
theorem dX1_meeting_12 : decode cX1_meeting 12 = .ok (.aload_n 1, 1) := by decide +kernel
theorem dX1_meeting_13 : decode cX1_meeting 13 = .ok (.getfield 32, 3) := by decide +kernel
theorem dX1_meeting_16 : decode cX1_meeting 16 = .ok (.aload_n 2, 1) := by decide +kernel
theorem dX1_meeting_17 : decode cX1_meeting 17 = .ok (.getfield 32, 3) := by decide +kernel
theorem dX1_meeting_20 : decode cX1_meeting 20 = .ok (.invokestatic 66, 3) := by decide +kernel
theorem dX1_meeting_23 : decode cX1_meeting 23 = .ok (.istore 4, 2) := by decide +kernel
theorem dX1_meeting_25 : decode cX1_meeting 25 = .ok (.aload_n 0, 1) := by decide +kernel
theorem dX1_meeting_26 : decode cX1_meeting 26 = .ok (.getfield 7, 3) := by decide +kernel
theorem dX1_meeting_29 : decode cX1_meeting 29 = .ok (.astore 5, 2) := by decide +kernel
theorem dX1_meeting_31 : decode cX1_meeting 31 = .ok (.aload 5, 2) := by decide +kernel
theorem dX1_meeting_33 : decode cX1_meeting 33 = .ok (.ifnull 36, 3) := by decide +kernel
theorem dX1_meeting_36 : decode cX1_meeting 36 = .ok (.aload 5, 2) := by decide +kernel
theorem dX1_meeting_38 : decode cX1_meeting 38 = .ok (.getfield 32, 3) := by decide +kernel
theorem dX1_meeting_41 : decode cX1_meeting 41 = .ok (.iload_n 3, 1) := by decide +kernel
theorem dX1_meeting_42 : decode cX1_meeting 42 = .ok (.if_icmp .lt 16, 3) := by decide +kernel
theorem dX1_meeting_45 : decode cX1_meeting 45 = .ok (.aload 5, 2) := by decide +kernel
theorem dX1_meeting_47 : decode cX1_meeting 47 = .ok (.getfield 32, 3) := by decide +kernel
theorem dX1_meeting_50 : decode cX1_meeting 50 = .ok (.iload 4, 2) := by decide +kernel
theorem dX1_meeting_52 : decode cX1_meeting 52 = .ok (.if_icmp .gt 6, 3) := by decide +kernel
theorem dX1_meeting_55 : decode cX1_meeting 55 = .ok (.aload 5, 2) := by decide +kernel
theorem dX1_meeting_57 : decode cX1_meeting 57 = .ok (.areturn, 1) := by decide +kernel
theorem dX1_meeting_58 : decode cX1_meeting 58 = .ok (.aload 5, 2) := by decide +kernel
theorem dX1_meeting_60 : decode cX1_meeting 60 = .ok (.iload_n 3, 1) := by decide +kernel
theorem dX1_meeting_61 : decode cX1_meeting 61 = .ok (.invokevirtual 25, 3) := by decide +kernel
theorem dX1_meeting_64 : decode cX1_meeting 64 = .ok (.astore 5, 2) := by decide +kernel
theorem dX1_meeting_66 : decode cX1_meeting 66 = .ok (.goto (-35), 3) := by decide +kernel
theorem dX1_meeting_69 : decode cX1_meeting 69 = .ok (.aconst_null, 1) := by decide +kernel
theorem dX1_meeting_70 : decode cX1_meeting 70 = .ok (.areturn, 1) := by decide +kernel
set_option maxRecDepth 20000 in
theorem ggX1_standInFor_X1_first : GoodIn wsX1_standInFor wsX1_first := goodIn_r _ [6, 1, 7, 8, 9, 10, 11, 12, 29, 30, 31, 32, 33, 34, 35] (by decide +kernel) (by decide +kernel)
set_option maxRecDepth 20000 in
theorem gX1_standInFor_X1_first : GoodIn wsX1_standInFor (wsV RX1 57 RX1 yX1_first wsX1_first) := goodIn_app (goodIn_of _ (by decide +kernel)) ggX1_standInFor_X1_first
set_option maxRecDepth 20000 in
theorem ggX1_standInFor_X0_linkStandIn : GoodIn wsX1_standInFor wsX0_linkStandIn := goodIn_r _ [16, 17, 18, 12, 19, 20, 21, 10, 22, 30, 31, 32, 33, 34, 35] (by decide +kernel) (by decide +kernel)
set_option maxRecDepth 20000 in
theorem gX1_standInFor_X0_linkStandIn : GoodIn wsX1_standInFor (wsV RX1 84 RX0 yX0_linkStandIn wsX0_linkStandIn) := goodIn_app (goodIn_of _ (by decide +kernel)) ggX1_standInFor_X0_linkStandIn
set_option maxRecDepth 20000 in
theorem ggX1_standInFor_X0_next : GoodIn wsX1_standInFor wsX0_next := goodIn_r _ [26, 19, 18, 27, 8, 9, 10, 11, 12, 30, 31, 32, 33, 34, 35] (by decide +kernel) (by decide +kernel)
set_option maxRecDepth 20000 in
theorem gX1_standInFor_X0_next : GoodIn wsX1_standInFor (wsV RX1 60 RX0 yX0_next wsX0_next) := goodIn_app (goodIn_of _ (by decide +kernel)) ggX1_standInFor_X0_next
set_option maxRecDepth 20000 in
theorem ggX1_standInFor_X0_standInOf : GoodIn wsX1_standInFor wsX0_standInOf := goodIn_r _ [22, 17, 30, 31, 32, 33, 34, 35] (by decide +kernel) (by decide +kernel)
set_option maxRecDepth 20000 in
theorem gX1_standInFor_X0_standInOf : GoodIn wsX1_standInFor (va_wsS RX1 87 yX0_standInOf wsX0_standInOf) := goodIn_app (goodIn_of _ (by decide +kernel)) ggX1_standInFor_X0_standInOf
theorem dX1_standInFor_0 : decode cX1_standInFor 0 = .ok (.aload_n 1, 1) := by decide +kernel
theorem dX1_standInFor_1 : decode cX1_standInFor 1 = .ok (.invokevirtual 57, 3) := by decide +kernel
theorem dX1_standInFor_4 : decode cX1_standInFor 4 = .ok (.astore_n 2, 1) := by decide +kernel
theorem dX1_standInFor_5 : decode cX1_standInFor 5 = .ok (.aload_n 2, 1) := by decide +kernel
theorem dX1_standInFor_6 : decode cX1_standInFor 6 = .ok (.ifnull 15, 3) := by decide +kernel
theorem dX1_standInFor_9 : decode cX1_standInFor 9 = .ok (.aload_n 2, 1) := by decide +kernel
theorem dX1_standInFor_10 : decode cX1_standInFor 10 = .ok (.invokevirtual 84, 3) := by decide +kernel
theorem dX1_standInFor_13 : decode cX1_standInFor 13 = .ok (.aload_n 2, 1) := by decide +kernel
theorem dX1_standInFor_14 : decode cX1_standInFor 14 = .ok (.invokevirtual 60, 3) := by decide +kernel
theorem dX1_standInFor_17 : decode cX1_standInFor 17 = .ok (.astore_n 2, 1) := by decide +kernel
theorem dX1_standInFor_18 : decode cX1_standInFor 18 = .ok (.goto (-13), 3) := by decide +kernel
theorem dX1_standInFor_21 : decode cX1_standInFor 21 = .ok (.aload_n 0, 1) := by decide +kernel
theorem dX1_standInFor_22 : decode cX1_standInFor 22 = .ok (.aload_n 1, 1) := by decide +kernel
theorem dX1_standInFor_23 : decode cX1_standInFor 23 = .ok (.getfield 7, 3) := by decide +kernel
theorem dX1_standInFor_26 : decode cX1_standInFor 26 = .ok (.invokestatic 87, 3) := by decide +kernel
theorem dX1_standInFor_29 : decode cX1_standInFor 29 = .ok (.putfield 7, 3) := by decide +kernel
theorem dX1_standInFor_32 : decode cX1_standInFor 32 = .ok (.return_, 1) := by decide +kernel
end
section
/-! THE WORLD: every cell of the class, of the reference and of the law's two rows of answers, by functions of its address; rows that read and write it; contracts over it -/
abbrev vwCl : List vw_C := [(RX0, TX0, 6), (RX1, TX1, 1), (RX2, TX2, 3), (RX3, TX3, 6)]
/-- what never changes: the numbers of four kinds of rows; where the orchard's rows, the trial, now and kept are; the six trees -/
abbrev GT : Type := Nat × Nat × Nat × Nat × Nat × Nat × Nat × Nat × (Nat → Nat)
def gI (Γ : GT) : Nat := Γ.1
def gT (Γ : GT) : Nat := Γ.2.1
def gJ (Γ : GT) : Nat := Γ.2.2.1
def gD (Γ : GT) : Nat := Γ.2.2.2.1
def gra (Γ : GT) : Nat := Γ.2.2.2.2.1
def gtt (Γ : GT) : Nat := Γ.2.2.2.2.2.1
def gna (Γ : GT) : Nat := Γ.2.2.2.2.2.2.1
def gka (Γ : GT) : Nat := Γ.2.2.2.2.2.2.2.1
def gta (Γ : GT) : Nat → Nat := Γ.2.2.2.2.2.2.2.2
/-- addresses, kinds, sizes, stand-ins, pointers, bites, turnings -/
abbrev CW : Type := List Nat × (Nat → Nat) × (Nat → Nat) × (Nat → Option Nat) × PF × (Nat → Nat) × Nat
/-- thrown, many, turned, keptTurned, pointers, sizes, bites, kept -/
abbrev MW : Type := Nat × Nat × Nat × Nat × PF × (Nat → Option Nat) × (Nat → Nat) × (Nat → Int32)
abbrev WS : Type := CW × MW × Int64 × UInt64
abbrev TY (Γ : GT) : List (ClassId × FieldType) := [(gI Γ, .int), (gT Γ, .object RX1), (gJ Γ, .long), (gD Γ, .double)]
def er (r : Option Nat) : Int32 := match r with
  | none => -1
  | some k => nI k
def encN (Q : PF) (zs : Nat → Option Nat) (be : Nat → Nat) : Nat → Int32 := fun i => if i < 40 then er (zs i) else if i < 80 then er (Q 0 (i - 40)) else if i < 120 then er (Q 1 (i - 80)) else if i < 160 then er (Q 2 (i - 120)) else if i < 200 then nI (be (i - 160)) else er (Q 3 (i - 200))
def ef (Γ : GT) (Z : WS) (a : Nat) : va_E :=
  if Z.1.2.1 a = 0 then .inr (0, [.int (nI (Z.1.2.2.1 a)), va_rf (Z.1.2.2.2.1 a), va_rf (Z.1.2.2.2.2.1 2 a), va_rf (Z.1.2.2.2.2.1 0 a), va_rf (Z.1.2.2.2.2.1 1 a), .int (nI (Z.1.2.2.2.2.2.1 a))])
  else if Z.1.2.1 a = 1 then .inr (1, [va_rf (Z.1.2.2.2.2.1 3 a)])
  else if Z.1.2.1 a = 2 then .inr (2, [.ref (gra Γ), .ref (gtt Γ), .int (nI Z.1.2.2.2.2.2.2)])
  else if Z.1.2.1 a = 3 then .inr (3, [.int (nI Z.2.1.1), .int (nI Z.2.1.2.1), .int (nI Z.2.1.2.2.1), .ref (gna Γ), .ref (gka Γ), .int (nI Z.2.1.2.2.2.1)])
  else if Z.1.2.1 a = 4 then .inl (gI Γ, 206, .inl (encN Z.2.1.2.2.2.2.1 Z.2.1.2.2.2.2.2.1 Z.2.1.2.2.2.2.2.2.1))
  else if Z.1.2.1 a = 5 then .inl (gI Γ, 206, .inl Z.2.1.2.2.2.2.2.2.2)
  else if Z.1.2.1 a = 6 then .inl (gT Γ, 6, .inr (.inr (.inr (.inr (fun i => some (gta Γ i))))))
  else if Z.1.2.1 a = 7 then .inl (gJ Γ, 1, .inr (.inl (fun _ => Z.2.2.1)))
  else .inl (gD Γ, 1, .inr (.inr (.inr (.inl (fun _ => Z.2.2.2)))))
/-- an apple of the world -/
def okA (L : List Nat) (K : Nat → Nat) (a : Nat) : Prop := a ∈ L ∧ K a = 0
/-- pointers lead to apples alone -/
def okP (L : List Nat) (K : Nat → Nat) (si : Nat → Option Nat) (P : PF) : Prop :=
  (∀ a, okA L K a → ∀ j, j < 3 → ∀ b, P j a = some b → okA L K b) ∧ (∀ a, okA L K a → ∀ b, si a = some b → okA L K b) ∧ ∀ t, t ∈ L → K t = 1 → ∀ b, P 3 t = some b → okA L K b
def Hp (D : va_G) (lo : Nat) (Γ : GT) (Z : WS) (H : Heap) : Prop :=
  va_P D vwCl (va_pl Z.1.1 (ef Γ Z)) H ∧ va_D (fun q : Nat => lo ≤ q) (va_pl Z.1.1 (ef Γ Z)) ∧ lo ≤ H.size ∧ okP Z.1.1 Z.1.2.1 Z.1.2.2.2.1 Z.1.2.2.2.2.1
theorem va_plg {L : List Nat} {f : Nat → va_E} {a : Nat} {e : va_E} (h : a ∈ L) (he : f a = e) : ∃ k : Nat, (va_pl L f)[k]? = some (a, e) := by
  obtain ⟨k, hk⟩ := va_pl_get (X := []) (f := f) h
  rw [he] at hk
  exact ⟨k, hk⟩
theorem va_pls {A : Nat → Prop} {L : List Nat} {f g : Nat → va_E} {a k : Nat} {e : va_E} (hD : va_D A (va_pl L f)) (h : a ∈ L) (hk : (va_pl L f)[k]? = some (a, f a)) (hg : ∀ b, va_up f a e b = g b) : (va_pl L f).set k (a, e) = va_pl L g := by
  have h1 := va_pl_set (X := []) (e := e) hD h hk
  rw [List.nil_append, List.nil_append] at h1
  rw [h1]
  exact va_pl_congr hg
theorem Hp_lo {D : va_G} {lo : Nat} {L : List Nat} {f : Nat → va_E} {H : Heap} {a : Nat} (h : va_P D vwCl (va_pl L f) H) (hD : va_D (fun q : Nat => lo ≤ q) (va_pl L f)) (ha : a ∈ L) : lo ≤ H.size := by
  obtain ⟨k, hk⟩ := va_plg (f := f) ha rfl
  exact Nat.le_trans (hD.2 k _ hk) (Nat.le_of_lt (h k _ hk).lt)
theorem sP_ok {L : List Nat} {K : Nat → Nat} {si : Nat → Option Nat} {P : PF} {j a : Nat} {r : Option Nat} (h : okP L K si P) (hr : ∀ b, r = some b → okA L K b) : okP L K si (sP P j a r) := by
  refine ⟨fun x hx i hi b hb => ?_, h.2.1, fun t ht hk b hb => ?_⟩
  · unfold sP at hb
    split at hb
    · exact hr b hb
    · exact h.1 x hx i hi b hb
  · unfold sP at hb
    split at hb
    · exact hr b hb
    · exact h.2.2 t ht hk b hb
/-- room by levels -/
abbrev rmL (n mc ms : Nat) : Room := { frames := n, cells := mc, slots := ms, locals := 40 * n }
abbrev lA (lo : Nat) : Nat → Prop := fun q => lo ≤ q
/-- what a method leaves: its answer and the world behind it -/
def Qz (D : va_G) (lo : Nat) (Γ : GT) (post : Option Value → WS → Prop) : Array Value → State → Outcome → State → Prop := fun _ st oc t => (∃ (v : Option Value) (Z1 : WS), oc = .returned v ∧ post v Z1 ∧ Hp D lo Γ Z1 t.heap) ∧ va_F (lA lo) st t
def Pz (D : va_G) (lo : Nat) (Γ : GT) (av : List Value) (Z : WS) : Array Value → State → Prop := va_Pc av (fun U => Hp D lo Γ Z U.heap ∧ va_K D vwCl (TY Γ) U)
/-- a contract over the world -/
def Mz (l : Launch) (y : MethodName) (ws : List Cond) (rm : Room) (D : va_G) (lo : Nat) (Γ : GT) (av : List Value) (Z : WS) (post : Option Value → WS → Prop) : Prop :=
  Met l y ws rm (Pz D lo Γ av Z) (Qz D lo Γ post) rm.cells rm.slots (lA lo)
/-- .. with one answer and one world behind it -/
abbrev Md (l : Launch) (y : MethodName) (ws : List Cond) (rm : Room) (D : va_G) (lo : Nat) (Γ : GT) (av : List Value) (Z : WS) (r : Option Value) (Z1 : WS) : Prop := Mz l y ws rm D lo Γ av Z (fun v Z' => v = r ∧ Z' = Z1)
theorem Pz_blind {D : va_G} {lo : Nat} {Γ : GT} {av : List Value} {Z : WS} : FrameBlind (Pz D lo Γ av Z) := fun a U g mk q => ⟨q.1, q.2.1, va_K.moved (u := U) (U := U.calling g mk a) (Vm.Alike.refl U.vm) q.2.2⟩
section WRows
variable {p : Program} {l : Launch} {e : Env} {R : Room} {s : State} {m : MethodId} {args : Array Value} {below : List Frame} {meth : Method} {c : Code} {H H0 : Heap} {locs : List Loc} {cells slots : Nat} {Q : State → Prop}
variable {cc : ByteArray} {pc nL : Nat} {ls : Array Slot} {rest : List Value} {D : va_G} {lo : Nat} {Γ : GT} {Ts : List Cond} {own : String} {a index : Nat}
variable {L : List Nat} {K : Nat → Nat} {sz : Nat → Nat} {si : Nat → Option Nat} {P : PF} {bi : Nat → Nat} {tu : Nat} {M : MW} {V : Int64 × UInt64} {Z : WS}
/-- reading a field of an apple -/
theorem gA (S : CallFix p m c cc nL s args Ts own) (hi : ∀ w ∈ wsX00, w ∈ Ts) (hK : va_K D vwCl (TY Γ) s) (hH : Hp D lo Γ ((L, K, sz, si, P, bi, tu), M, V) H) (ha : okA L K a) (k : Nat) (hk : k < 6) (hlink : (Cond.fieldLink own index (TX0 k).1 (TX0 k).2.1 (TX0 k).2.2.1).before args s = true) {v : Value} (hv : [.int (nI (sz a)), va_rf (si a), va_rf (P 2 a), va_rf (P 0 a), va_rf (P 1 a), .int (nI (bi a))][k]? = some v) (hdg : decode cc pc = .ok (.getfield index, 3))
    (kk : W p l e R s m args below meth c H locs cells slots Q (F0 m (pc + 3) ls (v :: rest))) : W p l e R s m args below meth c H locs cells slots Q (F0 m pc ls (.ref a :: rest)) := by
  obtain ⟨hx, hb, hml, hown, hts⟩ := S
  obtain ⟨q, hq⟩ := va_plg (f := ef Γ ((L, K, sz, si, P, bi, tu), M, V)) ha.1 (by unfold ef; rw [if_pos ha.2])
  exact va_get hx hb hts hi hown hK hH.1 q hq (ci := 0) rfl k hk hlink (fun _ h => h) hv hdg kk
/-- reading a tree's top -/
theorem gTp (S : CallFix p m c cc nL s args Ts own) (hi : ∀ w ∈ wsX10, w ∈ Ts) (hK : va_K D vwCl (TY Γ) s) (hH : Hp D lo Γ ((L, K, sz, si, P, bi, tu), M, V) H) (ha : a ∈ L) (hk : K a = 1) (hlink : (Cond.fieldLink own index (TX1 0).1 (TX1 0).2.1 (TX1 0).2.2.1).before args s = true) {v : Value} (hv : va_rf (P 3 a) = v) (hdg : decode cc pc = .ok (.getfield index, 3))
    (kk : W p l e R s m args below meth c H locs cells slots Q (F0 m (pc + 3) ls (v :: rest))) : W p l e R s m args below meth c H locs cells slots Q (F0 m pc ls (.ref a :: rest)) := by
  obtain ⟨hx, hb, hml, hown, hts⟩ := S
  obtain ⟨q, hq⟩ := va_plg (f := ef Γ ((L, K, sz, si, P, bi, tu), M, V)) ha (by unfold ef; rw [if_neg (by dsimp only; omega), if_pos hk])
  exact va_get hx hb hts hi hown hK hH.1 q hq (ci := 1) rfl 0 (by decide) hlink (fun _ h => h) (by rw [← hv]; rfl) hdg kk
/-- reading a field of the orchard -/
theorem gO (S : CallFix p m c cc nL s args Ts own) (hi : ∀ w ∈ wsX20, w ∈ Ts) (hK : va_K D vwCl (TY Γ) s) (hH : Hp D lo Γ ((L, K, sz, si, P, bi, tu), M, V) H) (ha : a ∈ L) (hk : K a = 2) (k : Nat) (hk3 : k < 3) (hlink : (Cond.fieldLink own index (TX2 k).1 (TX2 k).2.1 (TX2 k).2.2.1).before args s = true) {v : Value} (hv : [.ref (gra Γ), .ref (gtt Γ), .int (nI tu)][k]? = some v) (hdg : decode cc pc = .ok (.getfield index, 3))
    (kk : W p l e R s m args below meth c H locs cells slots Q (F0 m (pc + 3) ls (v :: rest))) : W p l e R s m args below meth c H locs cells slots Q (F0 m pc ls (.ref a :: rest)) := by
  obtain ⟨hx, hb, hml, hown, hts⟩ := S
  obtain ⟨q, hq⟩ := va_plg (f := ef Γ ((L, K, sz, si, P, bi, tu), M, V)) ha (by unfold ef; rw [if_neg (by dsimp only; omega), if_neg (by dsimp only; omega), if_pos hk])
  exact va_get hx hb hts hi hown hK hH.1 q hq (ci := 2) rfl k hk3 hlink (fun _ h => h) hv hdg kk
theorem ef_upP {j b : Nat} {r : Option Nat} {e : va_E} (hk : K a = 0) (he : e = .inr (0, [.int (nI (sz a)), va_rf (si a), va_rf (sP P j a r 2 a), va_rf (sP P j a r 0 a), va_rf (sP P j a r 1 a), .int (nI (bi a))])) : va_up (ef Γ ((L, K, sz, si, P, bi, tu), M, V)) a e b = ef Γ ((L, K, sz, si, sP P j a r, bi, tu), M, V) b := by
  by_cases hb : b = a
  · subst hb
    rw [va_up_self, he]
    unfold ef
    rw [if_pos hk]
  · rw [va_up_ne _ _ hb]
    unfold ef
    dsimp only
    rw [sP_na hb, sP_na hb, sP_na hb, sP_na hb]
/-- setting a pointer of an apple: j its number among the pointers, k its place among the fields -/
theorem pA (S : CallFix p m c cc nL s args Ts own) (hi : ∀ w ∈ wsX00, w ∈ Ts) (hK : va_K D vwCl (TY Γ) s) (hH : Hp D lo Γ ((L, K, sz, si, P, bi, tu), M, V) H) (hS : va_S (lA lo) H0 H locs) (ha : okA L K a) (j : Nat) (r : Option Nat) (hr : ∀ b, r = some b → okA L K b) (k : Nat) (hk : k < 6) (hjk : (j = 2 ∧ k = 2) ∨ (j = 0 ∧ k = 3) ∨ (j = 1 ∧ k = 4)) (hlink : (Cond.fieldLink own index (TX0 k).1 (TX0 k).2.1 (TX0 k).2.2.1).before args s = true) {v : Value} (hv : v = va_rf r) (hdg : decode cc pc = .ok (.putfield index, 3))
    (kk : ∀ (H1 : Heap) (locs1 : List Loc), Hp D lo Γ ((L, K, sz, si, sP P j a r, bi, tu), M, V) H1 → va_S (lA lo) H0 H1 locs1 → W p l e R s m args below meth c H1 locs1 cells slots Q (F0 m (pc + 3) ls rest)) : W p l e R s m args below meth c H locs cells slots Q (F0 m pc ls (v :: .ref a :: rest)) := by
  obtain ⟨hx, hb, hml, hown, hts⟩ := S
  have he0 : ef Γ ((L, K, sz, si, P, bi, tu), M, V) a = .inr (0, [.int (nI (sz a)), va_rf (si a), va_rf (P 2 a), va_rf (P 0 a), va_rf (P 1 a), .int (nI (bi a))]) := by unfold ef; rw [if_pos ha.2]
  obtain ⟨q, hq⟩ := va_plg (f := ef Γ ((L, K, sz, si, P, bi, tu), M, V)) ha.1 rfl
  have hn : narrow (.object "SplayOrchard$Apple") v = v := by subst hv; cases r <;> rfl
  have hf : fits (.object "SplayOrchard$Apple") v = true := by subst hv; cases r <;> rfl
  have fin : ∀ (H1 : Heap) (locs1 : List Loc) (e1 : va_E), va_P D vwCl ((va_pl L (ef Γ ((L, K, sz, si, P, bi, tu), M, V))).set q (a, e1)) H1 → va_S (lA lo) H0 H1 locs1 → e1 = .inr (0, [.int (nI (sz a)), va_rf (si a), va_rf (sP P j a r 2 a), va_rf (sP P j a r 0 a), va_rf (sP P j a r 1 a), .int (nI (bi a))]) → W p l e R s m args below meth c H1 locs1 cells slots Q (F0 m (pc + 3) ls rest) := by
    intro H1 locs1 e1 h1 h2 h3
    have h4 := va_pls (g := ef Γ ((L, K, sz, si, sP P j a r, bi, tu), M, V)) (e := e1) hH.2.1 ha.1 hq (fun b => ef_upP ha.2 h3)
    have h5 : va_D (lA lo) ((va_pl L (ef Γ ((L, K, sz, si, P, bi, tu), M, V))).set q (a, e1)) := hH.2.1.set hq
    rw [h4] at h1 h5
    exact kk H1 locs1 ⟨h1, h5, Hp_lo h1 h5 ha.1, sP_ok hH.2.2.2 hr⟩ h2
  rw [he0] at hq
  rcases hjk with ⟨rfl, rfl⟩ | ⟨rfl, rfl⟩ | ⟨rfl, rfl⟩
  · refine va_put hx hb hts hi tyX0 tyX0_ok nmX0 hown hK hH.1 hH.2.1 hS q hq (ci := 0) rfl 2 hk hlink (fun _ h => h) rfl (ty := .object "SplayOrchard$Apple") (by decide +kernel) hn hf (by simp) hdg (fun H1 locs1 hP1 hD1 hS1 => fin H1 locs1 _ hP1 hS1 ?_)
    subst hv
    simp [sP]
  · refine va_put hx hb hts hi tyX0 tyX0_ok nmX0 hown hK hH.1 hH.2.1 hS q hq (ci := 0) rfl 3 hk hlink (fun _ h => h) rfl (ty := .object "SplayOrchard$Apple") (by decide +kernel) hn hf (by simp) hdg (fun H1 locs1 hP1 hD1 hS1 => fin H1 locs1 _ hP1 hS1 ?_)
    subst hv
    simp [sP]
  · refine va_put hx hb hts hi tyX0 tyX0_ok nmX0 hown hK hH.1 hH.2.1 hS q hq (ci := 0) rfl 4 hk hlink (fun _ h => h) rfl (ty := .object "SplayOrchard$Apple") (by decide +kernel) hn hf (by simp) hdg (fun H1 locs1 hP1 hD1 hS1 => fin H1 locs1 _ hP1 hS1 ?_)
    subst hv
    simp [sP]
/-- setting a tree's top -/
theorem pT (S : CallFix p m c cc nL s args Ts own) (hi : ∀ w ∈ wsX10, w ∈ Ts) (hK : va_K D vwCl (TY Γ) s) (hH : Hp D lo Γ ((L, K, sz, si, P, bi, tu), M, V) H) (hS : va_S (lA lo) H0 H locs) (ha : a ∈ L) (hk : K a = 1) (r : Option Nat) (hr : ∀ b, r = some b → okA L K b) (hlink : (Cond.fieldLink own index (TX1 0).1 (TX1 0).2.1 (TX1 0).2.2.1).before args s = true) {v : Value} (hv : v = va_rf r) (hdg : decode cc pc = .ok (.putfield index, 3))
    (kk : ∀ (H1 : Heap) (locs1 : List Loc), Hp D lo Γ ((L, K, sz, si, sP P 3 a r, bi, tu), M, V) H1 → va_S (lA lo) H0 H1 locs1 → W p l e R s m args below meth c H1 locs1 cells slots Q (F0 m (pc + 3) ls rest)) : W p l e R s m args below meth c H locs cells slots Q (F0 m pc ls (v :: .ref a :: rest)) := by
  obtain ⟨hx, hb, hml, hown, hts⟩ := S
  have he0 : ef Γ ((L, K, sz, si, P, bi, tu), M, V) a = .inr (1, [va_rf (P 3 a)]) := by unfold ef; rw [if_neg (by dsimp only; omega), if_pos hk]
  obtain ⟨q, hq⟩ := va_plg (f := ef Γ ((L, K, sz, si, P, bi, tu), M, V)) ha rfl
  have hn : narrow (.object "SplayOrchard$Apple") v = v := by subst hv; cases r <;> rfl
  have hf : fits (.object "SplayOrchard$Apple") v = true := by subst hv; cases r <;> rfl
  have hq0 := hq
  rw [he0] at hq
  refine va_put hx hb hts hi tyX1 tyX1_ok nmX1 hown hK hH.1 hH.2.1 hS q hq (ci := 1) rfl 0 (by decide) hlink (fun _ h => h) rfl (ty := .object "SplayOrchard$Apple") (by decide +kernel) hn hf (by simp) hdg (fun H1 locs1 hP1 hD1 hS1 => ?_)
  subst hv
  have h4 := va_pls (g := ef Γ ((L, K, sz, si, sP P 3 a r, bi, tu), M, V)) (e := .inr (1, [va_rf (P 3 a)].set 0 (va_rf r))) hH.2.1 ha hq0 (fun b => by
    by_cases hba : b = a
    · subst hba
      rw [va_up_self]
      unfold ef
      dsimp only
      rw [if_neg (by omega), if_pos hk, sP_eq]
      rfl
    · rw [va_up_ne _ _ hba]
      unfold ef
      dsimp only
      rw [sP_na hba, sP_na hba, sP_na hba, sP_na hba])
  rw [h4] at hP1 hD1
  exact kk H1 locs1 ⟨hP1, hD1, Hp_lo hP1 hD1 ha, sP_ok hH.2.2.2 hr⟩ hS1
/-- setting an apple's bites -/
theorem pB (S : CallFix p m c cc nL s args Ts own) (hi : ∀ w ∈ wsX00, w ∈ Ts) (hK : va_K D vwCl (TY Γ) s) (hH : Hp D lo Γ ((L, K, sz, si, P, bi, tu), M, V) H) (hS : va_S (lA lo) H0 H locs) (ha : okA L K a) (n : Nat) (hlink : (Cond.fieldLink own index (TX0 5).1 (TX0 5).2.1 (TX0 5).2.2.1).before args s = true) {x : Int32} (hv : x = nI n) (hdg : decode cc pc = .ok (.putfield index, 3))
    (kk : ∀ (H1 : Heap) (locs1 : List Loc), Hp D lo Γ ((L, K, sz, si, P, va_up bi a n, tu), M, V) H1 → va_S (lA lo) H0 H1 locs1 → W p l e R s m args below meth c H1 locs1 cells slots Q (F0 m (pc + 3) ls rest)) : W p l e R s m args below meth c H locs cells slots Q (F0 m pc ls (.int x :: .ref a :: rest)) := by
  obtain ⟨hx, hb, hml, hown, hts⟩ := S
  have he0 : ef Γ ((L, K, sz, si, P, bi, tu), M, V) a = .inr (0, [.int (nI (sz a)), va_rf (si a), va_rf (P 2 a), va_rf (P 0 a), va_rf (P 1 a), .int (nI (bi a))]) := by unfold ef; rw [if_pos ha.2]
  obtain ⟨q, hq⟩ := va_plg (f := ef Γ ((L, K, sz, si, P, bi, tu), M, V)) ha.1 rfl
  have hq0 := hq
  rw [he0] at hq
  refine va_put hx hb hts hi tyX0 tyX0_ok nmX0 hown hK hH.1 hH.2.1 hS q hq (ci := 0) rfl 5 (by decide) hlink (fun _ h => h) rfl (ty := .int) (by decide +kernel) rfl rfl (by simp) hdg (fun H1 locs1 hP1 hD1 hS1 => ?_)
  subst hv
  have h4 := va_pls (g := ef Γ ((L, K, sz, si, P, va_up bi a n, tu), M, V)) (e := .inr (0, [.int (nI (sz a)), va_rf (si a), va_rf (P 2 a), va_rf (P 0 a), va_rf (P 1 a), .int (nI (bi a))].set 5 (.int (nI n)))) hH.2.1 ha.1 hq0 (fun b => by
    by_cases hba : b = a
    · subst hba
      rw [va_up_self]
      unfold ef
      dsimp only
      rw [if_pos ha.2, va_up_self]
      rfl
    · rw [va_up_ne _ _ hba]
      unfold ef
      dsimp only
      rw [va_up_ne _ _ hba])
  rw [h4] at hP1 hD1
  exact kk H1 locs1 ⟨hP1, hD1, Hp_lo hP1 hD1 ha.1, hH.2.2.2⟩ hS1
/-- setting the orchard's turnings -/
theorem pO (S : CallFix p m c cc nL s args Ts own) (hi : ∀ w ∈ wsX20, w ∈ Ts) (hK : va_K D vwCl (TY Γ) s) (hH : Hp D lo Γ ((L, K, sz, si, P, bi, tu), M, V) H) (hS : va_S (lA lo) H0 H locs) (ha : a ∈ L) (hk : K a = 2) (hu : ∀ b, b ∈ L → K b = 2 → b = a) (n : Nat) (hlink : (Cond.fieldLink own index (TX2 2).1 (TX2 2).2.1 (TX2 2).2.2.1).before args s = true) {x : Int32} (hv : x = nI n) (hdg : decode cc pc = .ok (.putfield index, 3))
    (kk : ∀ (H1 : Heap) (locs1 : List Loc), Hp D lo Γ ((L, K, sz, si, P, bi, n), M, V) H1 → va_S (lA lo) H0 H1 locs1 → W p l e R s m args below meth c H1 locs1 cells slots Q (F0 m (pc + 3) ls rest)) : W p l e R s m args below meth c H locs cells slots Q (F0 m pc ls (.int x :: .ref a :: rest)) := by
  obtain ⟨hx, hb, hml, hown, hts⟩ := S
  have he0 : ef Γ ((L, K, sz, si, P, bi, tu), M, V) a = .inr (2, [.ref (gra Γ), .ref (gtt Γ), .int (nI tu)]) := by unfold ef; rw [if_neg (by dsimp only; omega), if_neg (by dsimp only; omega), if_pos hk]
  obtain ⟨q, hq⟩ := va_plg (f := ef Γ ((L, K, sz, si, P, bi, tu), M, V)) ha rfl
  have hq0 := hq
  rw [he0] at hq
  refine va_put hx hb hts hi tyX2 tyX2_ok nmX2 hown hK hH.1 hH.2.1 hS q hq (ci := 2) rfl 2 (by decide) hlink (fun _ h => h) rfl (ty := .int) (by decide +kernel) rfl rfl (by simp) hdg (fun H1 locs1 hP1 hD1 hS1 => ?_)
  subst hv
  have h4 := va_pls (e := .inr (2, [.ref (gra Γ), .ref (gtt Γ), .int (nI tu)].set 2 (.int (nI n)))) hH.2.1 ha hq0 (fun b => rfl)
  have h6 : va_pl L (va_up (ef Γ ((L, K, sz, si, P, bi, tu), M, V)) a (.inr (2, [.ref (gra Γ), .ref (gtt Γ), .int (nI tu)].set 2 (.int (nI n))))) = va_pl L (ef Γ ((L, K, sz, si, P, bi, n), M, V)) := by
    unfold va_pl
    refine List.map_congr_left (fun b hbL => ?_)
    by_cases hba : b = a
    · subst hba
      rw [va_up_self]
      unfold ef
      dsimp only
      rw [if_neg (by omega), if_neg (by omega), if_pos hk]
      rfl
    · rw [va_up_ne _ _ hba]
      have hk2 : K b ≠ 2 := fun e2 => hba (hu b hbL e2)
      unfold ef
      dsimp only
      rw [if_neg hk2, if_neg hk2]
  rw [h4.trans h6] at hP1 hD1
  exact kk H1 locs1 ⟨hP1, hD1, Hp_lo hP1 hD1 ha, hH.2.2.2⟩ hS1
end WRows
end
section
/-! CONTRACTS over the world: how one is begun, called and ended -/
theorem Mz_of {l : Launch} {y : MethodName} {ws ws' : List Cond} {rm : Room} {cc : ByteArray} {maxL : Nat} {ret : Option FieldType} {D : va_G} {lo : Nat} {Γ : GT} {av : List Value} {Z : WS} {post : Option Value → WS → Prop} (hy : plainName y.cls = true) (hw : ws = Cond.code y cc maxL ret :: ws') (hlen : (lg_sl av).length ≤ maxL)
    (body : ∀ (p : Program) (e : Env) (s : State) (m : MethodId) (args : Array Value) (below : List Frame) (meth : Method) (c : Code) (ls : Array Slot), CallFix p m c cc maxL s args ws y.cls → meth.sig.returnType = ret → meth.locks = false → va_K D vwCl (TY Γ) s → Hp D lo Γ Z s.heap → va_S (lA lo) s.heap s.heap [] → lv_has ls maxL (lv_args 0 av) →
      W p l e rm s m args below meth c s.heap [] 0 0 (MQ below (Qz D lo Γ post) args s rm.cells rm.slots (lA lo)) (F0 m 0 ls [])) : Mz l y ws rm D lo Γ av Z post := by
  refine Met.ofW (cc := cc) (maxL := maxL) (ret := ret) hy hw ?_
  intro p e s m args below meth c s₁ B hml hv
  obtain ⟨rfl, hH, hK⟩ := hv
  have hl := lv_entry av (n := maxL) hlen
  have hown : s.vm.findClass y.cls = some m.cls := findClass_of_methodNamed B.named
  rw [lg_entry_eq]
  exact body p e s m _ below meth c _ ⟨B.exec, B.bytes, hml, hown, atoms_spec (ws := ws) B.pre⟩ B.returns B.notSynchronized hK hH va_S.rf hl
theorem Hp_recv {D : va_G} {lo : Nat} {Γ : GT} {Z : WS} {H : Heap} {s : State} {tys : List (ClassId × FieldType)} {b ci : Nat} {q : vw_C} (hK : va_K D vwCl tys s) (hH : Hp D lo Γ Z H) (hb : b ∈ Z.1.1) (hk : Z.1.2.1 b = ci) (hc : vwCl[ci]? = some q) : ∃ cell : Cell, H[b]? = some cell ∧ cell.vm.isStatics = false ∧ s.vm.findClass q.1 = some cell.cls := by
  have hci : ci < 4 := (List.getElem?_eq_some_iff.mp hc).1
  rcases ci with _ | _ | _ | _ | ci
  · obtain ⟨k, hq⟩ := va_plg (f := ef Γ Z) hb (by unfold ef; rw [if_pos hk])
    exact va_recv hK hH.1 hc hq
  · obtain ⟨k, hq⟩ := va_plg (f := ef Γ Z) hb (by unfold ef; rw [if_neg (by omega), if_pos hk])
    exact va_recv hK hH.1 hc hq
  · obtain ⟨k, hq⟩ := va_plg (f := ef Γ Z) hb (by unfold ef; rw [if_neg (by omega), if_neg (by omega), if_pos hk])
    exact va_recv hK hH.1 hc hq
  · obtain ⟨k, hq⟩ := va_plg (f := ef Γ Z) hb (by unfold ef; rw [if_neg (by omega), if_neg (by omega), if_neg (by omega), if_pos hk])
    exact va_recv hK hH.1 hc hq
  · omega
section WCalls
variable {p : Program} {l : Launch} {e : Env} {R : Room} {s : State} {m : MethodId} {args : Array Value} {below : List Frame} {meth : Method} {c : Code} {H H0 : Heap} {locs : List Loc} {cells slots : Nat} {Q : State → Prop}
variable {cc bytes : ByteArray} {pc nL maxL n index : Nat} {ret : Option FieldType} {ls : Array Slot} {rest st0 : List Value} {D : va_G} {lo : Nat} {Γ : GT} {Ts ws : List Cond} {own C : String} {b : Nat} {y : MethodName} {rm : Room} {As : List Value} {Z Z1 : WS} {post : Option Value → WS → Prop}
theorem cz_go {a : Array Value} {mc ms : Nat} (hr : va_Run p l e R s m args below meth c H locs cells slots mc ms (F0 m pc ls st0) rest (Qz D lo Γ post a) (lA lo)) (hS : va_S (lA lo) H0 H locs)
    (kk : ∀ (v : Option Value) (Z1 : WS) (H1 : Heap) (locs1 : List Loc), post v Z1 → Hp D lo Γ Z1 H1 → va_S (lA lo) H0 H1 locs1 → W p l e R s m args below meth c H1 locs1 (cells + mc) (slots + ms) Q (F0 m (pc + 3) ls (v.toList ++ rest))) : W p l e R s m args below meth c H locs cells slots Q (F0 m pc ls st0) := by
  intro T hT X
  obtain ⟨v, st₀, t, T', L, h0, X', hL, e1, e2, ⟨⟨v', Z1, hv, hp, hb⟩, hz, hk⟩, st⟩ := hr T hT X
  cases hv
  rw [h0] at hz hk
  obtain ⟨t2, a1, b1⟩ := kk v Z1 T'.heap (locs ++ L) hp (by rw [e1]; exact hb)
    ⟨Nat.le_trans hS.1 (by rw [e1]; exact hz), fun q h1 h2 => by rw [e1, hk q (Nat.lt_of_lt_of_le h1 hS.1) h2]; exact hS.2.1 q h1 h2, fun q hq => by
      rcases List.mem_append.mp hq with h | h
      · exact hS.2.2 q h
      · exact hL q h⟩ T' rfl X'
  exact ⟨t2, st t2 a1, b1⟩
theorem Pz_pre (hK : va_K D vwCl (TY Γ) s) (hH : Hp D lo Γ Z H) (av : List Value) : PreS s H (Pz D lo Γ av Z) av := ⟨Pz_blind, fun U hU hW => ⟨rfl, by rw [hU]; exact hH, va_K.moved hW.alike hK⟩⟩
/-- by the receiver -/
theorem cV (S : CallFix p m c cc nL s args Ts own) (hM : Mz l y ws rm D lo Γ (.ref b :: As) Z post) (cw : CallW R s args own C index y bytes maxL ret ws rm rm.cells rm.slots n) (hK : va_K D vwCl (TY Γ) s) (hH : Hp D lo Γ Z H) (hrec : ∃ cell : Cell, H[b]? = some cell ∧ cell.vm.isStatics = false ∧ s.vm.findClass C = some cell.cls) (hS : va_S (lA lo) H0 H locs)
    (hn : As.length = n) (hsize : ls.size = nL) (hstack : st0 = As.reverse ++ .ref b :: rest) (hW : (rest.map fun v => v.category).sum ≤ 8) (hdg : decode cc pc = .ok (.invokevirtual index, 3)) (hf : cells + rm.cells ≤ R.cells ∧ slots + rm.slots ≤ R.slots)
    (kk : ∀ (v : Option Value) (Z1 : WS) (H1 : Heap) (locs1 : List Loc), post v Z1 → Hp D lo Γ Z1 H1 → va_S (lA lo) H0 H1 locs1 → W p l e R s m args below meth c H1 locs1 (cells + rm.cells) (slots + rm.slots) Q (F0 m (pc + 3) ls (v.toList ++ rest))) : W p l e R s m args below meth c H locs cells slots Q (F0 m pc ls st0) :=
  cz_go (va_runV (As := As) (rest := rest) S hM cw ⟨Pz_blind, hrec, (Pz_pre hK hH _).2⟩ rfl hn hsize hstack (lv_room hW) hdg hf) hS kk
/-- a static method of one's own -/
theorem cSt (S : CallFix p m c cc nL s args Ts own) (hM : Mz l y ws rm D lo Γ As Z post) (cw : CallB R s args own index y bytes maxL ret ws rm rm.cells rm.slots n ∧ (Cond.static y).before args s = true) (hK : va_K D vwCl (TY Γ) s) (hH : Hp D lo Γ Z H) (hS : va_S (lA lo) H0 H locs)
    (hn : As.length = n) (hsize : ls.size = nL) (hstack : st0 = As.reverse ++ rest) (hW : (rest.map fun v => v.category).sum ≤ 8) (hdg : decode cc pc = .ok (.invokestatic index, 3)) (hf : cells + rm.cells ≤ R.cells ∧ slots + rm.slots ≤ R.slots)
    (kk : ∀ (v : Option Value) (Z1 : WS) (H1 : Heap) (locs1 : List Loc), post v Z1 → Hp D lo Γ Z1 H1 → va_S (lA lo) H0 H1 locs1 → W p l e R s m args below meth c H1 locs1 (cells + rm.cells) (slots + rm.slots) Q (F0 m (pc + 3) ls (v.toList ++ rest))) : W p l e R s m args below meth c H locs cells slots Q (F0 m pc ls st0) :=
  cz_go (va_runS (As := As) (rest := rest) S hM cw (Pz_pre hK hH _) rfl hn hsize hstack (lv_room hW) hdg hf) hS kk
/-- the ends -/
theorem eI {v : Int32} (S : CallFix p m c cc nL s args Ts own) (hr : meth.sig.returnType = some .int) (hlocks : meth.locks = false) (hH : Hp D lo Γ Z1 H) (hS : va_S (lA lo) s.heap H locs) (hp : post (some (.int v)) Z1) (hdg : decode cc pc = .ok (.ireturn, 1)) : W p l e R s m args below meth c H locs cells slots (MQ below (Qz D lo Γ post) args s cells slots (lA lo)) (F0 m pc ls [.int v]) :=
  W.iret S.1 S.2.1 hr (fun t ht hW => ⟨⟨_, Z1, rfl, hp, by rw [ht]; exact hH⟩, hS.F ht⟩) hS.2.2 hdg hlocks
theorem eZ {v : Int32} (S : CallFix p m c cc nL s args Ts own) (hr : meth.sig.returnType = some .boolean) (hlocks : meth.locks = false) (hv : v = 0 ∨ v = 1) (hH : Hp D lo Γ Z1 H) (hS : va_S (lA lo) s.heap H locs) (hp : post (some (.int v)) Z1) (hdg : decode cc pc = .ok (.ireturn, 1)) : W p l e R s m args below meth c H locs cells slots (MQ below (Qz D lo Γ post) args s cells slots (lA lo)) (F0 m pc ls [.int v]) :=
  W.zret S.1 S.2.1 hr (by rcases hv with rfl | rfl <;> decide +kernel) (fun t ht hW => ⟨⟨_, Z1, rfl, hp, by rw [ht]; exact hH⟩, hS.F ht⟩) hS.2.2 hdg hlocks
theorem eL {v : Int64} (S : CallFix p m c cc nL s args Ts own) (hr : meth.sig.returnType = some .long) (hlocks : meth.locks = false) (hH : Hp D lo Γ Z1 H) (hS : va_S (lA lo) s.heap H locs) (hp : post (some (.long v)) Z1) (hdg : decode cc pc = .ok (.lreturn, 1)) : W p l e R s m args below meth c H locs cells slots (MQ below (Qz D lo Γ post) args s cells slots (lA lo)) (F0 m pc ls [.long v]) :=
  W.lret S.1 S.2.1 hr (fun t ht hW => ⟨⟨_, Z1, rfl, hp, by rw [ht]; exact hH⟩, hS.F ht⟩) hS.2.2 hdg hlocks
theorem eD {v : UInt64} (S : CallFix p m c cc nL s args Ts own) (hr : meth.sig.returnType = some .double) (hlocks : meth.locks = false) (hH : Hp D lo Γ Z1 H) (hS : va_S (lA lo) s.heap H locs) (hp : post (some (.double v)) Z1) (hdg : decode cc pc = .ok (.dreturn, 1)) : W p l e R s m args below meth c H locs cells slots (MQ below (Qz D lo Γ post) args s cells slots (lA lo)) (F0 m pc ls [.double v]) :=
  W.dret S.1 S.2.1 hr (fun t ht hW => ⟨⟨_, Z1, rfl, hp, by rw [ht]; exact hH⟩, hS.F ht⟩) hS.2.2 hdg hlocks
theorem eV (S : CallFix p m c cc nL s args Ts own) (hr : meth.sig.returnType = none) (hlocks : meth.locks = false) (hH : Hp D lo Γ Z1 H) (hS : va_S (lA lo) s.heap H locs) (hp : post none Z1) (hdg : decode cc pc = .ok (.return_, 1)) : W p l e R s m args below meth c H locs cells slots (MQ below (Qz D lo Γ post) args s cells slots (lA lo)) (F0 m pc ls []) :=
  W.vret S.1 S.2.1 hr (fun t ht hW => ⟨⟨_, Z1, rfl, hp, by rw [ht]; exact hH⟩, hS.F ht⟩) hS.2.2 hdg hlocks
theorem eA {v : Value} {q : String} (S : CallFix p m c cc nL s args Ts own) (hr : meth.sig.returnType = some (.object q)) (hlocks : meth.locks = false) (r : Option Nat) (hv : v = va_rf r) (hH : Hp D lo Γ Z1 H) (hS : va_S (lA lo) s.heap H locs) (hp : post (some (va_rf r)) Z1) (hdg : decode cc pc = .ok (.areturn, 1)) : W p l e R s m args below meth c H locs cells slots (MQ below (Qz D lo Γ post) args s cells slots (lA lo)) (F0 m pc ls [v]) := by
  subst hv
  exact W.aret S.1 S.2.1 hr (Or.inl ⟨_, rfl⟩) (by cases r; exact Or.inl rfl; exact Or.inr ⟨_, rfl⟩) (fun t ht hW => ⟨⟨_, Z1, rfl, hp, by rw [ht]; exact hH⟩, hS.F ht⟩) hS.2.2 hdg hlocks
/-- references that may be null -/
theorem lq_aload_n (S : CallFix p m c cc nL s args Ts own) {k : Fin 4} {i : Nat} {r : Option Nat} (hdg : decode cc pc = .ok (.aload_n k, 1)) (hi : (k : Nat) = i) (hl : ls[i]? = some (.val (va_rf r))) (kk : W p l e R s m args below meth c H locs cells slots Q (F0 m (pc + 1) ls (va_rf r :: rest))) : W p l e R s m args below meth c H locs cells slots Q (F0 m pc ls rest) := by
  cases r with
  | none => exact lv_aload_nN S.1 S.2.1 hdg hi hl kk
  | some x => exact lv_aload_n S.1 S.2.1 hdg hi hl kk
theorem lq_aload (S : CallFix p m c cc nL s args Ts own) {i : Nat} {r : Option Nat} (hdg : decode cc pc = .ok (.aload i, 2)) (hl : ls[i]? = some (.val (va_rf r))) (kk : W p l e R s m args below meth c H locs cells slots Q (F0 m (pc + 2) ls (va_rf r :: rest))) : W p l e R s m args below meth c H locs cells slots Q (F0 m pc ls rest) := by
  cases r with
  | none => exact lv_aloadN S.1 S.2.1 hdg hl kk
  | some x => exact lv_aload S.1 S.2.1 hdg hl kk
theorem lq_astore_n (S : CallFix p m c cc nL s args Ts own) {k : Fin 4} {i : Nat} {r : Option Nat} {lv lv' : List (Nat × Value)} (hdg : decode cc pc = .ok (.astore_n k, 1)) (hi : (k : Nat) = i) (h : lv_has ls nL lv) (hn : i < nL) (hl : lv.filter (fun q => !(q.1 == i) && !(q.1 + 1 == i && q.2.category == 2)) = lv') (kk : ∀ ls' : Array Slot, lv_has ls' nL ((i, va_rf r) :: lv') → W p l e R s m args below meth c H locs cells slots Q (F0 m (pc + 1) ls' rest)) : W p l e R s m args below meth c H locs cells slots Q (F0 m pc ls (va_rf r :: rest)) := by
  subst hl
  cases r with
  | none => exact lv_astore_nN S.1 S.2.1 hdg hi h hn rfl kk
  | some x => exact lv_astore_n S.1 S.2.1 hdg hi h hn rfl kk
theorem lq_astore (S : CallFix p m c cc nL s args Ts own) {i : Nat} {r : Option Nat} {lv lv' : List (Nat × Value)} (hdg : decode cc pc = .ok (.astore i, 2)) (h : lv_has ls nL lv) (hn : i < nL) (hl : lv.filter (fun q => !(q.1 == i) && !(q.1 + 1 == i && q.2.category == 2)) = lv') (kk : ∀ ls' : Array Slot, lv_has ls' nL ((i, va_rf r) :: lv') → W p l e R s m args below meth c H locs cells slots Q (F0 m (pc + 2) ls' rest)) : W p l e R s m args below meth c H locs cells slots Q (F0 m pc ls (va_rf r :: rest)) := by
  subst hl
  cases r with
  | none => exact lv_astoreN S.1 S.2.1 hdg h hn rfl kk
  | some x => exact lv_astore S.1 S.2.1 hdg h hn rfl kk
/-- null or not: two goals -/
theorem lq_ifnull (S : CallFix p m c cc nL s args Ts own) {r : Option Nat} {off : Int} {tgt : Nat} (hdg : decode cc pc = .ok (.ifnull off, 3)) (ht : (pc : Int) + off = (tgt : Int)) (kt : r = none → W p l e R s m args below meth c H locs cells slots Q (F0 m tgt ls rest)) (kf : ∀ x, r = some x → W p l e R s m args below meth c H locs cells slots Q (F0 m (pc + 3) ls rest)) : W p l e R s m args below meth c H locs cells slots Q (F0 m pc ls (va_rf r :: rest)) := by
  cases r with
  | none => exact lv_ifnullN S.1 S.2.1 hdg ht (kt rfl)
  | some x => exact lv_ifnull S.1 S.2.1 hdg (kf x rfl)
theorem lq_ifnonnull (S : CallFix p m c cc nL s args Ts own) {r : Option Nat} {off : Int} {tgt : Nat} (hdg : decode cc pc = .ok (.ifnonnull off, 3)) (ht : (pc : Int) + off = (tgt : Int)) (kt : ∀ x, r = some x → W p l e R s m args below meth c H locs cells slots Q (F0 m tgt ls rest)) (kf : r = none → W p l e R s m args below meth c H locs cells slots Q (F0 m (pc + 3) ls rest)) : W p l e R s m args below meth c H locs cells slots Q (F0 m pc ls (va_rf r :: rest)) := by
  cases r with
  | none => exact lv_ifnonnullN S.1 S.2.1 hdg (kf rfl)
  | some x => exact lv_ifnonnull S.1 S.2.1 hdg ht (kt x rfl)
end WCalls
end
section
/-! METHODS of SplayOrchard$Apple -/
def iol (P : PF) (a : Nat) : Bool := match P 2 a with
  | none => false
  | some u => decide (P 0 u = some a)
def twd (P : PF) (sz : Nat → Nat) (x : Int32) (a : Nat) : Option Nat := if x = nI (sz a) then none else if x < nI (sz a) then P 0 a else P 1 a
theorem cat_rf (r : Option Nat) : (va_rf r).category = 1 := by cases r <;> rfl
theorem hd_app {x y : List Nat} (h : x ≠ []) : (x ++ y).head? = x.head? := by cases x with
  | nil => exact absurd rfl h
  | cons a x => rfl
theorem la_app {x y : List Nat} {k : Nat} (h : y ≠ []) : (x ++ k :: y).getLast? = y.getLast? := by
  rw [show x ++ k :: y = (x ++ [k]) ++ y by simp, List.getLast?_append]
  cases hy : y.getLast? with
  | none => exact absurd (List.getLast?_eq_none_iff.mp hy) h
  | some z => rfl
section MApple
variable {l : Launch} {D : va_G} {lo : Nat} {Γ : GT} {L : List Nat} {K : Nat → Nat} {sz : Nat → Nat} {si : Nat → Option Nat} {P : PF} {bi : Nat → Nat} {tu : Nat} {M : MW} {V : Int64 × UInt64}
set_option maxRecDepth 100000 in
set_option maxHeartbeats 4000000 in
/-- below a, on this side, and a above it -/
theorem c_X0_hangLeft {a : Nat} {r : Option Nat} (ok_a : okA L K a) (okq_r : ∀ b, r = some b → okA L K b) : Md l yX0_hangLeft wsX0_hangLeft (rmL 1 0 0) D lo Γ [.ref a, va_rf r] ((L, K, sz, si, P, bi, tu), M, V) none ((L, K, sz, si, (hng P r (some a) 0), bi, tu), M, V) := by
  refine Mz_of (cc := cX0_hangLeft) (maxL := 2) (ret := none) (by decide) rfl (by cases r <;> exact Nat.le_of_ble_eq_true rfl) ?_
  intro p e s m args below meth c ls S hr hlocks hK hH hS hl
  have hx := S.1
  have hb := S.2.1
  have hts := S.2.2.2.2
  have f17 : (Cond.fieldLink RX0 17 (TX0 3).1 (TX0 3).2.1 (TX0 3).2.2.1).before args s = true := hts _ (List.mem_of_getElem? (i := 1) rfl)
  have f20 : (Cond.fieldLink RX0 20 (TX0 2).1 (TX0 2).2.1 (TX0 2).2.2.1).before args s = true := hts _ (List.mem_of_getElem? (i := 2) rfl)
  have hi0 : ∀ w ∈ wsX00, w ∈ wsX0_hangLeft := by decide +kernel
  have hl : lv_has ls 2 [(0, .ref a), (1, va_rf r)] := hl
  refine lv_aload_n hx hb dX0_hangLeft_0 rfl (lv_at hl 0 rfl) ?_
  refine lq_aload_n S dX0_hangLeft_1 rfl (lv_at hl 1 rfl) ?_
  refine pA S hi0 hK hH hS ok_a 0 r okq_r 3 (by decide) (by decide) f17 rfl dX0_hangLeft_2 (fun H locs hH hS => ?_)
  refine lq_aload_n S dX0_hangLeft_5 rfl (lv_at hl 1 rfl) ?_
  refine lq_ifnull S dX0_hangLeft_6 (tgt := 14) (by decide) (fun hq => ?_) (fun x hq => ?_)
  · skip
    subst hq
    exact eV S hr hlocks hH hS ⟨rfl, rfl⟩ dX0_hangLeft_14
  · skip
    subst hq
    have ok_x := okq_r x rfl
    refine lv_aload_n hx hb dX0_hangLeft_9 rfl (lv_at hl 1 rfl) ?_
    refine lv_aload_n hx hb dX0_hangLeft_10 rfl (lv_at hl 0 rfl) ?_
    refine pA S hi0 hK hH hS ok_x 2 (some a) (fun b h => by cases h; exact ok_a) 2 (by decide) (by decide) f20 rfl dX0_hangLeft_11 (fun H locs hH hS => ?_)
    exact eV S hr hlocks hH hS ⟨rfl, rfl⟩ dX0_hangLeft_14

set_option maxRecDepth 100000 in
set_option maxHeartbeats 4000000 in
/-- below a, on this side, and a above it -/
theorem c_X0_hangRight {a : Nat} {r : Option Nat} (ok_a : okA L K a) (okq_r : ∀ b, r = some b → okA L K b) : Md l yX0_hangRight wsX0_hangRight (rmL 1 0 0) D lo Γ [.ref a, va_rf r] ((L, K, sz, si, P, bi, tu), M, V) none ((L, K, sz, si, (hng P r (some a) 1), bi, tu), M, V) := by
  refine Mz_of (cc := cX0_hangRight) (maxL := 2) (ret := none) (by decide) rfl (by cases r <;> exact Nat.le_of_ble_eq_true rfl) ?_
  intro p e s m args below meth c ls S hr hlocks hK hH hS hl
  have hx := S.1
  have hb := S.2.1
  have hts := S.2.2.2.2
  have f23 : (Cond.fieldLink RX0 23 (TX0 4).1 (TX0 4).2.1 (TX0 4).2.2.1).before args s = true := hts _ (List.mem_of_getElem? (i := 1) rfl)
  have f20 : (Cond.fieldLink RX0 20 (TX0 2).1 (TX0 2).2.1 (TX0 2).2.2.1).before args s = true := hts _ (List.mem_of_getElem? (i := 2) rfl)
  have hi0 : ∀ w ∈ wsX00, w ∈ wsX0_hangRight := by decide +kernel
  have hl : lv_has ls 2 [(0, .ref a), (1, va_rf r)] := hl
  refine lv_aload_n hx hb dX0_hangRight_0 rfl (lv_at hl 0 rfl) ?_
  refine lq_aload_n S dX0_hangRight_1 rfl (lv_at hl 1 rfl) ?_
  refine pA S hi0 hK hH hS ok_a 1 r okq_r 4 (by decide) (by decide) f23 rfl dX0_hangRight_2 (fun H locs hH hS => ?_)
  refine lq_aload_n S dX0_hangRight_5 rfl (lv_at hl 1 rfl) ?_
  refine lq_ifnull S dX0_hangRight_6 (tgt := 14) (by decide) (fun hq => ?_) (fun x hq => ?_)
  · skip
    subst hq
    exact eV S hr hlocks hH hS ⟨rfl, rfl⟩ dX0_hangRight_14
  · skip
    subst hq
    have ok_x := okq_r x rfl
    refine lv_aload_n hx hb dX0_hangRight_9 rfl (lv_at hl 1 rfl) ?_
    refine lv_aload_n hx hb dX0_hangRight_10 rfl (lv_at hl 0 rfl) ?_
    refine pA S hi0 hK hH hS ok_x 2 (some a) (fun b h => by cases h; exact ok_a) 2 (by decide) (by decide) f20 rfl dX0_hangRight_11 (fun H locs hH hS => ?_)
    exact eV S hr hlocks hH hS ⟨rfl, rfl⟩ dX0_hangRight_14

set_option maxRecDepth 100000 in
set_option maxHeartbeats 4000000 in
/-- is a to the left of the one above it -/
theorem c_X0_isOnTheLeft {a : Nat} (ok_a : okA L K a) : Md l yX0_isOnTheLeft wsX0_isOnTheLeft (rmL 1 0 0) D lo Γ [.ref a] ((L, K, sz, si, P, bi, tu), M, V) (some (.int (if iol P a then 1 else 0))) ((L, K, sz, si, P, bi, tu), M, V) := by
  refine Mz_of (cc := cX0_isOnTheLeft) (maxL := 1) (ret := (some .boolean)) (by decide) rfl (Nat.le_of_ble_eq_true rfl) ?_
  intro p e s m args below meth c ls S hr hlocks hK hH hS hl
  have hx := S.1
  have hb := S.2.1
  have hts := S.2.2.2.2
  have f20 : (Cond.fieldLink RX0 20 (TX0 2).1 (TX0 2).2.1 (TX0 2).2.2.1).before args s = true := hts _ (List.mem_of_getElem? (i := 1) rfl)
  have f17 : (Cond.fieldLink RX0 17 (TX0 3).1 (TX0 3).2.1 (TX0 3).2.2.1).before args s = true := hts _ (List.mem_of_getElem? (i := 2) rfl)
  have hi0 : ∀ w ∈ wsX00, w ∈ wsX0_isOnTheLeft := by decide +kernel
  have hl : lv_has ls 1 [(0, .ref a)] := hl
  rcases hq : P 2 a with _ | u
  · skip
    refine lv_aload_n hx hb dX0_isOnTheLeft_0 rfl (lv_at hl 0 rfl) ?_
    refine gA S hi0 hK hH ok_a 2 (by decide) f20 (v := .null) (by show some (va_rf (P 2 a)) = _; rw [hq]; rfl) dX0_isOnTheLeft_1 ?_
    refine lv_ifnullN hx hb dX0_isOnTheLeft_4 (tgt := 22) (by decide) ?_
    refine lv_iconst (v := 0) hx hb dX0_isOnTheLeft_22 (by decide) ?_
    exact eZ S hr hlocks (Or.inl rfl) hH hS ⟨by simp [iol, hq], rfl⟩ dX0_isOnTheLeft_23
  · skip
    have ok_u := hH.2.2.2.1 a ok_a 2 (by decide) u hq
    refine lv_aload_n hx hb dX0_isOnTheLeft_0 rfl (lv_at hl 0 rfl) ?_
    refine gA S hi0 hK hH ok_a 2 (by decide) f20 (v := .ref u) (by show some (va_rf (P 2 a)) = _; rw [hq]; rfl) dX0_isOnTheLeft_1 ?_
    refine lv_ifnull hx hb dX0_isOnTheLeft_4 ?_
    refine lv_aload_n hx hb dX0_isOnTheLeft_7 rfl (lv_at hl 0 rfl) ?_
    refine gA S hi0 hK hH ok_a 2 (by decide) f20 (v := .ref u) (by show some (va_rf (P 2 a)) = _; rw [hq]; rfl) dX0_isOnTheLeft_8 ?_
    refine gA S hi0 hK hH ok_u 3 (by decide) f17 (v := va_rf (P 0 u)) rfl dX0_isOnTheLeft_11 ?_
    refine lv_aload_n hx hb dX0_isOnTheLeft_14 rfl (lv_at hl 0 rfl) ?_
    refine lv_acmp_ne (rx := P 0 u) (ry := some a) (tgt := 22) hx hb dX0_isOnTheLeft_15 (by decide) (fun hq2 => ?_) (fun hq2 => ?_)
    · skip
      refine lv_iconst (v := 0) hx hb dX0_isOnTheLeft_22 (by decide) ?_
      exact eZ S hr hlocks (Or.inl rfl) hH hS ⟨by simp [iol, hq, hq2], rfl⟩ dX0_isOnTheLeft_23
    · skip
      refine lv_iconst (v := 1) hx hb dX0_isOnTheLeft_18 (by decide) ?_
      refine lv_goto (tgt := 23) hx hb dX0_isOnTheLeft_19 (by decide) ?_
      exact eZ S hr hlocks (Or.inr rfl) hH hS ⟨by simp [iol, hq, hq2], rfl⟩ dX0_isOnTheLeft_23

set_option maxRecDepth 100000 in
set_option maxHeartbeats 4000000 in
/-- how deep a hangs -/
theorem c_X0_depth {a d : Nat} (ok_a : okA L K a) (hu : UC P d (P 2 a)) : Md l yX0_depth wsX0_depth (rmL 1 0 0) D lo Γ [.ref a] ((L, K, sz, si, P, bi, tu), M, V) (some (.int (nI d))) ((L, K, sz, si, P, bi, tu), M, V) := by
  refine Mz_of (cc := cX0_depth) (maxL := 3) (ret := (some .int)) (by decide) rfl (Nat.le_of_ble_eq_true rfl) ?_
  intro p e s m args below meth c ls S hr hlocks hK hH hS hl
  have hx := S.1
  have hb := S.2.1
  have hts := S.2.2.2.2
  have f20 : (Cond.fieldLink RX0 20 (TX0 2).1 (TX0 2).2.1 (TX0 2).2.2.1).before args s = true := hts _ (List.mem_of_getElem? (i := 1) rfl)
  have hi0 : ∀ w ∈ wsX00, w ∈ wsX0_depth := by decide +kernel
  have hl : lv_has ls 3 [(0, .ref a)] := hl
  refine lv_iconst (v := 0) hx hb dX0_depth_0 (by decide) ?_
  refine lv_istore_n (lv' := [(1, .int 0), (0, .ref a)]) hx hb dX0_depth_1 rfl hl (by decide) rfl (fun ls hl => ?_)
  refine lv_aload_n hx hb dX0_depth_2 rfl (lv_at hl 1 rfl) ?_
  refine gA S hi0 hK hH ok_a 2 (by decide) f20 (v := va_rf (P 2 a)) rfl dX0_depth_3 ?_
  refine lq_astore_n (lv' := [(1, .int 0), (0, .ref a)]) S dX0_depth_6 rfl hl (by decide) rfl (fun ls hl => ?_)
  have loop : ∀ (d' : Nat) (r : Option Nat) (i : Nat), UC P d' r → (∀ b, r = some b → okA L K b) → i + d' = d → ∀ ls, lv_has ls 3 [(2, va_rf r), (1, .int (nI i))] → W p l e (rmL 1 0 0) s m args below meth c s.heap [] 0 0 (MQ below (Qz D lo Γ (fun v Z' => v = (some (.int (nI d))) ∧ Z' = ((L, K, sz, si, P, bi, tu), M, V))) args s ((rmL 1 0 0) : Room).cells ((rmL 1 0 0) : Room).slots (lA lo)) (F0 m 7 ls []) := by
    intro d'
    induction d' with
    | zero =>
      intro r i hr0 _ hi ls hl
      have hr0 : r = none := hr0
      subst hr0
      refine lv_aload_nN hx hb dX0_depth_7 rfl (lv_at hl 0 rfl) ?_
      refine lv_ifnullN hx hb dX0_depth_8 (tgt := 22) (by decide) ?_
      refine lv_iload_n hx hb dX0_depth_22 rfl (lv_at hl 1 rfl) ?_
      have hid : i = d := by omega
      subst hid
      exact eI S hr hlocks hH hS ⟨rfl, rfl⟩ dX0_depth_23
    | succ d' ih =>
      intro r i hr0 okq hi ls hl
      obtain ⟨u, rfl, hu'⟩ := hr0
      have ok_u := okq u rfl
      refine lv_aload_n hx hb dX0_depth_7 rfl (lv_at hl 0 rfl) ?_
      refine lv_ifnull hx hb dX0_depth_8 ?_
      refine lv_iinc (v := nI (i + 1)) (lv' := [(1, .int (nI (i + 1))), (2, .ref u)]) hx hb dX0_depth_11 hl (k := 1) rfl (nI_1 i) (by decide) rfl (fun ls hl => ?_)
      refine lv_aload_n hx hb dX0_depth_14 rfl (lv_at hl 1 rfl) ?_
      refine gA S hi0 hK hH ok_u 2 (by decide) f20 (v := va_rf (P 2 u)) rfl dX0_depth_15 ?_
      refine lq_astore_n (lv' := [(1, .int (nI (i + 1)))]) S dX0_depth_18 rfl hl (by decide) rfl (fun ls hl => ?_)
      refine lv_goto (tgt := 7) hx hb dX0_depth_19 (by decide) ?_
      exact ih (P 2 u) (i + 1) hu' (fun b h => hH.2.2.2.1 u ok_u 2 (by decide) b h) (by omega) ls (lv_sub hl [0, 1] rfl)
  exact loop d (P 2 a) 0 hu (fun b h => hH.2.2.2.1 a ok_a 2 (by decide) b h) (by omega) ls (lv_sub hl [0, 1] rfl)

set_option maxRecDepth 100000 in
set_option maxHeartbeats 4000000 in
/-- the way to a size -/
theorem c_X0_towards {a : Nat} {x : Int32} (ok_a : okA L K a) : Md l yX0_towards wsX0_towards (rmL 1 0 0) D lo Γ [.ref a, .int x] ((L, K, sz, si, P, bi, tu), M, V) (some (va_rf (twd P sz x a))) ((L, K, sz, si, P, bi, tu), M, V) := by
  refine Mz_of (cc := cX0_towards) (maxL := 2) (ret := (some (.object "SplayOrchard$Apple"))) (by decide) rfl (Nat.le_of_ble_eq_true rfl) ?_
  intro p e s m args below meth c ls S hr hlocks hK hH hS hl
  have hx := S.1
  have hb := S.2.1
  have hts := S.2.2.2.2
  have f7 : (Cond.fieldLink RX0 7 (TX0 0).1 (TX0 0).2.1 (TX0 0).2.2.1).before args s = true := hts _ (List.mem_of_getElem? (i := 1) rfl)
  have f17 : (Cond.fieldLink RX0 17 (TX0 3).1 (TX0 3).2.1 (TX0 3).2.2.1).before args s = true := hts _ (List.mem_of_getElem? (i := 2) rfl)
  have f23 : (Cond.fieldLink RX0 23 (TX0 4).1 (TX0 4).2.1 (TX0 4).2.2.1).before args s = true := hts _ (List.mem_of_getElem? (i := 3) rfl)
  have hi0 : ∀ w ∈ wsX00, w ∈ wsX0_towards := by decide +kernel
  have hl : lv_has ls 2 [(0, .ref a), (1, .int x)] := hl
  refine lv_iload_n hx hb dX0_towards_0 rfl (lv_at hl 1 rfl) ?_
  refine lv_aload_n hx hb dX0_towards_1 rfl (lv_at hl 0 rfl) ?_
  refine gA S hi0 hK hH ok_a 0 (by decide) f7 (v := .int (nI (sz a))) rfl dX0_towards_2 ?_
  refine lv_icmp_ne (tgt := 10) hx hb dX0_towards_5 (by decide) (fun h1 => ?_) (fun h1 => ?_)
  · skip
    refine lv_iload_n hx hb dX0_towards_10 rfl (lv_at hl 1 rfl) ?_
    refine lv_aload_n hx hb dX0_towards_11 rfl (lv_at hl 0 rfl) ?_
    refine gA S hi0 hK hH ok_a 0 (by decide) f7 (v := .int (nI (sz a))) rfl dX0_towards_12 ?_
    refine lv_icmp_ge (tgt := 25) hx hb dX0_towards_15 (by decide) (fun h2 => ?_) (fun h2 => ?_)
    · skip
      refine lv_aload_n hx hb dX0_towards_25 rfl (lv_at hl 0 rfl) ?_
      refine gA S hi0 hK hH ok_a 4 (by decide) f23 (v := va_rf (P 1 a)) rfl dX0_towards_26 ?_
      exact eA S hr hlocks (P 1 a) rfl hH hS ⟨by rw [twd, if_neg h1, if_neg (by simpa using h2)], rfl⟩ dX0_towards_29
    · skip
      refine lv_aload_n hx hb dX0_towards_18 rfl (lv_at hl 0 rfl) ?_
      refine gA S hi0 hK hH ok_a 3 (by decide) f17 (v := va_rf (P 0 a)) rfl dX0_towards_19 ?_
      refine lv_goto (tgt := 29) hx hb dX0_towards_22 (by decide) ?_
      exact eA S hr hlocks (P 0 a) rfl hH hS ⟨by rw [twd, if_neg h1, if_pos (by simpa using h2)], rfl⟩ dX0_towards_29
  · skip
    refine lv_null hx hb dX0_towards_8 ?_
    exact eA S hr hlocks none rfl hH hS ⟨by rw [twd, if_pos h1], rfl⟩ dX0_towards_9

set_option maxRecDepth 100000 in
set_option maxHeartbeats 4000000 in
/-- the end of what is below a, on this side -/
theorem c_X0_leastUnder {a : Nat} {t : Tr} {par : Option Nat} (ok_a : okA L K a) (hrt : rt t = some a) (hrep : rep P par t) : Md l yX0_leastUnder wsX0_leastUnder (rmL 1 0 0) D lo Γ [.ref a] ((L, K, sz, si, P, bi, tu), M, V) (some (va_rf (tids t).head?)) ((L, K, sz, si, P, bi, tu), M, V) := by
  refine Mz_of (cc := cX0_leastUnder) (maxL := 2) (ret := (some (.object "SplayOrchard$Apple"))) (by decide) rfl (Nat.le_of_ble_eq_true rfl) ?_
  intro p e s m args below meth c ls S hr hlocks hK hH hS hl
  have hx := S.1
  have hb := S.2.1
  have hts := S.2.2.2.2
  have f17 : (Cond.fieldLink RX0 17 (TX0 3).1 (TX0 3).2.1 (TX0 3).2.2.1).before args s = true := hts _ (List.mem_of_getElem? (i := 1) rfl)
  have hi0 : ∀ w ∈ wsX00, w ∈ wsX0_leastUnder := by decide +kernel
  have hl : lv_has ls 2 [(0, .ref a)] := hl
  refine lv_aload_n hx hb dX0_leastUnder_0 rfl (lv_at hl 0 rfl) ?_
  refine lv_astore_n (lv' := [(1, .ref a), (0, .ref a)]) hx hb dX0_leastUnder_1 rfl hl (by decide) rfl (fun ls hl => ?_)
  have loop : ∀ (t' : Tr) (par' : Option Nat) (b : Nat), rt t' = some b → rep P par' t' → okA L K b → (tids t').head? = (tids t).head? → ∀ ls, lv_has ls 2 [(1, .ref b)] → W p l e (rmL 1 0 0) s m args below meth c s.heap [] 0 0 (MQ below (Qz D lo Γ (fun v Z' => v = (some (va_rf (tids t).head?)) ∧ Z' = ((L, K, sz, si, P, bi, tu), M, V))) args s ((rmL 1 0 0) : Room).cells ((rmL 1 0 0) : Room).slots (lA lo)) (F0 m 2 ls []) := by
    intro t'
    induction t' with
    | leaf u => intro par' b h; cases h
    | branch k l r ihl ihr =>
      intro par' b h1 h2 ok_b h3 ls hl
      cases h1
      obtain ⟨g2, g0, g1, gl, gr⟩ := h2
      rcases hq : P 0 k with _ | u
      · skip
        refine lv_aload_n hx hb dX0_leastUnder_2 rfl (lv_at hl 0 rfl) ?_
        refine gA S hi0 hK hH ok_b 3 (by decide) f17 (v := .null) (by show some (va_rf (P 0 k)) = _; rw [hq]; rfl) dX0_leastUnder_3 ?_
        refine lv_ifnullN hx hb dX0_leastUnder_6 (tgt := 17) (by decide) ?_
        refine lv_aload_n hx hb dX0_leastUnder_17 rfl (lv_at hl 0 rfl) ?_
        have he : (tids (.branch k l r)).head? = some k := by rw [rt_none (t := l) (by rw [← g0, hq])]; simp [tids]
        exact eA S hr hlocks (some k) rfl hH hS ⟨by rw [← h3, he], rfl⟩ dX0_leastUnder_18
      · skip
        have ok_u := hH.2.2.2.1 k ok_b 0 (by decide) u hq
        refine lv_aload_n hx hb dX0_leastUnder_2 rfl (lv_at hl 0 rfl) ?_
        refine gA S hi0 hK hH ok_b 3 (by decide) f17 (v := .ref u) (by show some (va_rf (P 0 k)) = _; rw [hq]; rfl) dX0_leastUnder_3 ?_
        refine lv_ifnull hx hb dX0_leastUnder_6 ?_
        refine lv_aload_n hx hb dX0_leastUnder_9 rfl (lv_at hl 0 rfl) ?_
        refine gA S hi0 hK hH ok_b 3 (by decide) f17 (v := .ref u) (by show some (va_rf (P 0 k)) = _; rw [hq]; rfl) dX0_leastUnder_10 ?_
        refine lv_astore_n (lv' := [(1, .ref u)]) hx hb dX0_leastUnder_13 rfl hl (by decide) rfl (fun ls hl => ?_)
        refine lv_goto (tgt := 2) hx hb dX0_leastUnder_14 (by decide) ?_
        have hru : rt l = some u := by rw [← g0, hq]
        refine ihl (some k) u hru gl ok_u ?_ ls (lv_sub hl [0] rfl)
        rw [← h3, tids_branch]
        have hne : tids l ≠ [] := fun h0 => by have := rt_mem hru; rw [h0] at this; cases this
        exact (hd_app hne).symm
  exact loop t par a hrt hrep ok_a rfl ls (lv_sub hl [0] rfl)

set_option maxRecDepth 100000 in
set_option maxHeartbeats 4000000 in
/-- the end of what is below a, on this side -/
theorem c_X0_greatestUnder {a : Nat} {t : Tr} {par : Option Nat} (ok_a : okA L K a) (hrt : rt t = some a) (hrep : rep P par t) : Md l yX0_greatestUnder wsX0_greatestUnder (rmL 1 0 0) D lo Γ [.ref a] ((L, K, sz, si, P, bi, tu), M, V) (some (va_rf (tids t).getLast?)) ((L, K, sz, si, P, bi, tu), M, V) := by
  refine Mz_of (cc := cX0_greatestUnder) (maxL := 2) (ret := (some (.object "SplayOrchard$Apple"))) (by decide) rfl (Nat.le_of_ble_eq_true rfl) ?_
  intro p e s m args below meth c ls S hr hlocks hK hH hS hl
  have hx := S.1
  have hb := S.2.1
  have hts := S.2.2.2.2
  have f23 : (Cond.fieldLink RX0 23 (TX0 4).1 (TX0 4).2.1 (TX0 4).2.2.1).before args s = true := hts _ (List.mem_of_getElem? (i := 1) rfl)
  have hi0 : ∀ w ∈ wsX00, w ∈ wsX0_greatestUnder := by decide +kernel
  have hl : lv_has ls 2 [(0, .ref a)] := hl
  refine lv_aload_n hx hb dX0_greatestUnder_0 rfl (lv_at hl 0 rfl) ?_
  refine lv_astore_n (lv' := [(1, .ref a), (0, .ref a)]) hx hb dX0_greatestUnder_1 rfl hl (by decide) rfl (fun ls hl => ?_)
  have loop : ∀ (t' : Tr) (par' : Option Nat) (b : Nat), rt t' = some b → rep P par' t' → okA L K b → (tids t').getLast? = (tids t).getLast? → ∀ ls, lv_has ls 2 [(1, .ref b)] → W p l e (rmL 1 0 0) s m args below meth c s.heap [] 0 0 (MQ below (Qz D lo Γ (fun v Z' => v = (some (va_rf (tids t).getLast?)) ∧ Z' = ((L, K, sz, si, P, bi, tu), M, V))) args s ((rmL 1 0 0) : Room).cells ((rmL 1 0 0) : Room).slots (lA lo)) (F0 m 2 ls []) := by
    intro t'
    induction t' with
    | leaf u => intro par' b h; cases h
    | branch k l r ihl ihr =>
      intro par' b h1 h2 ok_b h3 ls hl
      cases h1
      obtain ⟨g2, g0, g1, gl, gr⟩ := h2
      rcases hq : P 1 k with _ | u
      · skip
        refine lv_aload_n hx hb dX0_greatestUnder_2 rfl (lv_at hl 0 rfl) ?_
        refine gA S hi0 hK hH ok_b 4 (by decide) f23 (v := .null) (by show some (va_rf (P 1 k)) = _; rw [hq]; rfl) dX0_greatestUnder_3 ?_
        refine lv_ifnullN hx hb dX0_greatestUnder_6 (tgt := 17) (by decide) ?_
        refine lv_aload_n hx hb dX0_greatestUnder_17 rfl (lv_at hl 0 rfl) ?_
        have he : (tids (.branch k l r)).getLast? = some k := by rw [rt_none (t := r) (by rw [← g1, hq])]; simp [tids]
        exact eA S hr hlocks (some k) rfl hH hS ⟨by rw [← h3, he], rfl⟩ dX0_greatestUnder_18
      · skip
        have ok_u := hH.2.2.2.1 k ok_b 1 (by decide) u hq
        refine lv_aload_n hx hb dX0_greatestUnder_2 rfl (lv_at hl 0 rfl) ?_
        refine gA S hi0 hK hH ok_b 4 (by decide) f23 (v := .ref u) (by show some (va_rf (P 1 k)) = _; rw [hq]; rfl) dX0_greatestUnder_3 ?_
        refine lv_ifnull hx hb dX0_greatestUnder_6 ?_
        refine lv_aload_n hx hb dX0_greatestUnder_9 rfl (lv_at hl 0 rfl) ?_
        refine gA S hi0 hK hH ok_b 4 (by decide) f23 (v := .ref u) (by show some (va_rf (P 1 k)) = _; rw [hq]; rfl) dX0_greatestUnder_10 ?_
        refine lv_astore_n (lv' := [(1, .ref u)]) hx hb dX0_greatestUnder_13 rfl hl (by decide) rfl (fun ls hl => ?_)
        refine lv_goto (tgt := 2) hx hb dX0_greatestUnder_14 (by decide) ?_
        have hru : rt r = some u := by rw [← g1, hq]
        refine ihr (some k) u hru gr ok_u ?_ ls (lv_sub hl [0] rfl)
        rw [← h3, tids_branch]
        have hne : tids r ≠ [] := fun h0 => by have := rt_mem hru; rw [h0] at this; cases this
        exact (la_app hne).symm
  exact loop t par a hrt hrep ok_a rfl ls (lv_sub hl [0] rfl)
end MApple
end
section
/-! METHODS of SplayOrchard$Apple, the second part -/
def lnk (P : PF) (si : Nat → Option Nat) (a b : Nat) : PF := sP (sP (sP P 2 b ((P 2 a).bind si)) 0 b (((sP P 2 b ((P 2 a).bind si)) 0 a).bind si)) 1 b (((sP (sP P 2 b ((P 2 a).bind si)) 0 b (((sP P 2 b ((P 2 a).bind si)) 0 a).bind si)) 1 a).bind si)
theorem ite0 {b : Bool} (h : (if b = true then (1 : Int32) else 0) = 0) : b = false := by cases b with
  | false => rfl
  | true => exact absurd h (by decide)
theorem ite1 {b : Bool} (h : ¬ (if b = true then (1 : Int32) else 0) = 0) : b = true := by cases b with
  | true => rfl
  | false => exact absurd rfl h
theorem iol_sdd0 {P : PF} {a p : Nat} (h : P 2 a = some p) (h1 : iol P a = false) : sdd P a p = 1 := by
  unfold iol at h1
  rw [h] at h1
  unfold sdd
  rw [if_neg (by simpa using h1)]
theorem iol_sdd1 {P : PF} {a p : Nat} (h : P 2 a = some p) (h1 : iol P a = true) : sdd P a p = 0 := by
  unfold iol at h1
  rw [h] at h1
  unfold sdd
  rw [if_pos (by simpa using h1)]
theorem sP_tw {P : PF} {j a q : Nat} {v w : Option Nat} (h : j ≠ 2) : sP (sP P 2 a v) j q w = sP (sP (sP P 2 a v) j q w) 2 a v := by
  funext i x
  unfold sP
  by_cases h1 : i = 2 ∧ x = a
  · rw [if_pos h1, if_neg (fun e => h (e.1.symm.trans h1.1)), if_pos h1]
  · simp [h1]
theorem hng_tw {P : PF} {a q s : Nat} (h : s ≠ 2) : hng (sP P 2 a (some q)) (some a) (some q) s = sP (sP P 2 a (some q)) s q (some a) := (sP_tw h).symm
section MApple2
variable {l : Launch} {D : va_G} {lo : Nat} {Γ : GT} {L : List Nat} {K : Nat → Nat} {sz : Nat → Nat} {si : Nat → Option Nat} {P : PF} {bi : Nat → Nat} {tu : Nat} {M : MW} {V : Int64 × UInt64}
set_option maxRecDepth 100000 in
set_option maxHeartbeats 4000000 in
/-- a takes the place of the one above it -/
theorem c_X0_turn {a : Nat} (ok_a : okA L K a) : Md l yX0_turn wsX0_turn (rmL 2 0 0) D lo Γ [.ref a] ((L, K, sz, si, P, bi, tu), M, V) none ((L, K, sz, si, (trn P a), bi, tu), M, V) := by
  refine Mz_of (cc := cX0_turn) (maxL := 4) (ret := none) (by decide) rfl (Nat.le_of_ble_eq_true rfl) ?_
  intro p e s m args below meth c ls S hr hlocks hK hH hS hl
  have hx := S.1
  have hb := S.2.1
  have hts := S.2.2.2.2
  have f20 : (Cond.fieldLink RX0 20 (TX0 2).1 (TX0 2).2.1 (TX0 2).2.2.1).before args s = true := hts _ (List.mem_of_getElem? (i := 1) rfl)
  have f23 : (Cond.fieldLink RX0 23 (TX0 4).1 (TX0 4).2.1 (TX0 4).2.2.1).before args s = true := hts _ (List.mem_of_getElem? (i := 2) rfl)
  have f17 : (Cond.fieldLink RX0 17 (TX0 3).1 (TX0 3).2.1 (TX0 3).2.2.1).before args s = true := hts _ (List.mem_of_getElem? (i := 3) rfl)
  have hi0 : ∀ w ∈ wsX00, w ∈ wsX0_turn := by decide +kernel
  have hl : lv_has ls 4 [(0, .ref a)] := hl
  rcases hp : P 2 a with _ | p
  · skip
    refine lv_aload_n hx hb dX0_turn_0 rfl (lv_at hl 0 rfl) ?_
    refine gA S hi0 hK hH ok_a 2 (by decide) f20 (v := .null) (by show some (va_rf (P 2 a)) = _; rw [hp]; rfl) dX0_turn_1 ?_
    refine lv_astore_nN (lv' := [(1, .null), (0, .ref a)]) hx hb dX0_turn_4 rfl hl (by decide) rfl (fun ls hl => ?_)
    refine lv_aload_nN hx hb dX0_turn_5 rfl (lv_at hl 0 rfl) ?_
    refine lv_ifnonnullN hx hb dX0_turn_6 ?_
    exact eV S hr hlocks hH hS ⟨rfl, by rw [trn, hp]⟩ dX0_turn_9
  · skip
    have ok_p := hH.2.2.2.1 a ok_a 2 (by decide) p hp
    refine lv_aload_n hx hb dX0_turn_0 rfl (lv_at hl 0 rfl) ?_
    refine gA S hi0 hK hH ok_a 2 (by decide) f20 (v := .ref p) (by show some (va_rf (P 2 a)) = _; rw [hp]; rfl) dX0_turn_1 ?_
    refine lv_astore_n (lv' := [(1, .ref p), (0, .ref a)]) hx hb dX0_turn_4 rfl hl (by decide) rfl (fun ls hl => ?_)
    refine lv_aload_n hx hb dX0_turn_5 rfl (lv_at hl 0 rfl) ?_
    refine lv_ifnonnull hx hb dX0_turn_6 (tgt := 10) (by decide) ?_
    have okg : ∀ b, P 2 p = some b → okA L K b := fun b h => hH.2.2.2.1 p ok_p 2 (by decide) b h
    have okr : ∀ b, P 1 a = some b → okA L K b := fun b h => hH.2.2.2.1 a ok_a 1 (by decide) b h
    have okl : ∀ b, P 0 a = some b → okA L K b := fun b h => hH.2.2.2.1 a ok_a 0 (by decide) b h
    rcases hg : P 2 p with _ | q
    · skip
      refine lv_aload_n hx hb dX0_turn_10 rfl (lv_at hl 0 rfl) ?_
      refine gA S hi0 hK hH ok_p 2 (by decide) f20 (v := .null) (by show some (va_rf (P 2 p)) = _; rw [hg]; rfl) dX0_turn_11 ?_
      refine lv_astore_nN (lv' := [(2, .null), (1, .ref p), (0, .ref a)]) hx hb dX0_turn_14 rfl hl (by decide) rfl (fun ls hl => ?_)
      refine lv_aload_n hx hb dX0_turn_15 rfl (lv_at hl 1 rfl) ?_
      refine cV S (c_X0_isOnTheLeft (l := l) (D := D) (lo := lo) (Γ := Γ) (sz := sz) (si := si) (P := P) (bi := bi) (tu := tu) (M := M) (V := V) ok_p) (cwV 0 hts gX0_turn_X0_isOnTheLeft rfl rfl rfl (by decide +kernel) ⟨Nat.le_of_ble_eq_true rfl, Nat.le_of_ble_eq_true rfl⟩) hK hH (Hp_recv hK hH ok_p.1 ok_p.2 rfl) hS rfl hl.1 rfl (Nat.le_of_ble_eq_true rfl) dX0_turn_16 ⟨Nat.le_of_ble_eq_true rfl, Nat.le_of_ble_eq_true rfl⟩ (fun v Z1 H locs hpost hH hS => ?_)
      obtain ⟨rfl, rfl⟩ := hpost
      refine lv_istore_n (lv' := [(3, .int (if iol P p then 1 else 0)), (2, .null), (1, .ref p), (0, .ref a)]) hx hb dX0_turn_19 rfl hl (by decide) rfl (fun ls hl => ?_)
      refine lv_aload_n hx hb dX0_turn_20 rfl (lv_at hl 3 rfl) ?_
      refine cV S (c_X0_isOnTheLeft (l := l) (D := D) (lo := lo) (Γ := Γ) (sz := sz) (si := si) (P := P) (bi := bi) (tu := tu) (M := M) (V := V) ok_a) (cwV 0 hts gX0_turn_X0_isOnTheLeft rfl rfl rfl (by decide +kernel) ⟨Nat.le_of_ble_eq_true rfl, Nat.le_of_ble_eq_true rfl⟩) hK hH (Hp_recv hK hH ok_a.1 ok_a.2 rfl) hS rfl hl.1 rfl (Nat.le_of_ble_eq_true rfl) dX0_turn_21 ⟨Nat.le_of_ble_eq_true rfl, Nat.le_of_ble_eq_true rfl⟩ (fun v Z1 H locs hpost hH hS => ?_)
      obtain ⟨rfl, rfl⟩ := hpost
      refine lv_if_eq (tgt := 43) hx hb dX0_turn_24 (by decide) (fun h1 => ?_) (fun h1 => ?_)
      · skip
        have h1 := ite0 h1
        have hs : sdd P a p = 1 := iol_sdd0 hp h1
        refine lv_aload_n hx hb dX0_turn_43 rfl (lv_at hl 2 rfl) ?_
        refine lv_aload_n hx hb dX0_turn_44 rfl (lv_at hl 3 rfl) ?_
        refine gA S hi0 hK hH ok_a 3 (by decide) f17 (v := va_rf (P 0 a)) rfl dX0_turn_45 ?_
        refine cV S (c_X0_hangRight (l := l) (D := D) (lo := lo) (Γ := Γ) (sz := sz) (si := si) (P := P) (bi := bi) (tu := tu) (M := M) (V := V) (r := P 0 a) ok_p okl) (cwV 1 hts gX0_turn_X0_hangRight rfl rfl rfl (by decide +kernel) ⟨Nat.le_of_ble_eq_true rfl, Nat.le_of_ble_eq_true rfl⟩) hK hH (Hp_recv hK hH ok_p.1 ok_p.2 rfl) hS rfl hl.1 rfl (Nat.le_of_ble_eq_true rfl) dX0_turn_48 ⟨Nat.le_of_ble_eq_true rfl, Nat.le_of_ble_eq_true rfl⟩ (fun v Z1 H locs hpost hH hS => ?_)
        obtain ⟨rfl, rfl⟩ := hpost
        refine lv_aload_n hx hb dX0_turn_51 rfl (lv_at hl 3 rfl) ?_
        refine lv_aload_n hx hb dX0_turn_52 rfl (lv_at hl 2 rfl) ?_
        refine cV S (c_X0_hangLeft (l := l) (D := D) (lo := lo) (Γ := Γ) (sz := sz) (si := si) (P := (hng P (P 0 a) (some p) 1)) (bi := bi) (tu := tu) (M := M) (V := V) (r := some p) ok_a (fun b h => by cases h; exact ok_p)) (cwV 1 hts gX0_turn_X0_hangLeft rfl rfl rfl (by decide +kernel) ⟨Nat.le_of_ble_eq_true rfl, Nat.le_of_ble_eq_true rfl⟩) hK hH (Hp_recv hK hH ok_a.1 ok_a.2 rfl) hS rfl hl.1 rfl (Nat.le_of_ble_eq_true rfl) dX0_turn_53 ⟨Nat.le_of_ble_eq_true rfl, Nat.le_of_ble_eq_true rfl⟩ (fun v Z1 H locs hpost hH hS => ?_)
        obtain ⟨rfl, rfl⟩ := hpost
        refine lv_aload_n hx hb dX0_turn_56 rfl (lv_at hl 3 rfl) ?_
        refine lv_aload_nN hx hb dX0_turn_57 rfl (lv_at hl 1 rfl) ?_
        refine pA S hi0 hK hH hS ok_a 2 none (fun b h => by cases h) 2 (by decide) (by decide) f20 rfl dX0_turn_58 (fun H locs hH hS => ?_)
        refine lv_aload_nN hx hb dX0_turn_61 rfl (lv_at hl 1 rfl) ?_
        refine lv_ifnullN hx hb dX0_turn_62 (tgt := 77) (by decide) ?_
        refine lv_aload_nN hx hb dX0_turn_77 rfl (lv_at hl 1 rfl) ?_
        refine lv_ifnullN hx hb dX0_turn_78 (tgt := 86) (by decide) ?_
        exact eV S hr hlocks hH hS ⟨rfl, by rw [trn, hp]; dsimp only; rw [hg, hs]⟩ dX0_turn_86
      · skip
        have h1 := ite1 h1
        have hs : sdd P a p = 0 := iol_sdd1 hp h1
        refine lv_aload_n hx hb dX0_turn_27 rfl (lv_at hl 2 rfl) ?_
        refine lv_aload_n hx hb dX0_turn_28 rfl (lv_at hl 3 rfl) ?_
        refine gA S hi0 hK hH ok_a 4 (by decide) f23 (v := va_rf (P 1 a)) rfl dX0_turn_29 ?_
        refine cV S (c_X0_hangLeft (l := l) (D := D) (lo := lo) (Γ := Γ) (sz := sz) (si := si) (P := P) (bi := bi) (tu := tu) (M := M) (V := V) (r := P 1 a) ok_p okr) (cwV 1 hts gX0_turn_X0_hangLeft rfl rfl rfl (by decide +kernel) ⟨Nat.le_of_ble_eq_true rfl, Nat.le_of_ble_eq_true rfl⟩) hK hH (Hp_recv hK hH ok_p.1 ok_p.2 rfl) hS rfl hl.1 rfl (Nat.le_of_ble_eq_true rfl) dX0_turn_32 ⟨Nat.le_of_ble_eq_true rfl, Nat.le_of_ble_eq_true rfl⟩ (fun v Z1 H locs hpost hH hS => ?_)
        obtain ⟨rfl, rfl⟩ := hpost
        refine lv_aload_n hx hb dX0_turn_35 rfl (lv_at hl 3 rfl) ?_
        refine lv_aload_n hx hb dX0_turn_36 rfl (lv_at hl 2 rfl) ?_
        refine cV S (c_X0_hangRight (l := l) (D := D) (lo := lo) (Γ := Γ) (sz := sz) (si := si) (P := (hng P (P 1 a) (some p) 0)) (bi := bi) (tu := tu) (M := M) (V := V) (r := some p) ok_a (fun b h => by cases h; exact ok_p)) (cwV 1 hts gX0_turn_X0_hangRight rfl rfl rfl (by decide +kernel) ⟨Nat.le_of_ble_eq_true rfl, Nat.le_of_ble_eq_true rfl⟩) hK hH (Hp_recv hK hH ok_a.1 ok_a.2 rfl) hS rfl hl.1 rfl (Nat.le_of_ble_eq_true rfl) dX0_turn_37 ⟨Nat.le_of_ble_eq_true rfl, Nat.le_of_ble_eq_true rfl⟩ (fun v Z1 H locs hpost hH hS => ?_)
        obtain ⟨rfl, rfl⟩ := hpost
        refine lv_goto (tgt := 56) hx hb dX0_turn_40 (by decide) ?_
        refine lv_aload_n hx hb dX0_turn_56 rfl (lv_at hl 3 rfl) ?_
        refine lv_aload_nN hx hb dX0_turn_57 rfl (lv_at hl 1 rfl) ?_
        refine pA S hi0 hK hH hS ok_a 2 none (fun b h => by cases h) 2 (by decide) (by decide) f20 rfl dX0_turn_58 (fun H locs hH hS => ?_)
        refine lv_aload_nN hx hb dX0_turn_61 rfl (lv_at hl 1 rfl) ?_
        refine lv_ifnullN hx hb dX0_turn_62 (tgt := 77) (by decide) ?_
        refine lv_aload_nN hx hb dX0_turn_77 rfl (lv_at hl 1 rfl) ?_
        refine lv_ifnullN hx hb dX0_turn_78 (tgt := 86) (by decide) ?_
        exact eV S hr hlocks hH hS ⟨rfl, by rw [trn, hp]; dsimp only; rw [hg, hs]⟩ dX0_turn_86
    · skip
      have ok_q := okg q hg
      refine lv_aload_n hx hb dX0_turn_10 rfl (lv_at hl 0 rfl) ?_
      refine gA S hi0 hK hH ok_p 2 (by decide) f20 (v := .ref q) (by show some (va_rf (P 2 p)) = _; rw [hg]; rfl) dX0_turn_11 ?_
      refine lv_astore_n (lv' := [(2, .ref q), (1, .ref p), (0, .ref a)]) hx hb dX0_turn_14 rfl hl (by decide) rfl (fun ls hl => ?_)
      refine lv_aload_n hx hb dX0_turn_15 rfl (lv_at hl 1 rfl) ?_
      refine cV S (c_X0_isOnTheLeft (l := l) (D := D) (lo := lo) (Γ := Γ) (sz := sz) (si := si) (P := P) (bi := bi) (tu := tu) (M := M) (V := V) ok_p) (cwV 0 hts gX0_turn_X0_isOnTheLeft rfl rfl rfl (by decide +kernel) ⟨Nat.le_of_ble_eq_true rfl, Nat.le_of_ble_eq_true rfl⟩) hK hH (Hp_recv hK hH ok_p.1 ok_p.2 rfl) hS rfl hl.1 rfl (Nat.le_of_ble_eq_true rfl) dX0_turn_16 ⟨Nat.le_of_ble_eq_true rfl, Nat.le_of_ble_eq_true rfl⟩ (fun v Z1 H locs hpost hH hS => ?_)
      obtain ⟨rfl, rfl⟩ := hpost
      refine lv_istore_n (lv' := [(3, .int (if iol P p then 1 else 0)), (2, .ref q), (1, .ref p), (0, .ref a)]) hx hb dX0_turn_19 rfl hl (by decide) rfl (fun ls hl => ?_)
      refine lv_aload_n hx hb dX0_turn_20 rfl (lv_at hl 3 rfl) ?_
      refine cV S (c_X0_isOnTheLeft (l := l) (D := D) (lo := lo) (Γ := Γ) (sz := sz) (si := si) (P := P) (bi := bi) (tu := tu) (M := M) (V := V) ok_a) (cwV 0 hts gX0_turn_X0_isOnTheLeft rfl rfl rfl (by decide +kernel) ⟨Nat.le_of_ble_eq_true rfl, Nat.le_of_ble_eq_true rfl⟩) hK hH (Hp_recv hK hH ok_a.1 ok_a.2 rfl) hS rfl hl.1 rfl (Nat.le_of_ble_eq_true rfl) dX0_turn_21 ⟨Nat.le_of_ble_eq_true rfl, Nat.le_of_ble_eq_true rfl⟩ (fun v Z1 H locs hpost hH hS => ?_)
      obtain ⟨rfl, rfl⟩ := hpost
      refine lv_if_eq (tgt := 43) hx hb dX0_turn_24 (by decide) (fun h1 => ?_) (fun h1 => ?_)
      · skip
        have h1 := ite0 h1
        have hs : sdd P a p = 1 := iol_sdd0 hp h1
        refine lv_aload_n hx hb dX0_turn_43 rfl (lv_at hl 2 rfl) ?_
        refine lv_aload_n hx hb dX0_turn_44 rfl (lv_at hl 3 rfl) ?_
        refine gA S hi0 hK hH ok_a 3 (by decide) f17 (v := va_rf (P 0 a)) rfl dX0_turn_45 ?_
        refine cV S (c_X0_hangRight (l := l) (D := D) (lo := lo) (Γ := Γ) (sz := sz) (si := si) (P := P) (bi := bi) (tu := tu) (M := M) (V := V) (r := P 0 a) ok_p okl) (cwV 1 hts gX0_turn_X0_hangRight rfl rfl rfl (by decide +kernel) ⟨Nat.le_of_ble_eq_true rfl, Nat.le_of_ble_eq_true rfl⟩) hK hH (Hp_recv hK hH ok_p.1 ok_p.2 rfl) hS rfl hl.1 rfl (Nat.le_of_ble_eq_true rfl) dX0_turn_48 ⟨Nat.le_of_ble_eq_true rfl, Nat.le_of_ble_eq_true rfl⟩ (fun v Z1 H locs hpost hH hS => ?_)
        obtain ⟨rfl, rfl⟩ := hpost
        refine lv_aload_n hx hb dX0_turn_51 rfl (lv_at hl 3 rfl) ?_
        refine lv_aload_n hx hb dX0_turn_52 rfl (lv_at hl 2 rfl) ?_
        refine cV S (c_X0_hangLeft (l := l) (D := D) (lo := lo) (Γ := Γ) (sz := sz) (si := si) (P := (hng P (P 0 a) (some p) 1)) (bi := bi) (tu := tu) (M := M) (V := V) (r := some p) ok_a (fun b h => by cases h; exact ok_p)) (cwV 1 hts gX0_turn_X0_hangLeft rfl rfl rfl (by decide +kernel) ⟨Nat.le_of_ble_eq_true rfl, Nat.le_of_ble_eq_true rfl⟩) hK hH (Hp_recv hK hH ok_a.1 ok_a.2 rfl) hS rfl hl.1 rfl (Nat.le_of_ble_eq_true rfl) dX0_turn_53 ⟨Nat.le_of_ble_eq_true rfl, Nat.le_of_ble_eq_true rfl⟩ (fun v Z1 H locs hpost hH hS => ?_)
        obtain ⟨rfl, rfl⟩ := hpost
        refine lv_aload_n hx hb dX0_turn_56 rfl (lv_at hl 3 rfl) ?_
        refine lv_aload_n hx hb dX0_turn_57 rfl (lv_at hl 1 rfl) ?_
        refine pA S hi0 hK hH hS ok_a 2 (some q) (fun b h => by cases h; exact ok_q) 2 (by decide) (by decide) f20 rfl dX0_turn_58 (fun H locs hH hS => ?_)
        refine lv_aload_n hx hb dX0_turn_61 rfl (lv_at hl 1 rfl) ?_
        refine lv_ifnull hx hb dX0_turn_62 ?_
        refine lv_iload_n hx hb dX0_turn_65 rfl (lv_at hl 0 rfl) ?_
        refine lv_if_eq (tgt := 77) hx hb dX0_turn_66 (by decide) (fun h2 => ?_) (fun h2 => ?_)
        · skip
          have h2 := ite0 h2
          have hs2 : sdd P p q = 1 := iol_sdd0 hg h2
          refine lv_aload_n hx hb dX0_turn_77 rfl (lv_at hl 1 rfl) ?_
          refine lv_ifnull hx hb dX0_turn_78 ?_
          refine lv_aload_n hx hb dX0_turn_81 rfl (lv_at hl 1 rfl) ?_
          refine lv_aload_n hx hb dX0_turn_82 rfl (lv_at hl 3 rfl) ?_
          refine cV S (c_X0_hangRight (l := l) (D := D) (lo := lo) (Γ := Γ) (sz := sz) (si := si) (P := (sP (hng (hng P (P 0 a) (some p) 1) (some p) (some a) 0) 2 a (some q))) (bi := bi) (tu := tu) (M := M) (V := V) (r := some a) ok_q (fun b h => by cases h; exact ok_a)) (cwV 1 hts gX0_turn_X0_hangRight rfl rfl rfl (by decide +kernel) ⟨Nat.le_of_ble_eq_true rfl, Nat.le_of_ble_eq_true rfl⟩) hK hH (Hp_recv hK hH ok_q.1 ok_q.2 rfl) hS rfl hl.1 rfl (Nat.le_of_ble_eq_true rfl) dX0_turn_83 ⟨Nat.le_of_ble_eq_true rfl, Nat.le_of_ble_eq_true rfl⟩ (fun v Z1 H locs hpost hH hS => ?_)
          obtain ⟨rfl, rfl⟩ := hpost
          exact eV S hr hlocks hH hS ⟨rfl, by rw [trn, hp]; dsimp only; rw [hg, hs]; dsimp only; rw [hs2]; exact congrArg (fun X => ((L, K, sz, si, X, bi, tu), M, V)) (hng_tw (s := 1) (by decide))⟩ dX0_turn_86
        · skip
          have h2 := ite1 h2
          have hs2 : sdd P p q = 0 := iol_sdd1 hg h2
          refine lv_aload_n hx hb dX0_turn_69 rfl (lv_at hl 1 rfl) ?_
          refine lv_aload_n hx hb dX0_turn_70 rfl (lv_at hl 3 rfl) ?_
          refine cV S (c_X0_hangLeft (l := l) (D := D) (lo := lo) (Γ := Γ) (sz := sz) (si := si) (P := (sP (hng (hng P (P 0 a) (some p) 1) (some p) (some a) 0) 2 a (some q))) (bi := bi) (tu := tu) (M := M) (V := V) (r := some a) ok_q (fun b h => by cases h; exact ok_a)) (cwV 1 hts gX0_turn_X0_hangLeft rfl rfl rfl (by decide +kernel) ⟨Nat.le_of_ble_eq_true rfl, Nat.le_of_ble_eq_true rfl⟩) hK hH (Hp_recv hK hH ok_q.1 ok_q.2 rfl) hS rfl hl.1 rfl (Nat.le_of_ble_eq_true rfl) dX0_turn_71 ⟨Nat.le_of_ble_eq_true rfl, Nat.le_of_ble_eq_true rfl⟩ (fun v Z1 H locs hpost hH hS => ?_)
          obtain ⟨rfl, rfl⟩ := hpost
          refine lv_goto (tgt := 86) hx hb dX0_turn_74 (by decide) ?_
          exact eV S hr hlocks hH hS ⟨rfl, by rw [trn, hp]; dsimp only; rw [hg, hs]; dsimp only; rw [hs2]; exact congrArg (fun X => ((L, K, sz, si, X, bi, tu), M, V)) (hng_tw (s := 0) (by decide))⟩ dX0_turn_86
      · skip
        have h1 := ite1 h1
        have hs : sdd P a p = 0 := iol_sdd1 hp h1
        refine lv_aload_n hx hb dX0_turn_27 rfl (lv_at hl 2 rfl) ?_
        refine lv_aload_n hx hb dX0_turn_28 rfl (lv_at hl 3 rfl) ?_
        refine gA S hi0 hK hH ok_a 4 (by decide) f23 (v := va_rf (P 1 a)) rfl dX0_turn_29 ?_
        refine cV S (c_X0_hangLeft (l := l) (D := D) (lo := lo) (Γ := Γ) (sz := sz) (si := si) (P := P) (bi := bi) (tu := tu) (M := M) (V := V) (r := P 1 a) ok_p okr) (cwV 1 hts gX0_turn_X0_hangLeft rfl rfl rfl (by decide +kernel) ⟨Nat.le_of_ble_eq_true rfl, Nat.le_of_ble_eq_true rfl⟩) hK hH (Hp_recv hK hH ok_p.1 ok_p.2 rfl) hS rfl hl.1 rfl (Nat.le_of_ble_eq_true rfl) dX0_turn_32 ⟨Nat.le_of_ble_eq_true rfl, Nat.le_of_ble_eq_true rfl⟩ (fun v Z1 H locs hpost hH hS => ?_)
        obtain ⟨rfl, rfl⟩ := hpost
        refine lv_aload_n hx hb dX0_turn_35 rfl (lv_at hl 3 rfl) ?_
        refine lv_aload_n hx hb dX0_turn_36 rfl (lv_at hl 2 rfl) ?_
        refine cV S (c_X0_hangRight (l := l) (D := D) (lo := lo) (Γ := Γ) (sz := sz) (si := si) (P := (hng P (P 1 a) (some p) 0)) (bi := bi) (tu := tu) (M := M) (V := V) (r := some p) ok_a (fun b h => by cases h; exact ok_p)) (cwV 1 hts gX0_turn_X0_hangRight rfl rfl rfl (by decide +kernel) ⟨Nat.le_of_ble_eq_true rfl, Nat.le_of_ble_eq_true rfl⟩) hK hH (Hp_recv hK hH ok_a.1 ok_a.2 rfl) hS rfl hl.1 rfl (Nat.le_of_ble_eq_true rfl) dX0_turn_37 ⟨Nat.le_of_ble_eq_true rfl, Nat.le_of_ble_eq_true rfl⟩ (fun v Z1 H locs hpost hH hS => ?_)
        obtain ⟨rfl, rfl⟩ := hpost
        refine lv_goto (tgt := 56) hx hb dX0_turn_40 (by decide) ?_
        refine lv_aload_n hx hb dX0_turn_56 rfl (lv_at hl 3 rfl) ?_
        refine lv_aload_n hx hb dX0_turn_57 rfl (lv_at hl 1 rfl) ?_
        refine pA S hi0 hK hH hS ok_a 2 (some q) (fun b h => by cases h; exact ok_q) 2 (by decide) (by decide) f20 rfl dX0_turn_58 (fun H locs hH hS => ?_)
        refine lv_aload_n hx hb dX0_turn_61 rfl (lv_at hl 1 rfl) ?_
        refine lv_ifnull hx hb dX0_turn_62 ?_
        refine lv_iload_n hx hb dX0_turn_65 rfl (lv_at hl 0 rfl) ?_
        refine lv_if_eq (tgt := 77) hx hb dX0_turn_66 (by decide) (fun h2 => ?_) (fun h2 => ?_)
        · skip
          have h2 := ite0 h2
          have hs2 : sdd P p q = 1 := iol_sdd0 hg h2
          refine lv_aload_n hx hb dX0_turn_77 rfl (lv_at hl 1 rfl) ?_
          refine lv_ifnull hx hb dX0_turn_78 ?_
          refine lv_aload_n hx hb dX0_turn_81 rfl (lv_at hl 1 rfl) ?_
          refine lv_aload_n hx hb dX0_turn_82 rfl (lv_at hl 3 rfl) ?_
          refine cV S (c_X0_hangRight (l := l) (D := D) (lo := lo) (Γ := Γ) (sz := sz) (si := si) (P := (sP (hng (hng P (P 1 a) (some p) 0) (some p) (some a) 1) 2 a (some q))) (bi := bi) (tu := tu) (M := M) (V := V) (r := some a) ok_q (fun b h => by cases h; exact ok_a)) (cwV 1 hts gX0_turn_X0_hangRight rfl rfl rfl (by decide +kernel) ⟨Nat.le_of_ble_eq_true rfl, Nat.le_of_ble_eq_true rfl⟩) hK hH (Hp_recv hK hH ok_q.1 ok_q.2 rfl) hS rfl hl.1 rfl (Nat.le_of_ble_eq_true rfl) dX0_turn_83 ⟨Nat.le_of_ble_eq_true rfl, Nat.le_of_ble_eq_true rfl⟩ (fun v Z1 H locs hpost hH hS => ?_)
          obtain ⟨rfl, rfl⟩ := hpost
          exact eV S hr hlocks hH hS ⟨rfl, by rw [trn, hp]; dsimp only; rw [hg, hs]; dsimp only; rw [hs2]; exact congrArg (fun X => ((L, K, sz, si, X, bi, tu), M, V)) (hng_tw (s := 1) (by decide))⟩ dX0_turn_86
        · skip
          have h2 := ite1 h2
          have hs2 : sdd P p q = 0 := iol_sdd1 hg h2
          refine lv_aload_n hx hb dX0_turn_69 rfl (lv_at hl 1 rfl) ?_
          refine lv_aload_n hx hb dX0_turn_70 rfl (lv_at hl 3 rfl) ?_
          refine cV S (c_X0_hangLeft (l := l) (D := D) (lo := lo) (Γ := Γ) (sz := sz) (si := si) (P := (sP (hng (hng P (P 1 a) (some p) 0) (some p) (some a) 1) 2 a (some q))) (bi := bi) (tu := tu) (M := M) (V := V) (r := some a) ok_q (fun b h => by cases h; exact ok_a)) (cwV 1 hts gX0_turn_X0_hangLeft rfl rfl rfl (by decide +kernel) ⟨Nat.le_of_ble_eq_true rfl, Nat.le_of_ble_eq_true rfl⟩) hK hH (Hp_recv hK hH ok_q.1 ok_q.2 rfl) hS rfl hl.1 rfl (Nat.le_of_ble_eq_true rfl) dX0_turn_71 ⟨Nat.le_of_ble_eq_true rfl, Nat.le_of_ble_eq_true rfl⟩ (fun v Z1 H locs hpost hH hS => ?_)
          obtain ⟨rfl, rfl⟩ := hpost
          refine lv_goto (tgt := 86) hx hb dX0_turn_74 (by decide) ?_
          exact eV S hr hlocks hH hS ⟨rfl, by rw [trn, hp]; dsimp only; rw [hg, hs]; dsimp only; rw [hs2]; exact congrArg (fun X => ((L, K, sz, si, X, bi, tu), M, V)) (hng_tw (s := 0) (by decide))⟩ dX0_turn_86

set_option maxRecDepth 100000 in
set_option maxHeartbeats 4000000 in
/-- the next greater one -/
theorem c_X0_next {a : Nat} {lt rt0 : Tr} {C : Cx} (ok_a : okA L K a) (hz : Zp P (.branch a lt rt0) C) (hn : (tids (plug (.branch a lt rt0) C)).Nodup) : Md l yX0_next wsX0_next (rmL 2 0 0) D lo Γ [.ref a] ((L, K, sz, si, P, bi, tu), M, V) (some (va_rf (tids rt0 ++ cR C).head?)) ((L, K, sz, si, P, bi, tu), M, V) := by
  refine Mz_of (cc := cX0_next) (maxL := 2) (ret := (some (.object "SplayOrchard$Apple"))) (by decide) rfl (Nat.le_of_ble_eq_true rfl) ?_
  intro p e s m args below meth c ls S hr hlocks hK hH hS hl
  have hx := S.1
  have hb := S.2.1
  have hts := S.2.2.2.2
  have f23 : (Cond.fieldLink RX0 23 (TX0 4).1 (TX0 4).2.1 (TX0 4).2.2.1).before args s = true := hts _ (List.mem_of_getElem? (i := 1) rfl)
  have f20 : (Cond.fieldLink RX0 20 (TX0 2).1 (TX0 2).2.1 (TX0 2).2.2.1).before args s = true := hts _ (List.mem_of_getElem? (i := 2) rfl)
  have hi0 : ∀ w ∈ wsX00, w ∈ wsX0_next := by decide +kernel
  have hl : lv_has ls 2 [(0, .ref a)] := hl
  obtain ⟨⟨z2, z0, z1, zl, zr⟩, zC⟩ := hz
  rcases hq : P 1 a with _ | u
  · skip
    refine lv_aload_n hx hb dX0_next_0 rfl (lv_at hl 0 rfl) ?_
    refine gA S hi0 hK hH ok_a 4 (by decide) f23 (v := .null) (by show some (va_rf (P 1 a)) = _; rw [hq]; rfl) dX0_next_1 ?_
    refine lv_ifnullN hx hb dX0_next_4 (tgt := 15) (by decide) ?_
    refine lv_aload_n hx hb dX0_next_15 rfl (lv_at hl 0 rfl) ?_
    refine lv_astore_n (lv' := [(1, .ref a), (0, .ref a)]) hx hb dX0_next_16 rfl hl (by decide) rfl (fun ls hl => ?_)
    have hrt0 : rt0 = .leaf () := rt_none (by rw [← z1, hq])
    have loop : ∀ (C' : Cx) (b : Nat), P 2 b = parC C' → repC P (some b) C' → (b ∉ cL C' ∧ b ∉ cR C') → (cL C' ++ cR C').Nodup → okA L K b → (cR C').head? = (tids rt0 ++ cR C).head? → ∀ ls, lv_has ls 2 [(1, .ref b)] → W p l e (rmL 2 0 0) s m args below meth c s.heap [] 0 0 (MQ below (Qz D lo Γ (fun v Z' => v = (some (va_rf (tids rt0 ++ cR C).head?)) ∧ Z' = ((L, K, sz, si, P, bi, tu), M, V))) args s ((rmL 2 0 0) : Room).cells ((rmL 2 0 0) : Room).slots (lA lo)) (F0 m 17 ls []) := by
      intro C'
      induction C' with
      | nil =>
        intro b h2 hC hnb hnd ok_b h3 ls hl
        have hq2 : P 2 b = none := h2
        refine lv_aload_n hx hb dX0_next_17 rfl (lv_at hl 0 rfl) ?_
        refine gA S hi0 hK hH ok_b 2 (by decide) f20 (v := .null) (by show some (va_rf (P 2 b)) = _; rw [hq2]; rfl) dX0_next_18 ?_
        refine lv_ifnullN hx hb dX0_next_21 (tgt := 43) (by decide) ?_
        refine lv_aload_n hx hb dX0_next_43 rfl (lv_at hl 0 rfl) ?_
        refine gA S hi0 hK hH ok_b 2 (by decide) f20 (v := .null) (by show some (va_rf (P 2 b)) = _; rw [hq2]; rfl) dX0_next_44 ?_
        exact eA S hr hlocks none rfl hH hS ⟨by rw [← h3]; rfl, rfl⟩ dX0_next_47
      | cons f C' ih =>
        intro b h2 hC hnb hnd ok_b h3 ls hl
        obtain ⟨s0, p0, u0⟩ := f
        have hq2 : P 2 b = some p0 := h2
        have ok_p0 := hH.2.2.2.1 b ok_b 2 (by decide) p0 hq2
        obtain ⟨d1, d2, d3, d4, d5⟩ := hC
        refine lv_aload_n hx hb dX0_next_17 rfl (lv_at hl 0 rfl) ?_
        refine gA S hi0 hK hH ok_b 2 (by decide) f20 (v := .ref p0) (by show some (va_rf (P 2 b)) = _; rw [hq2]; rfl) dX0_next_18 ?_
        refine lv_ifnull hx hb dX0_next_21 ?_
        refine lv_aload_n hx hb dX0_next_24 rfl (lv_at hl 0 rfl) ?_
        refine gA S hi0 hK hH ok_b 2 (by decide) f20 (v := .ref p0) (by show some (va_rf (P 2 b)) = _; rw [hq2]; rfl) dX0_next_25 ?_
        refine gA S hi0 hK hH ok_p0 4 (by decide) f23 (v := va_rf (P 1 p0)) rfl dX0_next_28 ?_
        refine lv_aload_n hx hb dX0_next_31 rfl (lv_at hl 0 rfl) ?_
        refine lv_acmp_ne (rx := P 1 p0) (ry := some b) (tgt := 43) hx hb dX0_next_32 (by decide) (fun hq3 => ?_) (fun hq3 => ?_)
        · skip
          refine lv_aload_n hx hb dX0_next_43 rfl (lv_at hl 0 rfl) ?_
          refine gA S hi0 hK hH ok_b 2 (by decide) f20 (v := .ref p0) (by show some (va_rf (P 2 b)) = _; rw [hq2]; rfl) dX0_next_44 ?_
          have hs0 : s0 = false := by
            cases s0
            · rfl
            · exact absurd d1 hq3
          subst hs0
          exact eA S hr hlocks (some p0) rfl hH hS ⟨by rw [← h3]; rfl, rfl⟩ dX0_next_47
        · skip
          refine lv_aload_n hx hb dX0_next_35 rfl (lv_at hl 0 rfl) ?_
          refine gA S hi0 hK hH ok_b 2 (by decide) f20 (v := .ref p0) (by show some (va_rf (P 2 b)) = _; rw [hq2]; rfl) dX0_next_36 ?_
          refine lv_astore_n (lv' := [(1, .ref p0)]) hx hb dX0_next_39 rfl hl (by decide) rfl (fun ls hl => ?_)
          refine lv_goto (tgt := 17) hx hb dX0_next_40 (by decide) ?_
          have hs0 : s0 = true := by
            cases s0
            · exact absurd (rt_mem (d2.symm.trans hq3)) (fun q => hnb.2 (by simp [cR, q]))
            · rfl
          subst hs0
          have hnp : p0 ∉ cL C' ∧ p0 ∉ cR C' := by
            simp only [cL, cR, cond_true, List.nil_append, List.nodup_append, List.mem_append, List.mem_cons] at hnd
            refine ⟨?_, ?_⟩ <;> grind (splits := 20)
          have hnd' : (cL C' ++ cR C').Nodup := by
            simp only [cL, cR, cond_true, List.nil_append, List.nodup_append, List.mem_append, List.mem_cons] at hnd ⊢
            refine ⟨?_, ?_, ?_⟩ <;> grind (splits := 20)
          exact ih p0 d4 d5 hnp hnd' ok_p0 h3 ls (lv_sub hl [0] rfl)
    rw [tids_plug, hrt0] at hn
    have hna : (a ∉ cL C ∧ a ∉ cR C) ∧ (cL C ++ cR C).Nodup := by
      simp only [tids, List.nodup_append, List.mem_append, List.mem_cons] at hn ⊢
      refine ⟨⟨?_, ?_⟩, ?_, ?_, ?_⟩ <;> grind (splits := 20)
    exact loop C a z2 zC hna.1 hna.2 ok_a (by rw [hrt0]; rfl) ls (lv_sub hl [0] rfl)
  · skip
    have ok_u := hH.2.2.2.1 a ok_a 1 (by decide) u hq
    refine lv_aload_n hx hb dX0_next_0 rfl (lv_at hl 0 rfl) ?_
    refine gA S hi0 hK hH ok_a 4 (by decide) f23 (v := .ref u) (by show some (va_rf (P 1 a)) = _; rw [hq]; rfl) dX0_next_1 ?_
    refine lv_ifnull hx hb dX0_next_4 ?_
    refine lv_aload_n hx hb dX0_next_7 rfl (lv_at hl 0 rfl) ?_
    refine gA S hi0 hK hH ok_a 4 (by decide) f23 (v := .ref u) (by show some (va_rf (P 1 a)) = _; rw [hq]; rfl) dX0_next_8 ?_
    have hru : rt rt0 = some u := by rw [← z1, hq]
    refine cV S (c_X0_leastUnder (l := l) (D := D) (lo := lo) (Γ := Γ) (sz := sz) (si := si) (P := P) (bi := bi) (tu := tu) (M := M) (V := V) ok_u hru zr) (cwV 0 hts gX0_next_X0_leastUnder rfl rfl rfl (by decide +kernel) ⟨Nat.le_of_ble_eq_true rfl, Nat.le_of_ble_eq_true rfl⟩) hK hH (Hp_recv hK hH ok_u.1 ok_u.2 rfl) hS rfl hl.1 rfl (Nat.le_of_ble_eq_true rfl) dX0_next_11 ⟨Nat.le_of_ble_eq_true rfl, Nat.le_of_ble_eq_true rfl⟩ (fun v Z1 H locs hpost hH hS => ?_)
    obtain ⟨rfl, rfl⟩ := hpost
    exact eA S hr hlocks _ rfl hH hS ⟨by rw [hd_app (fun h0 => by have := rt_mem hru; rw [h0] at this; cases this)], rfl⟩ dX0_next_14

set_option maxRecDepth 100000 in
set_option maxHeartbeats 4000000 in
/-- who stands in for it -/
theorem c_X0_standInOf {r : Option Nat} (okq : ∀ b, r = some b → okA L K b) : Md l yX0_standInOf wsX0_standInOf (rmL 1 0 0) D lo Γ [va_rf r] ((L, K, sz, si, P, bi, tu), M, V) (some (va_rf (r.bind si))) ((L, K, sz, si, P, bi, tu), M, V) := by
  refine Mz_of (cc := cX0_standInOf) (maxL := 1) (ret := (some (.object "SplayOrchard$Apple"))) (by decide) rfl (by cases r <;> exact Nat.le_of_ble_eq_true rfl) ?_
  intro p e s m args below meth c ls S hr hlocks hK hH hS hl
  have hx := S.1
  have hb := S.2.1
  have hts := S.2.2.2.2
  have f13 : (Cond.fieldLink RX0 13 (TX0 1).1 (TX0 1).2.1 (TX0 1).2.2.1).before args s = true := hts _ (List.mem_of_getElem? (i := 1) rfl)
  have hi0 : ∀ w ∈ wsX00, w ∈ wsX0_standInOf := by decide +kernel
  have hl : lv_has ls 1 [(0, va_rf r)] := hl
  refine lq_aload_n S dX0_standInOf_0 rfl (lv_at hl 0 rfl) ?_
  refine lq_ifnonnull S dX0_standInOf_1 (tgt := 8) (by decide) (fun x hq => ?_) (fun hq => ?_)
  · skip
    subst hq
    have ok_x := okq x rfl
    refine lv_aload_n hx hb dX0_standInOf_8 rfl (lv_at hl 0 rfl) ?_
    refine gA S hi0 hK hH ok_x 1 (by decide) f13 (v := va_rf (si x)) rfl dX0_standInOf_9 ?_
    exact eA S hr hlocks (si x) rfl hH hS ⟨rfl, rfl⟩ dX0_standInOf_12
  · skip
    subst hq
    refine lv_null hx hb dX0_standInOf_4 ?_
    refine lv_goto (tgt := 12) hx hb dX0_standInOf_5 (by decide) ?_
    exact eA S hr hlocks none rfl hH hS ⟨rfl, rfl⟩ dX0_standInOf_12

set_option maxRecDepth 100000 in
set_option maxHeartbeats 4000000 in
/-- the stand-in hangs as a does -/
theorem c_X0_linkStandIn {a b : Nat} (ok_a : okA L K a) (hsi : si a = some b) : Md l yX0_linkStandIn wsX0_linkStandIn (rmL 2 0 0) D lo Γ [.ref a] ((L, K, sz, si, P, bi, tu), M, V) none ((L, K, sz, si, (lnk P si a b), bi, tu), M, V) := by
  refine Mz_of (cc := cX0_linkStandIn) (maxL := 1) (ret := none) (by decide) rfl (Nat.le_of_ble_eq_true rfl) ?_
  intro p e s m args below meth c ls S hr hlocks hK hH hS hl
  have hx := S.1
  have hb := S.2.1
  have hts := S.2.2.2.2
  have f13 : (Cond.fieldLink RX0 13 (TX0 1).1 (TX0 1).2.1 (TX0 1).2.2.1).before args s = true := hts _ (List.mem_of_getElem? (i := 1) rfl)
  have f20 : (Cond.fieldLink RX0 20 (TX0 2).1 (TX0 2).2.1 (TX0 2).2.2.1).before args s = true := hts _ (List.mem_of_getElem? (i := 2) rfl)
  have f17 : (Cond.fieldLink RX0 17 (TX0 3).1 (TX0 3).2.1 (TX0 3).2.2.1).before args s = true := hts _ (List.mem_of_getElem? (i := 3) rfl)
  have f23 : (Cond.fieldLink RX0 23 (TX0 4).1 (TX0 4).2.1 (TX0 4).2.2.1).before args s = true := hts _ (List.mem_of_getElem? (i := 4) rfl)
  have hi0 : ∀ w ∈ wsX00, w ∈ wsX0_linkStandIn := by decide +kernel
  have hl : lv_has ls 1 [(0, .ref a)] := hl
  have ok_b := hH.2.2.2.2.1 a ok_a b hsi
  refine lv_aload_n hx hb dX0_linkStandIn_0 rfl (lv_at hl 0 rfl) ?_
  refine gA S hi0 hK hH ok_a 1 (by decide) f13 (v := .ref b) (by show some (va_rf (si a)) = _; rw [hsi]; rfl) dX0_linkStandIn_1 ?_
  refine lv_ifnull hx hb dX0_linkStandIn_4 ?_
  refine lv_aload_n hx hb dX0_linkStandIn_7 rfl (lv_at hl 0 rfl) ?_
  refine gA S hi0 hK hH ok_a 1 (by decide) f13 (v := .ref b) (by show some (va_rf (si a)) = _; rw [hsi]; rfl) dX0_linkStandIn_8 ?_
  refine lv_aload_n hx hb dX0_linkStandIn_11 rfl (lv_at hl 0 rfl) ?_
  refine gA S hi0 hK hH ok_a 2 (by decide) f20 (v := va_rf (P 2 a)) rfl dX0_linkStandIn_12 ?_
  have e_0 : va_rf (P 2 a) = va_rf (P 2 a) := rfl
  refine cSt S (c_X0_standInOf (l := l) (D := D) (lo := lo) (Γ := Γ) (sz := sz) (si := si) (P := P) (bi := bi) (tu := tu) (M := M) (V := V) (r := P 2 a) (fun x h => hH.2.2.2.1 a ok_a 2 (by decide) x h)) (va_cwS 1 hts gX0_linkStandIn_X0_standInOf rfl rfl rfl (by decide +kernel) ⟨Nat.le_of_ble_eq_true rfl, Nat.le_of_ble_eq_true rfl⟩) hK hH hS rfl hl.1 rfl (Nat.le_of_ble_eq_true rfl) dX0_linkStandIn_15 ⟨Nat.le_of_ble_eq_true rfl, Nat.le_of_ble_eq_true rfl⟩ (fun v Z1 H locs hpost hH hS => ?_)
  obtain ⟨rfl, rfl⟩ := hpost
  refine pA S hi0 hK hH hS ok_b 2 ((P 2 a).bind si) (fun x h => by obtain ⟨y, h1, h2⟩ := Option.bind_eq_some_iff.mp h; exact hH.2.2.2.2.1 y (hH.2.2.2.1 a ok_a 2 (by decide) y h1) x h2) 2 (by decide) (by decide) f20 rfl dX0_linkStandIn_18 (fun H locs hH hS => ?_)
  refine lv_aload_n hx hb dX0_linkStandIn_21 rfl (lv_at hl 0 rfl) ?_
  refine gA S hi0 hK hH ok_a 1 (by decide) f13 (v := .ref b) (by show some (va_rf (si a)) = _; rw [hsi]; rfl) dX0_linkStandIn_22 ?_
  refine lv_aload_n hx hb dX0_linkStandIn_25 rfl (lv_at hl 0 rfl) ?_
  refine gA S hi0 hK hH ok_a 3 (by decide) f17 (v := va_rf ((sP P 2 b ((P 2 a).bind si)) 0 a)) rfl dX0_linkStandIn_26 ?_
  refine cSt S (c_X0_standInOf (l := l) (D := D) (lo := lo) (Γ := Γ) (sz := sz) (si := si) (P := (sP P 2 b ((P 2 a).bind si))) (bi := bi) (tu := tu) (M := M) (V := V) (r := (sP P 2 b ((P 2 a).bind si)) 0 a) (fun x h => hH.2.2.2.1 a ok_a 0 (by decide) x h)) (va_cwS 1 hts gX0_linkStandIn_X0_standInOf rfl rfl rfl (by decide +kernel) ⟨Nat.le_of_ble_eq_true rfl, Nat.le_of_ble_eq_true rfl⟩) hK hH hS rfl hl.1 rfl (Nat.le_of_ble_eq_true rfl) dX0_linkStandIn_29 ⟨Nat.le_of_ble_eq_true rfl, Nat.le_of_ble_eq_true rfl⟩ (fun v Z1 H locs hpost hH hS => ?_)
  obtain ⟨rfl, rfl⟩ := hpost
  refine pA S hi0 hK hH hS ok_b 0 (((sP P 2 b ((P 2 a).bind si)) 0 a).bind si) (fun x h => by obtain ⟨y, h1, h2⟩ := Option.bind_eq_some_iff.mp h; exact hH.2.2.2.2.1 y (hH.2.2.2.1 a ok_a 0 (by decide) y h1) x h2) 3 (by decide) (by decide) f17 rfl dX0_linkStandIn_32 (fun H locs hH hS => ?_)
  refine lv_aload_n hx hb dX0_linkStandIn_35 rfl (lv_at hl 0 rfl) ?_
  refine gA S hi0 hK hH ok_a 1 (by decide) f13 (v := .ref b) (by show some (va_rf (si a)) = _; rw [hsi]; rfl) dX0_linkStandIn_36 ?_
  refine lv_aload_n hx hb dX0_linkStandIn_39 rfl (lv_at hl 0 rfl) ?_
  refine gA S hi0 hK hH ok_a 4 (by decide) f23 (v := va_rf ((sP (sP P 2 b ((P 2 a).bind si)) 0 b (((sP P 2 b ((P 2 a).bind si)) 0 a).bind si)) 1 a)) rfl dX0_linkStandIn_40 ?_
  refine cSt S (c_X0_standInOf (l := l) (D := D) (lo := lo) (Γ := Γ) (sz := sz) (si := si) (P := (sP (sP P 2 b ((P 2 a).bind si)) 0 b (((sP P 2 b ((P 2 a).bind si)) 0 a).bind si))) (bi := bi) (tu := tu) (M := M) (V := V) (r := (sP (sP P 2 b ((P 2 a).bind si)) 0 b (((sP P 2 b ((P 2 a).bind si)) 0 a).bind si)) 1 a) (fun x h => hH.2.2.2.1 a ok_a 1 (by decide) x h)) (va_cwS 1 hts gX0_linkStandIn_X0_standInOf rfl rfl rfl (by decide +kernel) ⟨Nat.le_of_ble_eq_true rfl, Nat.le_of_ble_eq_true rfl⟩) hK hH hS rfl hl.1 rfl (Nat.le_of_ble_eq_true rfl) dX0_linkStandIn_43 ⟨Nat.le_of_ble_eq_true rfl, Nat.le_of_ble_eq_true rfl⟩ (fun v Z1 H locs hpost hH hS => ?_)
  obtain ⟨rfl, rfl⟩ := hpost
  refine pA S hi0 hK hH hS ok_b 1 (((sP (sP P 2 b ((P 2 a).bind si)) 0 b (((sP P 2 b ((P 2 a).bind si)) 0 a).bind si)) 1 a).bind si) (fun x h => by obtain ⟨y, h1, h2⟩ := Option.bind_eq_some_iff.mp h; exact hH.2.2.2.2.1 y (hH.2.2.2.1 a ok_a 1 (by decide) y h1) x h2) 4 (by decide) (by decide) f23 rfl dX0_linkStandIn_46 (fun H locs hH hS => ?_)
  exact eV S hr hlocks hH hS ⟨rfl, rfl⟩ dX0_linkStandIn_49
end MApple2
end
section
/-! METHODS of SplayOrchard$Tree -/
/-- a tree's object, and the tree that it holds -/
def TR (L : List Nat) (K sz : Nat → Nat) (P : PF) (t0 : Nat) (T : Tr) : Prop := t0 ∈ L ∧ K t0 = 1 ∧ P 3 t0 = rt T ∧ rep P none T ∧ (tids T).Nodup ∧ ∀ a ∈ tids T, okA L K a ∧ sz a < 1000
def stp (P : PF) (t0 : Nat) (r : Option Nat) : PF := match r with
  | none => sP P 3 t0 none
  | some c => sP (sP P 3 t0 (some c)) 2 c none
def nrs (sz : Nat → Nat) (z : Int) (T : Tr) (C : Cx) : Option Nat := match fnd sz z T with
  | some a => some a
  | none => parC (inc sz z T C)
theorem nrs_branch {sz : Nat → Nat} {z : Int} {k : Nat} {l r : Tr} {C : Cx} : nrs sz z (.branch k l r) C = if z = (sz k : Int) then some k else if z < (sz k : Int) then nrs sz z l ((false, k, r) :: C) else nrs sz z r ((true, k, l) :: C) := by
  unfold nrs
  rw [fnd, inc]
  by_cases h1 : z = (sz k : Int)
  · rw [if_pos h1, if_pos h1]
  · rw [if_neg h1, if_neg h1]
    by_cases h2 : z < (sz k : Int)
    · rw [if_pos h2, if_pos h2, if_pos h2]
    · rw [if_neg h2, if_neg h2, if_neg h2]
theorem inc_par {sz : Nat → Nat} {z : Int} : ∀ (T : Tr) (C : Cx) (b : Nat), parC (inc sz z T C) = some b → b ∈ tids T ∨ parC C = some b := by
  intro T
  induction T with
  | leaf u => intro C b h; exact Or.inr h
  | branch k l r ihl ihr =>
    intro C b h
    unfold inc at h
    split at h
    · rcases ihl _ b h with h1 | h1
      · exact Or.inl (by simp [tids, h1])
      · cases h1; exact Or.inl (by simp [tids])
    · rcases ihr _ b h with h1 | h1
      · exact Or.inl (by simp [tids, h1])
      · cases h1; exact Or.inl (by simp [tids])
theorem nrs_mem {sz : Nat → Nat} {z : Int} {T : Tr} {b : Nat} (h : nrs sz z T [] = some b) : b ∈ tids T := by
  unfold nrs at h
  split at h
  · rename_i a ha
    cases h
    exact (fnd_mem T _ ha).1
  · rcases inc_par T [] b h with h1 | h1
    · exact h1
    · cases h1
theorem nrs_fnd0 {sz : Nat → Nat} {z : Int} {T : Tr} (h : nrs sz z T [] = none) : fnd sz z T = none := by
  unfold nrs at h
  split at h
  · cases h
  · assumption
theorem nrs_ne {sz : Nat → Nat} {z : Int} {T : Tr} {b : Nat} (h : nrs sz z T [] = some b) (hz : ¬ z = (sz b : Int)) : fnd sz z T = none := by
  unfold nrs at h
  split at h
  · rename_i a ha
    cases h
    exact absurd (fnd_mem T _ ha).2 hz
  · assumption
theorem inc_ne {sz : Nat → Nat} {z : Int} : ∀ (T : Tr) (C : Cx), fnd sz z T = none → (∀ b, parC C = some b → ¬ z = (sz b : Int)) → ∀ b, parC (inc sz z T C) = some b → ¬ z = (sz b : Int) := by
  intro T
  induction T with
  | leaf u => intro C _ h b hb; exact h b hb
  | branch k l r ihl ihr =>
    intro C hf h b hb
    unfold fnd at hf
    unfold inc at hb
    split at hf
    · cases hf
    · rename_i hne
      split at hf
      · rename_i hlt
        rw [if_pos hlt] at hb
        exact ihl _ hf (fun x hx => by cases hx; exact hne) b hb
      · rename_i hlt
        rw [if_neg hlt] at hb
        exact ihr _ hf (fun x hx => by cases hx; exact hne) b hb
theorem nrs_eq {sz : Nat → Nat} {z : Int} {T : Tr} {b : Nat} (h : nrs sz z T [] = some b) (hz : z = (sz b : Int)) : fnd sz z T = some b := by
  unfold nrs at h
  split at h
  · rename_i a ha
    cases h
    exact ha
  · rename_i hf
    exact absurd hz (inc_ne T [] hf (fun x hx => by cases hx) b h)
section MTree
variable {l : Launch} {D : va_G} {lo : Nat} {Γ : GT} {L : List Nat} {K : Nat → Nat} {sz : Nat → Nat} {si : Nat → Option Nat} {P : PF} {bi : Nat → Nat} {tu : Nat} {M : MW} {V : Int64 × UInt64}
/-- next, by the list of a tree's nodes -/
theorem c_X0_nextL {T : Tr} {pre post : List Nat} {b : Nat} (ok_b : okA L K b) (hrep : rep P none T) (hn : (tids T).Nodup) (h : tids T = pre ++ b :: post) : Md l yX0_next wsX0_next (rmL 2 0 0) D lo Γ [.ref b] ((L, K, sz, si, P, bi, tu), M, V) (some (va_rf post.head?)) ((L, K, sz, si, P, bi, tu), M, V) := by
  obtain ⟨l9, r9, C, hm⟩ := zs_mem (C := []) (show b ∈ tids T by rw [h]; simp)
  have hT : plug (.branch b l9 r9) C = T := zs_plug T [] _ hm
  have h3 : tids T = (cL C ++ tids l9) ++ b :: (tids r9 ++ cR C) := by rw [← hT]; exact tids_zip b l9 r9 C
  have h4 := split_uniq (by rw [← h]; exact hn) (h.symm.trans h3)
  rw [h4.2]
  exact c_X0_next ok_b ((Zp_plug C _).mpr (by rw [hT]; exact hrep)) (by rw [hT]; exact hn)
theorem c_X0_nextZ {T : Tr} {pre post : List Zi} {z : Zi} (ok_b : okA L K z.1) (hrep : rep P none T) (hn : (tids T).Nodup) (h : zs T [] = pre ++ z :: post) : Md l yX0_next wsX0_next (rmL 2 0 0) D lo Γ [.ref z.1] ((L, K, sz, si, P, bi, tu), M, V) (some (va_rf (post.map (fun z => z.1)).head?)) ((L, K, sz, si, P, bi, tu), M, V) :=
  c_X0_nextL (pre := pre.map (fun z => z.1)) ok_b hrep hn (by rw [← zs_ids T [], h]; simp)
theorem c_X0_depthZ {T : Tr} {z : Zi} (ok_b : okA L K z.1) (hrep : rep P none T) (h : z ∈ zs T []) : Md l yX0_depth wsX0_depth (rmL 1 0 0) D lo Γ [.ref z.1] ((L, K, sz, si, P, bi, tu), M, V) (some (.int (nI z.2.2.2.length))) ((L, K, sz, si, P, bi, tu), M, V) := by
  have hT := zs_plug T [] z h
  have hz := (Zp_plug z.2.2.2 (.branch z.1 z.2.1 z.2.2.1)).mpr (by rw [hT]; exact hrep)
  refine c_X0_depth ok_b ?_
  rw [show P 2 z.1 = parC z.2.2.2 from hz.1.1]
  exact UC_of _ _ hz.2
set_option maxRecDepth 100000 in
set_option maxHeartbeats 4000000 in
/-- how many are below a -/
theorem c_X0_countUnder {a : Nat} {lt r9 : Tr} {C : Cx} (ok_a : okA L K a) (hz : Zp P (.branch a lt r9) C) (hn : (tids (plug (.branch a lt r9) C)).Nodup) (hok : ∀ b ∈ tids (.branch a lt r9), okA L K b) : Md l yX0_countUnder wsX0_countUnder (rmL 3 0 0) D lo Γ [.ref a] ((L, K, sz, si, P, bi, tu), M, V) (some (.int (nI ((tids lt).length + (tids r9).length)))) ((L, K, sz, si, P, bi, tu), M, V) := by
  refine Mz_of (cc := cX0_countUnder) (maxL := 4) (ret := (some .int)) (by decide) rfl (Nat.le_of_ble_eq_true rfl) ?_
  intro p e s m args below meth c ls S hr hlocks hK hH hS hl
  have hx := S.1
  have hb := S.2.1
  have hts := S.2.2.2.2
  have hl : lv_has ls 4 [(0, .ref a)] := hl
  have t_rep : rep P none (plug (.branch a lt r9) C) := (Zp_plug C _).mp hz
  have t_nd := hn
  obtain ⟨g, hg⟩ : ∃ g, (tids (.branch a lt r9)).getLast? = some g := by
    cases hq : (tids (.branch a lt r9)).getLast? with
    | none => have := List.getLast?_eq_none_iff.mp hq; simp [tids] at this
    | some g => exact ⟨g, rfl⟩
  refine lv_aload_n hx hb dX0_countUnder_0 rfl (lv_at hl 0 rfl) ?_
  refine cV S (c_X0_greatestUnder (l := l) (D := D) (lo := lo) (Γ := Γ) (sz := sz) (si := si) (P := P) (bi := bi) (tu := tu) (M := M) (V := V) ok_a (t := .branch a lt r9) rfl hz.1) (cwV 0 hts gX0_countUnder_X0_greatestUnder rfl rfl rfl (by decide +kernel) ⟨Nat.le_of_ble_eq_true rfl, Nat.le_of_ble_eq_true rfl⟩) hK hH (Hp_recv hK hH ok_a.1 ok_a.2 rfl) hS rfl hl.1 rfl (Nat.le_of_ble_eq_true rfl) dX0_countUnder_1 ⟨Nat.le_of_ble_eq_true rfl, Nat.le_of_ble_eq_true rfl⟩ (fun v Z1 H locs hpost hH hS => ?_)
  obtain ⟨rfl, rfl⟩ := hpost
  refine lq_astore_n (lv' := [(0, .ref a)]) S dX0_countUnder_4 rfl hl (by decide) rfl (fun ls hl => ?_)
  refine lv_iconst (v := 0) hx hb dX0_countUnder_5 (by decide) ?_
  refine lv_istore_n (lv' := [(2, .int 0), (1, va_rf ((tids (.branch a lt r9)).getLast?)), (0, .ref a)]) hx hb dX0_countUnder_6 rfl hl (by decide) (by simp [cat_rf]) (fun ls hl => ?_)
  refine lv_aload_n hx hb dX0_countUnder_7 rfl (lv_at hl 2 rfl) ?_
  refine cV S (c_X0_leastUnder (l := l) (D := D) (lo := lo) (Γ := Γ) (sz := sz) (si := si) (P := P) (bi := bi) (tu := tu) (M := M) (V := V) ok_a (t := .branch a lt r9) rfl hz.1) (cwV 0 hts gX0_countUnder_X0_leastUnder rfl rfl rfl (by decide +kernel) ⟨Nat.le_of_ble_eq_true rfl, Nat.le_of_ble_eq_true rfl⟩) hK hH (Hp_recv hK hH ok_a.1 ok_a.2 rfl) hS rfl hl.1 rfl (Nat.le_of_ble_eq_true rfl) dX0_countUnder_8 ⟨Nat.le_of_ble_eq_true rfl, Nat.le_of_ble_eq_true rfl⟩ (fun v Z1 H locs hpost hH hS => ?_)
  obtain ⟨rfl, rfl⟩ := hpost
  refine lq_astore_n (lv' := [(2, .int 0), (1, va_rf ((tids (.branch a lt r9)).getLast?)), (0, .ref a)]) S dX0_countUnder_11 rfl hl (by decide) rfl (fun ls hl => ?_)
  have loop : ∀ (post pre : List Nat) (b : Nat), tids (.branch a lt r9) = pre ++ b :: post → ∀ H locs, Hp D lo Γ ((L, K, sz, si, P, bi, tu), M, V) H → va_S (lA lo) s.heap H locs → ∀ ls, lv_has ls 4 [(3, .ref b), (2, .int (nI pre.length)), (1, .ref g)] → W p l e (rmL 3 0 0) s m args below meth c H locs 0 0 (MQ below (Qz D lo Γ (fun v Z' => v = (some (.int (nI ((tids lt).length + (tids r9).length)))) ∧ Z' = ((L, K, sz, si, P, bi, tu), M, V))) args s ((rmL 3 0 0) : Room).cells ((rmL 3 0 0) : Room).slots (lA lo)) (F0 m 12 ls []) := by
    intro post
    induction post with
    | nil =>
      intro pre b hx2 H locs hH hS ls hl
      have hbg : b = g := by rw [hx2] at hg; simpa using hg
      subst hbg
      have ok_b := hok b (by rw [hx2]; simp)
      refine lv_aload_n hx hb dX0_countUnder_12 rfl (lv_at hl 0 rfl) ?_
      refine lv_ifnull hx hb dX0_countUnder_13 ?_
      refine lv_aload_n hx hb dX0_countUnder_16 rfl (lv_at hl 0 rfl) ?_
      refine lv_aload_n hx hb dX0_countUnder_17 rfl (lv_at hl 2 rfl) ?_
      refine lv_acmp_eq (rx := some b) (ry := some b) (tgt := 32) hx hb dX0_countUnder_18 (by decide) (fun hq3 => ?_) (fun hq3 => ?_)
      · skip
        refine lv_iload_n hx hb dX0_countUnder_32 rfl (lv_at hl 1 rfl) ?_
        exact eI S hr hlocks hH hS ⟨by have := congrArg List.length hx2; simp [tids] at this; rw [show pre.length = (tids lt).length + (tids r9).length by omega], rfl⟩ dX0_countUnder_33
      · skip
        exact absurd rfl hq3
    | cons b2 post ih =>
      intro pre b hx2 H locs hH hS ls hl
      have ok_b := hok b (by rw [hx2]; simp)
      have hT2 : tids (plug (.branch a lt r9) C) = (cL C ++ pre) ++ b :: (b2 :: (post ++ cR C)) := by rw [tids_plug, hx2]; simp
      have hbg : b ≠ g := by
        intro e
        subst e
        have h1 : b ∈ b2 :: post := by
          have h2 := List.mem_of_getLast? hg
          have h3 : (pre ++ b :: (b2 :: post)).getLast? = some b := by rw [← hx2]; exact hg
          rw [la_app (by simp)] at h3
          exact List.mem_of_getLast? h3
        have h4 := hn
        rw [hT2] at h4
        have h5 := (List.nodup_append.mp h4).2.1
        exact (List.nodup_cons.mp h5).1 (by
          rcases List.mem_cons.mp h1 with h | h
          · rw [h]; simp
          · simp [h])
      refine lv_aload_n hx hb dX0_countUnder_12 rfl (lv_at hl 0 rfl) ?_
      refine lv_ifnull hx hb dX0_countUnder_13 ?_
      refine lv_aload_n hx hb dX0_countUnder_16 rfl (lv_at hl 0 rfl) ?_
      refine lv_aload_n hx hb dX0_countUnder_17 rfl (lv_at hl 2 rfl) ?_
      refine lv_acmp_eq (rx := some b) (ry := some g) (tgt := 32) hx hb dX0_countUnder_18 (by decide) (fun hq3 => ?_) (fun hq3 => ?_)
      · skip
        exact absurd (Option.some.inj hq3) hbg
      · skip
        refine lv_iinc (v := nI (pre.length + 1)) (lv' := [(2, .int (nI (pre.length + 1))), (3, .ref b), (1, .ref g)]) hx hb dX0_countUnder_21 hl (k := 1) rfl (nI_1 pre.length) (by decide) rfl (fun ls hl => ?_)
        refine lv_aload_n hx hb dX0_countUnder_24 rfl (lv_at hl 1 rfl) ?_
        refine cV S (c_X0_nextL (l := l) (D := D) (lo := lo) (Γ := Γ) (sz := sz) (si := si) (P := P) (bi := bi) (tu := tu) (M := M) (V := V) ok_b t_rep t_nd hT2) (cwV 0 hts gX0_countUnder_X0_next rfl rfl rfl (by decide +kernel) ⟨Nat.le_of_ble_eq_true rfl, Nat.le_of_ble_eq_true rfl⟩) hK hH (Hp_recv hK hH ok_b.1 ok_b.2 rfl) hS rfl hl.1 rfl (Nat.le_of_ble_eq_true rfl) dX0_countUnder_25 ⟨Nat.le_of_ble_eq_true rfl, Nat.le_of_ble_eq_true rfl⟩ (fun v Z1 H locs hpost hH hS => ?_)
        obtain ⟨rfl, rfl⟩ := hpost
        refine lv_astore_n (lv' := [(3, .ref b2), (2, .int (nI (pre.length + 1))), (1, .ref g)]) hx hb dX0_countUnder_28 rfl hl (by decide) rfl (fun ls hl => ?_)
        refine lv_goto (tgt := 12) hx hb dX0_countUnder_29 (by decide) ?_
        exact ih (pre ++ [b]) b2 (by rw [hx2]; simp) H locs hH hS ls (by rw [show (pre ++ [b]).length = pre.length + 1 by simp]; exact lv_sub hl [0, 1, 2] rfl)
  rw [hg] at hl
  cases hq : tids (.branch a lt r9) with
  | nil => simp [tids] at hq
  | cons b post =>
    rw [hq] at hl
    exact loop post [] b hq H locs hH hS ls (lv_sub hl [0, 1, 2] rfl)

set_option maxRecDepth 100000 in
set_option maxHeartbeats 4000000 in
theorem c_X1_setTop {t0 : Nat} {r : Option Nat} (ok_t0 : t0 ∈ L ∧ K t0 = 1) (okq_r : ∀ b, r = some b → okA L K b) : Md l yX1_setTop wsX1_setTop (rmL 1 0 0) D lo Γ [.ref t0, va_rf r] ((L, K, sz, si, P, bi, tu), M, V) none ((L, K, sz, si, (stp P t0 r), bi, tu), M, V) := by
  refine Mz_of (cc := cX1_setTop) (maxL := 2) (ret := none) (by decide) rfl (by cases r <;> exact Nat.le_of_ble_eq_true rfl) ?_
  intro p e s m args below meth c ls S hr hlocks hK hH hS hl
  have hx := S.1
  have hb := S.2.1
  have hts := S.2.2.2.2
  have f7 : (Cond.fieldLink RX1 7 (TX1 0).1 (TX1 0).2.1 (TX1 0).2.2.1).before args s = true := hts _ (List.mem_of_getElem? (i := 1) rfl)
  have f13 : (Cond.fieldLink RX1 13 (TX0 2).1 (TX0 2).2.1 (TX0 2).2.2.1).before args s = true := hts _ (List.mem_of_getElem? (i := 2) rfl)
  have hi0 : ∀ w ∈ wsX00, w ∈ wsX1_setTop := by decide +kernel
  have hi1 : ∀ w ∈ wsX10, w ∈ wsX1_setTop := by decide +kernel
  have hl : lv_has ls 2 [(0, .ref t0), (1, va_rf r)] := hl
  refine lv_aload_n hx hb dX1_setTop_0 rfl (lv_at hl 0 rfl) ?_
  refine lq_aload_n S dX1_setTop_1 rfl (lv_at hl 1 rfl) ?_
  refine pT S hi1 hK hH hS ok_t0.1 ok_t0.2 r okq_r f7 rfl dX1_setTop_2 (fun H locs hH hS => ?_)
  refine lq_aload_n S dX1_setTop_5 rfl (lv_at hl 1 rfl) ?_
  refine lq_ifnull S dX1_setTop_6 (tgt := 14) (by decide) (fun hq => ?_) (fun x hq => ?_)
  · skip
    subst hq
    exact eV S hr hlocks hH hS ⟨rfl, rfl⟩ dX1_setTop_14
  · skip
    subst hq
    have ok_x := okq_r x rfl
    refine lv_aload_n hx hb dX1_setTop_9 rfl (lv_at hl 1 rfl) ?_
    refine lv_null hx hb dX1_setTop_10 ?_
    refine pA S hi0 hK hH hS ok_x 2 none (fun b h => by cases h) 2 (by decide) (by decide) f13 rfl dX1_setTop_11 (fun H locs hH hS => ?_)
    exact eV S hr hlocks hH hS ⟨rfl, rfl⟩ dX1_setTop_14

set_option maxRecDepth 100000 in
set_option maxHeartbeats 4000000 in
theorem c_X1_first {t0 : Nat} {T : Tr} (h : TR L K sz P t0 T) : Md l yX1_first wsX1_first (rmL 2 0 0) D lo Γ [.ref t0] ((L, K, sz, si, P, bi, tu), M, V) (some (va_rf (tids T).head?)) ((L, K, sz, si, P, bi, tu), M, V) := by
  refine Mz_of (cc := cX1_first) (maxL := 1) (ret := (some (.object "SplayOrchard$Apple"))) (by decide) rfl (Nat.le_of_ble_eq_true rfl) ?_
  intro p e s m args below meth c ls S hr hlocks hK hH hS hl
  have hx := S.1
  have hb := S.2.1
  have hts := S.2.2.2.2
  have f7 : (Cond.fieldLink RX1 7 (TX1 0).1 (TX1 0).2.1 (TX1 0).2.2.1).before args s = true := hts _ (List.mem_of_getElem? (i := 1) rfl)
  have hi1 : ∀ w ∈ wsX10, w ∈ wsX1_first := by decide +kernel
  have hl : lv_has ls 1 [(0, .ref t0)] := hl
  have hT := h
  obtain ⟨t_in, t_k, t_top, t_rep, t_nd, t_ok⟩ := h
  have ok_t0 : t0 ∈ L ∧ K t0 = 1 := ⟨t_in, t_k⟩
  rcases hq : P 3 t0 with _ | k
  · skip
    refine lv_aload_n hx hb dX1_first_0 rfl (lv_at hl 0 rfl) ?_
    refine gTp S hi1 hK hH ok_t0.1 ok_t0.2 f7 (v := .null) (by rw [hq]; rfl) dX1_first_1 ?_
    refine lv_ifnonnullN hx hb dX1_first_4 ?_
    refine lv_null hx hb dX1_first_7 ?_
    refine lv_goto (tgt := 18) hx hb dX1_first_8 (by decide) ?_
    have hE := rt_none (t_top.symm.trans hq)
    exact eA S hr hlocks none rfl hH hS ⟨by rw [hE]; rfl, rfl⟩ dX1_first_18
  · skip
    refine lv_aload_n hx hb dX1_first_0 rfl (lv_at hl 0 rfl) ?_
    refine gTp S hi1 hK hH ok_t0.1 ok_t0.2 f7 (v := .ref k) (by rw [hq]; rfl) dX1_first_1 ?_
    refine lv_ifnonnull hx hb dX1_first_4 (tgt := 11) (by decide) ?_
    refine lv_aload_n hx hb dX1_first_11 rfl (lv_at hl 0 rfl) ?_
    refine gTp S hi1 hK hH ok_t0.1 ok_t0.2 f7 (v := .ref k) (by rw [hq]; rfl) dX1_first_12 ?_
    have hrt : rt T = some k := t_top.symm.trans hq
    have ok_k := (t_ok k (rt_mem hrt)).1
    refine cV S (c_X0_leastUnder (l := l) (D := D) (lo := lo) (Γ := Γ) (sz := sz) (si := si) (P := P) (bi := bi) (tu := tu) (M := M) (V := V) ok_k (t := T) hrt t_rep) (cwV 0 hts gX1_first_X0_leastUnder rfl rfl rfl (by decide +kernel) ⟨Nat.le_of_ble_eq_true rfl, Nat.le_of_ble_eq_true rfl⟩) hK hH (Hp_recv hK hH ok_k.1 ok_k.2 rfl) hS rfl hl.1 rfl (Nat.le_of_ble_eq_true rfl) dX1_first_15 ⟨Nat.le_of_ble_eq_true rfl, Nat.le_of_ble_eq_true rfl⟩ (fun v Z1 H locs hpost hH hS => ?_)
    obtain ⟨rfl, rfl⟩ := hpost
    exact eA S hr hlocks _ rfl hH hS ⟨rfl, rfl⟩ dX1_first_18

set_option maxRecDepth 100000 in
set_option maxHeartbeats 4000000 in
theorem c_X1_last {t0 : Nat} {T : Tr} (h : TR L K sz P t0 T) : Md l yX1_last wsX1_last (rmL 2 0 0) D lo Γ [.ref t0] ((L, K, sz, si, P, bi, tu), M, V) (some (va_rf (tids T).getLast?)) ((L, K, sz, si, P, bi, tu), M, V) := by
  refine Mz_of (cc := cX1_last) (maxL := 1) (ret := (some (.object "SplayOrchard$Apple"))) (by decide) rfl (Nat.le_of_ble_eq_true rfl) ?_
  intro p e s m args below meth c ls S hr hlocks hK hH hS hl
  have hx := S.1
  have hb := S.2.1
  have hts := S.2.2.2.2
  have f7 : (Cond.fieldLink RX1 7 (TX1 0).1 (TX1 0).2.1 (TX1 0).2.2.1).before args s = true := hts _ (List.mem_of_getElem? (i := 1) rfl)
  have hi1 : ∀ w ∈ wsX10, w ∈ wsX1_last := by decide +kernel
  have hl : lv_has ls 1 [(0, .ref t0)] := hl
  have hT := h
  obtain ⟨t_in, t_k, t_top, t_rep, t_nd, t_ok⟩ := h
  have ok_t0 : t0 ∈ L ∧ K t0 = 1 := ⟨t_in, t_k⟩
  rcases hq : P 3 t0 with _ | k
  · skip
    refine lv_aload_n hx hb dX1_last_0 rfl (lv_at hl 0 rfl) ?_
    refine gTp S hi1 hK hH ok_t0.1 ok_t0.2 f7 (v := .null) (by rw [hq]; rfl) dX1_last_1 ?_
    refine lv_ifnonnullN hx hb dX1_last_4 ?_
    refine lv_null hx hb dX1_last_7 ?_
    refine lv_goto (tgt := 18) hx hb dX1_last_8 (by decide) ?_
    have hE := rt_none (t_top.symm.trans hq)
    exact eA S hr hlocks none rfl hH hS ⟨by rw [hE]; rfl, rfl⟩ dX1_last_18
  · skip
    refine lv_aload_n hx hb dX1_last_0 rfl (lv_at hl 0 rfl) ?_
    refine gTp S hi1 hK hH ok_t0.1 ok_t0.2 f7 (v := .ref k) (by rw [hq]; rfl) dX1_last_1 ?_
    refine lv_ifnonnull hx hb dX1_last_4 (tgt := 11) (by decide) ?_
    refine lv_aload_n hx hb dX1_last_11 rfl (lv_at hl 0 rfl) ?_
    refine gTp S hi1 hK hH ok_t0.1 ok_t0.2 f7 (v := .ref k) (by rw [hq]; rfl) dX1_last_12 ?_
    have hrt : rt T = some k := t_top.symm.trans hq
    have ok_k := (t_ok k (rt_mem hrt)).1
    refine cV S (c_X0_greatestUnder (l := l) (D := D) (lo := lo) (Γ := Γ) (sz := sz) (si := si) (P := P) (bi := bi) (tu := tu) (M := M) (V := V) ok_k (t := T) hrt t_rep) (cwV 0 hts gX1_last_X0_greatestUnder rfl rfl rfl (by decide +kernel) ⟨Nat.le_of_ble_eq_true rfl, Nat.le_of_ble_eq_true rfl⟩) hK hH (Hp_recv hK hH ok_k.1 ok_k.2 rfl) hS rfl hl.1 rfl (Nat.le_of_ble_eq_true rfl) dX1_last_15 ⟨Nat.le_of_ble_eq_true rfl, Nat.le_of_ble_eq_true rfl⟩ (fun v Z1 H locs hpost hH hS => ?_)
    obtain ⟨rfl, rfl⟩ := hpost
    exact eA S hr hlocks _ rfl hH hS ⟨rfl, rfl⟩ dX1_last_18

set_option maxRecDepth 100000 in
set_option maxHeartbeats 4000000 in
theorem c_X1_count {t0 : Nat} {T : Tr} (h : TR L K sz P t0 T) : Md l yX1_count wsX1_count (rmL 4 0 0) D lo Γ [.ref t0] ((L, K, sz, si, P, bi, tu), M, V) (some (.int (nI (tids T).length))) ((L, K, sz, si, P, bi, tu), M, V) := by
  refine Mz_of (cc := cX1_count) (maxL := 1) (ret := (some .int)) (by decide) rfl (Nat.le_of_ble_eq_true rfl) ?_
  intro p e s m args below meth c ls S hr hlocks hK hH hS hl
  have hx := S.1
  have hb := S.2.1
  have hts := S.2.2.2.2
  have f7 : (Cond.fieldLink RX1 7 (TX1 0).1 (TX1 0).2.1 (TX1 0).2.2.1).before args s = true := hts _ (List.mem_of_getElem? (i := 1) rfl)
  have hi1 : ∀ w ∈ wsX10, w ∈ wsX1_count := by decide +kernel
  have hl : lv_has ls 1 [(0, .ref t0)] := hl
  have hT := h
  obtain ⟨t_in, t_k, t_top, t_rep, t_nd, t_ok⟩ := h
  have ok_t0 : t0 ∈ L ∧ K t0 = 1 := ⟨t_in, t_k⟩
  rcases hq : P 3 t0 with _ | k
  · skip
    refine lv_aload_n hx hb dX1_count_0 rfl (lv_at hl 0 rfl) ?_
    refine gTp S hi1 hK hH ok_t0.1 ok_t0.2 f7 (v := .null) (by rw [hq]; rfl) dX1_count_1 ?_
    refine lv_ifnonnullN hx hb dX1_count_4 ?_
    refine lv_iconst (v := 0) hx hb dX1_count_7 (by decide) ?_
    refine lv_goto (tgt := 20) hx hb dX1_count_8 (by decide) ?_
    have hE := rt_none (t_top.symm.trans hq)
    exact eI S hr hlocks hH hS ⟨by rw [hE]; rfl, rfl⟩ dX1_count_20
  · skip
    refine lv_aload_n hx hb dX1_count_0 rfl (lv_at hl 0 rfl) ?_
    refine gTp S hi1 hK hH ok_t0.1 ok_t0.2 f7 (v := .ref k) (by rw [hq]; rfl) dX1_count_1 ?_
    refine lv_ifnonnull hx hb dX1_count_4 (tgt := 11) (by decide) ?_
    refine lv_aload_n hx hb dX1_count_11 rfl (lv_at hl 0 rfl) ?_
    refine gTp S hi1 hK hH ok_t0.1 ok_t0.2 f7 (v := .ref k) (by rw [hq]; rfl) dX1_count_12 ?_
    have hrt : rt T = some k := t_top.symm.trans hq
    have ok_k := (t_ok k (rt_mem hrt)).1
    obtain ⟨lt, r9, hTe⟩ := rt_some hrt
    refine cV S (c_X0_countUnder (l := l) (D := D) (lo := lo) (Γ := Γ) (sz := sz) (si := si) (P := P) (bi := bi) (tu := tu) (M := M) (V := V) (lt := lt) (r9 := r9) (C := []) ok_k ((Zp_plug [] _).mpr (by rw [← hTe]; exact t_rep)) (by rw [← hTe]; exact t_nd) (fun b hb9 => (t_ok b (by rw [hTe]; exact hb9)).1)) (cwV 0 hts gX1_count_X0_countUnder rfl rfl rfl (by decide +kernel) ⟨Nat.le_of_ble_eq_true rfl, Nat.le_of_ble_eq_true rfl⟩) hK hH (Hp_recv hK hH ok_k.1 ok_k.2 rfl) hS rfl hl.1 rfl (Nat.le_of_ble_eq_true rfl) dX1_count_15 ⟨Nat.le_of_ble_eq_true rfl, Nat.le_of_ble_eq_true rfl⟩ (fun v Z1 H locs hpost hH hS => ?_)
    obtain ⟨rfl, rfl⟩ := hpost
    refine lv_iconst (v := 1) hx hb dX1_count_18 (by decide) ?_
    refine lv_iadd hx hb dX1_count_19 ?_
    exact eI S hr hlocks hH hS ⟨by rw [hTe]; simp only [tids, List.length_append, List.length_cons]; rw [nI_1, Nat.add_assoc], rfl⟩ dX1_count_20

set_option maxRecDepth 100000 in
set_option maxHeartbeats 4000000 in
theorem c_X1_nearest {t0 : Nat} {T : Tr} {x : Int32} (h : TR L K sz P t0 T) : Md l yX1_nearest wsX1_nearest (rmL 2 0 0) D lo Γ [.ref t0, .int x] ((L, K, sz, si, P, bi, tu), M, V) (some (va_rf (nrs sz x.toInt T []))) ((L, K, sz, si, P, bi, tu), M, V) := by
  refine Mz_of (cc := cX1_nearest) (maxL := 4) (ret := (some (.object "SplayOrchard$Apple"))) (by decide) rfl (Nat.le_of_ble_eq_true rfl) ?_
  intro p e s m args below meth c ls S hr hlocks hK hH hS hl
  have hx := S.1
  have hb := S.2.1
  have hts := S.2.2.2.2
  have f7 : (Cond.fieldLink RX1 7 (TX1 0).1 (TX1 0).2.1 (TX1 0).2.2.1).before args s = true := hts _ (List.mem_of_getElem? (i := 1) rfl)
  have hi1 : ∀ w ∈ wsX10, w ∈ wsX1_nearest := by decide +kernel
  have hl : lv_has ls 4 [(0, .ref t0), (1, .int x)] := hl
  have hT := h
  obtain ⟨t_in, t_k, t_top, t_rep, t_nd, t_ok⟩ := h
  have ok_t0 : t0 ∈ L ∧ K t0 = 1 := ⟨t_in, t_k⟩
  have okq_top : ∀ b, P 3 t0 = some b → okA L K b := hH.2.2.2.2.2 t0 t_in t_k
  refine lv_null hx hb dX1_nearest_0 ?_
  refine lv_astore_nN (lv' := [(2, .null), (0, .ref t0), (1, .int x)]) hx hb dX1_nearest_1 rfl hl (by decide) rfl (fun ls hl => ?_)
  refine lv_aload_n hx hb dX1_nearest_2 rfl (lv_at hl 1 rfl) ?_
  refine gTp S hi1 hK hH ok_t0.1 ok_t0.2 f7 (v := va_rf (P 3 t0)) rfl dX1_nearest_3 ?_
  refine lq_astore_n (lv' := [(2, .null), (0, .ref t0), (1, .int x)]) S dX1_nearest_6 rfl hl (by decide) rfl (fun ls hl => ?_)
  have loop0 : ∀ {k : Nat}, some k = nrs sz x.toInt T [] → ∀ H locs, Hp D lo Γ ((L, K, sz, si, P, bi, tu), M, V) H → va_S (lA lo) s.heap H locs → ∀ ls, lv_has ls 4 [(3, va_rf none), (2, .ref k), (0, .ref t0), (1, .int x)] → W p l e (rmL 2 0 0) s m args below meth c H locs 0 0 (MQ below (Qz D lo Γ (fun v Z' => v = (some (va_rf (nrs sz x.toInt T []))) ∧ Z' = ((L, K, sz, si, P, bi, tu), M, V))) args s ((rmL 2 0 0) : Room).cells ((rmL 2 0 0) : Room).slots (lA lo)) (F0 m 7 ls []) := by
    intro k h3 H locs hH hS ls hl
    refine lv_aload_nN hx hb dX1_nearest_7 rfl (lv_at hl 0 rfl) ?_
    refine lv_ifnullN hx hb dX1_nearest_8 (tgt := 22) (by decide) ?_
    refine lv_aload_n hx hb dX1_nearest_22 rfl (lv_at hl 1 rfl) ?_
    exact eA S hr hlocks (some k) rfl hH hS ⟨by rw [← h3], rfl⟩ dX1_nearest_23
  have loop : ∀ (T' : Tr) (C : Cx) (par : Option Nat), rep P par T' → (∀ b ∈ tids T', okA L K b ∧ sz b < 1000) → nrs sz x.toInt T' C = nrs sz x.toInt T [] → ∀ H locs, Hp D lo Γ ((L, K, sz, si, P, bi, tu), M, V) H → va_S (lA lo) s.heap H locs → ∀ ls, lv_has ls 4 [(3, va_rf (rt T')), (2, va_rf (parC C)), (0, .ref t0), (1, .int x)] → W p l e (rmL 2 0 0) s m args below meth c H locs 0 0 (MQ below (Qz D lo Γ (fun v Z' => v = (some (va_rf (nrs sz x.toInt T []))) ∧ Z' = ((L, K, sz, si, P, bi, tu), M, V))) args s ((rmL 2 0 0) : Room).cells ((rmL 2 0 0) : Room).slots (lA lo)) (F0 m 7 ls []) := by
    intro T'
    induction T' with
    | leaf u =>
      intro C par hrep hok h3 H locs hH hS ls hl
      refine lv_aload_nN hx hb dX1_nearest_7 rfl (lv_at hl 0 rfl) ?_
      refine lv_ifnullN hx hb dX1_nearest_8 (tgt := 22) (by decide) ?_
      refine lq_aload_n S dX1_nearest_22 rfl (lv_at hl 1 rfl) ?_
      exact eA S hr hlocks _ rfl hH hS ⟨by rw [← h3]; rfl, rfl⟩ dX1_nearest_23
    | branch k lt r9 ihl ihr =>
      intro C par hrep hok h3 H locs hH hS ls hl
      obtain ⟨g2, g0, g1, gl, gr⟩ := hrep
      have ok_k := (hok k (by simp [tids])).1
      have hk9 : (nI (sz k)).toInt = (sz k : Int) := nI_toInt (by have := (hok k (by simp [tids])).2; omega)
      refine lv_aload_n hx hb dX1_nearest_7 rfl (lv_at hl 0 rfl) ?_
      refine lv_ifnull hx hb dX1_nearest_8 ?_
      refine lv_aload_n hx hb dX1_nearest_11 rfl (lv_at hl 0 rfl) ?_
      refine lv_astore_n (lv' := [(2, .ref k), (3, .ref k), (0, .ref t0), (1, .int x)]) hx hb dX1_nearest_12 rfl hl (by decide) rfl (fun ls hl => ?_)
      refine lv_aload_n hx hb dX1_nearest_13 rfl (lv_at hl 1 rfl) ?_
      refine lv_iload_n hx hb dX1_nearest_14 rfl (lv_at hl 3 rfl) ?_
      refine cV S (c_X0_towards (l := l) (D := D) (lo := lo) (Γ := Γ) (sz := sz) (si := si) (P := P) (bi := bi) (tu := tu) (M := M) (V := V) (x := x) ok_k) (cwV 1 hts gX1_nearest_X0_towards rfl rfl rfl (by decide +kernel) ⟨Nat.le_of_ble_eq_true rfl, Nat.le_of_ble_eq_true rfl⟩) hK hH (Hp_recv hK hH ok_k.1 ok_k.2 rfl) hS rfl hl.1 rfl (Nat.le_of_ble_eq_true rfl) dX1_nearest_15 ⟨Nat.le_of_ble_eq_true rfl, Nat.le_of_ble_eq_true rfl⟩ (fun v Z1 H locs hpost hH hS => ?_)
      obtain ⟨rfl, rfl⟩ := hpost
      refine lq_astore_n (lv' := [(2, .ref k), (0, .ref t0), (1, .int x)]) S dX1_nearest_18 rfl hl (by decide) rfl (fun ls hl => ?_)
      refine lv_goto (tgt := 7) hx hb dX1_nearest_19 (by decide) ?_
      rw [nrs_branch] at h3
      by_cases hxe : x = nI (sz k)
      · have e1 : twd P sz x k = none := by rw [twd, if_pos hxe]
        rw [e1] at hl
        have hz : x.toInt = (sz k : Int) := by rw [hxe, hk9]
        rw [if_pos hz] at h3
        exact loop0 h3 H locs hH hS ls hl
      · have hz : ¬ x.toInt = (sz k : Int) := fun q => hxe (Int32.toInt_inj.mp (q.trans hk9.symm))
        rw [if_neg hz] at h3
        by_cases hlt : x < nI (sz k)
        · have e1 : twd P sz x k = rt lt := by rw [twd, if_neg hxe, if_pos hlt, g0]
          rw [e1] at hl
          have hz2 : x.toInt < (sz k : Int) := by rw [← hk9]; exact Int32.lt_iff_toInt_lt.mp hlt
          rw [if_pos hz2] at h3
          exact ihl ((false, k, r9) :: C) (some k) gl (fun b hb9 => hok b (by simp [tids, hb9])) h3 H locs hH hS ls (lv_sub hl [0, 1, 2, 3] rfl)
        · have e1 : twd P sz x k = rt r9 := by rw [twd, if_neg hxe, if_neg hlt, g1]
          rw [e1] at hl
          have hz2 : ¬ x.toInt < (sz k : Int) := by rw [← hk9]; exact fun q => hlt (Int32.lt_iff_toInt_lt.mpr q)
          rw [if_neg hz2] at h3
          exact ihr ((true, k, lt) :: C) (some k) gr (fun b hb9 => hok b (by simp [tids, hb9])) h3 H locs hH hS ls (lv_sub hl [0, 1, 2, 3] rfl)
  rw [t_top] at hl
  exact loop T [] none t_rep t_ok rfl s.heap [] hH hS ls (lv_sub hl [0, 1, 2, 3] rfl)

set_option maxRecDepth 100000 in
set_option maxHeartbeats 4000000 in
theorem c_X1_find {t0 : Nat} {T : Tr} {x : Int32} (h : TR L K sz P t0 T) : Md l yX1_find wsX1_find (rmL 3 0 0) D lo Γ [.ref t0, .int x] ((L, K, sz, si, P, bi, tu), M, V) (some (va_rf (fnd sz x.toInt T))) ((L, K, sz, si, P, bi, tu), M, V) := by
  refine Mz_of (cc := cX1_find) (maxL := 3) (ret := (some (.object "SplayOrchard$Apple"))) (by decide) rfl (Nat.le_of_ble_eq_true rfl) ?_
  intro p e s m args below meth c ls S hr hlocks hK hH hS hl
  have hx := S.1
  have hb := S.2.1
  have hts := S.2.2.2.2
  have f32 : (Cond.fieldLink RX1 32 (TX0 0).1 (TX0 0).2.1 (TX0 0).2.2.1).before args s = true := hts _ (List.mem_of_getElem? (i := 1) rfl)
  have hi0 : ∀ w ∈ wsX00, w ∈ wsX1_find := by decide +kernel
  have hl : lv_has ls 3 [(0, .ref t0), (1, .int x)] := hl
  have hT := h
  obtain ⟨t_in, t_k, t_top, t_rep, t_nd, t_ok⟩ := h
  have ok_t0 : t0 ∈ L ∧ K t0 = 1 := ⟨t_in, t_k⟩
  refine lv_aload_n hx hb dX1_find_0 rfl (lv_at hl 0 rfl) ?_
  refine lv_iload_n hx hb dX1_find_1 rfl (lv_at hl 1 rfl) ?_
  refine cV S (c_X1_nearest (l := l) (D := D) (lo := lo) (Γ := Γ) (sz := sz) (si := si) (P := P) (bi := bi) (tu := tu) (M := M) (V := V) (x := x) hT) (cwV 1 hts gX1_find_X1_nearest rfl rfl rfl (by decide +kernel) ⟨Nat.le_of_ble_eq_true rfl, Nat.le_of_ble_eq_true rfl⟩) hK hH (Hp_recv hK hH ok_t0.1 ok_t0.2 rfl) hS rfl hl.1 rfl (Nat.le_of_ble_eq_true rfl) dX1_find_2 ⟨Nat.le_of_ble_eq_true rfl, Nat.le_of_ble_eq_true rfl⟩ (fun v Z1 H locs hpost hH hS => ?_)
  obtain ⟨rfl, rfl⟩ := hpost
  refine lq_astore_n (lv' := [(0, .ref t0), (1, .int x)]) S dX1_find_5 rfl hl (by decide) rfl (fun ls hl => ?_)
  refine lq_aload_n S dX1_find_6 rfl (lv_at hl 0 rfl) ?_
  refine lq_ifnull S dX1_find_7 (tgt := 22) (by decide) (fun hq => ?_) (fun b hq => ?_)
  · skip
    refine lv_null hx hb dX1_find_22 ?_
    exact eA S hr hlocks none rfl hH hS ⟨by rw [nrs_fnd0 hq], rfl⟩ dX1_find_23
  · skip
    have hbT := nrs_mem hq
    have ok_b := (t_ok b hbT).1
    have hk9 : (nI (sz b)).toInt = (sz b : Int) := nI_toInt (by have := (t_ok b hbT).2; omega)
    rw [hq] at hl
    refine lv_aload_n hx hb dX1_find_10 rfl (lv_at hl 0 rfl) ?_
    refine gA S hi0 hK hH ok_b 0 (by decide) f32 (v := .int (nI (sz b))) rfl dX1_find_11 ?_
    refine lv_iload_n hx hb dX1_find_14 rfl (lv_at hl 2 rfl) ?_
    refine lv_icmp_ne (tgt := 22) hx hb dX1_find_15 (by decide) (fun h1 => ?_) (fun h1 => ?_)
    · skip
      refine lv_null hx hb dX1_find_22 ?_
      exact eA S hr hlocks none rfl hH hS ⟨by rw [nrs_ne hq (fun q => h1 (Int32.toInt_inj.mp (hk9.trans q.symm)))], rfl⟩ dX1_find_23
    · skip
      refine lv_aload_n hx hb dX1_find_18 rfl (lv_at hl 0 rfl) ?_
      refine lv_goto (tgt := 23) hx hb dX1_find_19 (by decide) ?_
      exact eA S hr hlocks (some b) rfl hH hS ⟨by rw [nrs_eq hq (by rw [← h1, hk9])], rfl⟩ dX1_find_23
end MTree
end
section
/-! METHODS of SplayOrchard$Tree, the second part -/
def hngT (P : PF) (t0 a : Nat) (C : Cx) : PF := match C with
  | [] => stp P t0 (some a)
  | (s, p, _) :: _ => hng P (some a) (some p) (bt s)
def atL : List Nat → Int32 → Nat → Option Nat
  | [], _, _ => none
  | b :: l, x, i => if nI i = x then some b else atL l x (i + 1)
def fvs (bi : Nat → Nat) : Option Nat → List Nat → Option Nat
  | acc, [] => acc
  | none, b :: l => fvs bi (some b) l
  | some g, b :: l => fvs bi (if nI (bi b) ≤ nI (bi g) then some g else some b) l
theorem inc_side {sz : Nat → Nat} {z : Int} : ∀ (T : Tr) (C : Cx), (∀ f, C.head? = some f → f.1 = !decide (z < (sz f.2.1 : Int))) → ∀ f, (inc sz z T C).head? = some f → f.1 = !decide (z < (sz f.2.1 : Int)) := by
  intro T
  induction T with
  | leaf u => intro C h f hf; exact h f hf
  | branch k l r ihl ihr =>
    intro C h f hf
    unfold inc at hf
    split at hf
    · rename_i hlt
      exact ihl _ (fun g hg => by cases hg; simp [hlt]) f hf
    · rename_i hlt
      exact ihr _ (fun g hg => by cases hg; simp [hlt]) f hf
theorem iol_of {P : PF} {k p : Nat} {s : Bool} {u : Tr} {C : Cx} (h : repC P (some k) ((s, p, u) :: C)) (hp : P 2 k = some p) (hk : k ∉ tids u) : iol P k = !s := by
  obtain ⟨h1, h2, -⟩ := h
  unfold iol
  rw [hp]
  cases s
  · have h1 : P 0 p = some k := h1
    simp [h1]
  · have h2 : P 0 p = rt u := h2
    simp only [h2]
    simp only [Bool.not_true, decide_eq_false_iff_not]
    exact fun e => hk (rt_mem e)
theorem trn_apart3 {a : Nat} {l r : Tr} {s1 s2 : Bool} {p1 p2 : Nat} {u1 u2 : Tr} {C : Cx} (hn : (tids (plug (.branch a l r) ((s1, p1, u1) :: (s2, p2, u2) :: C))).Nodup) : p1 ∉ tids u2 := by
  obtain ⟨x, y, e1, -⟩ := nd_zz s1 p1 p2 (.branch a l r) u1 u2
  have hn1 : (tids (plug (.branch p1 x y) ((s2, p2, u2) :: C))).Nodup := by rw [← e1]; exact hn
  exact fun q => ((trn_apart hn1).2.2.1 p1 q).1 rfl
theorem nI_m2 (n : Nat) : nI (n + 2) + Int32.ofInt (-2) = nI n := by
  have h1 : nI (n + 2) = nI n + 2 := (nI_add n 2).symm
  rw [h1, Int32.add_assoc]
  have h2 : (2 : Int32) + Int32.ofInt (-2) = 0 := by decide
  rw [h2, Int32.add_zero]
section MTree2
variable {l : Launch} {D : va_G} {lo : Nat} {Γ : GT} {L : List Nat} {K : Nat → Nat} {sz : Nat → Nat} {si : Nat → Option Nat} {P : PF} {bi : Nat → Nat} {tu : Nat} {M : MW} {V : Int64 × UInt64}
set_option maxRecDepth 100000 in
set_option maxHeartbeats 4000000 in
theorem c_X1_hang {t0 a : Nat} {T : Tr} (h : TR L K sz P t0 T) (ok_a : okA L K a) (ha9 : sz a < 1000) (hf : fnd sz (sz a : Int) T = none) : Md l yX1_hang wsX1_hang (rmL 3 0 0) D lo Γ [.ref t0, .ref a] ((L, K, sz, si, P, bi, tu), M, V) none ((L, K, sz, si, (hngT P t0 a (inc sz (sz a : Int) T [])), bi, tu), M, V) := by
  refine Mz_of (cc := cX1_hang) (maxL := 3) (ret := none) (by decide) rfl (Nat.le_of_ble_eq_true rfl) ?_
  intro p e s m args below meth c ls S hr hlocks hK hH hS hl
  have hx := S.1
  have hb := S.2.1
  have hts := S.2.2.2.2
  have f32 : (Cond.fieldLink RX1 32 (TX0 0).1 (TX0 0).2.1 (TX0 0).2.2.1).before args s = true := hts _ (List.mem_of_getElem? (i := 1) rfl)
  have hi0 : ∀ w ∈ wsX00, w ∈ wsX1_hang := by decide +kernel
  have hl : lv_has ls 3 [(0, .ref t0), (1, .ref a)] := hl
  have hT := h
  obtain ⟨t_in, t_k, t_top, t_rep, t_nd, t_ok⟩ := h
  have ok_t0 : t0 ∈ L ∧ K t0 = 1 := ⟨t_in, t_k⟩
  have hz9 : (nI (sz a)).toInt = (sz a : Int) := nI_toInt (by omega)
  refine lv_aload_n hx hb dX1_hang_0 rfl (lv_at hl 0 rfl) ?_
  refine lv_aload_n hx hb dX1_hang_1 rfl (lv_at hl 1 rfl) ?_
  refine gA S hi0 hK hH ok_a 0 (by decide) f32 (v := .int (nI (sz a))) rfl dX1_hang_2 ?_
  refine cV S (c_X1_nearest (l := l) (D := D) (lo := lo) (Γ := Γ) (sz := sz) (si := si) (P := P) (bi := bi) (tu := tu) (M := M) (V := V) (x := nI (sz a)) hT) (cwV 1 hts gX1_hang_X1_nearest rfl rfl rfl (by decide +kernel) ⟨Nat.le_of_ble_eq_true rfl, Nat.le_of_ble_eq_true rfl⟩) hK hH (Hp_recv hK hH ok_t0.1 ok_t0.2 rfl) hS rfl hl.1 rfl (Nat.le_of_ble_eq_true rfl) dX1_hang_5 ⟨Nat.le_of_ble_eq_true rfl, Nat.le_of_ble_eq_true rfl⟩ (fun v Z1 H locs hpost hH hS => ?_)
  obtain ⟨rfl, rfl⟩ := hpost
  have hn9 : nrs sz (nI (sz a)).toInt T [] = parC (inc sz (sz a : Int) T []) := by rw [hz9, nrs, hf]
  rw [hn9]
  have hside := inc_side (sz := sz) (z := (sz a : Int)) T [] (fun f hf => by cases hf)
  rcases hi : inc sz (sz a : Int) T [] with _ | ⟨⟨s9, p9, u9⟩, C9⟩
  · skip
    refine lv_astore_nN (lv' := [(2, .null), (0, .ref t0), (1, .ref a)]) hx hb dX1_hang_8 rfl hl (by decide) rfl (fun ls hl => ?_)
    refine lv_aload_nN hx hb dX1_hang_9 rfl (lv_at hl 0 rfl) ?_
    refine lv_ifnonnullN hx hb dX1_hang_10 ?_
    refine lv_aload_n hx hb dX1_hang_13 rfl (lv_at hl 1 rfl) ?_
    refine lv_aload_n hx hb dX1_hang_14 rfl (lv_at hl 2 rfl) ?_
    refine cV S (c_X1_setTop (l := l) (D := D) (lo := lo) (Γ := Γ) (sz := sz) (si := si) (P := P) (bi := bi) (tu := tu) (M := M) (V := V) (r := some a) ok_t0 (fun b h => by cases h; exact ok_a)) (cwV 1 hts gX1_hang_X1_setTop rfl rfl rfl (by decide +kernel) ⟨Nat.le_of_ble_eq_true rfl, Nat.le_of_ble_eq_true rfl⟩) hK hH (Hp_recv hK hH ok_t0.1 ok_t0.2 rfl) hS rfl hl.1 rfl (Nat.le_of_ble_eq_true rfl) dX1_hang_15 ⟨Nat.le_of_ble_eq_true rfl, Nat.le_of_ble_eq_true rfl⟩ (fun v Z1 H locs hpost hH hS => ?_)
    obtain ⟨rfl, rfl⟩ := hpost
    refine lv_goto (tgt := 45) hx hb dX1_hang_18 (by decide) ?_
    exact eV S hr hlocks hH hS ⟨rfl, by rw [hngT]⟩ dX1_hang_45
  · skip
    have hpT : p9 ∈ tids T := by rcases inc_par T [] p9 (by rw [hi]; rfl) with h | h; exact h; cases h
    have ok_p9 := (t_ok p9 hpT).1
    have hz8 : (nI (sz p9)).toInt = (sz p9 : Int) := nI_toInt (by have := (t_ok p9 hpT).2; omega)
    refine lv_astore_n (lv' := [(2, .ref p9), (0, .ref t0), (1, .ref a)]) hx hb dX1_hang_8 rfl hl (by decide) rfl (fun ls hl => ?_)
    refine lv_aload_n hx hb dX1_hang_9 rfl (lv_at hl 0 rfl) ?_
    refine lv_ifnonnull hx hb dX1_hang_10 (tgt := 21) (by decide) ?_
    refine lv_aload_n hx hb dX1_hang_21 rfl (lv_at hl 2 rfl) ?_
    refine gA S hi0 hK hH ok_a 0 (by decide) f32 (v := .int (nI (sz a))) rfl dX1_hang_22 ?_
    refine lv_aload_n hx hb dX1_hang_25 rfl (lv_at hl 0 rfl) ?_
    refine gA S hi0 hK hH ok_p9 0 (by decide) f32 (v := .int (nI (sz p9))) rfl dX1_hang_26 ?_
    refine lv_icmp_ge (tgt := 40) hx hb dX1_hang_29 (by decide) (fun h1 => ?_) (fun h1 => ?_)
    · skip
      have hs9 : s9 = true := by
        have h2 : s9 = !decide ((sz a : Int) < (sz p9 : Int)) := hside (s9, p9, u9) (by rw [hi]; rfl)
        rw [h2]
        have h3 := Int32.le_iff_toInt_le (x := nI (sz p9)) (y := nI (sz a))
        rw [hz9, hz8] at h3
        have h4 := h3.mp h1
        simp; omega
      subst hs9
      refine lv_aload_n hx hb dX1_hang_40 rfl (lv_at hl 0 rfl) ?_
      refine lv_aload_n hx hb dX1_hang_41 rfl (lv_at hl 2 rfl) ?_
      refine cV S (c_X0_hangRight (l := l) (D := D) (lo := lo) (Γ := Γ) (sz := sz) (si := si) (P := P) (bi := bi) (tu := tu) (M := M) (V := V) (r := some a) ok_p9 (fun b h => by cases h; exact ok_a)) (cwV 1 hts gX1_hang_X0_hangRight rfl rfl rfl (by decide +kernel) ⟨Nat.le_of_ble_eq_true rfl, Nat.le_of_ble_eq_true rfl⟩) hK hH (Hp_recv hK hH ok_p9.1 ok_p9.2 rfl) hS rfl hl.1 rfl (Nat.le_of_ble_eq_true rfl) dX1_hang_42 ⟨Nat.le_of_ble_eq_true rfl, Nat.le_of_ble_eq_true rfl⟩ (fun v Z1 H locs hpost hH hS => ?_)
      obtain ⟨rfl, rfl⟩ := hpost
      exact eV S hr hlocks hH hS ⟨rfl, by rw [hngT]; rfl⟩ dX1_hang_45
    · skip
      have hs9 : s9 = false := by
        have h2 : s9 = !decide ((sz a : Int) < (sz p9 : Int)) := hside (s9, p9, u9) (by rw [hi]; rfl)
        rw [h2]
        have h3 := Int32.le_iff_toInt_le (x := nI (sz p9)) (y := nI (sz a))
        rw [hz9, hz8] at h3
        have h4 := mt h3.mpr h1
        simp; omega
      subst hs9
      refine lv_aload_n hx hb dX1_hang_32 rfl (lv_at hl 0 rfl) ?_
      refine lv_aload_n hx hb dX1_hang_33 rfl (lv_at hl 2 rfl) ?_
      refine cV S (c_X0_hangLeft (l := l) (D := D) (lo := lo) (Γ := Γ) (sz := sz) (si := si) (P := P) (bi := bi) (tu := tu) (M := M) (V := V) (r := some a) ok_p9 (fun b h => by cases h; exact ok_a)) (cwV 1 hts gX1_hang_X0_hangLeft rfl rfl rfl (by decide +kernel) ⟨Nat.le_of_ble_eq_true rfl, Nat.le_of_ble_eq_true rfl⟩) hK hH (Hp_recv hK hH ok_p9.1 ok_p9.2 rfl) hS rfl hl.1 rfl (Nat.le_of_ble_eq_true rfl) dX1_hang_34 ⟨Nat.le_of_ble_eq_true rfl, Nat.le_of_ble_eq_true rfl⟩ (fun v Z1 H locs hpost hH hS => ?_)
      obtain ⟨rfl, rfl⟩ := hpost
      refine lv_goto (tgt := 45) hx hb dX1_hang_37 (by decide) ?_
      exact eV S hr hlocks hH hS ⟨rfl, by rw [hngT]; rfl⟩ dX1_hang_45

set_option maxRecDepth 100000 in
set_option maxHeartbeats 4000000 in
theorem c_X1_bringUp {t0 a : Nat} {lt r9 : Tr} {C : Cx} (ok_t0 : t0 ∈ L ∧ K t0 = 1) (hz : Zp P (.branch a lt r9) C) (hn : (tids (plug (.branch a lt r9) C)).Nodup) (hok : ∀ b ∈ tids (plug (.branch a lt r9) C), okA L K b) (h40 : C.length < 1000) : Md l yX1_bringUp wsX1_bringUp (rmL 3 0 0) D lo Γ [.ref t0, .ref a] ((L, K, sz, si, P, bi, tu), M, V) (some (.int (nI C.length))) ((L, K, sz, si, (sP (rai a C P) 3 t0 (some a)), bi, tu), M, V) := by
  refine Mz_of (cc := cX1_bringUp) (maxL := 6) (ret := (some .int)) (by decide) rfl (Nat.le_of_ble_eq_true rfl) ?_
  intro p e s m args below meth c ls S hr hlocks hK hH hS hl
  have hx := S.1
  have hb := S.2.1
  have hts := S.2.2.2.2
  have f13 : (Cond.fieldLink RX1 13 (TX0 2).1 (TX0 2).2.1 (TX0 2).2.2.1).before args s = true := hts _ (List.mem_of_getElem? (i := 1) rfl)
  have f7 : (Cond.fieldLink RX1 7 (TX1 0).1 (TX1 0).2.1 (TX1 0).2.2.1).before args s = true := hts _ (List.mem_of_getElem? (i := 2) rfl)
  have hi0 : ∀ w ∈ wsX00, w ∈ wsX1_bringUp := by decide +kernel
  have hi1 : ∀ w ∈ wsX10, w ∈ wsX1_bringUp := by decide +kernel
  have hl : lv_has ls 6 [(0, .ref t0), (1, .ref a)] := hl
  have ok_a : okA L K a := hok a (by rw [tids_zip]; simp)
  refine lv_aload_n hx hb dX1_bringUp_0 rfl (lv_at hl 1 rfl) ?_
  refine cV S (c_X0_depth (l := l) (D := D) (lo := lo) (Γ := Γ) (sz := sz) (si := si) (P := P) (bi := bi) (tu := tu) (M := M) (V := V) (d := C.length) ok_a (by rw [show P 2 a = parC C from hz.1.1]; exact UC_of C _ hz.2)) (cwV 0 hts gX1_bringUp_X0_depth rfl rfl rfl (by decide +kernel) ⟨Nat.le_of_ble_eq_true rfl, Nat.le_of_ble_eq_true rfl⟩) hK hH (Hp_recv hK hH ok_a.1 ok_a.2 rfl) hS rfl hl.1 rfl (Nat.le_of_ble_eq_true rfl) dX1_bringUp_1 ⟨Nat.le_of_ble_eq_true rfl, Nat.le_of_ble_eq_true rfl⟩ (fun v Z1 H locs hpost hH hS => ?_)
  obtain ⟨rfl, rfl⟩ := hpost
  refine lv_istore_n (lv' := [(2, .int (nI C.length)), (0, .ref t0), (1, .ref a)]) hx hb dX1_bringUp_4 rfl hl (by decide) rfl (fun ls hl => ?_)
  refine lv_iload_n hx hb dX1_bringUp_5 rfl (lv_at hl 0 rfl) ?_
  refine lv_istore_n (lv' := [(3, .int (nI C.length)), (2, .int (nI C.length)), (0, .ref t0), (1, .ref a)]) hx hb dX1_bringUp_6 rfl hl (by decide) rfl (fun ls hl => ?_)
  have loop : ∀ (n : Nat) (C' : Cx) (P' : PF) (l' r' : Tr) (x3 : Int32), C'.length ≤ n → Zp P' (.branch a l' r') C' → tids (plug (.branch a l' r') C') = tids (plug (.branch a lt r9) C) → rai a C' P' = rai a C P → C'.length < 1000 → (C' = [] → x3 = 0 ∨ x3 = -1) → (C' ≠ [] → x3 = nI C'.length) → ∀ H locs, Hp D lo Γ ((L, K, sz, si, P', bi, tu), M, V) H → va_S (lA lo) s.heap H locs → ∀ ls, lv_has ls 6 [(3, .int x3), (2, .int (nI C.length)), (0, .ref t0), (1, .ref a)] → W p l e (rmL 3 0 0) s m args below meth c H locs 0 0 (MQ below (Qz D lo Γ (fun v Z' => v = (some (.int (nI C.length))) ∧ Z' = ((L, K, sz, si, (sP (rai a C P) 3 t0 (some a)), bi, tu), M, V))) args s ((rmL 3 0 0) : Room).cells ((rmL 3 0 0) : Room).slots (lA lo)) (F0 m 7 ls []) := by
    have hend : ∀ (P' : PF) (x3 : Int32), (x3 = 0 ∨ x3 = -1) → P' = rai a C P → ∀ H locs, Hp D lo Γ ((L, K, sz, si, P', bi, tu), M, V) H → va_S (lA lo) s.heap H locs → ∀ ls, lv_has ls 6 [(3, .int x3), (2, .int (nI C.length)), (0, .ref t0), (1, .ref a)] → W p l e (rmL 3 0 0) s m args below meth c H locs 0 0 (MQ below (Qz D lo Γ (fun v Z' => v = (some (.int (nI C.length))) ∧ Z' = ((L, K, sz, si, (sP (rai a C P) 3 t0 (some a)), bi, tu), M, V))) args s ((rmL 3 0 0) : Room).cells ((rmL 3 0 0) : Room).slots (lA lo)) (F0 m 7 ls []) := by
      intro P' x3 hx3 hP' H locs hH hS ls hl
      refine lv_iload_n hx hb dX1_bringUp_7 rfl (lv_at hl 0 rfl) ?_
      refine lv_if_le (tgt := 65) hx hb dX1_bringUp_8 (by decide) (fun h1 => ?_) (fun h1 => absurd (by rcases hx3 with rfl | rfl <;> decide) h1)
      refine lv_aload_n hx hb dX1_bringUp_65 rfl (lv_at hl 2 rfl) ?_
      refine lv_aload_n hx hb dX1_bringUp_66 rfl (lv_at hl 3 rfl) ?_
      refine pT S hi1 hK hH hS ok_t0.1 ok_t0.2 (some a) (fun b h => by cases h; exact ok_a) f7 rfl dX1_bringUp_67 (fun H locs hH hS => ?_)
      refine lv_iload_n hx hb dX1_bringUp_70 rfl (lv_at hl 1 rfl) ?_
      exact eI S hr hlocks hH hS ⟨rfl, by rw [hP']⟩ dX1_bringUp_71
    intro n
    induction n with
    | zero =>
      intro C' P' l' r' x3 h0 hz' hid hrai h1000 hx3 _ H locs hH hS ls hl
      have hC0 : C' = [] := List.length_eq_zero_iff.mp (by omega)
      subst hC0
      exact hend P' x3 (hx3 rfl) hrai H locs hH hS ls hl
    | succ n ih =>
      intro C' P' l' r' x3 h0 hz' hid hrai h1000 hx3 hx4 H locs hH hS ls hl
      have hnd : (tids (plug (.branch a l' r') C')).Nodup := by rw [hid]; exact hn
      match C', h0, hz', hid, hrai, h1000, hx3, hx4, hnd with
      | [], h0, hz', hid, hrai, h1000, hx3, hx4, hnd => exact hend P' x3 (hx3 rfl) hrai H locs hH hS ls hl
      | [(s1, p1, u1)], h0, hz', hid, hrai, h1000, hx3, hx4, hnd =>
        have e3 : x3 = nI 1 := hx4 (by simp)
        subst e3
        have hp : P' 2 a = some p1 := hz'.1.1
        have hpp : P' 2 p1 = none := hz'.2.2.2.2.1
        have ok_p1 := hH.2.2.2.1 a ok_a 2 (by decide) p1 hp
        refine lv_iload_n hx hb dX1_bringUp_7 rfl (lv_at hl 0 rfl) ?_
        refine lv_if_le (tgt := 65) hx hb dX1_bringUp_8 (by decide) (fun h1 => absurd h1 (by decide)) (fun h1 => ?_)
        refine lv_aload_n hx hb dX1_bringUp_11 rfl (lv_at hl 3 rfl) ?_
        refine gA S hi0 hK hH ok_a 2 (by decide) f13 (v := .ref p1) (by show some (va_rf (P' 2 a)) = _; rw [hp]; rfl) dX1_bringUp_12 ?_
        refine lv_astore (lv' := [(4, .ref p1), (3, .int (nI 1)), (2, .int (nI C.length)), (0, .ref t0), (1, .ref a)]) hx hb dX1_bringUp_15 hl (by decide) rfl (fun ls hl => ?_)
        refine lv_aload hx hb dX1_bringUp_17 (lv_at hl 0 rfl) ?_
        refine lv_ifnull hx hb dX1_bringUp_19 ?_
        refine lv_aload hx hb dX1_bringUp_22 (lv_at hl 0 rfl) ?_
        refine gA S hi0 hK hH ok_p1 2 (by decide) f13 (v := .null) (by show some (va_rf (P' 2 p1)) = _; rw [hpp]; rfl) dX1_bringUp_24 ?_
        refine lv_ifnullN hx hb dX1_bringUp_27 (tgt := 55) (by decide) ?_
        refine lv_aload_n hx hb dX1_bringUp_55 rfl (lv_at hl 4 rfl) ?_
        refine cV S (c_X0_turn (l := l) (D := D) (lo := lo) (Γ := Γ) (sz := sz) (si := si) (P := P') (bi := bi) (tu := tu) (M := M) (V := V) ok_a) (cwV 0 hts gX1_bringUp_X0_turn rfl rfl rfl (by decide +kernel) ⟨Nat.le_of_ble_eq_true rfl, Nat.le_of_ble_eq_true rfl⟩) hK hH (Hp_recv hK hH ok_a.1 ok_a.2 rfl) hS rfl hl.1 rfl (Nat.le_of_ble_eq_true rfl) dX1_bringUp_56 ⟨Nat.le_of_ble_eq_true rfl, Nat.le_of_ble_eq_true rfl⟩ (fun v Z1 H locs hpost hH hS => ?_)
        obtain ⟨rfl, rfl⟩ := hpost
        refine lv_iinc (v := -1) (lv' := [(3, .int (-1)), (4, .ref p1), (2, .int (nI C.length)), (0, .ref t0), (1, .ref a)]) hx hb dX1_bringUp_59 hl (k := 1) rfl (by decide) (by decide) rfl (fun ls hl => ?_)
        refine lv_goto (tgt := 7) hx hb dX1_bringUp_62 (by decide) ?_
        exact hend (trn P' a) (-1) (Or.inr rfl) hrai H locs hH hS ls (lv_sub hl [0, 2, 3, 4] rfl)
      | (s1, p1, u1) :: (s2, p2, u2) :: C2, h0, hz', hid, hrai, h1000, hx3, hx4, hnd =>
        have e3 : x3 = nI (C2.length + 2) := hx4 (by simp)
        subst e3
        have hp : P' 2 a = some p1 := hz'.1.1
        have hpp : P' 2 p1 = some p2 := hz'.2.2.2.2.1
        have ok_p1 := hH.2.2.2.1 a ok_a 2 (by decide) p1 hp
        have hau : a ∉ tids u1 := fun q => ((trn_apart hnd).2.2.1 a q).1 rfl
        have hpu : p1 ∉ tids u2 := (trn_apart3 hnd)
        have i1 : iol P' a = !s1 := iol_of hz'.2 hp hau
        have i2 : iol P' p1 = !s2 := iol_of hz'.2.2.2.2.2 hpp hpu
        obtain ⟨l2, r2, g1, g2, g3, g4, g5⟩ := rai_step hz' hnd
        have hlen9 : C2.length + 2 < 1000 := h1000
        refine lv_iload_n hx hb dX1_bringUp_7 rfl (lv_at hl 0 rfl) ?_
        refine lv_if_le (tgt := 65) hx hb dX1_bringUp_8 (by decide) (fun h1 => absurd h1 (nI_nle (by omega) (by omega))) (fun h1 => ?_)
        refine lv_aload_n hx hb dX1_bringUp_11 rfl (lv_at hl 3 rfl) ?_
        refine gA S hi0 hK hH ok_a 2 (by decide) f13 (v := .ref p1) (by show some (va_rf (P' 2 a)) = _; rw [hp]; rfl) dX1_bringUp_12 ?_
        refine lv_astore (lv' := [(4, .ref p1), (3, .int (nI (C2.length + 2))), (2, .int (nI C.length)), (0, .ref t0), (1, .ref a)]) hx hb dX1_bringUp_15 hl (by decide) rfl (fun ls hl => ?_)
        refine lv_aload hx hb dX1_bringUp_17 (lv_at hl 0 rfl) ?_
        refine lv_ifnull hx hb dX1_bringUp_19 ?_
        refine lv_aload hx hb dX1_bringUp_22 (lv_at hl 0 rfl) ?_
        refine gA S hi0 hK hH ok_p1 2 (by decide) f13 (v := .ref p2) (by show some (va_rf (P' 2 p1)) = _; rw [hpp]; rfl) dX1_bringUp_24 ?_
        refine lv_ifnull hx hb dX1_bringUp_27 ?_
        refine lv_aload_n hx hb dX1_bringUp_30 rfl (lv_at hl 4 rfl) ?_
        refine cV S (c_X0_isOnTheLeft (l := l) (D := D) (lo := lo) (Γ := Γ) (sz := sz) (si := si) (P := P') (bi := bi) (tu := tu) (M := M) (V := V) ok_a) (cwV 0 hts gX1_bringUp_X0_isOnTheLeft rfl rfl rfl (by decide +kernel) ⟨Nat.le_of_ble_eq_true rfl, Nat.le_of_ble_eq_true rfl⟩) hK hH (Hp_recv hK hH ok_a.1 ok_a.2 rfl) hS rfl hl.1 rfl (Nat.le_of_ble_eq_true rfl) dX1_bringUp_31 ⟨Nat.le_of_ble_eq_true rfl, Nat.le_of_ble_eq_true rfl⟩ (fun v Z1 H locs hpost hH hS => ?_)
        obtain ⟨rfl, rfl⟩ := hpost
        refine lv_aload hx hb dX1_bringUp_34 (lv_at hl 0 rfl) ?_
        refine cV S (c_X0_isOnTheLeft (l := l) (D := D) (lo := lo) (Γ := Γ) (sz := sz) (si := si) (P := P') (bi := bi) (tu := tu) (M := M) (V := V) ok_p1) (cwV 0 hts gX1_bringUp_X0_isOnTheLeft rfl rfl rfl (by decide +kernel) ⟨Nat.le_of_ble_eq_true rfl, Nat.le_of_ble_eq_true rfl⟩) hK hH (Hp_recv hK hH ok_p1.1 ok_p1.2 rfl) hS rfl hl.1 rfl (Nat.le_of_ble_eq_true rfl) dX1_bringUp_36 ⟨Nat.le_of_ble_eq_true rfl, Nat.le_of_ble_eq_true rfl⟩ (fun v Z1 H locs hpost hH hS => ?_)
        obtain ⟨rfl, rfl⟩ := hpost
        refine lv_icmp_ne (tgt := 47) hx hb dX1_bringUp_39 (by decide) (fun h1 => ?_) (fun h1 => ?_)
        · skip
          rw [i1, i2] at h1
          have hs12 : ¬ s1 = s2 := fun q => h1 (by rw [q])
          rw [if_neg hs12] at g2 g4 g5
          refine lv_aload_n hx hb dX1_bringUp_47 rfl (lv_at hl 4 rfl) ?_
          refine lv_astore (lv' := [(5, .ref a), (4, .ref p1), (3, .int (nI (C2.length + 2))), (2, .int (nI C.length)), (0, .ref t0), (1, .ref a)]) hx hb dX1_bringUp_48 hl (by decide) rfl (fun ls hl => ?_)
          refine lv_aload hx hb dX1_bringUp_50 (lv_at hl 0 rfl) ?_
          refine cV S (c_X0_turn (l := l) (D := D) (lo := lo) (Γ := Γ) (sz := sz) (si := si) (P := P') (bi := bi) (tu := tu) (M := M) (V := V) ok_a) (cwV 0 hts gX1_bringUp_X0_turn rfl rfl rfl (by decide +kernel) ⟨Nat.le_of_ble_eq_true rfl, Nat.le_of_ble_eq_true rfl⟩) hK hH (Hp_recv hK hH ok_a.1 ok_a.2 rfl) hS rfl hl.1 rfl (Nat.le_of_ble_eq_true rfl) dX1_bringUp_52 ⟨Nat.le_of_ble_eq_true rfl, Nat.le_of_ble_eq_true rfl⟩ (fun v Z1 H locs hpost hH hS => ?_)
          obtain ⟨rfl, rfl⟩ := hpost
          refine lv_aload_n hx hb dX1_bringUp_55 rfl (lv_at hl 5 rfl) ?_
          refine cV S (c_X0_turn (l := l) (D := D) (lo := lo) (Γ := Γ) (sz := sz) (si := si) (P := (trn P' a)) (bi := bi) (tu := tu) (M := M) (V := V) ok_a) (cwV 0 hts gX1_bringUp_X0_turn rfl rfl rfl (by decide +kernel) ⟨Nat.le_of_ble_eq_true rfl, Nat.le_of_ble_eq_true rfl⟩) hK hH (Hp_recv hK hH ok_a.1 ok_a.2 rfl) hS rfl hl.1 rfl (Nat.le_of_ble_eq_true rfl) dX1_bringUp_56 ⟨Nat.le_of_ble_eq_true rfl, Nat.le_of_ble_eq_true rfl⟩ (fun v Z1 H locs hpost hH hS => ?_)
          obtain ⟨rfl, rfl⟩ := hpost
          refine lv_iinc (v := nI C2.length) (lv' := [(3, .int (nI C2.length)), (5, .ref a), (4, .ref p1), (2, .int (nI C.length)), (0, .ref t0), (1, .ref a)]) hx hb dX1_bringUp_59 hl (k := 2) rfl (nI_m2 _) (by decide) rfl (fun ls hl => ?_)
          refine lv_goto (tgt := 7) hx hb dX1_bringUp_62 (by decide) ?_
          exact ih C2 _ l2 r2 (nI C2.length) (by simp only [List.length_cons] at h0; omega) g2 (by rw [g3, hid]) (by rw [← hrai]; show _ = rai a C2 _; rw [if_neg hs12]) (by omega) (fun e => by subst e; exact Or.inl rfl) (fun _ => rfl) H locs hH hS ls (lv_sub hl [0, 3, 4, 5] rfl)
        · skip
          rw [i1, i2] at h1
          have hs12 : s1 = s2 := by cases s1 <;> cases s2 <;> first | rfl | exact absurd h1 (by decide)
          rw [if_pos hs12] at g2 g4 g5
          refine lv_aload hx hb dX1_bringUp_42 (lv_at hl 0 rfl) ?_
          refine lv_goto (tgt := 48) hx hb dX1_bringUp_44 (by decide) ?_
          refine lv_astore (lv' := [(5, .ref p1), (4, .ref p1), (3, .int (nI (C2.length + 2))), (2, .int (nI C.length)), (0, .ref t0), (1, .ref a)]) hx hb dX1_bringUp_48 hl (by decide) rfl (fun ls hl => ?_)
          refine lv_aload hx hb dX1_bringUp_50 (lv_at hl 0 rfl) ?_
          refine cV S (c_X0_turn (l := l) (D := D) (lo := lo) (Γ := Γ) (sz := sz) (si := si) (P := P') (bi := bi) (tu := tu) (M := M) (V := V) ok_p1) (cwV 0 hts gX1_bringUp_X0_turn rfl rfl rfl (by decide +kernel) ⟨Nat.le_of_ble_eq_true rfl, Nat.le_of_ble_eq_true rfl⟩) hK hH (Hp_recv hK hH ok_p1.1 ok_p1.2 rfl) hS rfl hl.1 rfl (Nat.le_of_ble_eq_true rfl) dX1_bringUp_52 ⟨Nat.le_of_ble_eq_true rfl, Nat.le_of_ble_eq_true rfl⟩ (fun v Z1 H locs hpost hH hS => ?_)
          obtain ⟨rfl, rfl⟩ := hpost
          refine lv_aload_n hx hb dX1_bringUp_55 rfl (lv_at hl 5 rfl) ?_
          refine cV S (c_X0_turn (l := l) (D := D) (lo := lo) (Γ := Γ) (sz := sz) (si := si) (P := (trn P' p1)) (bi := bi) (tu := tu) (M := M) (V := V) ok_a) (cwV 0 hts gX1_bringUp_X0_turn rfl rfl rfl (by decide +kernel) ⟨Nat.le_of_ble_eq_true rfl, Nat.le_of_ble_eq_true rfl⟩) hK hH (Hp_recv hK hH ok_a.1 ok_a.2 rfl) hS rfl hl.1 rfl (Nat.le_of_ble_eq_true rfl) dX1_bringUp_56 ⟨Nat.le_of_ble_eq_true rfl, Nat.le_of_ble_eq_true rfl⟩ (fun v Z1 H locs hpost hH hS => ?_)
          obtain ⟨rfl, rfl⟩ := hpost
          refine lv_iinc (v := nI C2.length) (lv' := [(3, .int (nI C2.length)), (5, .ref p1), (4, .ref p1), (2, .int (nI C.length)), (0, .ref t0), (1, .ref a)]) hx hb dX1_bringUp_59 hl (k := 2) rfl (nI_m2 _) (by decide) rfl (fun ls hl => ?_)
          refine lv_goto (tgt := 7) hx hb dX1_bringUp_62 (by decide) ?_
          exact ih C2 _ l2 r2 (nI C2.length) (by simp only [List.length_cons] at h0; omega) g2 (by rw [g3, hid]) (by rw [← hrai]; show _ = rai a C2 _; rw [if_pos hs12]) (by omega) (fun e => by subst e; exact Or.inl rfl) (fun _ => rfl) H locs hH hS ls (lv_sub hl [0, 3, 4, 5] rfl)
  exact loop C.length C P lt r9 (nI C.length) (Nat.le_refl _) hz rfl rfl h40 (fun e => by subst e; exact Or.inl rfl) (fun _ => rfl) _ _ hH hS ls (lv_sub hl [0, 1, 2, 3] rfl)

set_option maxRecDepth 100000 in
set_option maxHeartbeats 4000000 in
theorem c_X1_at {t0 : Nat} {T : Tr} {x : Int32} (h : TR L K sz P t0 T) : Md l yX1_at wsX1_at (rmL 3 0 0) D lo Γ [.ref t0, .int x] ((L, K, sz, si, P, bi, tu), M, V) (some (va_rf (atL (tids T) x 0))) ((L, K, sz, si, P, bi, tu), M, V) := by
  refine Mz_of (cc := cX1_at) (maxL := 4) (ret := (some (.object "SplayOrchard$Apple"))) (by decide) rfl (Nat.le_of_ble_eq_true rfl) ?_
  intro p e s m args below meth c ls S hr hlocks hK hH hS hl
  have hx := S.1
  have hb := S.2.1
  have hts := S.2.2.2.2
  have hl : lv_has ls 4 [(0, .ref t0), (1, .int x)] := hl
  have hT := h
  obtain ⟨t_in, t_k, t_top, t_rep, t_nd, t_ok⟩ := h
  have ok_t0 : t0 ∈ L ∧ K t0 = 1 := ⟨t_in, t_k⟩
  refine lv_iconst (v := 0) hx hb dX1_at_0 (by decide) ?_
  refine lv_istore_n (lv' := [(2, .int 0), (0, .ref t0), (1, .int x)]) hx hb dX1_at_1 rfl hl (by decide) rfl (fun ls hl => ?_)
  refine lv_aload_n hx hb dX1_at_2 rfl (lv_at hl 1 rfl) ?_
  refine cV S (c_X1_first (l := l) (D := D) (lo := lo) (Γ := Γ) (sz := sz) (si := si) (P := P) (bi := bi) (tu := tu) (M := M) (V := V) hT) (cwV 0 hts gX1_at_X1_first rfl rfl rfl (by decide +kernel) ⟨Nat.le_of_ble_eq_true rfl, Nat.le_of_ble_eq_true rfl⟩) hK hH (Hp_recv hK hH ok_t0.1 ok_t0.2 rfl) hS rfl hl.1 rfl (Nat.le_of_ble_eq_true rfl) dX1_at_3 ⟨Nat.le_of_ble_eq_true rfl, Nat.le_of_ble_eq_true rfl⟩ (fun v Z1 H locs hpost hH hS => ?_)
  obtain ⟨rfl, rfl⟩ := hpost
  refine lq_astore_n (lv' := [(2, .int 0), (0, .ref t0), (1, .int x)]) S dX1_at_6 rfl hl (by decide) rfl (fun ls hl => ?_)
  have loop : ∀ (post pre : List Nat), tids T = pre ++ post → atL post x pre.length = atL (tids T) x 0 → ∀ H locs, Hp D lo Γ ((L, K, sz, si, P, bi, tu), M, V) H → va_S (lA lo) s.heap H locs → ∀ ls, lv_has ls 4 [(3, va_rf (post.head?)), (2, .int (nI pre.length)), (0, .ref t0), (1, .int x)] → W p l e (rmL 3 0 0) s m args below meth c H locs 0 0 (MQ below (Qz D lo Γ (fun v Z' => v = (some (va_rf (atL (tids T) x 0))) ∧ Z' = ((L, K, sz, si, P, bi, tu), M, V))) args s ((rmL 3 0 0) : Room).cells ((rmL 3 0 0) : Room).slots (lA lo)) (F0 m 7 ls []) := by
    intro post
    induction post with
    | nil =>
      intro pre hx2 h3 H locs hH hS ls hl
      refine lv_aload_nN hx hb dX1_at_7 rfl (lv_at hl 0 rfl) ?_
      refine lv_ifnullN hx hb dX1_at_8 (tgt := 29) (by decide) ?_
      refine lv_null hx hb dX1_at_29 ?_
      exact eA S hr hlocks none rfl hH hS ⟨by rw [← h3]; rfl, rfl⟩ dX1_at_30
    | cons b post ih =>
      intro pre hx2 h3 H locs hH hS ls hl
      have hbT : b ∈ tids T := by rw [hx2]; simp
      have ok_b := (t_ok b hbT).1
      refine lv_aload_n hx hb dX1_at_7 rfl (lv_at hl 0 rfl) ?_
      refine lv_ifnull hx hb dX1_at_8 ?_
      refine lv_iload_n hx hb dX1_at_11 rfl (lv_at hl 1 rfl) ?_
      refine lv_iload_n hx hb dX1_at_12 rfl (lv_at hl 3 rfl) ?_
      refine lv_icmp_ne (tgt := 18) hx hb dX1_at_13 (by decide) (fun h1 => ?_) (fun h1 => ?_)
      · skip
        refine lv_iinc (v := nI (pre.length + 1)) (lv' := [(2, .int (nI (pre.length + 1))), (3, .ref b), (0, .ref t0), (1, .int x)]) hx hb dX1_at_18 hl (k := 1) rfl (nI_1 pre.length) (by decide) rfl (fun ls hl => ?_)
        refine lv_aload_n hx hb dX1_at_21 rfl (lv_at hl 1 rfl) ?_
        refine cV S (c_X0_nextL (l := l) (D := D) (lo := lo) (Γ := Γ) (sz := sz) (si := si) (P := P) (bi := bi) (tu := tu) (M := M) (V := V) ok_b t_rep t_nd hx2) (cwV 0 hts gX1_at_X0_next rfl rfl rfl (by decide +kernel) ⟨Nat.le_of_ble_eq_true rfl, Nat.le_of_ble_eq_true rfl⟩) hK hH (Hp_recv hK hH ok_b.1 ok_b.2 rfl) hS rfl hl.1 rfl (Nat.le_of_ble_eq_true rfl) dX1_at_22 ⟨Nat.le_of_ble_eq_true rfl, Nat.le_of_ble_eq_true rfl⟩ (fun v Z1 H locs hpost hH hS => ?_)
        obtain ⟨rfl, rfl⟩ := hpost
        refine lq_astore_n (lv' := [(2, .int (nI (pre.length + 1))), (0, .ref t0), (1, .int x)]) S dX1_at_25 rfl hl (by decide) rfl (fun ls hl => ?_)
        refine lv_goto (tgt := 7) hx hb dX1_at_26 (by decide) ?_
        rw [atL, if_neg h1] at h3
        exact ih (pre ++ [b]) (by rw [hx2]; simp) (by rw [← h3]; simp) H locs hH hS ls (by rw [show (pre ++ [b]).length = pre.length + 1 by simp]; exact lv_sub hl [0, 1, 2, 3] rfl)
      · skip
        refine lv_aload_n hx hb dX1_at_16 rfl (lv_at hl 0 rfl) ?_
        exact eA S hr hlocks (some b) rfl hH hS ⟨by rw [← h3, atL, if_pos h1], rfl⟩ dX1_at_17
  exact loop (tids T) [] rfl rfl _ _ hH hS ls (lv_sub hl [0, 1, 2, 3] rfl)

set_option maxRecDepth 100000 in
set_option maxHeartbeats 4000000 in
theorem c_X1_countBelow {t0 : Nat} {T : Tr} {x : Int32} (h : TR L K sz P t0 T) : Md l yX1_countBelow wsX1_countBelow (rmL 3 0 0) D lo Γ [.ref t0, .int x] ((L, K, sz, si, P, bi, tu), M, V) (some (.int (nI (blw sz x.toInt T).length))) ((L, K, sz, si, P, bi, tu), M, V) := by
  refine Mz_of (cc := cX1_countBelow) (maxL := 4) (ret := (some .int)) (by decide) rfl (Nat.le_of_ble_eq_true rfl) ?_
  intro p e s m args below meth c ls S hr hlocks hK hH hS hl
  have hx := S.1
  have hb := S.2.1
  have hts := S.2.2.2.2
  have f32 : (Cond.fieldLink RX1 32 (TX0 0).1 (TX0 0).2.1 (TX0 0).2.2.1).before args s = true := hts _ (List.mem_of_getElem? (i := 1) rfl)
  have hi0 : ∀ w ∈ wsX00, w ∈ wsX1_countBelow := by decide +kernel
  have hl : lv_has ls 4 [(0, .ref t0), (1, .int x)] := hl
  have hT := h
  obtain ⟨t_in, t_k, t_top, t_rep, t_nd, t_ok⟩ := h
  have ok_t0 : t0 ∈ L ∧ K t0 = 1 := ⟨t_in, t_k⟩
  refine lv_iconst (v := 0) hx hb dX1_countBelow_0 (by decide) ?_
  refine lv_istore_n (lv' := [(2, .int 0), (0, .ref t0), (1, .int x)]) hx hb dX1_countBelow_1 rfl hl (by decide) rfl (fun ls hl => ?_)
  refine lv_aload_n hx hb dX1_countBelow_2 rfl (lv_at hl 1 rfl) ?_
  refine cV S (c_X1_first (l := l) (D := D) (lo := lo) (Γ := Γ) (sz := sz) (si := si) (P := P) (bi := bi) (tu := tu) (M := M) (V := V) hT) (cwV 0 hts gX1_countBelow_X1_first rfl rfl rfl (by decide +kernel) ⟨Nat.le_of_ble_eq_true rfl, Nat.le_of_ble_eq_true rfl⟩) hK hH (Hp_recv hK hH ok_t0.1 ok_t0.2 rfl) hS rfl hl.1 rfl (Nat.le_of_ble_eq_true rfl) dX1_countBelow_3 ⟨Nat.le_of_ble_eq_true rfl, Nat.le_of_ble_eq_true rfl⟩ (fun v Z1 H locs hpost hH hS => ?_)
  obtain ⟨rfl, rfl⟩ := hpost
  refine lq_astore_n (lv' := [(2, .int 0), (0, .ref t0), (1, .int x)]) S dX1_countBelow_6 rfl hl (by decide) rfl (fun ls hl => ?_)
  have loop : ∀ (post pre : List Nat), tids T = pre ++ post → pre ++ post.takeWhile (fun a => decide ((sz a : Int) < x.toInt)) = blw sz x.toInt T → ∀ H locs, Hp D lo Γ ((L, K, sz, si, P, bi, tu), M, V) H → va_S (lA lo) s.heap H locs → ∀ ls, lv_has ls 4 [(3, va_rf (post.head?)), (2, .int (nI pre.length)), (0, .ref t0), (1, .int x)] → W p l e (rmL 3 0 0) s m args below meth c H locs 0 0 (MQ below (Qz D lo Γ (fun v Z' => v = (some (.int (nI (blw sz x.toInt T).length))) ∧ Z' = ((L, K, sz, si, P, bi, tu), M, V))) args s ((rmL 3 0 0) : Room).cells ((rmL 3 0 0) : Room).slots (lA lo)) (F0 m 7 ls []) := by
    intro post
    induction post with
    | nil =>
      intro pre hx2 h3 H locs hH hS ls hl
      refine lv_aload_nN hx hb dX1_countBelow_7 rfl (lv_at hl 0 rfl) ?_
      refine lv_ifnullN hx hb dX1_countBelow_8 (tgt := 30) (by decide) ?_
      refine lv_iload_n hx hb dX1_countBelow_30 rfl (lv_at hl 1 rfl) ?_
      exact eI S hr hlocks hH hS ⟨by rw [← h3]; simp, rfl⟩ dX1_countBelow_31
    | cons b post ih =>
      intro pre hx2 h3 H locs hH hS ls hl
      have hbT : b ∈ tids T := by rw [hx2]; simp
      have ok_b := (t_ok b hbT).1
      refine lv_aload_n hx hb dX1_countBelow_7 rfl (lv_at hl 0 rfl) ?_
      refine lv_ifnull hx hb dX1_countBelow_8 ?_
      have hk9 : (nI (sz b)).toInt = (sz b : Int) := nI_toInt (by have := (t_ok b hbT).2; omega)
      refine lv_aload_n hx hb dX1_countBelow_11 rfl (lv_at hl 0 rfl) ?_
      refine gA S hi0 hK hH ok_b 0 (by decide) f32 (v := .int (nI (sz b))) rfl dX1_countBelow_12 ?_
      refine lv_iload_n hx hb dX1_countBelow_15 rfl (lv_at hl 3 rfl) ?_
      refine lv_icmp_ge (tgt := 30) hx hb dX1_countBelow_16 (by decide) (fun h1 => ?_) (fun h1 => ?_)
      · skip
        have h2 := Int32.le_iff_toInt_le.mp h1
        rw [hk9] at h2
        rw [List.takeWhile_cons, if_neg (by simpa using h2)] at h3
        refine lv_iload_n hx hb dX1_countBelow_30 rfl (lv_at hl 1 rfl) ?_
        exact eI S hr hlocks hH hS ⟨by rw [← h3]; simp, rfl⟩ dX1_countBelow_31
      · skip
        have h2 : (sz b : Int) < x.toInt := by have h0 := mt Int32.le_iff_toInt_le.mpr h1; rw [hk9] at h0; omega
        rw [List.takeWhile_cons, if_pos (by simpa using h2)] at h3
        refine lv_iinc (v := nI (pre.length + 1)) (lv' := [(2, .int (nI (pre.length + 1))), (3, .ref b), (0, .ref t0), (1, .int x)]) hx hb dX1_countBelow_19 hl (k := 1) rfl (nI_1 pre.length) (by decide) rfl (fun ls hl => ?_)
        refine lv_aload_n hx hb dX1_countBelow_22 rfl (lv_at hl 1 rfl) ?_
        refine cV S (c_X0_nextL (l := l) (D := D) (lo := lo) (Γ := Γ) (sz := sz) (si := si) (P := P) (bi := bi) (tu := tu) (M := M) (V := V) ok_b t_rep t_nd hx2) (cwV 0 hts gX1_countBelow_X0_next rfl rfl rfl (by decide +kernel) ⟨Nat.le_of_ble_eq_true rfl, Nat.le_of_ble_eq_true rfl⟩) hK hH (Hp_recv hK hH ok_b.1 ok_b.2 rfl) hS rfl hl.1 rfl (Nat.le_of_ble_eq_true rfl) dX1_countBelow_23 ⟨Nat.le_of_ble_eq_true rfl, Nat.le_of_ble_eq_true rfl⟩ (fun v Z1 H locs hpost hH hS => ?_)
        obtain ⟨rfl, rfl⟩ := hpost
        refine lq_astore_n (lv' := [(2, .int (nI (pre.length + 1))), (0, .ref t0), (1, .int x)]) S dX1_countBelow_26 rfl hl (by decide) rfl (fun ls hl => ?_)
        refine lv_goto (tgt := 7) hx hb dX1_countBelow_27 (by decide) ?_
        exact ih (pre ++ [b]) (by rw [hx2]; simp) (by rw [← h3]; simp) H locs hH hS ls (by rw [show (pre ++ [b]).length = pre.length + 1 by simp]; exact lv_sub hl [0, 1, 2, 3] rfl)
  exact loop (tids T) [] rfl rfl _ _ hH hS ls (lv_sub hl [0, 1, 2, 3] rfl)

set_option maxRecDepth 100000 in
set_option maxHeartbeats 4000000 in
theorem c_X1_greatestBelow {t0 : Nat} {T : Tr} {x : Int32} (h : TR L K sz P t0 T) : Md l yX1_greatestBelow wsX1_greatestBelow (rmL 3 0 0) D lo Γ [.ref t0, .int x] ((L, K, sz, si, P, bi, tu), M, V) (some (va_rf (blw sz x.toInt T).getLast?)) ((L, K, sz, si, P, bi, tu), M, V) := by
  refine Mz_of (cc := cX1_greatestBelow) (maxL := 4) (ret := (some (.object "SplayOrchard$Apple"))) (by decide) rfl (Nat.le_of_ble_eq_true rfl) ?_
  intro p e s m args below meth c ls S hr hlocks hK hH hS hl
  have hx := S.1
  have hb := S.2.1
  have hts := S.2.2.2.2
  have f32 : (Cond.fieldLink RX1 32 (TX0 0).1 (TX0 0).2.1 (TX0 0).2.2.1).before args s = true := hts _ (List.mem_of_getElem? (i := 1) rfl)
  have hi0 : ∀ w ∈ wsX00, w ∈ wsX1_greatestBelow := by decide +kernel
  have hl : lv_has ls 4 [(0, .ref t0), (1, .int x)] := hl
  have hT := h
  obtain ⟨t_in, t_k, t_top, t_rep, t_nd, t_ok⟩ := h
  have ok_t0 : t0 ∈ L ∧ K t0 = 1 := ⟨t_in, t_k⟩
  refine lv_null hx hb dX1_greatestBelow_0 ?_
  refine lv_astore_nN (lv' := [(2, .null), (0, .ref t0), (1, .int x)]) hx hb dX1_greatestBelow_1 rfl hl (by decide) rfl (fun ls hl => ?_)
  refine lv_aload_n hx hb dX1_greatestBelow_2 rfl (lv_at hl 1 rfl) ?_
  refine cV S (c_X1_first (l := l) (D := D) (lo := lo) (Γ := Γ) (sz := sz) (si := si) (P := P) (bi := bi) (tu := tu) (M := M) (V := V) hT) (cwV 0 hts gX1_greatestBelow_X1_first rfl rfl rfl (by decide +kernel) ⟨Nat.le_of_ble_eq_true rfl, Nat.le_of_ble_eq_true rfl⟩) hK hH (Hp_recv hK hH ok_t0.1 ok_t0.2 rfl) hS rfl hl.1 rfl (Nat.le_of_ble_eq_true rfl) dX1_greatestBelow_3 ⟨Nat.le_of_ble_eq_true rfl, Nat.le_of_ble_eq_true rfl⟩ (fun v Z1 H locs hpost hH hS => ?_)
  obtain ⟨rfl, rfl⟩ := hpost
  refine lq_astore_n (lv' := [(2, .null), (0, .ref t0), (1, .int x)]) S dX1_greatestBelow_6 rfl hl (by decide) rfl (fun ls hl => ?_)
  have loop : ∀ (post pre : List Nat), tids T = pre ++ post → pre ++ post.takeWhile (fun a => decide ((sz a : Int) < x.toInt)) = blw sz x.toInt T → ∀ H locs, Hp D lo Γ ((L, K, sz, si, P, bi, tu), M, V) H → va_S (lA lo) s.heap H locs → ∀ ls, lv_has ls 4 [(3, va_rf (post.head?)), (2, va_rf (pre.getLast?)), (0, .ref t0), (1, .int x)] → W p l e (rmL 3 0 0) s m args below meth c H locs 0 0 (MQ below (Qz D lo Γ (fun v Z' => v = (some (va_rf (blw sz x.toInt T).getLast?)) ∧ Z' = ((L, K, sz, si, P, bi, tu), M, V))) args s ((rmL 3 0 0) : Room).cells ((rmL 3 0 0) : Room).slots (lA lo)) (F0 m 7 ls []) := by
    intro post
    induction post with
    | nil =>
      intro pre hx2 h3 H locs hH hS ls hl
      refine lv_aload_nN hx hb dX1_greatestBelow_7 rfl (lv_at hl 0 rfl) ?_
      refine lv_ifnullN hx hb dX1_greatestBelow_8 (tgt := 29) (by decide) ?_
      refine lq_aload_n S dX1_greatestBelow_29 rfl (lv_at hl 1 rfl) ?_
      exact eA S hr hlocks _ rfl hH hS ⟨by rw [← h3]; simp, rfl⟩ dX1_greatestBelow_30
    | cons b post ih =>
      intro pre hx2 h3 H locs hH hS ls hl
      have hbT : b ∈ tids T := by rw [hx2]; simp
      have ok_b := (t_ok b hbT).1
      refine lv_aload_n hx hb dX1_greatestBelow_7 rfl (lv_at hl 0 rfl) ?_
      refine lv_ifnull hx hb dX1_greatestBelow_8 ?_
      have hk9 : (nI (sz b)).toInt = (sz b : Int) := nI_toInt (by have := (t_ok b hbT).2; omega)
      refine lv_aload_n hx hb dX1_greatestBelow_11 rfl (lv_at hl 0 rfl) ?_
      refine gA S hi0 hK hH ok_b 0 (by decide) f32 (v := .int (nI (sz b))) rfl dX1_greatestBelow_12 ?_
      refine lv_iload_n hx hb dX1_greatestBelow_15 rfl (lv_at hl 3 rfl) ?_
      refine lv_icmp_ge (tgt := 29) hx hb dX1_greatestBelow_16 (by decide) (fun h1 => ?_) (fun h1 => ?_)
      · skip
        have h2 := Int32.le_iff_toInt_le.mp h1
        rw [hk9] at h2
        rw [List.takeWhile_cons, if_neg (by simpa using h2)] at h3
        refine lq_aload_n S dX1_greatestBelow_29 rfl (lv_at hl 1 rfl) ?_
        exact eA S hr hlocks _ rfl hH hS ⟨by rw [← h3]; simp, rfl⟩ dX1_greatestBelow_30
      · skip
        have h2 : (sz b : Int) < x.toInt := by have h0 := mt Int32.le_iff_toInt_le.mpr h1; rw [hk9] at h0; omega
        rw [List.takeWhile_cons, if_pos (by simpa using h2)] at h3
        refine lv_aload_n hx hb dX1_greatestBelow_19 rfl (lv_at hl 0 rfl) ?_
        refine lv_astore_n (lv' := [(2, .ref b), (3, .ref b), (0, .ref t0), (1, .int x)]) hx hb dX1_greatestBelow_20 rfl hl (by decide) rfl (fun ls hl => ?_)
        refine lv_aload_n hx hb dX1_greatestBelow_21 rfl (lv_at hl 1 rfl) ?_
        refine cV S (c_X0_nextL (l := l) (D := D) (lo := lo) (Γ := Γ) (sz := sz) (si := si) (P := P) (bi := bi) (tu := tu) (M := M) (V := V) ok_b t_rep t_nd hx2) (cwV 0 hts gX1_greatestBelow_X0_next rfl rfl rfl (by decide +kernel) ⟨Nat.le_of_ble_eq_true rfl, Nat.le_of_ble_eq_true rfl⟩) hK hH (Hp_recv hK hH ok_b.1 ok_b.2 rfl) hS rfl hl.1 rfl (Nat.le_of_ble_eq_true rfl) dX1_greatestBelow_22 ⟨Nat.le_of_ble_eq_true rfl, Nat.le_of_ble_eq_true rfl⟩ (fun v Z1 H locs hpost hH hS => ?_)
        obtain ⟨rfl, rfl⟩ := hpost
        refine lq_astore_n (lv' := [(2, .ref b), (0, .ref t0), (1, .int x)]) S dX1_greatestBelow_25 rfl hl (by decide) rfl (fun ls hl => ?_)
        refine lv_goto (tgt := 7) hx hb dX1_greatestBelow_26 (by decide) ?_
        exact ih (pre ++ [b]) (by rw [hx2]; simp) (by rw [← h3]; simp) H locs hH hS ls (by rw [show (pre ++ [b]).getLast? = some b by simp]; exact lv_sub hl [0, 1, 2, 3] rfl)
  exact loop (tids T) [] rfl rfl _ _ hH hS ls (lv_sub hl [0, 1, 2, 3] rfl)

set_option maxRecDepth 100000 in
set_option maxHeartbeats 4000000 in
theorem c_X1_mostBitten {t0 : Nat} {T : Tr} (h : TR L K sz P t0 T) : Md l yX1_mostBitten wsX1_mostBitten (rmL 3 0 0) D lo Γ [.ref t0] ((L, K, sz, si, P, bi, tu), M, V) (some (va_rf (fvs bi none (tids T)))) ((L, K, sz, si, P, bi, tu), M, V) := by
  refine Mz_of (cc := cX1_mostBitten) (maxL := 3) (ret := (some (.object "SplayOrchard$Apple"))) (by decide) rfl (Nat.le_of_ble_eq_true rfl) ?_
  intro p e s m args below meth c ls S hr hlocks hK hH hS hl
  have hx := S.1
  have hb := S.2.1
  have hts := S.2.2.2.2
  have f78 : (Cond.fieldLink RX1 78 (TX0 5).1 (TX0 5).2.1 (TX0 5).2.2.1).before args s = true := hts _ (List.mem_of_getElem? (i := 1) rfl)
  have hi0 : ∀ w ∈ wsX00, w ∈ wsX1_mostBitten := by decide +kernel
  have hl : lv_has ls 3 [(0, .ref t0)] := hl
  have hT := h
  obtain ⟨t_in, t_k, t_top, t_rep, t_nd, t_ok⟩ := h
  have ok_t0 : t0 ∈ L ∧ K t0 = 1 := ⟨t_in, t_k⟩
  refine lv_null hx hb dX1_mostBitten_0 ?_
  refine lv_astore_nN (lv' := [(1, .null), (0, .ref t0)]) hx hb dX1_mostBitten_1 rfl hl (by decide) rfl (fun ls hl => ?_)
  refine lv_aload_n hx hb dX1_mostBitten_2 rfl (lv_at hl 1 rfl) ?_
  refine cV S (c_X1_first (l := l) (D := D) (lo := lo) (Γ := Γ) (sz := sz) (si := si) (P := P) (bi := bi) (tu := tu) (M := M) (V := V) hT) (cwV 0 hts gX1_mostBitten_X1_first rfl rfl rfl (by decide +kernel) ⟨Nat.le_of_ble_eq_true rfl, Nat.le_of_ble_eq_true rfl⟩) hK hH (Hp_recv hK hH ok_t0.1 ok_t0.2 rfl) hS rfl hl.1 rfl (Nat.le_of_ble_eq_true rfl) dX1_mostBitten_3 ⟨Nat.le_of_ble_eq_true rfl, Nat.le_of_ble_eq_true rfl⟩ (fun v Z1 H locs hpost hH hS => ?_)
  obtain ⟨rfl, rfl⟩ := hpost
  refine lq_astore_n (lv' := [(1, .null), (0, .ref t0)]) S dX1_mostBitten_6 rfl hl (by decide) rfl (fun ls hl => ?_)
  have loop : ∀ (post pre : List Nat) (acc : Option Nat), tids T = pre ++ post → (∀ b, acc = some b → okA L K b) → fvs bi acc post = fvs bi none (tids T) → ∀ H locs, Hp D lo Γ ((L, K, sz, si, P, bi, tu), M, V) H → va_S (lA lo) s.heap H locs → ∀ ls, lv_has ls 3 [(2, va_rf (post.head?)), (1, va_rf acc), (0, .ref t0)] → W p l e (rmL 3 0 0) s m args below meth c H locs 0 0 (MQ below (Qz D lo Γ (fun v Z' => v = (some (va_rf (fvs bi none (tids T)))) ∧ Z' = ((L, K, sz, si, P, bi, tu), M, V))) args s ((rmL 3 0 0) : Room).cells ((rmL 3 0 0) : Room).slots (lA lo)) (F0 m 7 ls []) := by
    intro post
    induction post with
    | nil =>
      intro pre acc hx2 okq h3 H locs hH hS ls hl
      refine lv_aload_nN hx hb dX1_mostBitten_7 rfl (lv_at hl 0 rfl) ?_
      refine lv_ifnullN hx hb dX1_mostBitten_8 (tgt := 36) (by decide) ?_
      refine lq_aload_n S dX1_mostBitten_36 rfl (lv_at hl 1 rfl) ?_
      exact eA S hr hlocks acc rfl hH hS ⟨by rw [← h3]; rfl, rfl⟩ dX1_mostBitten_37
    | cons b post ih =>
      intro pre acc hx2 okq h3 H locs hH hS ls hl
      have hbT : b ∈ tids T := by rw [hx2]; simp
      have ok_b := (t_ok b hbT).1
      refine lv_aload_n hx hb dX1_mostBitten_7 rfl (lv_at hl 0 rfl) ?_
      refine lv_ifnull hx hb dX1_mostBitten_8 ?_
      refine lq_aload_n S dX1_mostBitten_11 rfl (lv_at hl 1 rfl) ?_
      refine lq_ifnull S dX1_mostBitten_12 (tgt := 26) (by decide) (fun hq => ?_) (fun g hq => ?_)
      · skip
        subst hq
        rw [fvs] at h3
        refine lv_aload_n hx hb dX1_mostBitten_26 rfl (lv_at hl 0 rfl) ?_
        refine lv_astore_n (lv' := [(1, .ref b), (2, .ref b), (0, .ref t0)]) hx hb dX1_mostBitten_27 rfl hl (by decide) rfl (fun ls hl => ?_)
        refine lv_aload_n hx hb dX1_mostBitten_28 rfl (lv_at hl 1 rfl) ?_
        refine cV S (c_X0_nextL (l := l) (D := D) (lo := lo) (Γ := Γ) (sz := sz) (si := si) (P := P) (bi := bi) (tu := tu) (M := M) (V := V) ok_b t_rep t_nd hx2) (cwV 0 hts gX1_mostBitten_X0_next rfl rfl rfl (by decide +kernel) ⟨Nat.le_of_ble_eq_true rfl, Nat.le_of_ble_eq_true rfl⟩) hK hH (Hp_recv hK hH ok_b.1 ok_b.2 rfl) hS rfl hl.1 rfl (Nat.le_of_ble_eq_true rfl) dX1_mostBitten_29 ⟨Nat.le_of_ble_eq_true rfl, Nat.le_of_ble_eq_true rfl⟩ (fun v Z1 H locs hpost hH hS => ?_)
        obtain ⟨rfl, rfl⟩ := hpost
        refine lq_astore_n (lv' := [(1, .ref b), (0, .ref t0)]) S dX1_mostBitten_32 rfl hl (by decide) rfl (fun ls hl => ?_)
        refine lv_goto (tgt := 7) hx hb dX1_mostBitten_33 (by decide) ?_
        exact ih (pre ++ [b]) (some b) (by rw [hx2]; simp) (fun y hy => by cases hy; exact ok_b) h3 H locs hH hS ls (lv_sub hl [0, 1, 2] rfl)
      · skip
        subst hq
        have ok_g := okq g rfl
        rw [fvs] at h3
        refine lv_aload_n hx hb dX1_mostBitten_15 rfl (lv_at hl 0 rfl) ?_
        refine gA S hi0 hK hH ok_b 5 (by decide) f78 (v := .int (nI (bi b))) rfl dX1_mostBitten_16 ?_
        refine lv_aload_n hx hb dX1_mostBitten_19 rfl (lv_at hl 1 rfl) ?_
        refine gA S hi0 hK hH ok_g 5 (by decide) f78 (v := .int (nI (bi g))) rfl dX1_mostBitten_20 ?_
        refine lv_icmp_le (tgt := 28) hx hb dX1_mostBitten_23 (by decide) (fun h1 => ?_) (fun h1 => ?_)
        · skip
          rw [if_pos h1] at h3
          refine lv_aload_n hx hb dX1_mostBitten_28 rfl (lv_at hl 0 rfl) ?_
          refine cV S (c_X0_nextL (l := l) (D := D) (lo := lo) (Γ := Γ) (sz := sz) (si := si) (P := P) (bi := bi) (tu := tu) (M := M) (V := V) ok_b t_rep t_nd hx2) (cwV 0 hts gX1_mostBitten_X0_next rfl rfl rfl (by decide +kernel) ⟨Nat.le_of_ble_eq_true rfl, Nat.le_of_ble_eq_true rfl⟩) hK hH (Hp_recv hK hH ok_b.1 ok_b.2 rfl) hS rfl hl.1 rfl (Nat.le_of_ble_eq_true rfl) dX1_mostBitten_29 ⟨Nat.le_of_ble_eq_true rfl, Nat.le_of_ble_eq_true rfl⟩ (fun v Z1 H locs hpost hH hS => ?_)
          obtain ⟨rfl, rfl⟩ := hpost
          refine lq_astore_n (lv' := [(1, .ref g), (0, .ref t0)]) S dX1_mostBitten_32 rfl hl (by decide) rfl (fun ls hl => ?_)
          refine lv_goto (tgt := 7) hx hb dX1_mostBitten_33 (by decide) ?_
          exact ih (pre ++ [b]) (some g) (by rw [hx2]; simp) okq h3 H locs hH hS ls (lv_sub hl [0, 1, 2] rfl)
        · skip
          rw [if_neg h1] at h3
          refine lv_aload_n hx hb dX1_mostBitten_26 rfl (lv_at hl 0 rfl) ?_
          refine lv_astore_n (lv' := [(1, .ref b), (2, .ref b), (0, .ref t0)]) hx hb dX1_mostBitten_27 rfl hl (by decide) rfl (fun ls hl => ?_)
          refine lv_aload_n hx hb dX1_mostBitten_28 rfl (lv_at hl 1 rfl) ?_
          refine cV S (c_X0_nextL (l := l) (D := D) (lo := lo) (Γ := Γ) (sz := sz) (si := si) (P := P) (bi := bi) (tu := tu) (M := M) (V := V) ok_b t_rep t_nd hx2) (cwV 0 hts gX1_mostBitten_X0_next rfl rfl rfl (by decide +kernel) ⟨Nat.le_of_ble_eq_true rfl, Nat.le_of_ble_eq_true rfl⟩) hK hH (Hp_recv hK hH ok_b.1 ok_b.2 rfl) hS rfl hl.1 rfl (Nat.le_of_ble_eq_true rfl) dX1_mostBitten_29 ⟨Nat.le_of_ble_eq_true rfl, Nat.le_of_ble_eq_true rfl⟩ (fun v Z1 H locs hpost hH hS => ?_)
          obtain ⟨rfl, rfl⟩ := hpost
          refine lq_astore_n (lv' := [(1, .ref b), (0, .ref t0)]) S dX1_mostBitten_32 rfl hl (by decide) rfl (fun ls hl => ?_)
          refine lv_goto (tgt := 7) hx hb dX1_mostBitten_33 (by decide) ?_
          exact ih (pre ++ [b]) (some b) (by rw [hx2]; simp) (fun y hy => by cases hy; exact ok_b) h3 H locs hH hS ls (lv_sub hl [0, 1, 2] rfl)
  exact loop (tids T) [] none rfl (fun b h => by cases h) rfl _ _ hH hS ls (lv_sub hl [0, 1, 2] rfl)
end MTree2
end
section
/-! METHODS of SplayOrchard$Tree, the third part -/
theorem cx_len2 : ∀ C : Cx, C.length ≤ (cL C).length + (cR C).length := by
  intro C
  induction C with
  | nil => simp
  | cons f C ih =>
    obtain ⟨s, p, u⟩ := f
    cases s <;> simp [cL, cR] <;> omega
theorem cx_len {T : Tr} {z : Zi} (h : z ∈ zs T []) : z.2.2.2.length < (tids T).length := by
  have h1 := zs_plug T [] z h
  have h2 : (tids (plug (.branch z.1 z.2.1 z.2.2.1) z.2.2.2)).length = (tids T).length := by rw [h1]; rfl
  rw [tids_zip] at h2
  have h3 := cx_len2 z.2.2.2
  simp only [List.length_append, List.length_cons] at h2
  omega
theorem nI_max {a b : Nat} (ha : a < 2 ^ 31) (hb : b < 2 ^ 31) : (if nI a < nI b then nI b else nI a) = nI (max a b) := by
  by_cases h : a < b
  · rw [if_pos ((nI_ltI ha hb).mpr h), Nat.max_eq_right (by omega)]
  · rw [if_neg (fun q => h ((nI_ltI ha hb).mp q)), Nat.max_eq_left (by omega)]
theorem nI_min {a b : Nat} (ha : a < 2 ^ 31) (hb : b < 2 ^ 31) : (if nI b < nI a then nI b else nI a) = nI (min a b) := by
  by_cases h : b < a
  · rw [if_pos ((nI_ltI hb ha).mpr h), Nat.min_eq_right (by omega)]
  · rw [if_neg (fun q => h ((nI_ltI hb ha).mp q)), Nat.min_eq_left (by omega)]
theorem isE_f {t : Tr} {y : Nat} (h : rt t = some y) : isE t = false := by cases t with
  | leaf u => cases h
  | branch k l r => rfl
def lnks (P : PF) (si : Nat → Option Nat) : List Nat → PF
  | [] => P
  | a :: l => lnks (match si a with | some b => lnk P si a b | none => P) si l
theorem lnk_ne {P : PF} {si : Nat → Option Nat} {a b j x : Nat} (h : x ≠ b) : lnk P si a b j x = P j x := by
  unfold lnk
  rw [sP_na h, sP_na h, sP_na h]
theorem lnk_3 {P : PF} {si : Nat → Option Nat} {a b x : Nat} : lnk P si a b 3 x = P 3 x := by
  unfold lnk
  rw [sP_nk (by decide), sP_nk (by decide), sP_nk (by decide)]
section MTree3
variable {l : Launch} {D : va_G} {lo : Nat} {Γ : GT} {L : List Nat} {K : Nat → Nat} {sz : Nat → Nat} {si : Nat → Option Nat} {P : PF} {bi : Nat → Nat} {tu : Nat} {M : MW} {V : Int64 × UInt64}
set_option maxRecDepth 100000 in
set_option maxHeartbeats 4000000 in
theorem c_X1_depthSum {t0 : Nat} {T : Tr} (h : TR L K sz P t0 T) : Md l yX1_depthSum wsX1_depthSum (rmL 3 0 0) D lo Γ [.ref t0] ((L, K, sz, si, P, bi, tu), M, V) (some (.int (nI (dsm T 0)))) ((L, K, sz, si, P, bi, tu), M, V) := by
  refine Mz_of (cc := cX1_depthSum) (maxL := 3) (ret := (some .int)) (by decide) rfl (Nat.le_of_ble_eq_true rfl) ?_
  intro p e s m args below meth c ls S hr hlocks hK hH hS hl
  have hx := S.1
  have hb := S.2.1
  have hts := S.2.2.2.2
  have hl : lv_has ls 3 [(0, .ref t0)] := hl
  have hT := h
  obtain ⟨t_in, t_k, t_top, t_rep, t_nd, t_ok⟩ := h
  have ok_t0 : t0 ∈ L ∧ K t0 = 1 := ⟨t_in, t_k⟩
  refine lv_iconst (v := 0) hx hb dX1_depthSum_0 (by decide) ?_
  refine lv_istore_n (lv' := [(1, .int 0), (0, .ref t0)]) hx hb dX1_depthSum_1 rfl hl (by decide) rfl (fun ls hl => ?_)
  refine lv_aload_n hx hb dX1_depthSum_2 rfl (lv_at hl 1 rfl) ?_
  refine cV S (c_X1_first (l := l) (D := D) (lo := lo) (Γ := Γ) (sz := sz) (si := si) (P := P) (bi := bi) (tu := tu) (M := M) (V := V) hT) (cwV 0 hts gX1_depthSum_X1_first rfl rfl rfl (by decide +kernel) ⟨Nat.le_of_ble_eq_true rfl, Nat.le_of_ble_eq_true rfl⟩) hK hH (Hp_recv hK hH ok_t0.1 ok_t0.2 rfl) hS rfl hl.1 rfl (Nat.le_of_ble_eq_true rfl) dX1_depthSum_3 ⟨Nat.le_of_ble_eq_true rfl, Nat.le_of_ble_eq_true rfl⟩ (fun v Z1 H locs hpost hH hS => ?_)
  obtain ⟨rfl, rfl⟩ := hpost
  refine lq_astore_n (lv' := [(1, .int 0), (0, .ref t0)]) S dX1_depthSum_6 rfl hl (by decide) rfl (fun ls hl => ?_)
  rw [← zs_ids T []] at hl
  have loop : ∀ (post pre : List Zi) (acc : Nat), zs T [] = pre ++ post → acc + (post.map (fun z => z.2.2.2.length)).sum = dsm T 0 → ∀ H locs, Hp D lo Γ ((L, K, sz, si, P, bi, tu), M, V) H → va_S (lA lo) s.heap H locs → ∀ ls, lv_has ls 3 [(2, va_rf ((post.map (fun z => z.1)).head?)), (1, .int (nI acc)), (0, .ref t0)] → W p l e (rmL 3 0 0) s m args below meth c H locs 0 0 (MQ below (Qz D lo Γ (fun v Z' => v = (some (.int (nI (dsm T 0)))) ∧ Z' = ((L, K, sz, si, P, bi, tu), M, V))) args s ((rmL 3 0 0) : Room).cells ((rmL 3 0 0) : Room).slots (lA lo)) (F0 m 7 ls []) := by
    intro post
    induction post with
    | nil =>
      intro pre acc hx2 h3 H locs hH hS ls hl
      refine lv_aload_nN hx hb dX1_depthSum_7 rfl (lv_at hl 0 rfl) ?_
      refine lv_ifnullN hx hb dX1_depthSum_8 (tgt := 26) (by decide) ?_
      refine lv_iload_n hx hb dX1_depthSum_26 rfl (lv_at hl 1 rfl) ?_
      exact eI S hr hlocks hH hS ⟨by rw [← h3]; rfl, rfl⟩ dX1_depthSum_27
    | cons z post ih =>
      intro pre acc hx2 h3 H locs hH hS ls hl
      have hzT : z ∈ zs T [] := by rw [hx2]; simp
      have hbT : z.1 ∈ tids T := by rw [← zs_ids T []]; exact List.mem_map.mpr ⟨z, hzT, rfl⟩
      have ok_b := (t_ok z.1 hbT).1
      refine lv_aload_n hx hb dX1_depthSum_7 rfl (lv_at hl 0 rfl) ?_
      refine lv_ifnull hx hb dX1_depthSum_8 ?_
      refine lv_iload_n hx hb dX1_depthSum_11 rfl (lv_at hl 1 rfl) ?_
      refine lv_aload_n hx hb dX1_depthSum_12 rfl (lv_at hl 0 rfl) ?_
      refine cV S (c_X0_depthZ (l := l) (D := D) (lo := lo) (Γ := Γ) (sz := sz) (si := si) (P := P) (bi := bi) (tu := tu) (M := M) (V := V) ok_b t_rep hzT) (cwV 0 hts gX1_depthSum_X0_depth rfl rfl rfl (by decide +kernel) ⟨Nat.le_of_ble_eq_true rfl, Nat.le_of_ble_eq_true rfl⟩) hK hH (Hp_recv hK hH ok_b.1 ok_b.2 rfl) hS rfl hl.1 rfl (Nat.le_of_ble_eq_true rfl) dX1_depthSum_13 ⟨Nat.le_of_ble_eq_true rfl, Nat.le_of_ble_eq_true rfl⟩ (fun v Z1 H locs hpost hH hS => ?_)
      obtain ⟨rfl, rfl⟩ := hpost
      refine lv_iadd hx hb dX1_depthSum_16 ?_
      rw [nI_add]
      refine lv_istore_n (lv' := [(1, .int (nI (acc + z.2.2.2.length))), (2, .ref z.1), (0, .ref t0)]) hx hb dX1_depthSum_17 rfl hl (by decide) rfl (fun ls hl => ?_)
      refine lv_aload_n hx hb dX1_depthSum_18 rfl (lv_at hl 1 rfl) ?_
      refine cV S (c_X0_nextZ (l := l) (D := D) (lo := lo) (Γ := Γ) (sz := sz) (si := si) (P := P) (bi := bi) (tu := tu) (M := M) (V := V) ok_b t_rep t_nd hx2) (cwV 0 hts gX1_depthSum_X0_next rfl rfl rfl (by decide +kernel) ⟨Nat.le_of_ble_eq_true rfl, Nat.le_of_ble_eq_true rfl⟩) hK hH (Hp_recv hK hH ok_b.1 ok_b.2 rfl) hS rfl hl.1 rfl (Nat.le_of_ble_eq_true rfl) dX1_depthSum_19 ⟨Nat.le_of_ble_eq_true rfl, Nat.le_of_ble_eq_true rfl⟩ (fun v Z1 H locs hpost hH hS => ?_)
      obtain ⟨rfl, rfl⟩ := hpost
      refine lq_astore_n (lv' := [(1, .int (nI (acc + z.2.2.2.length))), (0, .ref t0)]) S dX1_depthSum_22 rfl hl (by decide) rfl (fun ls hl => ?_)
      refine lv_goto (tgt := 7) hx hb dX1_depthSum_23 (by decide) ?_
      exact ih (pre ++ [z]) (acc + z.2.2.2.length) (by rw [hx2]; simp) (by rw [← h3]; simp only [List.map_cons, List.sum_cons]; omega) H locs hH hS ls (lv_sub hl [0, 1, 2] rfl)
  exact loop (zs T []) [] 0 rfl (by rw [Nat.zero_add, dsm_zs]; rfl) _ _ hH hS ls (lv_sub hl [0, 1, 2] rfl)

set_option maxRecDepth 100000 in
set_option maxHeartbeats 4000000 in
theorem c_X1_levels {t0 : Nat} {T : Tr} (h : TR L K sz P t0 T) (h40 : (tids T).length < 1000) : Md l yX1_levels wsX1_levels (rmL 3 0 0) D lo Γ [.ref t0] ((L, K, sz, si, P, bi, tu), M, V) (some (.int (nI (hgt T)))) ((L, K, sz, si, P, bi, tu), M, V) := by
  refine Mz_of (cc := cX1_levels) (maxL := 3) (ret := (some .int)) (by decide) rfl (Nat.le_of_ble_eq_true rfl) ?_
  intro p e s m args below meth c ls S hr hlocks hK hH hS hl
  have hx := S.1
  have hb := S.2.1
  have hts := S.2.2.2.2
  have hl : lv_has ls 3 [(0, .ref t0)] := hl
  have hT := h
  obtain ⟨t_in, t_k, t_top, t_rep, t_nd, t_ok⟩ := h
  have ok_t0 : t0 ∈ L ∧ K t0 = 1 := ⟨t_in, t_k⟩
  have w1 : (Cond.methodLink RX1 66 Lib.Math.max.name).before args s = true := hts _ (List.mem_of_getElem? (i := 1) rfl)
  have w2 : (Cond.static Lib.Math.max.name).before args s = true := hts _ (List.mem_of_getElem? (i := 2) rfl)
  have w3 : (Cond.initialized "java/lang/Math").before args s = true := hts _ (List.mem_of_getElem? (i := 3) rfl)
  have w4 : (Cond.code Lib.Math.max.name Lib.Math.max.code 2 (some .int)).before args s = true := hts _ (List.mem_of_getElem? (i := 4) rfl)
  refine lv_iconst (v := 0) hx hb dX1_levels_0 (by decide) ?_
  refine lv_istore_n (lv' := [(1, .int 0), (0, .ref t0)]) hx hb dX1_levels_1 rfl hl (by decide) rfl (fun ls hl => ?_)
  refine lv_aload_n hx hb dX1_levels_2 rfl (lv_at hl 1 rfl) ?_
  refine cV S (c_X1_first (l := l) (D := D) (lo := lo) (Γ := Γ) (sz := sz) (si := si) (P := P) (bi := bi) (tu := tu) (M := M) (V := V) hT) (cwV 0 hts gX1_levels_X1_first rfl rfl rfl (by decide +kernel) ⟨Nat.le_of_ble_eq_true rfl, Nat.le_of_ble_eq_true rfl⟩) hK hH (Hp_recv hK hH ok_t0.1 ok_t0.2 rfl) hS rfl hl.1 rfl (Nat.le_of_ble_eq_true rfl) dX1_levels_3 ⟨Nat.le_of_ble_eq_true rfl, Nat.le_of_ble_eq_true rfl⟩ (fun v Z1 H locs hpost hH hS => ?_)
  obtain ⟨rfl, rfl⟩ := hpost
  refine lq_astore_n (lv' := [(1, .int 0), (0, .ref t0)]) S dX1_levels_6 rfl hl (by decide) rfl (fun ls hl => ?_)
  rw [← zs_ids T []] at hl
  have loop : ∀ (post pre : List Zi) (acc : Nat), zs T [] = pre ++ post → acc < 2000 → (post.map (fun z => z.2.2.2.length + 1)).foldl max acc = hgt T → ∀ H locs, Hp D lo Γ ((L, K, sz, si, P, bi, tu), M, V) H → va_S (lA lo) s.heap H locs → ∀ ls, lv_has ls 3 [(2, va_rf ((post.map (fun z => z.1)).head?)), (1, .int (nI acc)), (0, .ref t0)] → W p l e (rmL 3 0 0) s m args below meth c H locs 0 0 (MQ below (Qz D lo Γ (fun v Z' => v = (some (.int (nI (hgt T)))) ∧ Z' = ((L, K, sz, si, P, bi, tu), M, V))) args s ((rmL 3 0 0) : Room).cells ((rmL 3 0 0) : Room).slots (lA lo)) (F0 m 7 ls []) := by
    intro post
    induction post with
    | nil =>
      intro pre acc hx2 h1000 h3 H locs hH hS ls hl
      refine lv_aload_nN hx hb dX1_levels_7 rfl (lv_at hl 0 rfl) ?_
      refine lv_ifnullN hx hb dX1_levels_8 (tgt := 30) (by decide) ?_
      refine lv_iload_n hx hb dX1_levels_30 rfl (lv_at hl 1 rfl) ?_
      exact eI S hr hlocks hH hS ⟨by rw [← h3]; rfl, rfl⟩ dX1_levels_31
    | cons z post ih =>
      intro pre acc hx2 h1000 h3 H locs hH hS ls hl
      have hzT : z ∈ zs T [] := by rw [hx2]; simp
      have hbT : z.1 ∈ tids T := by rw [← zs_ids T []]; exact List.mem_map.mpr ⟨z, hzT, rfl⟩
      have ok_b := (t_ok z.1 hbT).1
      refine lv_aload_n hx hb dX1_levels_7 rfl (lv_at hl 0 rfl) ?_
      refine lv_ifnull hx hb dX1_levels_8 ?_
      refine lv_iload_n hx hb dX1_levels_11 rfl (lv_at hl 1 rfl) ?_
      refine lv_aload_n hx hb dX1_levels_12 rfl (lv_at hl 0 rfl) ?_
      refine cV S (c_X0_depthZ (l := l) (D := D) (lo := lo) (Γ := Γ) (sz := sz) (si := si) (P := P) (bi := bi) (tu := tu) (M := M) (V := V) ok_b t_rep hzT) (cwV 0 hts gX1_levels_X0_depth rfl rfl rfl (by decide +kernel) ⟨Nat.le_of_ble_eq_true rfl, Nat.le_of_ble_eq_true rfl⟩) hK hH (Hp_recv hK hH ok_b.1 ok_b.2 rfl) hS rfl hl.1 rfl (Nat.le_of_ble_eq_true rfl) dX1_levels_13 ⟨Nat.le_of_ble_eq_true rfl, Nat.le_of_ble_eq_true rfl⟩ (fun v Z1 H locs hpost hH hS => ?_)
      obtain ⟨rfl, rfl⟩ := hpost
      refine lv_iconst (v := 1) hx hb dX1_levels_16 (by decide) ?_
      refine lv_iadd hx hb dX1_levels_17 ?_
      have hlen9 : z.2.2.2.length < 1000 := Nat.lt_of_lt_of_le (cx_len hzT) (Nat.le_of_lt h40)
      refine va_mmax hx hb (S.2.2.1.trans hl.1.symm) S.2.2.2.1 w1 w2 w3 w4 (Nat.le_of_ble_eq_true rfl) (Nat.le_of_ble_eq_true rfl) (Nat.le_refl _) (Nat.le_refl _) dX1_levels_18 ?_
      rw [nI_1, nI_max (by omega) (by omega)]
      refine lv_istore_n (lv' := [(1, .int (nI (max acc (z.2.2.2.length + 1)))), (2, .ref z.1), (0, .ref t0)]) hx hb dX1_levels_21 rfl hl (by decide) rfl (fun ls hl => ?_)
      refine lv_aload_n hx hb dX1_levels_22 rfl (lv_at hl 1 rfl) ?_
      refine cV S (c_X0_nextZ (l := l) (D := D) (lo := lo) (Γ := Γ) (sz := sz) (si := si) (P := P) (bi := bi) (tu := tu) (M := M) (V := V) ok_b t_rep t_nd hx2) (cwV 0 hts gX1_levels_X0_next rfl rfl rfl (by decide +kernel) ⟨Nat.le_of_ble_eq_true rfl, Nat.le_of_ble_eq_true rfl⟩) hK hH (Hp_recv hK hH ok_b.1 ok_b.2 rfl) hS rfl hl.1 rfl (Nat.le_of_ble_eq_true rfl) dX1_levels_23 ⟨Nat.le_of_ble_eq_true rfl, Nat.le_of_ble_eq_true rfl⟩ (fun v Z1 H locs hpost hH hS => ?_)
      obtain ⟨rfl, rfl⟩ := hpost
      refine lq_astore_n (lv' := [(1, .int (nI (max acc (z.2.2.2.length + 1)))), (0, .ref t0)]) S dX1_levels_26 rfl hl (by decide) rfl (fun ls hl => ?_)
      refine lv_goto (tgt := 7) hx hb dX1_levels_27 (by decide) ?_
      exact ih (pre ++ [z]) (max acc (z.2.2.2.length + 1)) (by rw [hx2]; simp) (by omega) h3 H locs hH hS ls (lv_sub hl [0, 1, 2] rfl)
  exact loop (zs T []) [] 0 rfl (by omega) (by rw [hgt_zs]; cases T <;> simp [isE, hgt]) _ _ hH hS ls (lv_sub hl [0, 1, 2] rfl)

set_option maxRecDepth 100000 in
set_option maxHeartbeats 4000000 in
theorem c_X1_leafCount {t0 : Nat} {T : Tr} (h : TR L K sz P t0 T) : Md l yX1_leafCount wsX1_leafCount (rmL 3 0 0) D lo Γ [.ref t0] ((L, K, sz, si, P, bi, tu), M, V) (some (.int (nI (lvs T)))) ((L, K, sz, si, P, bi, tu), M, V) := by
  refine Mz_of (cc := cX1_leafCount) (maxL := 3) (ret := (some .int)) (by decide) rfl (Nat.le_of_ble_eq_true rfl) ?_
  intro p e s m args below meth c ls S hr hlocks hK hH hS hl
  have hx := S.1
  have hb := S.2.1
  have hts := S.2.2.2.2
  have f72 : (Cond.fieldLink RX1 72 (TX0 3).1 (TX0 3).2.1 (TX0 3).2.2.1).before args s = true := hts _ (List.mem_of_getElem? (i := 1) rfl)
  have f75 : (Cond.fieldLink RX1 75 (TX0 4).1 (TX0 4).2.1 (TX0 4).2.2.1).before args s = true := hts _ (List.mem_of_getElem? (i := 2) rfl)
  have hi0 : ∀ w ∈ wsX00, w ∈ wsX1_leafCount := by decide +kernel
  have hl : lv_has ls 3 [(0, .ref t0)] := hl
  have hT := h
  obtain ⟨t_in, t_k, t_top, t_rep, t_nd, t_ok⟩ := h
  have ok_t0 : t0 ∈ L ∧ K t0 = 1 := ⟨t_in, t_k⟩
  refine lv_iconst (v := 0) hx hb dX1_leafCount_0 (by decide) ?_
  refine lv_istore_n (lv' := [(1, .int 0), (0, .ref t0)]) hx hb dX1_leafCount_1 rfl hl (by decide) rfl (fun ls hl => ?_)
  refine lv_aload_n hx hb dX1_leafCount_2 rfl (lv_at hl 1 rfl) ?_
  refine cV S (c_X1_first (l := l) (D := D) (lo := lo) (Γ := Γ) (sz := sz) (si := si) (P := P) (bi := bi) (tu := tu) (M := M) (V := V) hT) (cwV 0 hts gX1_leafCount_X1_first rfl rfl rfl (by decide +kernel) ⟨Nat.le_of_ble_eq_true rfl, Nat.le_of_ble_eq_true rfl⟩) hK hH (Hp_recv hK hH ok_t0.1 ok_t0.2 rfl) hS rfl hl.1 rfl (Nat.le_of_ble_eq_true rfl) dX1_leafCount_3 ⟨Nat.le_of_ble_eq_true rfl, Nat.le_of_ble_eq_true rfl⟩ (fun v Z1 H locs hpost hH hS => ?_)
  obtain ⟨rfl, rfl⟩ := hpost
  refine lq_astore_n (lv' := [(1, .int 0), (0, .ref t0)]) S dX1_leafCount_6 rfl hl (by decide) rfl (fun ls hl => ?_)
  rw [← zs_ids T []] at hl
  have loop : ∀ (post pre : List Zi) (acc : Nat), zs T [] = pre ++ post → acc + (post.filter (fun z => isE z.2.1 && isE z.2.2.1)).length = lvs T → ∀ H locs, Hp D lo Γ ((L, K, sz, si, P, bi, tu), M, V) H → va_S (lA lo) s.heap H locs → ∀ ls, lv_has ls 3 [(2, va_rf ((post.map (fun z => z.1)).head?)), (1, .int (nI acc)), (0, .ref t0)] → W p l e (rmL 3 0 0) s m args below meth c H locs 0 0 (MQ below (Qz D lo Γ (fun v Z' => v = (some (.int (nI (lvs T)))) ∧ Z' = ((L, K, sz, si, P, bi, tu), M, V))) args s ((rmL 3 0 0) : Room).cells ((rmL 3 0 0) : Room).slots (lA lo)) (F0 m 7 ls []) := by
    intro post
    induction post with
    | nil =>
      intro pre acc hx2 h3 H locs hH hS ls hl
      refine lv_aload_nN hx hb dX1_leafCount_7 rfl (lv_at hl 0 rfl) ?_
      refine lv_ifnullN hx hb dX1_leafCount_8 (tgt := 36) (by decide) ?_
      refine lv_iload_n hx hb dX1_leafCount_36 rfl (lv_at hl 1 rfl) ?_
      exact eI S hr hlocks hH hS ⟨by rw [← h3]; rfl, rfl⟩ dX1_leafCount_37
    | cons z post ih =>
      intro pre acc hx2 h3 H locs hH hS ls hl
      have hzT : z ∈ zs T [] := by rw [hx2]; simp
      have hbT : z.1 ∈ tids T := by rw [← zs_ids T []]; exact List.mem_map.mpr ⟨z, hzT, rfl⟩
      have ok_b := (t_ok z.1 hbT).1
      refine lv_aload_n hx hb dX1_leafCount_7 rfl (lv_at hl 0 rfl) ?_
      refine lv_ifnull hx hb dX1_leafCount_8 ?_
      have hzp := (Zp_plug z.2.2.2 (.branch z.1 z.2.1 z.2.2.1)).mpr (by rw [zs_plug T [] z hzT]; exact t_rep)
      have z0 : P 0 z.1 = rt z.2.1 := hzp.1.2.1
      have z1 : P 1 z.1 = rt z.2.2.1 := hzp.1.2.2.1
      refine lv_aload_n hx hb dX1_leafCount_11 rfl (lv_at hl 0 rfl) ?_
      refine gA S hi0 hK hH ok_b 3 (by decide) f72 (v := va_rf (P 0 z.1)) rfl dX1_leafCount_12 ?_
      refine lq_ifnonnull S dX1_leafCount_15 (tgt := 28) (by decide) (fun y hq => ?_) (fun hq => ?_)
      · skip
        have hE : isE z.2.1 = false := isE_f (z0.symm.trans hq)
        refine lv_aload_n hx hb dX1_leafCount_28 rfl (lv_at hl 0 rfl) ?_
        refine cV S (c_X0_nextZ (l := l) (D := D) (lo := lo) (Γ := Γ) (sz := sz) (si := si) (P := P) (bi := bi) (tu := tu) (M := M) (V := V) ok_b t_rep t_nd hx2) (cwV 0 hts gX1_leafCount_X0_next rfl rfl rfl (by decide +kernel) ⟨Nat.le_of_ble_eq_true rfl, Nat.le_of_ble_eq_true rfl⟩) hK hH (Hp_recv hK hH ok_b.1 ok_b.2 rfl) hS rfl hl.1 rfl (Nat.le_of_ble_eq_true rfl) dX1_leafCount_29 ⟨Nat.le_of_ble_eq_true rfl, Nat.le_of_ble_eq_true rfl⟩ (fun v Z1 H locs hpost hH hS => ?_)
        obtain ⟨rfl, rfl⟩ := hpost
        refine lq_astore_n (lv' := [(1, .int (nI acc)), (0, .ref t0)]) S dX1_leafCount_32 rfl hl (by decide) rfl (fun ls hl => ?_)
        refine lv_goto (tgt := 7) hx hb dX1_leafCount_33 (by decide) ?_
        exact ih (pre ++ [z]) acc (by rw [hx2]; simp) (by rw [← h3, List.filter_cons, if_neg (by simp [hE])]) H locs hH hS ls (lv_sub hl [0, 1, 2] rfl)
      · skip
        have hE : isE z.2.1 = true := by rw [rt_none (z0.symm.trans hq)]; rfl
        refine lv_aload_n hx hb dX1_leafCount_18 rfl (lv_at hl 0 rfl) ?_
        refine gA S hi0 hK hH ok_b 4 (by decide) f75 (v := va_rf (P 1 z.1)) rfl dX1_leafCount_19 ?_
        refine lq_ifnonnull S dX1_leafCount_22 (tgt := 28) (by decide) (fun y hq2 => ?_) (fun hq2 => ?_)
        · skip
          have hE2 : isE z.2.2.1 = false := isE_f (z1.symm.trans hq2)
          refine lv_aload_n hx hb dX1_leafCount_28 rfl (lv_at hl 0 rfl) ?_
          refine cV S (c_X0_nextZ (l := l) (D := D) (lo := lo) (Γ := Γ) (sz := sz) (si := si) (P := P) (bi := bi) (tu := tu) (M := M) (V := V) ok_b t_rep t_nd hx2) (cwV 0 hts gX1_leafCount_X0_next rfl rfl rfl (by decide +kernel) ⟨Nat.le_of_ble_eq_true rfl, Nat.le_of_ble_eq_true rfl⟩) hK hH (Hp_recv hK hH ok_b.1 ok_b.2 rfl) hS rfl hl.1 rfl (Nat.le_of_ble_eq_true rfl) dX1_leafCount_29 ⟨Nat.le_of_ble_eq_true rfl, Nat.le_of_ble_eq_true rfl⟩ (fun v Z1 H locs hpost hH hS => ?_)
          obtain ⟨rfl, rfl⟩ := hpost
          refine lq_astore_n (lv' := [(1, .int (nI acc)), (0, .ref t0)]) S dX1_leafCount_32 rfl hl (by decide) rfl (fun ls hl => ?_)
          refine lv_goto (tgt := 7) hx hb dX1_leafCount_33 (by decide) ?_
          exact ih (pre ++ [z]) acc (by rw [hx2]; simp) (by rw [← h3, List.filter_cons, if_neg (by simp [hE2])]) H locs hH hS ls (lv_sub hl [0, 1, 2] rfl)
        · skip
          have hE2 : isE z.2.2.1 = true := by rw [rt_none (z1.symm.trans hq2)]; rfl
          refine lv_iinc (v := nI (acc + 1)) (lv' := [(1, .int (nI (acc + 1))), (2, .ref z.1), (0, .ref t0)]) hx hb dX1_leafCount_25 hl (k := 1) rfl (nI_1 acc) (by decide) rfl (fun ls hl => ?_)
          refine lv_aload_n hx hb dX1_leafCount_28 rfl (lv_at hl 1 rfl) ?_
          refine cV S (c_X0_nextZ (l := l) (D := D) (lo := lo) (Γ := Γ) (sz := sz) (si := si) (P := P) (bi := bi) (tu := tu) (M := M) (V := V) ok_b t_rep t_nd hx2) (cwV 0 hts gX1_leafCount_X0_next rfl rfl rfl (by decide +kernel) ⟨Nat.le_of_ble_eq_true rfl, Nat.le_of_ble_eq_true rfl⟩) hK hH (Hp_recv hK hH ok_b.1 ok_b.2 rfl) hS rfl hl.1 rfl (Nat.le_of_ble_eq_true rfl) dX1_leafCount_29 ⟨Nat.le_of_ble_eq_true rfl, Nat.le_of_ble_eq_true rfl⟩ (fun v Z1 H locs hpost hH hS => ?_)
          obtain ⟨rfl, rfl⟩ := hpost
          refine lq_astore_n (lv' := [(1, .int (nI (acc + 1))), (0, .ref t0)]) S dX1_leafCount_32 rfl hl (by decide) rfl (fun ls hl => ?_)
          refine lv_goto (tgt := 7) hx hb dX1_leafCount_33 (by decide) ?_
          exact ih (pre ++ [z]) (acc + 1) (by rw [hx2]; simp) (by rw [← h3, List.filter_cons, if_pos (by simp [hE, hE2]), List.length_cons]; omega) H locs hH hS ls (lv_sub hl [0, 1, 2] rfl)
  exact loop (zs T []) [] 0 rfl (by rw [Nat.zero_add, lvs_zs]) _ _ hH hS ls (lv_sub hl [0, 1, 2] rfl)

set_option maxRecDepth 100000 in
set_option maxHeartbeats 4000000 in
theorem c_X1_meeting {t0 a b : Nat} {T : Tr} (h : TR L K sz P t0 T) (hs : srt sz T) (ha : a ∈ tids T) (hb9 : b ∈ tids T) : Md l yX1_meeting wsX1_meeting (rmL 2 0 0) D lo Γ [.ref t0, .ref a, .ref b] ((L, K, sz, si, P, bi, tu), M, V) (some (va_rf (some (lca T a b)))) ((L, K, sz, si, P, bi, tu), M, V) := by
  refine Mz_of (cc := cX1_meeting) (maxL := 6) (ret := (some (.object "SplayOrchard$Apple"))) (by decide) rfl (Nat.le_of_ble_eq_true rfl) ?_
  intro p e s m args below meth c ls S hr hlocks hK hH hS hl
  have hx := S.1
  have hb := S.2.1
  have hts := S.2.2.2.2
  have f32 : (Cond.fieldLink RX1 32 (TX0 0).1 (TX0 0).2.1 (TX0 0).2.2.1).before args s = true := hts _ (List.mem_of_getElem? (i := 1) rfl)
  have f7 : (Cond.fieldLink RX1 7 (TX1 0).1 (TX1 0).2.1 (TX1 0).2.2.1).before args s = true := hts _ (List.mem_of_getElem? (i := 9) rfl)
  have hi0 : ∀ w ∈ wsX00, w ∈ wsX1_meeting := by decide +kernel
  have hi1 : ∀ w ∈ wsX10, w ∈ wsX1_meeting := by decide +kernel
  have hl : lv_has ls 6 [(0, .ref t0), (1, .ref a), (2, .ref b)] := hl
  have hT := h
  obtain ⟨t_in, t_k, t_top, t_rep, t_nd, t_ok⟩ := h
  have ok_t0 : t0 ∈ L ∧ K t0 = 1 := ⟨t_in, t_k⟩
  have w1 : (Cond.methodLink RX1 66 Lib.Math.max.name).before args s = true := hts _ (List.mem_of_getElem? (i := 6) rfl)
  have w2 : (Cond.static Lib.Math.max.name).before args s = true := hts _ (List.mem_of_getElem? (i := 7) rfl)
  have w3 : (Cond.initialized "java/lang/Math").before args s = true := hts _ (List.mem_of_getElem? (i := 4) rfl)
  have w4 : (Cond.code Lib.Math.max.name Lib.Math.max.code 2 (some .int)).before args s = true := hts _ (List.mem_of_getElem? (i := 8) rfl)
  have v1 : (Cond.methodLink RX1 81 Lib.Math.min.name).before args s = true := hts _ (List.mem_of_getElem? (i := 2) rfl)
  have v2 : (Cond.static Lib.Math.min.name).before args s = true := hts _ (List.mem_of_getElem? (i := 3) rfl)
  have v4 : (Cond.code Lib.Math.min.name Lib.Math.min.code 2 (some .int)).before args s = true := hts _ (List.mem_of_getElem? (i := 5) rfl)
  have ok_a := (t_ok a ha).1
  have ok_b := (t_ok b hb9).1
  have ha9 := (t_ok a ha).2
  have hb8 := (t_ok b hb9).2
  refine lv_aload_n hx hb dX1_meeting_0 rfl (lv_at hl 1 rfl) ?_
  refine gA S hi0 hK hH ok_a 0 (by decide) f32 (v := .int (nI (sz a))) rfl dX1_meeting_1 ?_
  refine lv_aload_n hx hb dX1_meeting_4 rfl (lv_at hl 2 rfl) ?_
  refine gA S hi0 hK hH ok_b 0 (by decide) f32 (v := .int (nI (sz b))) rfl dX1_meeting_5 ?_
  refine va_mmin hx hb (S.2.2.1.trans hl.1.symm) S.2.2.2.1 v1 v2 w3 v4 (Nat.le_of_ble_eq_true rfl) (Nat.le_of_ble_eq_true rfl) (Nat.le_refl _) (Nat.le_refl _) dX1_meeting_8 ?_
  rw [nI_min (by omega) (by omega)]
  refine lv_istore_n (lv' := [(3, .int (nI (min (sz a) (sz b)))), (0, .ref t0), (1, .ref a), (2, .ref b)]) hx hb dX1_meeting_11 rfl hl (by decide) rfl (fun ls hl => ?_)
  refine lv_aload_n hx hb dX1_meeting_12 rfl (lv_at hl 2 rfl) ?_
  refine gA S hi0 hK hH ok_a 0 (by decide) f32 (v := .int (nI (sz a))) rfl dX1_meeting_13 ?_
  refine lv_aload_n hx hb dX1_meeting_16 rfl (lv_at hl 3 rfl) ?_
  refine gA S hi0 hK hH ok_b 0 (by decide) f32 (v := .int (nI (sz b))) rfl dX1_meeting_17 ?_
  refine va_mmax hx hb (S.2.2.1.trans hl.1.symm) S.2.2.2.1 w1 w2 w3 w4 (Nat.le_of_ble_eq_true rfl) (Nat.le_of_ble_eq_true rfl) (Nat.le_refl _) (Nat.le_refl _) dX1_meeting_20 ?_
  rw [nI_max (by omega) (by omega)]
  refine lv_istore (lv' := [(4, .int (nI (max (sz a) (sz b)))), (3, .int (nI (min (sz a) (sz b)))), (0, .ref t0), (1, .ref a), (2, .ref b)]) hx hb dX1_meeting_23 hl (by decide) rfl (fun ls hl => ?_)
  refine lv_aload_n hx hb dX1_meeting_25 rfl (lv_at hl 2 rfl) ?_
  refine gTp S hi1 hK hH ok_t0.1 ok_t0.2 f7 (v := va_rf (P 3 t0)) rfl dX1_meeting_26 ?_
  refine lq_astore (lv' := [(4, .int (nI (max (sz a) (sz b)))), (3, .int (nI (min (sz a) (sz b)))), (0, .ref t0), (1, .ref a), (2, .ref b)]) S dX1_meeting_29 hl (by decide) rfl (fun ls hl => ?_)
  obtain ⟨mn9, hmn⟩ : ∃ n, n = min (sz a) (sz b) := ⟨_, rfl⟩
  obtain ⟨mx9, hmx⟩ : ∃ n, n = max (sz a) (sz b) := ⟨_, rfl⟩
  rw [← hmn, ← hmx, t_top] at hl
  have loop : ∀ (T' : Tr) (par : Option Nat), rep P par T' → srt sz T' → (∀ x ∈ tids T', okA L K x ∧ sz x < 1000) → a ∈ tids T' → b ∈ tids T' → lca T' a b = lca T a b → ∀ H locs, Hp D lo Γ ((L, K, sz, si, P, bi, tu), M, V) H → va_S (lA lo) s.heap H locs → ∀ ls, lv_has ls 6 [(5, va_rf (rt T')), (4, .int (nI mx9)), (3, .int (nI mn9)), (0, .ref t0), (1, .ref a), (2, .ref b)] → W p l e (rmL 2 0 0) s m args below meth c H locs 0 0 (MQ below (Qz D lo Γ (fun v Z' => v = (some (va_rf (some (lca T a b)))) ∧ Z' = ((L, K, sz, si, P, bi, tu), M, V))) args s ((rmL 2 0 0) : Room).cells ((rmL 2 0 0) : Room).slots (lA lo)) (F0 m 31 ls []) := by
    intro T'
    induction T' with
    | leaf u => intro par _ _ _ h; cases h
    | branch k lt r9 ihl ihr =>
      intro par hrep hsr hok hin1 hin2 h3 H locs hH hS ls hl
      obtain ⟨g2, g0, g1, gl, gr⟩ := hrep
      obtain ⟨q1, q2, q3, q4⟩ := srt_l hsr
      have ok_k := (hok k (by simp [tids])).1
      have hk1000 := (hok k (by simp [tids])).2
      have hcl : ∀ x, x ∈ tids (.branch k lt r9) → (x ∈ tids lt ∧ sz x < sz k) ∨ x = k ∨ (x ∈ tids r9 ∧ sz k < sz x) := by
        intro x hx9
        rw [tids_branch] at hx9
        rcases List.mem_append.mp hx9 with h | h
        · exact Or.inl ⟨h, q3 x h⟩
        · rcases List.mem_cons.mp h with h | h
          · exact Or.inr (Or.inl h)
          · exact Or.inr (Or.inr ⟨h, q4 x h⟩)
      refine lv_aload hx hb dX1_meeting_31 (lv_at hl 0 rfl) ?_
      refine lv_ifnull hx hb dX1_meeting_33 ?_
      refine lv_aload hx hb dX1_meeting_36 (lv_at hl 0 rfl) ?_
      refine gA S hi0 hK hH ok_k 0 (by decide) f32 (v := .int (nI (sz k))) rfl dX1_meeting_38 ?_
      refine lv_iload_n hx hb dX1_meeting_41 rfl (lv_at hl 2 rfl) ?_
      refine lv_icmp_lt (tgt := 58) hx hb dX1_meeting_42 (by decide) (fun h1 => ?_) (fun h1 => ?_)
      · skip
        have h1 := (nI_ltI (by omega) (by omega)).mp h1
        refine lv_aload hx hb dX1_meeting_58 (lv_at hl 0 rfl) ?_
        refine lv_iload_n hx hb dX1_meeting_60 rfl (lv_at hl 2 rfl) ?_
        refine cV S (c_X0_towards (l := l) (D := D) (lo := lo) (Γ := Γ) (sz := sz) (si := si) (P := P) (bi := bi) (tu := tu) (M := M) (V := V) (x := nI mn9) ok_k) (cwV 1 hts gX1_meeting_X0_towards rfl rfl rfl (by decide +kernel) ⟨Nat.le_of_ble_eq_true rfl, Nat.le_of_ble_eq_true rfl⟩) hK hH (Hp_recv hK hH ok_k.1 ok_k.2 rfl) hS rfl hl.1 rfl (Nat.le_of_ble_eq_true rfl) dX1_meeting_61 ⟨Nat.le_of_ble_eq_true rfl, Nat.le_of_ble_eq_true rfl⟩ (fun v Z1 H locs hpost hH hS => ?_)
        obtain ⟨rfl, rfl⟩ := hpost
        refine lq_astore (lv' := [(4, .int (nI mx9)), (3, .int (nI mn9)), (0, .ref t0), (1, .ref a), (2, .ref b)]) S dX1_meeting_64 hl (by decide) rfl (fun ls hl => ?_)
        refine lv_goto (tgt := 31) hx hb dX1_meeting_66 (by decide) ?_
        have hia : a ∈ tids r9 := by rcases hcl a hin1 with h | h | h; omega; (subst h; omega); exact h.1
        have hib : b ∈ tids r9 := by rcases hcl b hin2 with h | h | h; omega; (subst h; omega); exact h.1
        have hna : ¬ (a ∈ tids lt ∧ b ∈ tids lt) := fun q => by have h5 := q3 a q.1; omega
        rw [lca, if_neg hna, if_pos ⟨hia, hib⟩] at h3
        have e1 : twd P sz (nI mn9) k = rt r9 := by rw [twd, if_neg (fun e => by have h5 := (nI_eq (by omega) (by omega)).mp e; omega), if_neg (fun e => by have h5 := (nI_ltI (by omega) (by omega)).mp e; omega), g1]
        rw [e1] at hl
        exact ihr (some k) gr q2 (fun x hx9 => hok x (by simp [tids, hx9])) hia hib h3 H locs hH hS ls (lv_sub hl [0, 1, 2, 3, 4, 5] rfl)
      · skip
        have h1 := fun q => h1 ((nI_ltI (a := sz k) (b := mn9) (by omega) (by omega)).mpr q)
        refine lv_aload hx hb dX1_meeting_45 (lv_at hl 0 rfl) ?_
        refine gA S hi0 hK hH ok_k 0 (by decide) f32 (v := .int (nI (sz k))) rfl dX1_meeting_47 ?_
        refine lv_iload hx hb dX1_meeting_50 (lv_at hl 1 rfl) ?_
        refine lv_icmp_gt (tgt := 58) hx hb dX1_meeting_52 (by decide) (fun h2 => ?_) (fun h2 => ?_)
        · skip
          have h2 := (nI_ltI (by omega) (by omega)).mp h2
          refine lv_aload hx hb dX1_meeting_58 (lv_at hl 0 rfl) ?_
          refine lv_iload_n hx hb dX1_meeting_60 rfl (lv_at hl 2 rfl) ?_
          refine cV S (c_X0_towards (l := l) (D := D) (lo := lo) (Γ := Γ) (sz := sz) (si := si) (P := P) (bi := bi) (tu := tu) (M := M) (V := V) (x := nI mn9) ok_k) (cwV 1 hts gX1_meeting_X0_towards rfl rfl rfl (by decide +kernel) ⟨Nat.le_of_ble_eq_true rfl, Nat.le_of_ble_eq_true rfl⟩) hK hH (Hp_recv hK hH ok_k.1 ok_k.2 rfl) hS rfl hl.1 rfl (Nat.le_of_ble_eq_true rfl) dX1_meeting_61 ⟨Nat.le_of_ble_eq_true rfl, Nat.le_of_ble_eq_true rfl⟩ (fun v Z1 H locs hpost hH hS => ?_)
          obtain ⟨rfl, rfl⟩ := hpost
          refine lq_astore (lv' := [(4, .int (nI mx9)), (3, .int (nI mn9)), (0, .ref t0), (1, .ref a), (2, .ref b)]) S dX1_meeting_64 hl (by decide) rfl (fun ls hl => ?_)
          refine lv_goto (tgt := 31) hx hb dX1_meeting_66 (by decide) ?_
          have hia : a ∈ tids lt := by rcases hcl a hin1 with h | h | h; exact h.1; (subst h; omega); omega
          have hib : b ∈ tids lt := by rcases hcl b hin2 with h | h | h; exact h.1; (subst h; omega); omega
          rw [lca, if_pos ⟨hia, hib⟩] at h3
          have e1 : twd P sz (nI mn9) k = rt lt := by rw [twd, if_neg (fun e => by have h5 := (nI_eq (by omega) (by omega)).mp e; omega), if_pos ((nI_ltI (by omega) (by omega)).mpr (by omega)), g0]
          rw [e1] at hl
          exact ihl (some k) gl q1 (fun x hx9 => hok x (by simp [tids, hx9])) hia hib h3 H locs hH hS ls (lv_sub hl [0, 1, 2, 3, 4, 5] rfl)
        · skip
          have h2 := fun q => h2 ((nI_ltI (a := mx9) (b := sz k) (by omega) (by omega)).mpr q)
          refine lv_aload hx hb dX1_meeting_55 (lv_at hl 0 rfl) ?_
          have h1 : mn9 ≤ sz k := Nat.not_lt.mp h1
          have h2 : sz k ≤ mx9 := Nat.not_lt.mp h2
          have hnl : ¬ (a ∈ tids lt ∧ b ∈ tids lt) := fun q => by have h5 := q3 a q.1; have h6 := q3 b q.2; omega
          have hnr : ¬ (a ∈ tids r9 ∧ b ∈ tids r9) := fun q => by have h5 := q4 a q.1; have h6 := q4 b q.2; omega
          rw [lca, if_neg hnl, if_neg hnr] at h3
          exact eA S hr hlocks (some k) rfl hH hS ⟨by rw [← h3], rfl⟩ dX1_meeting_57
  exact loop T none t_rep hs t_ok ha hb9 rfl _ _ hH hS ls (lv_sub hl [0, 1, 2, 3, 4, 5] rfl)

set_option maxRecDepth 100000 in
set_option maxHeartbeats 4000000 in
theorem c_X1_standInFor {t9 t0 : Nat} {T : Tr} (ok_t9 : t9 ∈ L ∧ K t9 = 1) (h : TR L K sz P t0 T) (hsi : ∀ a ∈ tids T, ∃ b, si a = some b ∧ b ∉ tids T) : Md l yX1_standInFor wsX1_standInFor (rmL 3 0 0) D lo Γ [.ref t9, .ref t0] ((L, K, sz, si, P, bi, tu), M, V) none ((L, K, sz, si, (sP (lnks P si (tids T)) 3 t9 ((rt T).bind si)), bi, tu), M, V) := by
  refine Mz_of (cc := cX1_standInFor) (maxL := 3) (ret := none) (by decide) rfl (Nat.le_of_ble_eq_true rfl) ?_
  intro p e s m args below meth c ls S hr hlocks hK hH hS hl
  have hx := S.1
  have hb := S.2.1
  have hts := S.2.2.2.2
  have f7 : (Cond.fieldLink RX1 7 (TX1 0).1 (TX1 0).2.1 (TX1 0).2.2.1).before args s = true := hts _ (List.mem_of_getElem? (i := 1) rfl)
  have hi1 : ∀ w ∈ wsX10, w ∈ wsX1_standInFor := by decide +kernel
  have hl : lv_has ls 3 [(0, .ref t9), (1, .ref t0)] := hl
  have hT := h
  obtain ⟨t_in, t_k, t_top, t_rep, t_nd, t_ok⟩ := h
  have ok_t0 : t0 ∈ L ∧ K t0 = 1 := ⟨t_in, t_k⟩
  refine lv_aload_n hx hb dX1_standInFor_0 rfl (lv_at hl 1 rfl) ?_
  refine cV S (c_X1_first (l := l) (D := D) (lo := lo) (Γ := Γ) (sz := sz) (si := si) (P := P) (bi := bi) (tu := tu) (M := M) (V := V) hT) (cwV 0 hts gX1_standInFor_X1_first rfl rfl rfl (by decide +kernel) ⟨Nat.le_of_ble_eq_true rfl, Nat.le_of_ble_eq_true rfl⟩) hK hH (Hp_recv hK hH ok_t0.1 ok_t0.2 rfl) hS rfl hl.1 rfl (Nat.le_of_ble_eq_true rfl) dX1_standInFor_1 ⟨Nat.le_of_ble_eq_true rfl, Nat.le_of_ble_eq_true rfl⟩ (fun v Z1 H locs hpost hH hS => ?_)
  obtain ⟨rfl, rfl⟩ := hpost
  refine lq_astore_n (lv' := [(0, .ref t9), (1, .ref t0)]) S dX1_standInFor_4 rfl hl (by decide) rfl (fun ls hl => ?_)
  have loop : ∀ (post pre : List Nat) (P' : PF), tids T = pre ++ post → rep P' none T → P' 3 t0 = rt T → lnks P' si post = lnks P si (tids T) → ∀ H locs, Hp D lo Γ ((L, K, sz, si, P', bi, tu), M, V) H → va_S (lA lo) s.heap H locs → ∀ ls, lv_has ls 3 [(2, va_rf (post.head?)), (0, .ref t9), (1, .ref t0)] → W p l e (rmL 3 0 0) s m args below meth c H locs 0 0 (MQ below (Qz D lo Γ (fun v Z' => v = none ∧ Z' = ((L, K, sz, si, (sP (lnks P si (tids T)) 3 t9 ((rt T).bind si)), bi, tu), M, V))) args s ((rmL 3 0 0) : Room).cells ((rmL 3 0 0) : Room).slots (lA lo)) (F0 m 5 ls []) := by
    intro post
    induction post with
    | nil =>
      intro pre P' hx2 hrep htop h3 H locs hH hS ls hl
      refine lv_aload_nN hx hb dX1_standInFor_5 rfl (lv_at hl 0 rfl) ?_
      refine lv_ifnullN hx hb dX1_standInFor_6 (tgt := 21) (by decide) ?_
      refine lv_aload_n hx hb dX1_standInFor_21 rfl (lv_at hl 1 rfl) ?_
      refine lv_aload_n hx hb dX1_standInFor_22 rfl (lv_at hl 2 rfl) ?_
      refine gTp S hi1 hK hH ok_t0.1 ok_t0.2 f7 (v := va_rf (P' 3 t0)) rfl dX1_standInFor_23 ?_
      rw [htop]
      refine cSt S (c_X0_standInOf (l := l) (D := D) (lo := lo) (Γ := Γ) (sz := sz) (si := si) (P := P') (bi := bi) (tu := tu) (M := M) (V := V) (r := rt T) (fun x h => (t_ok x (rt_mem h)).1)) (va_cwS 1 hts gX1_standInFor_X0_standInOf rfl rfl rfl (by decide +kernel) ⟨Nat.le_of_ble_eq_true rfl, Nat.le_of_ble_eq_true rfl⟩) hK hH hS rfl hl.1 rfl (Nat.le_of_ble_eq_true rfl) dX1_standInFor_26 ⟨Nat.le_of_ble_eq_true rfl, Nat.le_of_ble_eq_true rfl⟩ (fun v Z1 H locs hpost hH hS => ?_)
      obtain ⟨rfl, rfl⟩ := hpost
      refine pT S hi1 hK hH hS ok_t9.1 ok_t9.2 ((rt T).bind si) (fun x h => by obtain ⟨y, h1, h2⟩ := Option.bind_eq_some_iff.mp h; exact hH.2.2.2.2.1 y (t_ok y (rt_mem h1)).1 x h2) f7 rfl dX1_standInFor_29 (fun H locs hH hS => ?_)
      exact eV S hr hlocks hH hS ⟨rfl, by rw [← h3]; rfl⟩ dX1_standInFor_32
    | cons b post ih =>
      intro pre P' hx2 hrep htop h3 H locs hH hS ls hl
      have hbT : b ∈ tids T := by rw [hx2]; simp
      have ok_b := (t_ok b hbT).1
      obtain ⟨b', hsb, hbn⟩ := hsi b hbT
      refine lv_aload_n hx hb dX1_standInFor_5 rfl (lv_at hl 0 rfl) ?_
      refine lv_ifnull hx hb dX1_standInFor_6 ?_
      refine lv_aload_n hx hb dX1_standInFor_9 rfl (lv_at hl 0 rfl) ?_
      refine cV S (c_X0_linkStandIn (l := l) (D := D) (lo := lo) (Γ := Γ) (sz := sz) (si := si) (P := P') (bi := bi) (tu := tu) (M := M) (V := V) ok_b hsb) (cwV 0 hts gX1_standInFor_X0_linkStandIn rfl rfl rfl (by decide +kernel) ⟨Nat.le_of_ble_eq_true rfl, Nat.le_of_ble_eq_true rfl⟩) hK hH (Hp_recv hK hH ok_b.1 ok_b.2 rfl) hS rfl hl.1 rfl (Nat.le_of_ble_eq_true rfl) dX1_standInFor_10 ⟨Nat.le_of_ble_eq_true rfl, Nat.le_of_ble_eq_true rfl⟩ (fun v Z1 H locs hpost hH hS => ?_)
      obtain ⟨rfl, rfl⟩ := hpost
      refine lv_aload_n hx hb dX1_standInFor_13 rfl (lv_at hl 0 rfl) ?_
      have hrep2 : rep (lnk P' si b b') none T := rep_congr T _ hrep (fun x hx9 => by
        have hne : x ≠ b' := fun e => hbn (by rw [← e]; exact hx9)
        exact ⟨lnk_ne hne, lnk_ne hne, lnk_ne hne⟩)
      refine cV S (c_X0_nextL (l := l) (D := D) (lo := lo) (Γ := Γ) (sz := sz) (si := si) (P := (lnk P' si b b')) (bi := bi) (tu := tu) (M := M) (V := V) ok_b hrep2 t_nd hx2) (cwV 0 hts gX1_standInFor_X0_next rfl rfl rfl (by decide +kernel) ⟨Nat.le_of_ble_eq_true rfl, Nat.le_of_ble_eq_true rfl⟩) hK hH (Hp_recv hK hH ok_b.1 ok_b.2 rfl) hS rfl hl.1 rfl (Nat.le_of_ble_eq_true rfl) dX1_standInFor_14 ⟨Nat.le_of_ble_eq_true rfl, Nat.le_of_ble_eq_true rfl⟩ (fun v Z1 H locs hpost hH hS => ?_)
      obtain ⟨rfl, rfl⟩ := hpost
      refine lq_astore_n (lv' := [(0, .ref t9), (1, .ref t0)]) S dX1_standInFor_17 rfl hl (by decide) rfl (fun ls hl => ?_)
      refine lv_goto (tgt := 5) hx hb dX1_standInFor_18 (by decide) ?_
      exact ih (pre ++ [b]) (lnk P' si b b') (by rw [hx2]; simp) hrep2 (by rw [lnk_3]; exact htop) (by rw [← h3, lnks, hsb]) H locs hH hS ls (lv_sub hl [0, 1, 2] rfl)
  exact loop (tids T) [] P rfl t_rep t_top rfl _ _ hH hS ls (lv_sub hl [0, 1, 2] rfl)
end MTree3
end
section
set_option maxRecDepth 20000 in
theorem ggX2_init_X1_init : GoodIn wsX2_init wsX1_init := goodIn_r _ [10, 11, 2, 3] (by decide +kernel) (by decide +kernel)
set_option maxRecDepth 20000 in
theorem gX2_init_X1_init_n15 : GoodIn wsX2_init (wsX1_init) := ggX2_init_X1_init
theorem dX2_init_0 : decode cX2_init 0 = .ok (.aload_n 0, 1) := by decide +kernel
theorem dX2_init_1 : decode cX2_init 1 = .ok (.invokespecial 1, 3) := by decide +kernel
theorem dX2_init_4 : decode cX2_init 4 = .ok (.aload_n 0, 1) := by decide +kernel
theorem dX2_init_5 : decode cX2_init 5 = .ok (.bipush 6, 2) := by decide +kernel
theorem dX2_init_7 : decode cX2_init 7 = .ok (.anewarray 9, 3) := by decide +kernel
theorem dX2_init_10 : decode cX2_init 10 = .ok (.putfield 11, 3) := by decide +kernel
theorem dX2_init_13 : decode cX2_init 13 = .ok (.aload_n 0, 1) := by decide +kernel
theorem dX2_init_14 : decode cX2_init 14 = .ok (.new 9, 3) := by decide +kernel
theorem dX2_init_17 : decode cX2_init 17 = .ok (.dup, 1) := by decide +kernel
theorem dX2_init_18 : decode cX2_init 18 = .ok (.invokespecial 15, 3) := by decide +kernel
theorem dX2_init_21 : decode cX2_init 21 = .ok (.putfield 16, 3) := by decide +kernel
theorem dX2_init_24 : decode cX2_init 24 = .ok (.iconst 0, 1) := by decide +kernel
theorem dX2_init_25 : decode cX2_init 25 = .ok (.istore_n 1, 1) := by decide +kernel
theorem dX2_init_26 : decode cX2_init 26 = .ok (.iload_n 1, 1) := by decide +kernel
theorem dX2_init_27 : decode cX2_init 27 = .ok (.aload_n 0, 1) := by decide +kernel
theorem dX2_init_28 : decode cX2_init 28 = .ok (.getfield 11, 3) := by decide +kernel
theorem dX2_init_31 : decode cX2_init 31 = .ok (.arraylength, 1) := by decide +kernel
theorem dX2_init_32 : decode cX2_init 32 = .ok (.if_icmp .ge 22, 3) := by decide +kernel
theorem dX2_init_35 : decode cX2_init 35 = .ok (.aload_n 0, 1) := by decide +kernel
theorem dX2_init_36 : decode cX2_init 36 = .ok (.getfield 11, 3) := by decide +kernel
theorem dX2_init_39 : decode cX2_init 39 = .ok (.iload_n 1, 1) := by decide +kernel
theorem dX2_init_40 : decode cX2_init 40 = .ok (.new 9, 3) := by decide +kernel
theorem dX2_init_43 : decode cX2_init 43 = .ok (.dup, 1) := by decide +kernel
theorem dX2_init_44 : decode cX2_init 44 = .ok (.invokespecial 15, 3) := by decide +kernel
theorem dX2_init_47 : decode cX2_init 47 = .ok (.aastore, 1) := by decide +kernel
theorem dX2_init_48 : decode cX2_init 48 = .ok (.iinc 1 1, 3) := by decide +kernel
theorem dX2_init_51 : decode cX2_init 51 = .ok (.goto (-25), 3) := by decide +kernel
theorem dX2_init_54 : decode cX2_init 54 = .ok (.return_, 1) := by decide +kernel
set_option maxRecDepth 20000 in
theorem ggX2_plant_X2_treeOf : GoodIn wsX2_plant wsX2_treeOf := goodIn_ca (goodIn_r _ [10, 11, 12, 13, 116, 117, 118] (by decide +kernel) (by decide +kernel)) (goodIn_sub (fun _ h => List.mem_cons_of_mem _ (List.mem_append_left _ (List.mem_append_right _ h))) (by decide +kernel))
set_option maxRecDepth 20000 in
theorem gX2_plant_X2_treeOf : GoodIn wsX2_plant (wsV RX2 20 RX2 yX2_treeOf wsX2_treeOf) := goodIn_app (goodIn_of _ (by decide +kernel)) ggX2_plant_X2_treeOf
set_option maxRecDepth 20000 in
theorem ggX2_plant_X2_checkSize : GoodIn wsX2_plant wsX2_checkSize := goodIn_ca (goodIn_r _ [16, 17, 18] (by decide +kernel) (by decide +kernel)) (goodIn_sub (fun _ h => List.mem_cons_of_mem _ (List.mem_append_right _ h)) (by decide +kernel))
set_option maxRecDepth 20000 in
theorem gX2_plant_X2_checkSize : GoodIn wsX2_plant (va_wsS RX2 24 yX2_checkSize wsX2_checkSize) := goodIn_app (goodIn_of _ (by decide +kernel)) ggX2_plant_X2_checkSize
set_option maxRecDepth 20000 in
theorem ggX2_plant_X2_apples : GoodIn wsX2_plant wsX2_apples := goodIn_r _ [22, 13, 23, 24, 25, 26, 27, 28, 29, 30, 31, 5, 32, 33, 34, 35, 36, 37, 38, 39, 40, 41, 42, 43, 44, 45, 46, 47, 116, 117, 118, 119, 110, 111, 112, 113, 114, 115] (by decide +kernel) (by decide +kernel)
set_option maxRecDepth 20000 in
theorem gX2_plant_X2_apples : GoodIn wsX2_plant (wsV RX2 28 RX2 yX2_apples wsX2_apples) := goodIn_app (goodIn_of _ (by decide +kernel)) ggX2_plant_X2_apples
set_option maxRecDepth 20000 in
theorem ggX2_plant_X1_find : GoodIn wsX2_plant wsX1_find := goodIn_r _ [51, 52, 53, 54, 55, 26, 56, 28, 57, 58, 59, 5, 60, 61, 42, 37, 110, 111, 112, 113, 114, 115, 119] (by decide +kernel) (by decide +kernel)
set_option maxRecDepth 20000 in
theorem gX2_plant_X1_find : GoodIn wsX2_plant (wsV RX2 39 RX1 yX1_find wsX1_find) := goodIn_app (goodIn_of _ (by decide +kernel)) ggX2_plant_X1_find
set_option maxRecDepth 20000 in
theorem ggX2_plant_X0_init : GoodIn wsX2_plant wsX0_init := goodIn_r _ [64, 65, 66, 67, 61, 68, 110, 111, 112, 113, 114, 115] (by decide +kernel) (by decide +kernel)
set_option maxRecDepth 20000 in
theorem gX2_plant_X0_init : GoodIn wsX2_plant (wsX0_init) := ggX2_plant_X0_init
set_option maxRecDepth 20000 in
theorem ggX2_plant_X1_hang : GoodIn wsX2_plant wsX1_hang := goodIn_r _ [72, 52, 53, 54, 55, 26, 56, 28, 57, 58, 59, 5, 60, 61, 42, 37, 73, 74, 75, 76, 77, 78, 79, 80, 81, 47, 82, 83, 84, 85, 110, 111, 112, 113, 114, 115, 119] (by decide +kernel) (by decide +kernel)
set_option maxRecDepth 20000 in
theorem gX2_plant_X1_hang : GoodIn wsX2_plant (wsV RX2 50 RX1 yX1_hang wsX1_hang) := goodIn_app (goodIn_of _ (by decide +kernel)) ggX2_plant_X1_hang
set_option maxRecDepth 20000 in
theorem ggX2_plant_X2_bringUp : GoodIn wsX2_plant wsX2_bringUp := goodIn_r _ [89, 90, 91, 92, 93, 26, 94, 77, 28, 95, 96, 97, 5, 98, 47, 99, 100, 101, 102, 42, 103, 104, 105, 106, 37, 107, 108, 79, 80, 81, 109, 83, 84, 85, 116, 117, 118, 110, 111, 112, 113, 114, 115, 119] (by decide +kernel) (by decide +kernel)
set_option maxRecDepth 20000 in
theorem gX2_plant_X2_bringUp : GoodIn wsX2_plant (wsV RX2 54 RX2 yX2_bringUp wsX2_bringUp) := goodIn_app (goodIn_of _ (by decide +kernel)) ggX2_plant_X2_bringUp
theorem dX2_plant_0 : decode cX2_plant 0 = .ok (.aload_n 0, 1) := by decide +kernel
theorem dX2_plant_1 : decode cX2_plant 1 = .ok (.iload_n 1, 1) := by decide +kernel
theorem dX2_plant_2 : decode cX2_plant 2 = .ok (.invokevirtual 20, 3) := by decide +kernel
theorem dX2_plant_5 : decode cX2_plant 5 = .ok (.astore_n 3, 1) := by decide +kernel
theorem dX2_plant_6 : decode cX2_plant 6 = .ok (.iload_n 2, 1) := by decide +kernel
theorem dX2_plant_7 : decode cX2_plant 7 = .ok (.invokestatic 24, 3) := by decide +kernel
theorem dX2_plant_10 : decode cX2_plant 10 = .ok (.aload_n 0, 1) := by decide +kernel
theorem dX2_plant_11 : decode cX2_plant 11 = .ok (.invokevirtual 28, 3) := by decide +kernel
theorem dX2_plant_14 : decode cX2_plant 14 = .ok (.bipush 40, 2) := by decide +kernel
theorem dX2_plant_16 : decode cX2_plant 16 = .ok (.if_icmp .lt 13, 3) := by decide +kernel
theorem dX2_plant_19 : decode cX2_plant 19 = .ok (.new 32, 3) := by decide +kernel
theorem dX2_plant_22 : decode cX2_plant 22 = .ok (.dup, 1) := by decide +kernel
theorem dX2_plant_23 : decode cX2_plant 23 = .ok (.ldc 34, 2) := by decide +kernel
theorem dX2_plant_25 : decode cX2_plant 25 = .ok (.invokespecial 36, 3) := by decide +kernel
theorem dX2_plant_28 : decode cX2_plant 28 = .ok (.athrow, 1) := by decide +kernel
theorem dX2_plant_29 : decode cX2_plant 29 = .ok (.aload_n 3, 1) := by decide +kernel
theorem dX2_plant_30 : decode cX2_plant 30 = .ok (.iload_n 2, 1) := by decide +kernel
theorem dX2_plant_31 : decode cX2_plant 31 = .ok (.invokevirtual 39, 3) := by decide +kernel
theorem dX2_plant_34 : decode cX2_plant 34 = .ok (.ifnull 13, 3) := by decide +kernel
theorem dX2_plant_37 : decode cX2_plant 37 = .ok (.new 32, 3) := by decide +kernel
theorem dX2_plant_40 : decode cX2_plant 40 = .ok (.dup, 1) := by decide +kernel
theorem dX2_plant_41 : decode cX2_plant 41 = .ok (.ldc 43, 2) := by decide +kernel
theorem dX2_plant_43 : decode cX2_plant 43 = .ok (.invokespecial 36, 3) := by decide +kernel
theorem dX2_plant_46 : decode cX2_plant 46 = .ok (.athrow, 1) := by decide +kernel
theorem dX2_plant_47 : decode cX2_plant 47 = .ok (.new 45, 3) := by decide +kernel
theorem dX2_plant_50 : decode cX2_plant 50 = .ok (.dup, 1) := by decide +kernel
theorem dX2_plant_51 : decode cX2_plant 51 = .ok (.iload_n 2, 1) := by decide +kernel
theorem dX2_plant_52 : decode cX2_plant 52 = .ok (.new 45, 3) := by decide +kernel
theorem dX2_plant_55 : decode cX2_plant 55 = .ok (.dup, 1) := by decide +kernel
theorem dX2_plant_56 : decode cX2_plant 56 = .ok (.iload_n 2, 1) := by decide +kernel
theorem dX2_plant_57 : decode cX2_plant 57 = .ok (.aconst_null, 1) := by decide +kernel
theorem dX2_plant_58 : decode cX2_plant 58 = .ok (.invokespecial 47, 3) := by decide +kernel
theorem dX2_plant_61 : decode cX2_plant 61 = .ok (.invokespecial 47, 3) := by decide +kernel
theorem dX2_plant_64 : decode cX2_plant 64 = .ok (.astore 4, 2) := by decide +kernel
theorem dX2_plant_66 : decode cX2_plant 66 = .ok (.aload_n 3, 1) := by decide +kernel
theorem dX2_plant_67 : decode cX2_plant 67 = .ok (.aload 4, 2) := by decide +kernel
theorem dX2_plant_69 : decode cX2_plant 69 = .ok (.invokevirtual 50, 3) := by decide +kernel
theorem dX2_plant_72 : decode cX2_plant 72 = .ok (.aload_n 0, 1) := by decide +kernel
theorem dX2_plant_73 : decode cX2_plant 73 = .ok (.aload_n 3, 1) := by decide +kernel
theorem dX2_plant_74 : decode cX2_plant 74 = .ok (.aload 4, 2) := by decide +kernel
theorem dX2_plant_76 : decode cX2_plant 76 = .ok (.invokevirtual 54, 3) := by decide +kernel
theorem dX2_plant_79 : decode cX2_plant 79 = .ok (.ireturn, 1) := by decide +kernel
set_option maxRecDepth 20000 in
theorem ggX2_eat_X2_treeOf : GoodIn wsX2_eat wsX2_treeOf := goodIn_ca (goodIn_r _ [6, 7, 8, 9, 72, 73, 74] (by decide +kernel) (by decide +kernel)) (goodIn_sub (fun _ h => List.mem_cons_of_mem _ (List.mem_append_left _ (List.mem_append_right _ h))) (by decide +kernel))
set_option maxRecDepth 20000 in
theorem gX2_eat_X2_treeOf : GoodIn wsX2_eat (wsV RX2 20 RX2 yX2_treeOf wsX2_treeOf) := goodIn_app (goodIn_of _ (by decide +kernel)) ggX2_eat_X2_treeOf
set_option maxRecDepth 20000 in
theorem ggX2_eat_X2_appleOf : GoodIn wsX2_eat wsX2_appleOf := goodIn_ca (goodIn_r _ [12, 13, 14, 15, 16, 17, 18, 19, 20, 21, 22, 23, 24, 25, 26, 27, 28, 29, 30, 31, 32, 33, 66, 67, 68, 69, 70, 71, 75] (by decide +kernel) (by decide +kernel)) (goodIn_sub (fun _ h => List.mem_cons_of_mem _ (List.mem_append_right _ h)) (by decide +kernel))
set_option maxRecDepth 20000 in
theorem gX2_eat_X2_appleOf : GoodIn wsX2_eat (va_wsS RX2 58 yX2_appleOf wsX2_appleOf) := goodIn_app (goodIn_of _ (by decide +kernel)) ggX2_eat_X2_appleOf
set_option maxRecDepth 20000 in
theorem ggX2_eat_X2_bringUp : GoodIn wsX2_eat wsX2_bringUp := goodIn_r _ [37, 38, 39, 40, 41, 18, 42, 43, 25, 44, 45, 46, 29, 47, 48, 49, 50, 51, 52, 32, 53, 54, 55, 56, 33, 57, 58, 59, 60, 61, 62, 63, 64, 65, 72, 73, 74, 66, 67, 68, 69, 70, 71, 75] (by decide +kernel) (by decide +kernel)
set_option maxRecDepth 20000 in
theorem gX2_eat_X2_bringUp : GoodIn wsX2_eat (wsV RX2 54 RX2 yX2_bringUp wsX2_bringUp) := goodIn_app (goodIn_of _ (by decide +kernel)) ggX2_eat_X2_bringUp
theorem dX2_eat_0 : decode cX2_eat 0 = .ok (.aload_n 0, 1) := by decide +kernel
theorem dX2_eat_1 : decode cX2_eat 1 = .ok (.iload_n 1, 1) := by decide +kernel
theorem dX2_eat_2 : decode cX2_eat 2 = .ok (.invokevirtual 20, 3) := by decide +kernel
theorem dX2_eat_5 : decode cX2_eat 5 = .ok (.astore_n 3, 1) := by decide +kernel
theorem dX2_eat_6 : decode cX2_eat 6 = .ok (.aload_n 3, 1) := by decide +kernel
theorem dX2_eat_7 : decode cX2_eat 7 = .ok (.iload_n 2, 1) := by decide +kernel
theorem dX2_eat_8 : decode cX2_eat 8 = .ok (.invokestatic 58, 3) := by decide +kernel
theorem dX2_eat_11 : decode cX2_eat 11 = .ok (.astore 4, 2) := by decide +kernel
theorem dX2_eat_13 : decode cX2_eat 13 = .ok (.aload 4, 2) := by decide +kernel
theorem dX2_eat_15 : decode cX2_eat 15 = .ok (.dup, 1) := by decide +kernel
theorem dX2_eat_16 : decode cX2_eat 16 = .ok (.getfield 62, 3) := by decide +kernel
theorem dX2_eat_19 : decode cX2_eat 19 = .ok (.iconst 1, 1) := by decide +kernel
theorem dX2_eat_20 : decode cX2_eat 20 = .ok (.iadd, 1) := by decide +kernel
theorem dX2_eat_21 : decode cX2_eat 21 = .ok (.putfield 62, 3) := by decide +kernel
theorem dX2_eat_24 : decode cX2_eat 24 = .ok (.aload_n 0, 1) := by decide +kernel
theorem dX2_eat_25 : decode cX2_eat 25 = .ok (.aload_n 3, 1) := by decide +kernel
theorem dX2_eat_26 : decode cX2_eat 26 = .ok (.aload 4, 2) := by decide +kernel
theorem dX2_eat_28 : decode cX2_eat 28 = .ok (.invokevirtual 54, 3) := by decide +kernel
theorem dX2_eat_31 : decode cX2_eat 31 = .ok (.ireturn, 1) := by decide +kernel
set_option maxRecDepth 20000 in
theorem ggX2_pick_X2_treeOf : GoodIn wsX2_pick wsX2_treeOf := goodIn_ca (goodIn_r _ [8, 9, 10, 11, 91, 92, 93] (by decide +kernel) (by decide +kernel)) (goodIn_sub (fun _ h => List.mem_cons_of_mem _ (List.mem_append_left _ (List.mem_append_right _ h))) (by decide +kernel))
set_option maxRecDepth 20000 in
theorem gX2_pick_X2_treeOf : GoodIn wsX2_pick (wsV RX2 20 RX2 yX2_treeOf wsX2_treeOf) := goodIn_app (goodIn_of _ (by decide +kernel)) ggX2_pick_X2_treeOf
set_option maxRecDepth 20000 in
theorem ggX2_pick_X2_appleOf : GoodIn wsX2_pick wsX2_appleOf := goodIn_ca (goodIn_r _ [14, 15, 16, 17, 18, 19, 20, 21, 22, 23, 24, 25, 26, 27, 28, 29, 30, 31, 32, 33, 34, 35, 85, 86, 87, 88, 89, 90, 94] (by decide +kernel) (by decide +kernel)) (goodIn_sub (fun _ h => List.mem_cons_of_mem _ (List.mem_append_right _ h)) (by decide +kernel))
set_option maxRecDepth 20000 in
theorem gX2_pick_X2_appleOf : GoodIn wsX2_pick (va_wsS RX2 58 yX2_appleOf wsX2_appleOf) := goodIn_app (goodIn_of _ (by decide +kernel)) ggX2_pick_X2_appleOf
set_option maxRecDepth 20000 in
theorem ggX2_pick_X2_bringUp : GoodIn wsX2_pick wsX2_bringUp := goodIn_r _ [39, 40, 41, 42, 43, 20, 44, 45, 27, 46, 47, 48, 31, 49, 50, 51, 52, 53, 54, 34, 55, 56, 57, 58, 35, 59, 60, 61, 62, 63, 64, 65, 66, 67, 91, 92, 93, 85, 86, 87, 88, 89, 90, 94] (by decide +kernel) (by decide +kernel)
set_option maxRecDepth 20000 in
theorem gX2_pick_X2_bringUp : GoodIn wsX2_pick (wsV RX2 54 RX2 yX2_bringUp wsX2_bringUp) := goodIn_app (goodIn_of _ (by decide +kernel)) ggX2_pick_X2_bringUp
set_option maxRecDepth 20000 in
theorem ggX2_pick_X1_setTop : GoodIn wsX2_pick wsX1_setTop := goodIn_r _ [71, 27, 45, 94, 85, 86, 87, 88, 89, 90] (by decide +kernel) (by decide +kernel)
set_option maxRecDepth 20000 in
theorem gX2_pick_X1_setTop : GoodIn wsX2_pick (wsV RX2 70 RX1 yX1_setTop wsX1_setTop) := goodIn_app (goodIn_of _ (by decide +kernel)) ggX2_pick_X1_setTop
set_option maxRecDepth 20000 in
theorem ggX2_pick_X2_append : GoodIn wsX2_pick wsX2_append := goodIn_r _ [75, 76, 77, 78, 20, 79, 27, 80, 81, 82, 31, 83, 35, 68, 69, 70, 71, 45, 36, 37, 38, 7, 39, 40, 41, 42, 43, 44, 46, 47, 48, 49, 50, 51, 52, 53, 54, 34, 55, 56, 57, 58, 59, 60, 61, 62, 63, 64, 65, 66, 67, 84, 94, 85, 86, 87, 88, 89, 90, 91, 92, 93] (by decide +kernel) (by decide +kernel)
set_option maxRecDepth 20000 in
theorem gX2_pick_X2_append : GoodIn wsX2_pick (wsV RX2 76 RX2 yX2_append wsX2_append) := goodIn_app (goodIn_of _ (by decide +kernel)) ggX2_pick_X2_append
theorem dX2_pick_0 : decode cX2_pick 0 = .ok (.aload_n 0, 1) := by decide +kernel
theorem dX2_pick_1 : decode cX2_pick 1 = .ok (.iload_n 1, 1) := by decide +kernel
theorem dX2_pick_2 : decode cX2_pick 2 = .ok (.invokevirtual 20, 3) := by decide +kernel
theorem dX2_pick_5 : decode cX2_pick 5 = .ok (.astore_n 3, 1) := by decide +kernel
theorem dX2_pick_6 : decode cX2_pick 6 = .ok (.aload_n 3, 1) := by decide +kernel
theorem dX2_pick_7 : decode cX2_pick 7 = .ok (.iload_n 2, 1) := by decide +kernel
theorem dX2_pick_8 : decode cX2_pick 8 = .ok (.invokestatic 58, 3) := by decide +kernel
theorem dX2_pick_11 : decode cX2_pick 11 = .ok (.astore 4, 2) := by decide +kernel
theorem dX2_pick_13 : decode cX2_pick 13 = .ok (.aload_n 0, 1) := by decide +kernel
theorem dX2_pick_14 : decode cX2_pick 14 = .ok (.aload_n 3, 1) := by decide +kernel
theorem dX2_pick_15 : decode cX2_pick 15 = .ok (.aload 4, 2) := by decide +kernel
theorem dX2_pick_17 : decode cX2_pick 17 = .ok (.invokevirtual 54, 3) := by decide +kernel
theorem dX2_pick_20 : decode cX2_pick 20 = .ok (.pop, 1) := by decide +kernel
theorem dX2_pick_21 : decode cX2_pick 21 = .ok (.aload_n 3, 1) := by decide +kernel
theorem dX2_pick_22 : decode cX2_pick 22 = .ok (.aload 4, 2) := by decide +kernel
theorem dX2_pick_24 : decode cX2_pick 24 = .ok (.getfield 66, 3) := by decide +kernel
theorem dX2_pick_27 : decode cX2_pick 27 = .ok (.invokevirtual 70, 3) := by decide +kernel
theorem dX2_pick_30 : decode cX2_pick 30 = .ok (.aload_n 0, 1) := by decide +kernel
theorem dX2_pick_31 : decode cX2_pick 31 = .ok (.aload_n 3, 1) := by decide +kernel
theorem dX2_pick_32 : decode cX2_pick 32 = .ok (.aload 4, 2) := by decide +kernel
theorem dX2_pick_34 : decode cX2_pick 34 = .ok (.getfield 73, 3) := by decide +kernel
theorem dX2_pick_37 : decode cX2_pick 37 = .ok (.invokevirtual 76, 3) := by decide +kernel
theorem dX2_pick_40 : decode cX2_pick 40 = .ok (.aload 4, 2) := by decide +kernel
theorem dX2_pick_42 : decode cX2_pick 42 = .ok (.getfield 62, 3) := by decide +kernel
theorem dX2_pick_45 : decode cX2_pick 45 = .ok (.ireturn, 1) := by decide +kernel
set_option maxRecDepth 20000 in
theorem ggX2_split_X2_treeOf : GoodIn wsX2_split wsX2_treeOf := goodIn_ca (goodIn_r _ [9, 10, 11, 12, 98, 99, 100] (by decide +kernel) (by decide +kernel)) (goodIn_sub (fun _ h => List.mem_cons_of_mem _ (List.mem_append_left _ (List.mem_append_right _ h))) (by decide +kernel))
set_option maxRecDepth 20000 in
theorem gX2_split_X2_treeOf : GoodIn wsX2_split (wsV RX2 20 RX2 yX2_treeOf wsX2_treeOf) := goodIn_app (goodIn_of _ (by decide +kernel)) ggX2_split_X2_treeOf
set_option maxRecDepth 20000 in
theorem ggX2_split_X2_checkSize : GoodIn wsX2_split wsX2_checkSize := goodIn_ca (goodIn_r _ [15, 16, 17] (by decide +kernel) (by decide +kernel)) (goodIn_sub (fun _ h => List.mem_cons_of_mem _ (List.mem_append_right _ h)) (by decide +kernel))
set_option maxRecDepth 20000 in
theorem gX2_split_X2_checkSize : GoodIn wsX2_split (va_wsS RX2 24 yX2_checkSize wsX2_checkSize) := goodIn_app (goodIn_of _ (by decide +kernel)) ggX2_split_X2_checkSize
set_option maxRecDepth 20000 in
theorem ggX2_split_X1_greatestBelow : GoodIn wsX2_split wsX1_greatestBelow := goodIn_r _ [22, 23, 24, 25, 26, 21, 27, 28, 29, 30, 31, 32, 33, 34, 35, 36, 37, 38, 39, 40, 41, 92, 93, 94, 95, 96, 97, 91] (by decide +kernel) (by decide +kernel)
set_option maxRecDepth 20000 in
theorem gX2_split_X1_greatestBelow : GoodIn wsX2_split (wsV RX2 87 RX1 yX1_greatestBelow wsX1_greatestBelow) := goodIn_app (goodIn_of _ (by decide +kernel)) ggX2_split_X1_greatestBelow
set_option maxRecDepth 20000 in
theorem ggX2_split_X1_setTop : GoodIn wsX2_split wsX1_setTop := goodIn_r _ [45, 28, 46, 91, 92, 93, 94, 95, 96, 97] (by decide +kernel) (by decide +kernel)
set_option maxRecDepth 20000 in
theorem gX2_split_X1_setTop : GoodIn wsX2_split (wsV RX2 70 RX1 yX1_setTop wsX1_setTop) := goodIn_app (goodIn_of _ (by decide +kernel)) ggX2_split_X1_setTop
set_option maxRecDepth 20000 in
theorem ggX2_split_X2_bringUp : GoodIn wsX2_split wsX2_bringUp := goodIn_r _ [50, 51, 52, 53, 54, 21, 55, 46, 28, 56, 57, 58, 32, 59, 40, 60, 61, 62, 63, 34, 64, 65, 66, 67, 39, 68, 69, 70, 71, 72, 73, 74, 75, 76, 98, 99, 100, 92, 93, 94, 95, 96, 97, 91] (by decide +kernel) (by decide +kernel)
set_option maxRecDepth 20000 in
theorem gX2_split_X2_bringUp : GoodIn wsX2_split (wsV RX2 54 RX2 yX2_bringUp wsX2_bringUp) := goodIn_app (goodIn_of _ (by decide +kernel)) ggX2_split_X2_bringUp
set_option maxRecDepth 20000 in
theorem ggX2_split_X0_hangRight : GoodIn wsX2_split wsX0_hangRight := goodIn_r _ [76, 39, 40, 92, 93, 94, 95, 96, 97] (by decide +kernel) (by decide +kernel)
set_option maxRecDepth 20000 in
theorem gX2_split_X0_hangRight : GoodIn wsX2_split (wsV RX2 90 RX0 yX0_hangRight wsX0_hangRight) := goodIn_app (goodIn_of _ (by decide +kernel)) ggX2_split_X0_hangRight
set_option maxRecDepth 20000 in
theorem ggX2_split_X1_count : GoodIn wsX2_split wsX1_count := goodIn_r _ [81, 28, 82, 83, 84, 32, 85, 86, 87, 88, 89, 39, 41, 30, 31, 33, 34, 90, 36, 37, 38, 40, 91, 92, 93, 94, 95, 96, 97] (by decide +kernel) (by decide +kernel)
set_option maxRecDepth 20000 in
theorem gX2_split_X1_count : GoodIn wsX2_split (wsV RX2 93 RX1 yX1_count wsX1_count) := goodIn_app (goodIn_of _ (by decide +kernel)) ggX2_split_X1_count
theorem dX2_split_0 : decode cX2_split 0 = .ok (.aload_n 0, 1) := by decide +kernel
theorem dX2_split_1 : decode cX2_split 1 = .ok (.iload_n 1, 1) := by decide +kernel
theorem dX2_split_2 : decode cX2_split 2 = .ok (.invokevirtual 20, 3) := by decide +kernel
theorem dX2_split_5 : decode cX2_split 5 = .ok (.astore 4, 2) := by decide +kernel
theorem dX2_split_7 : decode cX2_split 7 = .ok (.aload_n 0, 1) := by decide +kernel
theorem dX2_split_8 : decode cX2_split 8 = .ok (.iload_n 3, 1) := by decide +kernel
theorem dX2_split_9 : decode cX2_split 9 = .ok (.invokevirtual 20, 3) := by decide +kernel
theorem dX2_split_12 : decode cX2_split 12 = .ok (.astore 5, 2) := by decide +kernel
theorem dX2_split_14 : decode cX2_split 14 = .ok (.iload_n 2, 1) := by decide +kernel
theorem dX2_split_15 : decode cX2_split 15 = .ok (.invokestatic 24, 3) := by decide +kernel
theorem dX2_split_18 : decode cX2_split 18 = .ok (.aload 5, 2) := by decide +kernel
theorem dX2_split_20 : decode cX2_split 20 = .ok (.aload 4, 2) := by decide +kernel
theorem dX2_split_22 : decode cX2_split 22 = .ok (.if_acmp .ne 13, 3) := by decide +kernel
theorem dX2_split_25 : decode cX2_split 25 = .ok (.new 32, 3) := by decide +kernel
theorem dX2_split_28 : decode cX2_split 28 = .ok (.dup, 1) := by decide +kernel
theorem dX2_split_29 : decode cX2_split 29 = .ok (.ldc 80, 2) := by decide +kernel
theorem dX2_split_31 : decode cX2_split 31 = .ok (.invokespecial 36, 3) := by decide +kernel
theorem dX2_split_34 : decode cX2_split 34 = .ok (.athrow, 1) := by decide +kernel
theorem dX2_split_35 : decode cX2_split 35 = .ok (.aload 5, 2) := by decide +kernel
theorem dX2_split_37 : decode cX2_split 37 = .ok (.getfield 82, 3) := by decide +kernel
theorem dX2_split_40 : decode cX2_split 40 = .ok (.ifnull 13, 3) := by decide +kernel
theorem dX2_split_43 : decode cX2_split 43 = .ok (.new 32, 3) := by decide +kernel
theorem dX2_split_46 : decode cX2_split 46 = .ok (.dup, 1) := by decide +kernel
theorem dX2_split_47 : decode cX2_split 47 = .ok (.ldc 85, 2) := by decide +kernel
theorem dX2_split_49 : decode cX2_split 49 = .ok (.invokespecial 36, 3) := by decide +kernel
theorem dX2_split_52 : decode cX2_split 52 = .ok (.athrow, 1) := by decide +kernel
theorem dX2_split_53 : decode cX2_split 53 = .ok (.aload 4, 2) := by decide +kernel
theorem dX2_split_55 : decode cX2_split 55 = .ok (.iload_n 2, 1) := by decide +kernel
theorem dX2_split_56 : decode cX2_split 56 = .ok (.invokevirtual 87, 3) := by decide +kernel
theorem dX2_split_59 : decode cX2_split 59 = .ok (.astore 6, 2) := by decide +kernel
theorem dX2_split_61 : decode cX2_split 61 = .ok (.aload 6, 2) := by decide +kernel
theorem dX2_split_63 : decode cX2_split 63 = .ok (.ifnonnull 22, 3) := by decide +kernel
theorem dX2_split_66 : decode cX2_split 66 = .ok (.aload 5, 2) := by decide +kernel
theorem dX2_split_68 : decode cX2_split 68 = .ok (.aload 4, 2) := by decide +kernel
theorem dX2_split_70 : decode cX2_split 70 = .ok (.getfield 82, 3) := by decide +kernel
theorem dX2_split_73 : decode cX2_split 73 = .ok (.invokevirtual 70, 3) := by decide +kernel
theorem dX2_split_76 : decode cX2_split 76 = .ok (.aload 4, 2) := by decide +kernel
theorem dX2_split_78 : decode cX2_split 78 = .ok (.aconst_null, 1) := by decide +kernel
theorem dX2_split_79 : decode cX2_split 79 = .ok (.invokevirtual 70, 3) := by decide +kernel
theorem dX2_split_82 : decode cX2_split 82 = .ok (.goto 28, 3) := by decide +kernel
theorem dX2_split_85 : decode cX2_split 85 = .ok (.aload_n 0, 1) := by decide +kernel
theorem dX2_split_86 : decode cX2_split 86 = .ok (.aload 4, 2) := by decide +kernel
theorem dX2_split_88 : decode cX2_split 88 = .ok (.aload 6, 2) := by decide +kernel
theorem dX2_split_90 : decode cX2_split 90 = .ok (.invokevirtual 54, 3) := by decide +kernel
theorem dX2_split_93 : decode cX2_split 93 = .ok (.pop, 1) := by decide +kernel
theorem dX2_split_94 : decode cX2_split 94 = .ok (.aload 5, 2) := by decide +kernel
theorem dX2_split_96 : decode cX2_split 96 = .ok (.aload 6, 2) := by decide +kernel
theorem dX2_split_98 : decode cX2_split 98 = .ok (.getfield 73, 3) := by decide +kernel
theorem dX2_split_101 : decode cX2_split 101 = .ok (.invokevirtual 70, 3) := by decide +kernel
theorem dX2_split_104 : decode cX2_split 104 = .ok (.aload 6, 2) := by decide +kernel
theorem dX2_split_106 : decode cX2_split 106 = .ok (.aconst_null, 1) := by decide +kernel
theorem dX2_split_107 : decode cX2_split 107 = .ok (.invokevirtual 90, 3) := by decide +kernel
theorem dX2_split_110 : decode cX2_split 110 = .ok (.aload 5, 2) := by decide +kernel
theorem dX2_split_112 : decode cX2_split 112 = .ok (.invokevirtual 93, 3) := by decide +kernel
theorem dX2_split_115 : decode cX2_split 115 = .ok (.ireturn, 1) := by decide +kernel
set_option maxRecDepth 20000 in
theorem ggX2_join_X2_treeOf : GoodIn wsX2_join wsX2_treeOf := goodIn_ca (goodIn_r _ [8, 9, 10, 11, 93, 94, 95] (by decide +kernel) (by decide +kernel)) (goodIn_sub (fun _ h => List.mem_cons_of_mem _ (List.mem_append_right _ h)) (by decide +kernel))
set_option maxRecDepth 20000 in
theorem gX2_join_X2_treeOf : GoodIn wsX2_join (wsV RX2 20 RX2 yX2_treeOf wsX2_treeOf) := goodIn_app (goodIn_of _ (by decide +kernel)) ggX2_join_X2_treeOf
set_option maxRecDepth 20000 in
theorem ggX2_join_X2_mayJoin : GoodIn wsX2_join wsX2_mayJoin := goodIn_r _ [14, 15, 16, 17, 18, 19, 20, 21, 22, 23, 24, 25, 26, 27, 28, 29, 30, 31, 32, 33, 34, 35, 36, 96, 97, 98, 99, 100, 101, 92] (by decide +kernel) (by decide +kernel)
set_option maxRecDepth 20000 in
theorem gX2_join_X2_mayJoin : GoodIn wsX2_join (va_wsS RX2 96 yX2_mayJoin wsX2_mayJoin) := goodIn_app (goodIn_of _ (by decide +kernel)) ggX2_join_X2_mayJoin
set_option maxRecDepth 20000 in
theorem ggX2_join_X2_append : GoodIn wsX2_join wsX2_append := goodIn_r _ [40, 16, 17, 18, 19, 20, 21, 22, 23, 24, 25, 26, 27, 41, 42, 43, 44, 45, 46, 47, 48, 7, 49, 50, 51, 52, 53, 54, 55, 56, 57, 58, 59, 60, 61, 62, 63, 36, 64, 65, 66, 67, 68, 69, 70, 71, 72, 73, 74, 75, 76, 77, 92, 96, 97, 98, 99, 100, 101, 93, 94, 95] (by decide +kernel) (by decide +kernel)
set_option maxRecDepth 20000 in
theorem gX2_join_X2_append : GoodIn wsX2_join (wsV RX2 76 RX2 yX2_append wsX2_append) := goodIn_app (goodIn_of _ (by decide +kernel)) ggX2_join_X2_append
set_option maxRecDepth 20000 in
theorem ggX2_join_X1_setTop : GoodIn wsX2_join wsX1_setTop := goodIn_r _ [44, 21, 45, 92, 96, 97, 98, 99, 100, 101] (by decide +kernel) (by decide +kernel)
set_option maxRecDepth 20000 in
theorem gX2_join_X1_setTop : GoodIn wsX2_join (wsV RX2 70 RX1 yX1_setTop wsX1_setTop) := goodIn_app (goodIn_of _ (by decide +kernel)) ggX2_join_X1_setTop
set_option maxRecDepth 20000 in
theorem ggX2_join_X1_count : GoodIn wsX2_join wsX1_count := goodIn_r _ [81, 21, 82, 83, 84, 25, 85, 86, 23, 24, 26, 27, 87, 33, 34, 35, 36, 88, 89, 90, 91, 59, 92, 96, 97, 98, 99, 100, 101] (by decide +kernel) (by decide +kernel)
set_option maxRecDepth 20000 in
theorem gX2_join_X1_count : GoodIn wsX2_join (wsV RX2 93 RX1 yX1_count wsX1_count) := goodIn_app (goodIn_of _ (by decide +kernel)) ggX2_join_X1_count
theorem dX2_join_0 : decode cX2_join 0 = .ok (.aload_n 0, 1) := by decide +kernel
theorem dX2_join_1 : decode cX2_join 1 = .ok (.iload_n 1, 1) := by decide +kernel
theorem dX2_join_2 : decode cX2_join 2 = .ok (.invokevirtual 20, 3) := by decide +kernel
theorem dX2_join_5 : decode cX2_join 5 = .ok (.astore_n 3, 1) := by decide +kernel
theorem dX2_join_6 : decode cX2_join 6 = .ok (.aload_n 0, 1) := by decide +kernel
theorem dX2_join_7 : decode cX2_join 7 = .ok (.iload_n 2, 1) := by decide +kernel
theorem dX2_join_8 : decode cX2_join 8 = .ok (.invokevirtual 20, 3) := by decide +kernel
theorem dX2_join_11 : decode cX2_join 11 = .ok (.astore 4, 2) := by decide +kernel
theorem dX2_join_13 : decode cX2_join 13 = .ok (.aload_n 3, 1) := by decide +kernel
theorem dX2_join_14 : decode cX2_join 14 = .ok (.aload 4, 2) := by decide +kernel
theorem dX2_join_16 : decode cX2_join 16 = .ok (.invokestatic 96, 3) := by decide +kernel
theorem dX2_join_19 : decode cX2_join 19 = .ok (.ifCond .ne 13, 3) := by decide +kernel
theorem dX2_join_22 : decode cX2_join 22 = .ok (.new 32, 3) := by decide +kernel
theorem dX2_join_25 : decode cX2_join 25 = .ok (.dup, 1) := by decide +kernel
theorem dX2_join_26 : decode cX2_join 26 = .ok (.ldc 100, 2) := by decide +kernel
theorem dX2_join_28 : decode cX2_join 28 = .ok (.invokespecial 36, 3) := by decide +kernel
theorem dX2_join_31 : decode cX2_join 31 = .ok (.athrow, 1) := by decide +kernel
theorem dX2_join_32 : decode cX2_join 32 = .ok (.aload_n 0, 1) := by decide +kernel
theorem dX2_join_33 : decode cX2_join 33 = .ok (.aload_n 3, 1) := by decide +kernel
theorem dX2_join_34 : decode cX2_join 34 = .ok (.aload 4, 2) := by decide +kernel
theorem dX2_join_36 : decode cX2_join 36 = .ok (.getfield 82, 3) := by decide +kernel
theorem dX2_join_39 : decode cX2_join 39 = .ok (.invokevirtual 76, 3) := by decide +kernel
theorem dX2_join_42 : decode cX2_join 42 = .ok (.aload 4, 2) := by decide +kernel
theorem dX2_join_44 : decode cX2_join 44 = .ok (.aconst_null, 1) := by decide +kernel
theorem dX2_join_45 : decode cX2_join 45 = .ok (.invokevirtual 70, 3) := by decide +kernel
theorem dX2_join_48 : decode cX2_join 48 = .ok (.aload_n 3, 1) := by decide +kernel
theorem dX2_join_49 : decode cX2_join 49 = .ok (.invokevirtual 93, 3) := by decide +kernel
theorem dX2_join_52 : decode cX2_join 52 = .ok (.ireturn, 1) := by decide +kernel
set_option maxRecDepth 20000 in
theorem ggX2_apples_X1_count : GoodIn wsX2_apples wsX1_count := goodIn_r _ [6, 7, 8, 9, 10, 11, 12, 13, 14, 15, 16, 17, 18, 19, 20, 21, 22, 23, 24, 25, 26, 27, 31, 32, 33, 34, 35, 36, 37] (by decide +kernel) (by decide +kernel)
set_option maxRecDepth 20000 in
theorem gX2_apples_X1_count : GoodIn wsX2_apples (wsV RX2 93 RX1 yX1_count wsX1_count) := goodIn_app (goodIn_of _ (by decide +kernel)) ggX2_apples_X1_count
theorem dX2_apples_0 : decode cX2_apples 0 = .ok (.iconst 0, 1) := by decide +kernel
theorem dX2_apples_1 : decode cX2_apples 1 = .ok (.istore_n 1, 1) := by decide +kernel
theorem dX2_apples_2 : decode cX2_apples 2 = .ok (.aload_n 0, 1) := by decide +kernel
theorem dX2_apples_3 : decode cX2_apples 3 = .ok (.getfield 11, 3) := by decide +kernel
theorem dX2_apples_6 : decode cX2_apples 6 = .ok (.astore_n 2, 1) := by decide +kernel
theorem dX2_apples_7 : decode cX2_apples 7 = .ok (.aload_n 2, 1) := by decide +kernel
theorem dX2_apples_8 : decode cX2_apples 8 = .ok (.arraylength, 1) := by decide +kernel
theorem dX2_apples_9 : decode cX2_apples 9 = .ok (.istore_n 3, 1) := by decide +kernel
theorem dX2_apples_10 : decode cX2_apples 10 = .ok (.iconst 0, 1) := by decide +kernel
theorem dX2_apples_11 : decode cX2_apples 11 = .ok (.istore 4, 2) := by decide +kernel
theorem dX2_apples_13 : decode cX2_apples 13 = .ok (.iload 4, 2) := by decide +kernel
theorem dX2_apples_15 : decode cX2_apples 15 = .ok (.iload_n 3, 1) := by decide +kernel
theorem dX2_apples_16 : decode cX2_apples 16 = .ok (.if_icmp .ge 23, 3) := by decide +kernel
theorem dX2_apples_19 : decode cX2_apples 19 = .ok (.aload_n 2, 1) := by decide +kernel
theorem dX2_apples_20 : decode cX2_apples 20 = .ok (.iload 4, 2) := by decide +kernel
theorem dX2_apples_22 : decode cX2_apples 22 = .ok (.aaload, 1) := by decide +kernel
theorem dX2_apples_23 : decode cX2_apples 23 = .ok (.astore 5, 2) := by decide +kernel
theorem dX2_apples_25 : decode cX2_apples 25 = .ok (.iload_n 1, 1) := by decide +kernel
theorem dX2_apples_26 : decode cX2_apples 26 = .ok (.aload 5, 2) := by decide +kernel
theorem dX2_apples_28 : decode cX2_apples 28 = .ok (.invokevirtual 93, 3) := by decide +kernel
theorem dX2_apples_31 : decode cX2_apples 31 = .ok (.iadd, 1) := by decide +kernel
theorem dX2_apples_32 : decode cX2_apples 32 = .ok (.istore_n 1, 1) := by decide +kernel
theorem dX2_apples_33 : decode cX2_apples 33 = .ok (.iinc 4 1, 3) := by decide +kernel
theorem dX2_apples_36 : decode cX2_apples 36 = .ok (.goto (-23), 3) := by decide +kernel
theorem dX2_apples_39 : decode cX2_apples 39 = .ok (.iload_n 1, 1) := by decide +kernel
theorem dX2_apples_40 : decode cX2_apples 40 = .ok (.ireturn, 1) := by decide +kernel
theorem dX2_turnings_0 : decode cX2_turnings 0 = .ok (.aload_n 0, 1) := by decide +kernel
theorem dX2_turnings_1 : decode cX2_turnings 1 = .ok (.getfield 102, 3) := by decide +kernel
theorem dX2_turnings_4 : decode cX2_turnings 4 = .ok (.ireturn, 1) := by decide +kernel
set_option maxRecDepth 20000 in
theorem ggX2_sizeOf_X2_treeOf : GoodIn wsX2_sizeOf wsX2_treeOf := goodIn_ca (goodIn_r _ [5, 6, 7, 8, 35, 36, 37] (by decide +kernel) (by decide +kernel)) (goodIn_sub (fun _ h => List.mem_cons_of_mem _ (List.mem_append_right _ h)) (by decide +kernel))
set_option maxRecDepth 20000 in
theorem gX2_sizeOf_X2_treeOf : GoodIn wsX2_sizeOf (wsV RX2 20 RX2 yX2_treeOf wsX2_treeOf) := goodIn_app (goodIn_of _ (by decide +kernel)) ggX2_sizeOf_X2_treeOf
set_option maxRecDepth 20000 in
theorem ggX2_sizeOf_X1_count : GoodIn wsX2_sizeOf wsX1_count := goodIn_r _ [13, 14, 15, 16, 17, 18, 19, 20, 21, 22, 23, 24, 25, 26, 27, 28, 29, 30, 31, 32, 33, 34, 38, 39, 40, 41, 42, 43, 44] (by decide +kernel) (by decide +kernel)
set_option maxRecDepth 20000 in
theorem gX2_sizeOf_X1_count : GoodIn wsX2_sizeOf (wsV RX2 93 RX1 yX1_count wsX1_count) := goodIn_app (goodIn_of _ (by decide +kernel)) ggX2_sizeOf_X1_count
theorem dX2_sizeOf_0 : decode cX2_sizeOf 0 = .ok (.aload_n 0, 1) := by decide +kernel
theorem dX2_sizeOf_1 : decode cX2_sizeOf 1 = .ok (.iload_n 1, 1) := by decide +kernel
theorem dX2_sizeOf_2 : decode cX2_sizeOf 2 = .ok (.invokevirtual 20, 3) := by decide +kernel
theorem dX2_sizeOf_5 : decode cX2_sizeOf 5 = .ok (.invokevirtual 93, 3) := by decide +kernel
theorem dX2_sizeOf_8 : decode cX2_sizeOf 8 = .ok (.ireturn, 1) := by decide +kernel
set_option maxRecDepth 20000 in
theorem ggX2_top_X2_treeOf : GoodIn wsX2_top wsX2_treeOf := goodIn_ca (goodIn_r _ [6, 7, 8, 9, 15, 16, 17] (by decide +kernel) (by decide +kernel)) (goodIn_sub (fun _ h => List.mem_cons_of_mem _ (List.mem_append_right _ h)) (by decide +kernel))
set_option maxRecDepth 20000 in
theorem gX2_top_X2_treeOf : GoodIn wsX2_top (wsV RX2 20 RX2 yX2_treeOf wsX2_treeOf) := goodIn_app (goodIn_of _ (by decide +kernel)) ggX2_top_X2_treeOf
set_option maxRecDepth 20000 in
theorem ggX2_top_X2_sizeOrNone : GoodIn wsX2_top wsX2_sizeOrNone := goodIn_r _ [12, 13, 18, 19, 20, 21, 22, 23] (by decide +kernel) (by decide +kernel)
set_option maxRecDepth 20000 in
theorem gX2_top_X2_sizeOrNone : GoodIn wsX2_top (va_wsS RX2 105 yX2_sizeOrNone wsX2_sizeOrNone) := goodIn_app (goodIn_of _ (by decide +kernel)) ggX2_top_X2_sizeOrNone
theorem dX2_top_0 : decode cX2_top 0 = .ok (.aload_n 0, 1) := by decide +kernel
theorem dX2_top_1 : decode cX2_top 1 = .ok (.iload_n 1, 1) := by decide +kernel
theorem dX2_top_2 : decode cX2_top 2 = .ok (.invokevirtual 20, 3) := by decide +kernel
theorem dX2_top_5 : decode cX2_top 5 = .ok (.getfield 82, 3) := by decide +kernel
theorem dX2_top_8 : decode cX2_top 8 = .ok (.invokestatic 105, 3) := by decide +kernel
theorem dX2_top_11 : decode cX2_top 11 = .ok (.ireturn, 1) := by decide +kernel
set_option maxRecDepth 20000 in
theorem ggX2_height_X2_treeOf : GoodIn wsX2_height wsX2_treeOf := goodIn_ca (goodIn_r _ [5, 6, 7, 8, 40, 41, 42] (by decide +kernel) (by decide +kernel)) (goodIn_sub (fun _ h => List.mem_cons_of_mem _ (List.mem_append_right _ h)) (by decide +kernel))
set_option maxRecDepth 20000 in
theorem gX2_height_X2_treeOf : GoodIn wsX2_height (wsV RX2 20 RX2 yX2_treeOf wsX2_treeOf) := goodIn_app (goodIn_of _ (by decide +kernel)) ggX2_height_X2_treeOf
set_option maxRecDepth 20000 in
theorem ggX2_height_X1_levels : GoodIn wsX2_height wsX1_levels := goodIn_r _ [13, 14, 15, 16, 17, 18, 19, 20, 12, 21, 22, 23, 24, 25, 26, 27, 28, 29, 30, 31, 32, 33, 34, 35, 36, 37, 38, 39, 43, 44, 45, 46, 47, 48, 49] (by decide +kernel) (by decide +kernel)
set_option maxRecDepth 20000 in
theorem gX2_height_X1_levels : GoodIn wsX2_height (wsV RX2 109 RX1 yX1_levels wsX1_levels) := goodIn_app (goodIn_of _ (by decide +kernel)) ggX2_height_X1_levels
theorem dX2_height_0 : decode cX2_height 0 = .ok (.aload_n 0, 1) := by decide +kernel
theorem dX2_height_1 : decode cX2_height 1 = .ok (.iload_n 1, 1) := by decide +kernel
theorem dX2_height_2 : decode cX2_height 2 = .ok (.invokevirtual 20, 3) := by decide +kernel
theorem dX2_height_5 : decode cX2_height 5 = .ok (.invokevirtual 109, 3) := by decide +kernel
theorem dX2_height_8 : decode cX2_height 8 = .ok (.ireturn, 1) := by decide +kernel
set_option maxRecDepth 20000 in
theorem ggX2_leastHeight_X2_treeOf : GoodIn wsX2_leastHeight wsX2_treeOf := goodIn_ca (goodIn_r _ [5, 6, 7, 8, 35, 36, 37] (by decide +kernel) (by decide +kernel)) (goodIn_sub (fun _ h => List.mem_cons_of_mem _ (List.mem_append_right _ h)) (by decide +kernel))
set_option maxRecDepth 20000 in
theorem gX2_leastHeight_X2_treeOf : GoodIn wsX2_leastHeight (wsV RX2 20 RX2 yX2_treeOf wsX2_treeOf) := goodIn_app (goodIn_of _ (by decide +kernel)) ggX2_leastHeight_X2_treeOf
set_option maxRecDepth 20000 in
theorem ggX2_leastHeight_X1_count : GoodIn wsX2_leastHeight wsX1_count := goodIn_r _ [13, 14, 15, 16, 17, 18, 19, 20, 21, 22, 23, 24, 25, 26, 27, 28, 29, 30, 31, 32, 33, 34, 38, 39, 40, 41, 42, 43, 44] (by decide +kernel) (by decide +kernel)
set_option maxRecDepth 20000 in
theorem gX2_leastHeight_X1_count : GoodIn wsX2_leastHeight (wsV RX2 93 RX1 yX1_count wsX1_count) := goodIn_app (goodIn_of _ (by decide +kernel)) ggX2_leastHeight_X1_count
theorem dX2_leastHeight_0 : decode cX2_leastHeight 0 = .ok (.aload_n 0, 1) := by decide +kernel
theorem dX2_leastHeight_1 : decode cX2_leastHeight 1 = .ok (.iload_n 1, 1) := by decide +kernel
theorem dX2_leastHeight_2 : decode cX2_leastHeight 2 = .ok (.invokevirtual 20, 3) := by decide +kernel
theorem dX2_leastHeight_5 : decode cX2_leastHeight 5 = .ok (.invokevirtual 93, 3) := by decide +kernel
theorem dX2_leastHeight_8 : decode cX2_leastHeight 8 = .ok (.istore_n 2, 1) := by decide +kernel
theorem dX2_leastHeight_9 : decode cX2_leastHeight 9 = .ok (.iconst 0, 1) := by decide +kernel
theorem dX2_leastHeight_10 : decode cX2_leastHeight 10 = .ok (.istore_n 3, 1) := by decide +kernel
theorem dX2_leastHeight_11 : decode cX2_leastHeight 11 = .ok (.iconst 0, 1) := by decide +kernel
theorem dX2_leastHeight_12 : decode cX2_leastHeight 12 = .ok (.istore 4, 2) := by decide +kernel
theorem dX2_leastHeight_14 : decode cX2_leastHeight 14 = .ok (.iload 4, 2) := by decide +kernel
theorem dX2_leastHeight_16 : decode cX2_leastHeight 16 = .ok (.iload_n 2, 1) := by decide +kernel
theorem dX2_leastHeight_17 : decode cX2_leastHeight 17 = .ok (.if_icmp .ge 17, 3) := by decide +kernel
theorem dX2_leastHeight_20 : decode cX2_leastHeight 20 = .ok (.iinc 3 1, 3) := by decide +kernel
theorem dX2_leastHeight_23 : decode cX2_leastHeight 23 = .ok (.iconst 2, 1) := by decide +kernel
theorem dX2_leastHeight_24 : decode cX2_leastHeight 24 = .ok (.iload 4, 2) := by decide +kernel
theorem dX2_leastHeight_26 : decode cX2_leastHeight 26 = .ok (.imul, 1) := by decide +kernel
theorem dX2_leastHeight_27 : decode cX2_leastHeight 27 = .ok (.iconst 1, 1) := by decide +kernel
theorem dX2_leastHeight_28 : decode cX2_leastHeight 28 = .ok (.iadd, 1) := by decide +kernel
theorem dX2_leastHeight_29 : decode cX2_leastHeight 29 = .ok (.istore 4, 2) := by decide +kernel
theorem dX2_leastHeight_31 : decode cX2_leastHeight 31 = .ok (.goto (-17), 3) := by decide +kernel
theorem dX2_leastHeight_34 : decode cX2_leastHeight 34 = .ok (.iload_n 3, 1) := by decide +kernel
theorem dX2_leastHeight_35 : decode cX2_leastHeight 35 = .ok (.ireturn, 1) := by decide +kernel
set_option maxRecDepth 20000 in
theorem ggX2_depths_X2_treeOf : GoodIn wsX2_depths wsX2_treeOf := goodIn_ca (goodIn_r _ [5, 6, 7, 8, 36, 37, 38] (by decide +kernel) (by decide +kernel)) (goodIn_sub (fun _ h => List.mem_cons_of_mem _ (List.mem_append_right _ h)) (by decide +kernel))
set_option maxRecDepth 20000 in
theorem gX2_depths_X2_treeOf : GoodIn wsX2_depths (wsV RX2 20 RX2 yX2_treeOf wsX2_treeOf) := goodIn_app (goodIn_of _ (by decide +kernel)) ggX2_depths_X2_treeOf
set_option maxRecDepth 20000 in
theorem ggX2_depths_X1_depthSum : GoodIn wsX2_depths wsX1_depthSum := goodIn_r _ [13, 14, 15, 16, 12, 17, 18, 19, 20, 21, 22, 23, 24, 25, 26, 27, 28, 29, 30, 31, 32, 33, 34, 35, 39, 40, 41, 42, 43, 44, 45] (by decide +kernel) (by decide +kernel)
set_option maxRecDepth 20000 in
theorem gX2_depths_X1_depthSum : GoodIn wsX2_depths (wsV RX2 112 RX1 yX1_depthSum wsX1_depthSum) := goodIn_app (goodIn_of _ (by decide +kernel)) ggX2_depths_X1_depthSum
theorem dX2_depths_0 : decode cX2_depths 0 = .ok (.aload_n 0, 1) := by decide +kernel
theorem dX2_depths_1 : decode cX2_depths 1 = .ok (.iload_n 1, 1) := by decide +kernel
theorem dX2_depths_2 : decode cX2_depths 2 = .ok (.invokevirtual 20, 3) := by decide +kernel
theorem dX2_depths_5 : decode cX2_depths 5 = .ok (.invokevirtual 112, 3) := by decide +kernel
theorem dX2_depths_8 : decode cX2_depths 8 = .ok (.ireturn, 1) := by decide +kernel
set_option maxRecDepth 20000 in
theorem ggX2_smallest_X2_treeOf : GoodIn wsX2_smallest wsX2_treeOf := goodIn_ca (goodIn_r _ [5, 6, 7, 8, 25, 26, 27] (by decide +kernel) (by decide +kernel)) (goodIn_sub (fun _ h => List.mem_cons_of_mem _ (List.mem_append_right _ h)) (by decide +kernel))
set_option maxRecDepth 20000 in
theorem gX2_smallest_X2_treeOf : GoodIn wsX2_smallest (wsV RX2 20 RX2 yX2_treeOf wsX2_treeOf) := goodIn_app (goodIn_of _ (by decide +kernel)) ggX2_smallest_X2_treeOf
set_option maxRecDepth 20000 in
theorem ggX2_smallest_X1_first : GoodIn wsX2_smallest wsX1_first := goodIn_r _ [13, 14, 15, 16, 17, 18, 19, 20, 28, 29, 30, 31, 32, 33, 34] (by decide +kernel) (by decide +kernel)
set_option maxRecDepth 20000 in
theorem gX2_smallest_X1_first : GoodIn wsX2_smallest (wsV RX2 115 RX1 yX1_first wsX1_first) := goodIn_app (goodIn_of _ (by decide +kernel)) ggX2_smallest_X1_first
set_option maxRecDepth 20000 in
theorem ggX2_smallest_X2_sizeOrNone : GoodIn wsX2_smallest wsX2_sizeOrNone := goodIn_r _ [23, 24, 29, 30, 31, 32, 33, 34] (by decide +kernel) (by decide +kernel)
set_option maxRecDepth 20000 in
theorem gX2_smallest_X2_sizeOrNone : GoodIn wsX2_smallest (va_wsS RX2 105 yX2_sizeOrNone wsX2_sizeOrNone) := goodIn_app (goodIn_of _ (by decide +kernel)) ggX2_smallest_X2_sizeOrNone
theorem dX2_smallest_0 : decode cX2_smallest 0 = .ok (.aload_n 0, 1) := by decide +kernel
theorem dX2_smallest_1 : decode cX2_smallest 1 = .ok (.iload_n 1, 1) := by decide +kernel
theorem dX2_smallest_2 : decode cX2_smallest 2 = .ok (.invokevirtual 20, 3) := by decide +kernel
theorem dX2_smallest_5 : decode cX2_smallest 5 = .ok (.invokevirtual 115, 3) := by decide +kernel
theorem dX2_smallest_8 : decode cX2_smallest 8 = .ok (.invokestatic 105, 3) := by decide +kernel
theorem dX2_smallest_11 : decode cX2_smallest 11 = .ok (.ireturn, 1) := by decide +kernel
set_option maxRecDepth 20000 in
theorem ggX2_greatest_X2_treeOf : GoodIn wsX2_greatest wsX2_treeOf := goodIn_ca (goodIn_r _ [5, 6, 7, 8, 25, 26, 27] (by decide +kernel) (by decide +kernel)) (goodIn_sub (fun _ h => List.mem_cons_of_mem _ (List.mem_append_right _ h)) (by decide +kernel))
set_option maxRecDepth 20000 in
theorem gX2_greatest_X2_treeOf : GoodIn wsX2_greatest (wsV RX2 20 RX2 yX2_treeOf wsX2_treeOf) := goodIn_app (goodIn_of _ (by decide +kernel)) ggX2_greatest_X2_treeOf
set_option maxRecDepth 20000 in
theorem ggX2_greatest_X1_last : GoodIn wsX2_greatest wsX1_last := goodIn_r _ [13, 14, 15, 16, 17, 18, 19, 20, 28, 29, 30, 31, 32, 33, 34] (by decide +kernel) (by decide +kernel)
set_option maxRecDepth 20000 in
theorem gX2_greatest_X1_last : GoodIn wsX2_greatest (wsV RX2 119 RX1 yX1_last wsX1_last) := goodIn_app (goodIn_of _ (by decide +kernel)) ggX2_greatest_X1_last
set_option maxRecDepth 20000 in
theorem ggX2_greatest_X2_sizeOrNone : GoodIn wsX2_greatest wsX2_sizeOrNone := goodIn_r _ [23, 24, 29, 30, 31, 32, 33, 34] (by decide +kernel) (by decide +kernel)
set_option maxRecDepth 20000 in
theorem gX2_greatest_X2_sizeOrNone : GoodIn wsX2_greatest (va_wsS RX2 105 yX2_sizeOrNone wsX2_sizeOrNone) := goodIn_app (goodIn_of _ (by decide +kernel)) ggX2_greatest_X2_sizeOrNone
theorem dX2_greatest_0 : decode cX2_greatest 0 = .ok (.aload_n 0, 1) := by decide +kernel
theorem dX2_greatest_1 : decode cX2_greatest 1 = .ok (.iload_n 1, 1) := by decide +kernel
theorem dX2_greatest_2 : decode cX2_greatest 2 = .ok (.invokevirtual 20, 3) := by decide +kernel
theorem dX2_greatest_5 : decode cX2_greatest 5 = .ok (.invokevirtual 119, 3) := by decide +kernel
theorem dX2_greatest_8 : decode cX2_greatest 8 = .ok (.invokestatic 105, 3) := by decide +kernel
theorem dX2_greatest_11 : decode cX2_greatest 11 = .ok (.ireturn, 1) := by decide +kernel
set_option maxRecDepth 20000 in
theorem ggX2_inOrder_X2_treeOf : GoodIn wsX2_inOrder wsX2_treeOf := goodIn_ca (goodIn_r _ [8, 1, 2, 9, 39, 40, 41] (by decide +kernel) (by decide +kernel)) (goodIn_sub (fun _ h => List.mem_cons_of_mem _ (List.mem_append_right _ h)) (by decide +kernel))
set_option maxRecDepth 20000 in
theorem gX2_inOrder_X2_treeOf : GoodIn wsX2_inOrder (wsV RX2 20 RX2 yX2_treeOf wsX2_treeOf) := goodIn_app (goodIn_of _ (by decide +kernel)) ggX2_inOrder_X2_treeOf
set_option maxRecDepth 20000 in
theorem ggX2_inOrder_X1_at : GoodIn wsX2_inOrder wsX1_at := goodIn_r _ [14, 15, 16, 17, 13, 18, 19, 20, 21, 22, 23, 24, 25, 26, 27, 28, 29, 30, 31, 32, 42, 33, 34, 35, 36, 37, 38] (by decide +kernel) (by decide +kernel)
set_option maxRecDepth 20000 in
theorem gX2_inOrder_X1_at : GoodIn wsX2_inOrder (wsV RX2 122 RX1 yX1_at wsX1_at) := goodIn_app (goodIn_of _ (by decide +kernel)) ggX2_inOrder_X1_at
theorem dX2_inOrder_0 : decode cX2_inOrder 0 = .ok (.aload_n 0, 1) := by decide +kernel
theorem dX2_inOrder_1 : decode cX2_inOrder 1 = .ok (.iload_n 1, 1) := by decide +kernel
theorem dX2_inOrder_2 : decode cX2_inOrder 2 = .ok (.invokevirtual 20, 3) := by decide +kernel
theorem dX2_inOrder_5 : decode cX2_inOrder 5 = .ok (.iload_n 2, 1) := by decide +kernel
theorem dX2_inOrder_6 : decode cX2_inOrder 6 = .ok (.invokevirtual 122, 3) := by decide +kernel
theorem dX2_inOrder_9 : decode cX2_inOrder 9 = .ok (.astore_n 3, 1) := by decide +kernel
theorem dX2_inOrder_10 : decode cX2_inOrder 10 = .ok (.aload_n 3, 1) := by decide +kernel
theorem dX2_inOrder_11 : decode cX2_inOrder 11 = .ok (.ifnonnull 13, 3) := by decide +kernel
theorem dX2_inOrder_14 : decode cX2_inOrder 14 = .ok (.new 125, 3) := by decide +kernel
theorem dX2_inOrder_17 : decode cX2_inOrder 17 = .ok (.dup, 1) := by decide +kernel
theorem dX2_inOrder_18 : decode cX2_inOrder 18 = .ok (.ldc 127, 2) := by decide +kernel
theorem dX2_inOrder_20 : decode cX2_inOrder 20 = .ok (.invokespecial 129, 3) := by decide +kernel
theorem dX2_inOrder_23 : decode cX2_inOrder 23 = .ok (.athrow, 1) := by decide +kernel
theorem dX2_inOrder_24 : decode cX2_inOrder 24 = .ok (.aload_n 3, 1) := by decide +kernel
theorem dX2_inOrder_25 : decode cX2_inOrder 25 = .ok (.getfield 130, 3) := by decide +kernel
theorem dX2_inOrder_28 : decode cX2_inOrder 28 = .ok (.ireturn, 1) := by decide +kernel
set_option maxRecDepth 20000 in
theorem ggX2_leaves_X2_treeOf : GoodIn wsX2_leaves wsX2_treeOf := goodIn_ca (goodIn_r _ [5, 6, 7, 8, 34, 35, 36] (by decide +kernel) (by decide +kernel)) (goodIn_sub (fun _ h => List.mem_cons_of_mem _ (List.mem_append_right _ h)) (by decide +kernel))
set_option maxRecDepth 20000 in
theorem gX2_leaves_X2_treeOf : GoodIn wsX2_leaves (wsV RX2 20 RX2 yX2_treeOf wsX2_treeOf) := goodIn_app (goodIn_of _ (by decide +kernel)) ggX2_leaves_X2_treeOf
set_option maxRecDepth 20000 in
theorem ggX2_leaves_X1_leafCount : GoodIn wsX2_leaves wsX1_leafCount := goodIn_r _ [13, 14, 15, 16, 17, 18, 12, 19, 20, 21, 22, 23, 24, 25, 26, 27, 28, 29, 30, 31, 32, 33, 37, 38, 39, 40, 41, 42, 43] (by decide +kernel) (by decide +kernel)
set_option maxRecDepth 20000 in
theorem gX2_leaves_X1_leafCount : GoodIn wsX2_leaves (wsV RX2 133 RX1 yX1_leafCount wsX1_leafCount) := goodIn_app (goodIn_of _ (by decide +kernel)) ggX2_leaves_X1_leafCount
theorem dX2_leaves_0 : decode cX2_leaves 0 = .ok (.aload_n 0, 1) := by decide +kernel
theorem dX2_leaves_1 : decode cX2_leaves 1 = .ok (.iload_n 1, 1) := by decide +kernel
theorem dX2_leaves_2 : decode cX2_leaves 2 = .ok (.invokevirtual 20, 3) := by decide +kernel
theorem dX2_leaves_5 : decode cX2_leaves 5 = .ok (.invokevirtual 133, 3) := by decide +kernel
theorem dX2_leaves_8 : decode cX2_leaves 8 = .ok (.ireturn, 1) := by decide +kernel
set_option maxRecDepth 20000 in
theorem ggX2_has_X2_treeOf : GoodIn wsX2_has wsX2_treeOf := goodIn_ca (goodIn_r _ [5, 6, 7, 8, 28, 29, 30] (by decide +kernel) (by decide +kernel)) (goodIn_sub (fun _ h => List.mem_cons_of_mem _ (List.mem_append_right _ h)) (by decide +kernel))
set_option maxRecDepth 20000 in
theorem gX2_has_X2_treeOf : GoodIn wsX2_has (wsV RX2 20 RX2 yX2_treeOf wsX2_treeOf) := goodIn_app (goodIn_of _ (by decide +kernel)) ggX2_has_X2_treeOf
set_option maxRecDepth 20000 in
theorem ggX2_has_X1_find : GoodIn wsX2_has wsX1_find := goodIn_r _ [13, 14, 15, 16, 17, 12, 18, 19, 20, 21, 22, 23, 24, 25, 26, 27, 31, 32, 33, 34, 35, 36, 37] (by decide +kernel) (by decide +kernel)
set_option maxRecDepth 20000 in
theorem gX2_has_X1_find : GoodIn wsX2_has (wsV RX2 39 RX1 yX1_find wsX1_find) := goodIn_app (goodIn_of _ (by decide +kernel)) ggX2_has_X1_find
theorem dX2_has_0 : decode cX2_has 0 = .ok (.aload_n 0, 1) := by decide +kernel
theorem dX2_has_1 : decode cX2_has 1 = .ok (.iload_n 1, 1) := by decide +kernel
theorem dX2_has_2 : decode cX2_has 2 = .ok (.invokevirtual 20, 3) := by decide +kernel
theorem dX2_has_5 : decode cX2_has 5 = .ok (.iload_n 2, 1) := by decide +kernel
theorem dX2_has_6 : decode cX2_has 6 = .ok (.invokevirtual 39, 3) := by decide +kernel
theorem dX2_has_9 : decode cX2_has 9 = .ok (.ifnull 7, 3) := by decide +kernel
theorem dX2_has_12 : decode cX2_has 12 = .ok (.iconst 1, 1) := by decide +kernel
theorem dX2_has_13 : decode cX2_has 13 = .ok (.goto 4, 3) := by decide +kernel
theorem dX2_has_16 : decode cX2_has 16 = .ok (.iconst 0, 1) := by decide +kernel
theorem dX2_has_17 : decode cX2_has 17 = .ok (.ireturn, 1) := by decide +kernel
set_option maxRecDepth 20000 in
theorem ggX2_smaller_X2_treeOf : GoodIn wsX2_smaller wsX2_treeOf := goodIn_ca (goodIn_r _ [5, 6, 7, 8, 33, 34, 35] (by decide +kernel) (by decide +kernel)) (goodIn_sub (fun _ h => List.mem_cons_of_mem _ (List.mem_append_right _ h)) (by decide +kernel))
set_option maxRecDepth 20000 in
theorem gX2_smaller_X2_treeOf : GoodIn wsX2_smaller (wsV RX2 20 RX2 yX2_treeOf wsX2_treeOf) := goodIn_app (goodIn_of _ (by decide +kernel)) ggX2_smaller_X2_treeOf
set_option maxRecDepth 20000 in
theorem ggX2_smaller_X1_countBelow : GoodIn wsX2_smaller wsX1_countBelow := goodIn_r _ [13, 14, 15, 16, 17, 12, 18, 19, 20, 21, 22, 23, 24, 25, 26, 27, 28, 29, 30, 31, 32, 36, 37, 38, 39, 40, 41, 42] (by decide +kernel) (by decide +kernel)
set_option maxRecDepth 20000 in
theorem gX2_smaller_X1_countBelow : GoodIn wsX2_smaller (wsV RX2 136 RX1 yX1_countBelow wsX1_countBelow) := goodIn_app (goodIn_of _ (by decide +kernel)) ggX2_smaller_X1_countBelow
theorem dX2_smaller_0 : decode cX2_smaller 0 = .ok (.aload_n 0, 1) := by decide +kernel
theorem dX2_smaller_1 : decode cX2_smaller 1 = .ok (.iload_n 1, 1) := by decide +kernel
theorem dX2_smaller_2 : decode cX2_smaller 2 = .ok (.invokevirtual 20, 3) := by decide +kernel
theorem dX2_smaller_5 : decode cX2_smaller 5 = .ok (.iload_n 2, 1) := by decide +kernel
theorem dX2_smaller_6 : decode cX2_smaller 6 = .ok (.invokevirtual 136, 3) := by decide +kernel
theorem dX2_smaller_9 : decode cX2_smaller 9 = .ok (.ireturn, 1) := by decide +kernel
set_option maxRecDepth 20000 in
theorem ggX2_depthOf_X2_treeOf : GoodIn wsX2_depthOf wsX2_treeOf := goodIn_ca (goodIn_r _ [5, 6, 7, 8, 38, 39, 40] (by decide +kernel) (by decide +kernel)) (goodIn_sub (fun _ h => List.mem_cons_of_mem _ (List.mem_append_left _ (List.mem_append_right _ h))) (by decide +kernel))
set_option maxRecDepth 20000 in
theorem gX2_depthOf_X2_treeOf : GoodIn wsX2_depthOf (wsV RX2 20 RX2 yX2_treeOf wsX2_treeOf) := goodIn_app (goodIn_of _ (by decide +kernel)) ggX2_depthOf_X2_treeOf
set_option maxRecDepth 20000 in
theorem ggX2_depthOf_X2_appleOf : GoodIn wsX2_depthOf wsX2_appleOf := goodIn_ca (goodIn_r _ [11, 12, 13, 14, 15, 16, 17, 18, 19, 20, 21, 22, 23, 24, 25, 26, 27, 28, 29, 30, 31, 32, 41, 42, 43, 44, 45, 46, 47] (by decide +kernel) (by decide +kernel)) (goodIn_sub (fun _ h => List.mem_cons_of_mem _ (List.mem_append_right _ h)) (by decide +kernel))
set_option maxRecDepth 20000 in
theorem gX2_depthOf_X2_appleOf : GoodIn wsX2_depthOf (va_wsS RX2 58 yX2_appleOf wsX2_appleOf) := goodIn_app (goodIn_of _ (by decide +kernel)) ggX2_depthOf_X2_appleOf
set_option maxRecDepth 20000 in
theorem ggX2_depthOf_X0_depth : GoodIn wsX2_depthOf wsX0_depth := goodIn_r _ [36, 37, 41, 42, 43, 44, 45, 46] (by decide +kernel) (by decide +kernel)
set_option maxRecDepth 20000 in
theorem gX2_depthOf_X0_depth : GoodIn wsX2_depthOf (wsV RX2 140 RX0 yX0_depth wsX0_depth) := goodIn_app (goodIn_of _ (by decide +kernel)) ggX2_depthOf_X0_depth
theorem dX2_depthOf_0 : decode cX2_depthOf 0 = .ok (.aload_n 0, 1) := by decide +kernel
theorem dX2_depthOf_1 : decode cX2_depthOf 1 = .ok (.iload_n 1, 1) := by decide +kernel
theorem dX2_depthOf_2 : decode cX2_depthOf 2 = .ok (.invokevirtual 20, 3) := by decide +kernel
theorem dX2_depthOf_5 : decode cX2_depthOf 5 = .ok (.iload_n 2, 1) := by decide +kernel
theorem dX2_depthOf_6 : decode cX2_depthOf 6 = .ok (.invokestatic 58, 3) := by decide +kernel
theorem dX2_depthOf_9 : decode cX2_depthOf 9 = .ok (.invokevirtual 140, 3) := by decide +kernel
theorem dX2_depthOf_12 : decode cX2_depthOf 12 = .ok (.ireturn, 1) := by decide +kernel
set_option maxRecDepth 20000 in
theorem ggX2_above_X2_treeOf : GoodIn wsX2_above wsX2_treeOf := goodIn_ca (goodIn_r _ [6, 7, 8, 9, 44, 45, 46] (by decide +kernel) (by decide +kernel)) (goodIn_sub (fun _ h => List.mem_cons_of_mem _ (List.mem_append_left _ (List.mem_append_right _ h))) (by decide +kernel))
set_option maxRecDepth 20000 in
theorem gX2_above_X2_treeOf : GoodIn wsX2_above (wsV RX2 20 RX2 yX2_treeOf wsX2_treeOf) := goodIn_app (goodIn_of _ (by decide +kernel)) ggX2_above_X2_treeOf
set_option maxRecDepth 20000 in
theorem ggX2_above_X2_appleOf : GoodIn wsX2_above wsX2_appleOf := goodIn_ca (goodIn_r _ [12, 13, 14, 15, 16, 17, 18, 19, 20, 21, 22, 23, 24, 25, 26, 27, 28, 29, 30, 31, 32, 33, 38, 39, 40, 41, 42, 43, 47] (by decide +kernel) (by decide +kernel)) (goodIn_sub (fun _ h => List.mem_cons_of_mem _ (List.mem_append_right _ h)) (by decide +kernel))
set_option maxRecDepth 20000 in
theorem gX2_above_X2_appleOf : GoodIn wsX2_above (va_wsS RX2 58 yX2_appleOf wsX2_appleOf) := goodIn_app (goodIn_of _ (by decide +kernel)) ggX2_above_X2_appleOf
set_option maxRecDepth 20000 in
theorem ggX2_above_X2_sizeOrNone : GoodIn wsX2_above wsX2_sizeOrNone := goodIn_r _ [36, 37, 38, 39, 40, 41, 42, 43] (by decide +kernel) (by decide +kernel)
set_option maxRecDepth 20000 in
theorem gX2_above_X2_sizeOrNone : GoodIn wsX2_above (va_wsS RX2 105 yX2_sizeOrNone wsX2_sizeOrNone) := goodIn_app (goodIn_of _ (by decide +kernel)) ggX2_above_X2_sizeOrNone
theorem dX2_above_0 : decode cX2_above 0 = .ok (.aload_n 0, 1) := by decide +kernel
theorem dX2_above_1 : decode cX2_above 1 = .ok (.iload_n 1, 1) := by decide +kernel
theorem dX2_above_2 : decode cX2_above 2 = .ok (.invokevirtual 20, 3) := by decide +kernel
theorem dX2_above_5 : decode cX2_above 5 = .ok (.iload_n 2, 1) := by decide +kernel
theorem dX2_above_6 : decode cX2_above 6 = .ok (.invokestatic 58, 3) := by decide +kernel
theorem dX2_above_9 : decode cX2_above 9 = .ok (.getfield 143, 3) := by decide +kernel
theorem dX2_above_12 : decode cX2_above 12 = .ok (.invokestatic 105, 3) := by decide +kernel
theorem dX2_above_15 : decode cX2_above 15 = .ok (.ireturn, 1) := by decide +kernel
set_option maxRecDepth 20000 in
theorem ggX2_leftOf_X2_treeOf : GoodIn wsX2_leftOf wsX2_treeOf := goodIn_ca (goodIn_r _ [6, 7, 8, 9, 44, 45, 46] (by decide +kernel) (by decide +kernel)) (goodIn_sub (fun _ h => List.mem_cons_of_mem _ (List.mem_append_left _ (List.mem_append_right _ h))) (by decide +kernel))
set_option maxRecDepth 20000 in
theorem gX2_leftOf_X2_treeOf : GoodIn wsX2_leftOf (wsV RX2 20 RX2 yX2_treeOf wsX2_treeOf) := goodIn_app (goodIn_of _ (by decide +kernel)) ggX2_leftOf_X2_treeOf
set_option maxRecDepth 20000 in
theorem ggX2_leftOf_X2_appleOf : GoodIn wsX2_leftOf wsX2_appleOf := goodIn_ca (goodIn_r _ [12, 13, 14, 15, 16, 17, 18, 19, 20, 21, 22, 23, 24, 25, 26, 27, 28, 29, 30, 31, 32, 33, 38, 39, 40, 41, 42, 43, 47] (by decide +kernel) (by decide +kernel)) (goodIn_sub (fun _ h => List.mem_cons_of_mem _ (List.mem_append_right _ h)) (by decide +kernel))
set_option maxRecDepth 20000 in
theorem gX2_leftOf_X2_appleOf : GoodIn wsX2_leftOf (va_wsS RX2 58 yX2_appleOf wsX2_appleOf) := goodIn_app (goodIn_of _ (by decide +kernel)) ggX2_leftOf_X2_appleOf
set_option maxRecDepth 20000 in
theorem ggX2_leftOf_X2_sizeOrNone : GoodIn wsX2_leftOf wsX2_sizeOrNone := goodIn_r _ [36, 37, 38, 39, 40, 41, 42, 43] (by decide +kernel) (by decide +kernel)
set_option maxRecDepth 20000 in
theorem gX2_leftOf_X2_sizeOrNone : GoodIn wsX2_leftOf (va_wsS RX2 105 yX2_sizeOrNone wsX2_sizeOrNone) := goodIn_app (goodIn_of _ (by decide +kernel)) ggX2_leftOf_X2_sizeOrNone
theorem dX2_leftOf_0 : decode cX2_leftOf 0 = .ok (.aload_n 0, 1) := by decide +kernel
theorem dX2_leftOf_1 : decode cX2_leftOf 1 = .ok (.iload_n 1, 1) := by decide +kernel
theorem dX2_leftOf_2 : decode cX2_leftOf 2 = .ok (.invokevirtual 20, 3) := by decide +kernel
theorem dX2_leftOf_5 : decode cX2_leftOf 5 = .ok (.iload_n 2, 1) := by decide +kernel
theorem dX2_leftOf_6 : decode cX2_leftOf 6 = .ok (.invokestatic 58, 3) := by decide +kernel
theorem dX2_leftOf_9 : decode cX2_leftOf 9 = .ok (.getfield 66, 3) := by decide +kernel
theorem dX2_leftOf_12 : decode cX2_leftOf 12 = .ok (.invokestatic 105, 3) := by decide +kernel
theorem dX2_leftOf_15 : decode cX2_leftOf 15 = .ok (.ireturn, 1) := by decide +kernel
set_option maxRecDepth 20000 in
theorem ggX2_rightOf_X2_treeOf : GoodIn wsX2_rightOf wsX2_treeOf := goodIn_ca (goodIn_r _ [6, 7, 8, 9, 44, 45, 46] (by decide +kernel) (by decide +kernel)) (goodIn_sub (fun _ h => List.mem_cons_of_mem _ (List.mem_append_left _ (List.mem_append_right _ h))) (by decide +kernel))
set_option maxRecDepth 20000 in
theorem gX2_rightOf_X2_treeOf : GoodIn wsX2_rightOf (wsV RX2 20 RX2 yX2_treeOf wsX2_treeOf) := goodIn_app (goodIn_of _ (by decide +kernel)) ggX2_rightOf_X2_treeOf
set_option maxRecDepth 20000 in
theorem ggX2_rightOf_X2_appleOf : GoodIn wsX2_rightOf wsX2_appleOf := goodIn_ca (goodIn_r _ [12, 13, 14, 15, 16, 17, 18, 19, 20, 21, 22, 23, 24, 25, 26, 27, 28, 29, 30, 31, 32, 33, 38, 39, 40, 41, 42, 43, 47] (by decide +kernel) (by decide +kernel)) (goodIn_sub (fun _ h => List.mem_cons_of_mem _ (List.mem_append_right _ h)) (by decide +kernel))
set_option maxRecDepth 20000 in
theorem gX2_rightOf_X2_appleOf : GoodIn wsX2_rightOf (va_wsS RX2 58 yX2_appleOf wsX2_appleOf) := goodIn_app (goodIn_of _ (by decide +kernel)) ggX2_rightOf_X2_appleOf
set_option maxRecDepth 20000 in
theorem ggX2_rightOf_X2_sizeOrNone : GoodIn wsX2_rightOf wsX2_sizeOrNone := goodIn_r _ [36, 37, 38, 39, 40, 41, 42, 43] (by decide +kernel) (by decide +kernel)
set_option maxRecDepth 20000 in
theorem gX2_rightOf_X2_sizeOrNone : GoodIn wsX2_rightOf (va_wsS RX2 105 yX2_sizeOrNone wsX2_sizeOrNone) := goodIn_app (goodIn_of _ (by decide +kernel)) ggX2_rightOf_X2_sizeOrNone
theorem dX2_rightOf_0 : decode cX2_rightOf 0 = .ok (.aload_n 0, 1) := by decide +kernel
theorem dX2_rightOf_1 : decode cX2_rightOf 1 = .ok (.iload_n 1, 1) := by decide +kernel
theorem dX2_rightOf_2 : decode cX2_rightOf 2 = .ok (.invokevirtual 20, 3) := by decide +kernel
theorem dX2_rightOf_5 : decode cX2_rightOf 5 = .ok (.iload_n 2, 1) := by decide +kernel
theorem dX2_rightOf_6 : decode cX2_rightOf 6 = .ok (.invokestatic 58, 3) := by decide +kernel
theorem dX2_rightOf_9 : decode cX2_rightOf 9 = .ok (.getfield 73, 3) := by decide +kernel
theorem dX2_rightOf_12 : decode cX2_rightOf 12 = .ok (.invokestatic 105, 3) := by decide +kernel
theorem dX2_rightOf_15 : decode cX2_rightOf 15 = .ok (.ireturn, 1) := by decide +kernel
set_option maxRecDepth 20000 in
theorem ggX2_below_X2_treeOf : GoodIn wsX2_below wsX2_treeOf := goodIn_ca (goodIn_r _ [5, 6, 7, 8, 50, 51, 52] (by decide +kernel) (by decide +kernel)) (goodIn_sub (fun _ h => List.mem_cons_of_mem _ (List.mem_append_left _ (List.mem_append_right _ h))) (by decide +kernel))
set_option maxRecDepth 20000 in
theorem gX2_below_X2_treeOf : GoodIn wsX2_below (wsV RX2 20 RX2 yX2_treeOf wsX2_treeOf) := goodIn_app (goodIn_of _ (by decide +kernel)) ggX2_below_X2_treeOf
set_option maxRecDepth 20000 in
theorem ggX2_below_X2_appleOf : GoodIn wsX2_below wsX2_appleOf := goodIn_ca (goodIn_r _ [11, 12, 13, 14, 15, 16, 17, 18, 19, 20, 21, 22, 23, 24, 25, 26, 27, 28, 29, 30, 31, 32, 53, 54, 55, 56, 57, 58, 59] (by decide +kernel) (by decide +kernel)) (goodIn_sub (fun _ h => List.mem_cons_of_mem _ (List.mem_append_right _ h)) (by decide +kernel))
set_option maxRecDepth 20000 in
theorem gX2_below_X2_appleOf : GoodIn wsX2_below (va_wsS RX2 58 yX2_appleOf wsX2_appleOf) := goodIn_app (goodIn_of _ (by decide +kernel)) ggX2_below_X2_appleOf
set_option maxRecDepth 20000 in
theorem ggX2_below_X0_countUnder : GoodIn wsX2_below wsX0_countUnder := goodIn_r _ [36, 37, 38, 39, 28, 40, 32, 41, 42, 43, 44, 31, 45, 46, 47, 48, 49, 53, 54, 55, 56, 57, 58] (by decide +kernel) (by decide +kernel)
set_option maxRecDepth 20000 in
theorem gX2_below_X0_countUnder : GoodIn wsX2_below (wsV RX2 146 RX0 yX0_countUnder wsX0_countUnder) := goodIn_app (goodIn_of _ (by decide +kernel)) ggX2_below_X0_countUnder
theorem dX2_below_0 : decode cX2_below 0 = .ok (.aload_n 0, 1) := by decide +kernel
theorem dX2_below_1 : decode cX2_below 1 = .ok (.iload_n 1, 1) := by decide +kernel
theorem dX2_below_2 : decode cX2_below 2 = .ok (.invokevirtual 20, 3) := by decide +kernel
theorem dX2_below_5 : decode cX2_below 5 = .ok (.iload_n 2, 1) := by decide +kernel
theorem dX2_below_6 : decode cX2_below 6 = .ok (.invokestatic 58, 3) := by decide +kernel
theorem dX2_below_9 : decode cX2_below 9 = .ok (.invokevirtual 146, 3) := by decide +kernel
theorem dX2_below_12 : decode cX2_below 12 = .ok (.ireturn, 1) := by decide +kernel
set_option maxRecDepth 20000 in
theorem ggX2_eaten_X2_treeOf : GoodIn wsX2_eaten wsX2_treeOf := goodIn_ca (goodIn_r _ [6, 7, 8, 9, 40, 41, 42] (by decide +kernel) (by decide +kernel)) (goodIn_sub (fun _ h => List.mem_cons_of_mem _ (List.mem_append_left _ (List.mem_append_right _ h))) (by decide +kernel))
set_option maxRecDepth 20000 in
theorem gX2_eaten_X2_treeOf : GoodIn wsX2_eaten (wsV RX2 20 RX2 yX2_treeOf wsX2_treeOf) := goodIn_app (goodIn_of _ (by decide +kernel)) ggX2_eaten_X2_treeOf
set_option maxRecDepth 20000 in
theorem ggX2_eaten_X2_appleOf : GoodIn wsX2_eaten wsX2_appleOf := goodIn_ca (goodIn_r _ [12, 13, 14, 15, 16, 17, 18, 19, 20, 21, 22, 23, 24, 25, 26, 27, 28, 29, 30, 31, 32, 33, 34, 35, 36, 37, 38, 39, 43] (by decide +kernel) (by decide +kernel)) (goodIn_sub (fun _ h => List.mem_cons_of_mem _ (List.mem_append_right _ h)) (by decide +kernel))
set_option maxRecDepth 20000 in
theorem gX2_eaten_X2_appleOf : GoodIn wsX2_eaten (va_wsS RX2 58 yX2_appleOf wsX2_appleOf) := goodIn_app (goodIn_of _ (by decide +kernel)) ggX2_eaten_X2_appleOf
theorem dX2_eaten_0 : decode cX2_eaten 0 = .ok (.aload_n 0, 1) := by decide +kernel
theorem dX2_eaten_1 : decode cX2_eaten 1 = .ok (.iload_n 1, 1) := by decide +kernel
theorem dX2_eaten_2 : decode cX2_eaten 2 = .ok (.invokevirtual 20, 3) := by decide +kernel
theorem dX2_eaten_5 : decode cX2_eaten 5 = .ok (.iload_n 2, 1) := by decide +kernel
theorem dX2_eaten_6 : decode cX2_eaten 6 = .ok (.invokestatic 58, 3) := by decide +kernel
theorem dX2_eaten_9 : decode cX2_eaten 9 = .ok (.getfield 62, 3) := by decide +kernel
theorem dX2_eaten_12 : decode cX2_eaten 12 = .ok (.ireturn, 1) := by decide +kernel
set_option maxRecDepth 20000 in
theorem ggX2_favourite_X2_treeOf : GoodIn wsX2_favourite wsX2_treeOf := goodIn_ca (goodIn_r _ [5, 6, 7, 8, 37, 38, 39] (by decide +kernel) (by decide +kernel)) (goodIn_sub (fun _ h => List.mem_cons_of_mem _ (List.mem_append_right _ h)) (by decide +kernel))
set_option maxRecDepth 20000 in
theorem gX2_favourite_X2_treeOf : GoodIn wsX2_favourite (wsV RX2 20 RX2 yX2_treeOf wsX2_treeOf) := goodIn_app (goodIn_of _ (by decide +kernel)) ggX2_favourite_X2_treeOf
set_option maxRecDepth 20000 in
theorem ggX2_favourite_X1_mostBitten : GoodIn wsX2_favourite wsX1_mostBitten := goodIn_r _ [13, 14, 15, 16, 17, 12, 18, 19, 20, 21, 22, 23, 24, 25, 26, 27, 28, 29, 30, 31, 32, 40, 41, 42, 43, 44, 45, 46] (by decide +kernel) (by decide +kernel)
set_option maxRecDepth 20000 in
theorem gX2_favourite_X1_mostBitten : GoodIn wsX2_favourite (wsV RX2 149 RX1 yX1_mostBitten wsX1_mostBitten) := goodIn_app (goodIn_of _ (by decide +kernel)) ggX2_favourite_X1_mostBitten
set_option maxRecDepth 20000 in
theorem ggX2_favourite_X2_sizeOrNone : GoodIn wsX2_favourite wsX2_sizeOrNone := goodIn_r _ [35, 36, 40, 41, 42, 43, 44, 45] (by decide +kernel) (by decide +kernel)
set_option maxRecDepth 20000 in
theorem gX2_favourite_X2_sizeOrNone : GoodIn wsX2_favourite (va_wsS RX2 105 yX2_sizeOrNone wsX2_sizeOrNone) := goodIn_app (goodIn_of _ (by decide +kernel)) ggX2_favourite_X2_sizeOrNone
theorem dX2_favourite_0 : decode cX2_favourite 0 = .ok (.aload_n 0, 1) := by decide +kernel
theorem dX2_favourite_1 : decode cX2_favourite 1 = .ok (.iload_n 1, 1) := by decide +kernel
theorem dX2_favourite_2 : decode cX2_favourite 2 = .ok (.invokevirtual 20, 3) := by decide +kernel
theorem dX2_favourite_5 : decode cX2_favourite 5 = .ok (.invokevirtual 149, 3) := by decide +kernel
theorem dX2_favourite_8 : decode cX2_favourite 8 = .ok (.invokestatic 105, 3) := by decide +kernel
theorem dX2_favourite_11 : decode cX2_favourite 11 = .ok (.ireturn, 1) := by decide +kernel
set_option maxRecDepth 20000 in
theorem ggX2_meet_X2_treeOf : GoodIn wsX2_meet wsX2_treeOf := goodIn_ca (goodIn_r _ [5, 6, 7, 8, 48, 49, 50] (by decide +kernel) (by decide +kernel)) (goodIn_sub (fun _ h => List.mem_cons_of_mem _ (List.mem_append_left _ (List.mem_append_right _ h))) (by decide +kernel))
set_option maxRecDepth 20000 in
theorem gX2_meet_X2_treeOf : GoodIn wsX2_meet (wsV RX2 20 RX2 yX2_treeOf wsX2_treeOf) := goodIn_app (goodIn_of _ (by decide +kernel)) ggX2_meet_X2_treeOf
set_option maxRecDepth 20000 in
theorem ggX2_meet_X2_appleOf : GoodIn wsX2_meet wsX2_appleOf := goodIn_ca (goodIn_r _ [11, 12, 13, 14, 15, 16, 17, 18, 19, 20, 21, 22, 23, 24, 25, 26, 27, 28, 29, 30, 31, 32, 51, 52, 53, 54, 55, 56, 57] (by decide +kernel) (by decide +kernel)) (goodIn_sub (fun _ h => List.mem_cons_of_mem _ (List.mem_append_right _ h)) (by decide +kernel))
set_option maxRecDepth 20000 in
theorem gX2_meet_X2_appleOf : GoodIn wsX2_meet (va_wsS RX2 58 yX2_appleOf wsX2_appleOf) := goodIn_app (goodIn_of _ (by decide +kernel)) ggX2_meet_X2_appleOf
set_option maxRecDepth 20000 in
theorem ggX2_meet_X1_meeting : GoodIn wsX2_meet wsX1_meeting := goodIn_r _ [36, 19, 37, 38, 39, 40, 41, 42, 43, 24, 25, 26, 27, 28, 29, 30, 31, 32, 51, 52, 53, 54, 55, 56, 57] (by decide +kernel) (by decide +kernel)
set_option maxRecDepth 20000 in
theorem gX2_meet_X1_meeting : GoodIn wsX2_meet (wsV RX2 152 RX1 yX1_meeting wsX1_meeting) := goodIn_app (goodIn_of _ (by decide +kernel)) ggX2_meet_X1_meeting
set_option maxRecDepth 20000 in
theorem ggX2_meet_X2_sizeOrNone : GoodIn wsX2_meet wsX2_sizeOrNone := goodIn_r _ [46, 47, 51, 52, 53, 54, 55, 56] (by decide +kernel) (by decide +kernel)
set_option maxRecDepth 20000 in
theorem gX2_meet_X2_sizeOrNone : GoodIn wsX2_meet (va_wsS RX2 105 yX2_sizeOrNone wsX2_sizeOrNone) := goodIn_app (goodIn_of _ (by decide +kernel)) ggX2_meet_X2_sizeOrNone
theorem dX2_meet_0 : decode cX2_meet 0 = .ok (.aload_n 0, 1) := by decide +kernel
theorem dX2_meet_1 : decode cX2_meet 1 = .ok (.iload_n 1, 1) := by decide +kernel
theorem dX2_meet_2 : decode cX2_meet 2 = .ok (.invokevirtual 20, 3) := by decide +kernel
theorem dX2_meet_5 : decode cX2_meet 5 = .ok (.astore 4, 2) := by decide +kernel
theorem dX2_meet_7 : decode cX2_meet 7 = .ok (.aload 4, 2) := by decide +kernel
theorem dX2_meet_9 : decode cX2_meet 9 = .ok (.iload_n 2, 1) := by decide +kernel
theorem dX2_meet_10 : decode cX2_meet 10 = .ok (.invokestatic 58, 3) := by decide +kernel
theorem dX2_meet_13 : decode cX2_meet 13 = .ok (.astore 5, 2) := by decide +kernel
theorem dX2_meet_15 : decode cX2_meet 15 = .ok (.aload 4, 2) := by decide +kernel
theorem dX2_meet_17 : decode cX2_meet 17 = .ok (.iload_n 3, 1) := by decide +kernel
theorem dX2_meet_18 : decode cX2_meet 18 = .ok (.invokestatic 58, 3) := by decide +kernel
theorem dX2_meet_21 : decode cX2_meet 21 = .ok (.astore 6, 2) := by decide +kernel
theorem dX2_meet_23 : decode cX2_meet 23 = .ok (.aload 4, 2) := by decide +kernel
theorem dX2_meet_25 : decode cX2_meet 25 = .ok (.aload 5, 2) := by decide +kernel
theorem dX2_meet_27 : decode cX2_meet 27 = .ok (.aload 6, 2) := by decide +kernel
theorem dX2_meet_29 : decode cX2_meet 29 = .ok (.invokevirtual 152, 3) := by decide +kernel
theorem dX2_meet_32 : decode cX2_meet 32 = .ok (.invokestatic 105, 3) := by decide +kernel
theorem dX2_meet_35 : decode cX2_meet 35 = .ok (.ireturn, 1) := by decide +kernel
set_option maxRecDepth 20000 in
theorem ggX2_depthBehind_X2_treeOf : GoodIn wsX2_depthBehind wsX2_treeOf := goodIn_ca (goodIn_r _ [6, 7, 8, 9, 93, 94, 95] (by decide +kernel) (by decide +kernel)) (goodIn_sub (fun _ h => List.mem_cons_of_mem _ (List.mem_append_left _ (List.mem_append_right _ h))) (by decide +kernel))
set_option maxRecDepth 20000 in
theorem gX2_depthBehind_X2_treeOf : GoodIn wsX2_depthBehind (wsV RX2 20 RX2 yX2_treeOf wsX2_treeOf) := goodIn_app (goodIn_of _ (by decide +kernel)) ggX2_depthBehind_X2_treeOf
set_option maxRecDepth 20000 in
theorem ggX2_depthBehind_X2_appleOf : GoodIn wsX2_depthBehind wsX2_appleOf := goodIn_ca (goodIn_r _ [12, 13, 14, 15, 16, 17, 18, 19, 20, 21, 22, 23, 24, 25, 26, 27, 28, 29, 30, 31, 32, 33, 96, 97, 98, 99, 100, 101, 102] (by decide +kernel) (by decide +kernel)) (goodIn_sub (fun _ h => List.mem_cons_of_mem _ (List.mem_append_right _ h)) (by decide +kernel))
set_option maxRecDepth 20000 in
theorem gX2_depthBehind_X2_appleOf : GoodIn wsX2_depthBehind (va_wsS RX2 58 yX2_appleOf wsX2_appleOf) := goodIn_app (goodIn_of _ (by decide +kernel)) ggX2_depthBehind_X2_appleOf
set_option maxRecDepth 20000 in
theorem ggX2_depthBehind_X2_tryEating : GoodIn wsX2_depthBehind wsX2_tryEating := goodIn_r _ [37, 1, 38, 39, 40, 41, 18, 42, 25, 43, 44, 45, 46, 47, 48, 49, 29, 50, 32, 51, 52, 53, 54, 55, 56, 33, 57, 58, 59, 60, 61, 62, 63, 64, 65, 66, 67, 68, 69, 70, 71, 72, 73, 74, 75, 76, 77, 78, 79, 80, 81, 82, 83, 84, 85, 86, 87, 88, 89, 90, 91, 93, 94, 95, 96, 97, 98, 99, 100, 101, 102] (by decide +kernel) (by decide +kernel)
set_option maxRecDepth 20000 in
theorem gX2_depthBehind_X2_tryEating : GoodIn wsX2_depthBehind (wsV RX2 156 RX2 yX2_tryEating wsX2_tryEating) := goodIn_app (goodIn_of _ (by decide +kernel)) ggX2_depthBehind_X2_tryEating
set_option maxRecDepth 20000 in
theorem ggX2_depthBehind_X0_depth : GoodIn wsX2_depthBehind wsX0_depth := goodIn_r _ [74, 56, 96, 97, 98, 99, 100, 101] (by decide +kernel) (by decide +kernel)
set_option maxRecDepth 20000 in
theorem gX2_depthBehind_X0_depth : GoodIn wsX2_depthBehind (wsV RX2 140 RX0 yX0_depth wsX0_depth) := goodIn_app (goodIn_of _ (by decide +kernel)) ggX2_depthBehind_X0_depth
theorem dX2_depthBehind_0 : decode cX2_depthBehind 0 = .ok (.aload_n 0, 1) := by decide +kernel
theorem dX2_depthBehind_1 : decode cX2_depthBehind 1 = .ok (.iload_n 1, 1) := by decide +kernel
theorem dX2_depthBehind_2 : decode cX2_depthBehind 2 = .ok (.invokevirtual 20, 3) := by decide +kernel
theorem dX2_depthBehind_5 : decode cX2_depthBehind 5 = .ok (.astore 4, 2) := by decide +kernel
theorem dX2_depthBehind_7 : decode cX2_depthBehind 7 = .ok (.aload_n 0, 1) := by decide +kernel
theorem dX2_depthBehind_8 : decode cX2_depthBehind 8 = .ok (.aload 4, 2) := by decide +kernel
theorem dX2_depthBehind_10 : decode cX2_depthBehind 10 = .ok (.aload 4, 2) := by decide +kernel
theorem dX2_depthBehind_12 : decode cX2_depthBehind 12 = .ok (.iload_n 2, 1) := by decide +kernel
theorem dX2_depthBehind_13 : decode cX2_depthBehind 13 = .ok (.invokestatic 58, 3) := by decide +kernel
theorem dX2_depthBehind_16 : decode cX2_depthBehind 16 = .ok (.invokevirtual 156, 3) := by decide +kernel
theorem dX2_depthBehind_19 : decode cX2_depthBehind 19 = .ok (.aload_n 0, 1) := by decide +kernel
theorem dX2_depthBehind_20 : decode cX2_depthBehind 20 = .ok (.getfield 16, 3) := by decide +kernel
theorem dX2_depthBehind_23 : decode cX2_depthBehind 23 = .ok (.iload_n 3, 1) := by decide +kernel
theorem dX2_depthBehind_24 : decode cX2_depthBehind 24 = .ok (.invokestatic 58, 3) := by decide +kernel
theorem dX2_depthBehind_27 : decode cX2_depthBehind 27 = .ok (.invokevirtual 140, 3) := by decide +kernel
theorem dX2_depthBehind_30 : decode cX2_depthBehind 30 = .ok (.ireturn, 1) := by decide +kernel
set_option maxRecDepth 20000 in
theorem ggX2_heightBehind_X2_treeOf : GoodIn wsX2_heightBehind wsX2_treeOf := goodIn_ca (goodIn_r _ [6, 7, 8, 9, 100, 101, 102] (by decide +kernel) (by decide +kernel)) (goodIn_sub (fun _ h => List.mem_cons_of_mem _ (List.mem_append_left _ (List.mem_append_right _ h))) (by decide +kernel))
set_option maxRecDepth 20000 in
theorem gX2_heightBehind_X2_treeOf : GoodIn wsX2_heightBehind (wsV RX2 20 RX2 yX2_treeOf wsX2_treeOf) := goodIn_app (goodIn_of _ (by decide +kernel)) ggX2_heightBehind_X2_treeOf
set_option maxRecDepth 20000 in
theorem ggX2_heightBehind_X2_appleOf : GoodIn wsX2_heightBehind wsX2_appleOf := goodIn_ca (goodIn_r _ [12, 13, 14, 15, 16, 17, 18, 19, 20, 21, 22, 23, 24, 25, 26, 27, 28, 29, 30, 31, 32, 33, 103, 104, 105, 106, 107, 108, 109] (by decide +kernel) (by decide +kernel)) (goodIn_sub (fun _ h => List.mem_cons_of_mem _ (List.mem_append_right _ h)) (by decide +kernel))
set_option maxRecDepth 20000 in
theorem gX2_heightBehind_X2_appleOf : GoodIn wsX2_heightBehind (va_wsS RX2 58 yX2_appleOf wsX2_appleOf) := goodIn_app (goodIn_of _ (by decide +kernel)) ggX2_heightBehind_X2_appleOf
set_option maxRecDepth 20000 in
theorem ggX2_heightBehind_X2_tryEating : GoodIn wsX2_heightBehind wsX2_tryEating := goodIn_r _ [37, 1, 38, 39, 40, 41, 18, 42, 25, 43, 44, 45, 46, 47, 48, 49, 29, 50, 32, 51, 52, 53, 54, 55, 56, 33, 57, 58, 59, 60, 61, 62, 63, 64, 65, 66, 67, 68, 69, 70, 71, 72, 73, 74, 75, 76, 77, 78, 79, 80, 81, 82, 83, 84, 85, 86, 87, 88, 89, 90, 91, 100, 101, 102, 103, 104, 105, 106, 107, 108, 109] (by decide +kernel) (by decide +kernel)
set_option maxRecDepth 20000 in
theorem gX2_heightBehind_X2_tryEating : GoodIn wsX2_heightBehind (wsV RX2 156 RX2 yX2_tryEating wsX2_tryEating) := goodIn_app (goodIn_of _ (by decide +kernel)) ggX2_heightBehind_X2_tryEating
set_option maxRecDepth 20000 in
theorem ggX2_heightBehind_X1_levels : GoodIn wsX2_heightBehind wsX1_levels := goodIn_r _ [95, 96, 97, 98, 99, 43, 44, 45, 18, 46, 25, 47, 48, 49, 29, 50, 32, 71, 72, 73, 74, 56, 60, 61, 62, 63, 33, 64, 109, 103, 104, 105, 106, 107, 108] (by decide +kernel) (by decide +kernel)
set_option maxRecDepth 20000 in
theorem gX2_heightBehind_X1_levels : GoodIn wsX2_heightBehind (wsV RX2 109 RX1 yX1_levels wsX1_levels) := goodIn_app (goodIn_of _ (by decide +kernel)) ggX2_heightBehind_X1_levels
theorem dX2_heightBehind_0 : decode cX2_heightBehind 0 = .ok (.aload_n 0, 1) := by decide +kernel
theorem dX2_heightBehind_1 : decode cX2_heightBehind 1 = .ok (.iload_n 1, 1) := by decide +kernel
theorem dX2_heightBehind_2 : decode cX2_heightBehind 2 = .ok (.invokevirtual 20, 3) := by decide +kernel
theorem dX2_heightBehind_5 : decode cX2_heightBehind 5 = .ok (.astore_n 3, 1) := by decide +kernel
theorem dX2_heightBehind_6 : decode cX2_heightBehind 6 = .ok (.aload_n 0, 1) := by decide +kernel
theorem dX2_heightBehind_7 : decode cX2_heightBehind 7 = .ok (.aload_n 3, 1) := by decide +kernel
theorem dX2_heightBehind_8 : decode cX2_heightBehind 8 = .ok (.aload_n 3, 1) := by decide +kernel
theorem dX2_heightBehind_9 : decode cX2_heightBehind 9 = .ok (.iload_n 2, 1) := by decide +kernel
theorem dX2_heightBehind_10 : decode cX2_heightBehind 10 = .ok (.invokestatic 58, 3) := by decide +kernel
theorem dX2_heightBehind_13 : decode cX2_heightBehind 13 = .ok (.invokevirtual 156, 3) := by decide +kernel
theorem dX2_heightBehind_16 : decode cX2_heightBehind 16 = .ok (.aload_n 0, 1) := by decide +kernel
theorem dX2_heightBehind_17 : decode cX2_heightBehind 17 = .ok (.getfield 16, 3) := by decide +kernel
theorem dX2_heightBehind_20 : decode cX2_heightBehind 20 = .ok (.invokevirtual 109, 3) := by decide +kernel
theorem dX2_heightBehind_23 : decode cX2_heightBehind 23 = .ok (.ireturn, 1) := by decide +kernel
set_option maxRecDepth 20000 in
theorem ggX2_bestToEat_X2_treeOf : GoodIn wsX2_bestToEat wsX2_treeOf := goodIn_ca (goodIn_r _ [6, 7, 8, 9, 83, 84, 85] (by decide +kernel) (by decide +kernel)) (goodIn_sub (fun _ h => List.mem_cons_of_mem _ (List.mem_append_right _ h)) (by decide +kernel))
set_option maxRecDepth 20000 in
theorem gX2_bestToEat_X2_treeOf : GoodIn wsX2_bestToEat (wsV RX2 20 RX2 yX2_treeOf wsX2_treeOf) := goodIn_app (goodIn_of _ (by decide +kernel)) ggX2_bestToEat_X2_treeOf
set_option maxRecDepth 20000 in
theorem ggX2_bestToEat_X1_first : GoodIn wsX2_bestToEat wsX1_first := goodIn_r _ [14, 15, 16, 17, 18, 19, 20, 21, 86, 87, 88, 89, 90, 91, 92] (by decide +kernel) (by decide +kernel)
set_option maxRecDepth 20000 in
theorem gX2_bestToEat_X1_first : GoodIn wsX2_bestToEat (wsV RX2 115 RX1 yX1_first wsX1_first) := goodIn_app (goodIn_of _ (by decide +kernel)) ggX2_bestToEat_X1_first
set_option maxRecDepth 20000 in
theorem ggX2_bestToEat_X2_tryEating : GoodIn wsX2_bestToEat wsX2_tryEating := goodIn_r _ [25, 1, 26, 27, 28, 29, 13, 30, 15, 31, 11, 12, 14, 16, 17, 18, 19, 20, 21, 32, 33, 34, 35, 36, 37, 38, 39, 40, 41, 42, 43, 44, 45, 46, 47, 48, 49, 50, 51, 52, 53, 54, 55, 56, 57, 58, 59, 60, 61, 62, 63, 64, 65, 66, 67, 68, 69, 70, 71, 72, 73, 83, 84, 85, 87, 88, 89, 90, 91, 92, 86] (by decide +kernel) (by decide +kernel)
set_option maxRecDepth 20000 in
theorem gX2_bestToEat_X2_tryEating : GoodIn wsX2_bestToEat (wsV RX2 156 RX2 yX2_tryEating wsX2_tryEating) := goodIn_app (goodIn_of _ (by decide +kernel)) ggX2_bestToEat_X2_tryEating
set_option maxRecDepth 20000 in
theorem ggX2_bestToEat_X1_depthSum : GoodIn wsX2_bestToEat wsX1_depthSum := goodIn_r _ [77, 31, 11, 12, 13, 14, 15, 16, 17, 18, 19, 20, 21, 53, 54, 55, 56, 37, 42, 43, 44, 45, 38, 46, 86, 87, 88, 89, 90, 91, 92] (by decide +kernel) (by decide +kernel)
set_option maxRecDepth 20000 in
theorem gX2_bestToEat_X1_depthSum : GoodIn wsX2_bestToEat (wsV RX2 112 RX1 yX1_depthSum wsX1_depthSum) := goodIn_app (goodIn_of _ (by decide +kernel)) ggX2_bestToEat_X1_depthSum
set_option maxRecDepth 20000 in
theorem ggX2_bestToEat_X0_next : GoodIn wsX2_bestToEat wsX0_next := goodIn_r _ [45, 38, 37, 46, 17, 18, 19, 20, 21, 87, 88, 89, 90, 91, 92] (by decide +kernel) (by decide +kernel)
set_option maxRecDepth 20000 in
theorem gX2_bestToEat_X0_next : GoodIn wsX2_bestToEat (wsV RX2 159 RX0 yX0_next wsX0_next) := goodIn_app (goodIn_of _ (by decide +kernel)) ggX2_bestToEat_X0_next
set_option maxRecDepth 20000 in
theorem ggX2_bestToEat_X2_sizeOrNone : GoodIn wsX2_bestToEat wsX2_sizeOrNone := goodIn_r _ [81, 82, 87, 88, 89, 90, 91, 92] (by decide +kernel) (by decide +kernel)
set_option maxRecDepth 20000 in
theorem gX2_bestToEat_X2_sizeOrNone : GoodIn wsX2_bestToEat (va_wsS RX2 105 yX2_sizeOrNone wsX2_sizeOrNone) := goodIn_app (goodIn_of _ (by decide +kernel)) ggX2_bestToEat_X2_sizeOrNone
theorem dX2_bestToEat_0 : decode cX2_bestToEat 0 = .ok (.aload_n 0, 1) := by decide +kernel
theorem dX2_bestToEat_1 : decode cX2_bestToEat 1 = .ok (.iload_n 1, 1) := by decide +kernel
theorem dX2_bestToEat_2 : decode cX2_bestToEat 2 = .ok (.invokevirtual 20, 3) := by decide +kernel
theorem dX2_bestToEat_5 : decode cX2_bestToEat 5 = .ok (.astore_n 2, 1) := by decide +kernel
theorem dX2_bestToEat_6 : decode cX2_bestToEat 6 = .ok (.aconst_null, 1) := by decide +kernel
theorem dX2_bestToEat_7 : decode cX2_bestToEat 7 = .ok (.astore_n 3, 1) := by decide +kernel
theorem dX2_bestToEat_8 : decode cX2_bestToEat 8 = .ok (.iconst 0, 1) := by decide +kernel
theorem dX2_bestToEat_9 : decode cX2_bestToEat 9 = .ok (.istore 4, 2) := by decide +kernel
theorem dX2_bestToEat_11 : decode cX2_bestToEat 11 = .ok (.aload_n 2, 1) := by decide +kernel
theorem dX2_bestToEat_12 : decode cX2_bestToEat 12 = .ok (.invokevirtual 115, 3) := by decide +kernel
theorem dX2_bestToEat_15 : decode cX2_bestToEat 15 = .ok (.astore 5, 2) := by decide +kernel
theorem dX2_bestToEat_17 : decode cX2_bestToEat 17 = .ok (.aload 5, 2) := by decide +kernel
theorem dX2_bestToEat_19 : decode cX2_bestToEat 19 = .ok (.ifnull 47, 3) := by decide +kernel
theorem dX2_bestToEat_22 : decode cX2_bestToEat 22 = .ok (.aload_n 0, 1) := by decide +kernel
theorem dX2_bestToEat_23 : decode cX2_bestToEat 23 = .ok (.aload_n 2, 1) := by decide +kernel
theorem dX2_bestToEat_24 : decode cX2_bestToEat 24 = .ok (.aload 5, 2) := by decide +kernel
theorem dX2_bestToEat_26 : decode cX2_bestToEat 26 = .ok (.invokevirtual 156, 3) := by decide +kernel
theorem dX2_bestToEat_29 : decode cX2_bestToEat 29 = .ok (.aload_n 0, 1) := by decide +kernel
theorem dX2_bestToEat_30 : decode cX2_bestToEat 30 = .ok (.getfield 16, 3) := by decide +kernel
theorem dX2_bestToEat_33 : decode cX2_bestToEat 33 = .ok (.invokevirtual 112, 3) := by decide +kernel
theorem dX2_bestToEat_36 : decode cX2_bestToEat 36 = .ok (.istore 6, 2) := by decide +kernel
theorem dX2_bestToEat_38 : decode cX2_bestToEat 38 = .ok (.aload_n 3, 1) := by decide +kernel
theorem dX2_bestToEat_39 : decode cX2_bestToEat 39 = .ok (.ifnull 10, 3) := by decide +kernel
theorem dX2_bestToEat_42 : decode cX2_bestToEat 42 = .ok (.iload 6, 2) := by decide +kernel
theorem dX2_bestToEat_44 : decode cX2_bestToEat 44 = .ok (.iload 4, 2) := by decide +kernel
theorem dX2_bestToEat_46 : decode cX2_bestToEat 46 = .ok (.if_icmp .ge 10, 3) := by decide +kernel
theorem dX2_bestToEat_49 : decode cX2_bestToEat 49 = .ok (.aload 5, 2) := by decide +kernel
theorem dX2_bestToEat_51 : decode cX2_bestToEat 51 = .ok (.astore_n 3, 1) := by decide +kernel
theorem dX2_bestToEat_52 : decode cX2_bestToEat 52 = .ok (.iload 6, 2) := by decide +kernel
theorem dX2_bestToEat_54 : decode cX2_bestToEat 54 = .ok (.istore 4, 2) := by decide +kernel
theorem dX2_bestToEat_56 : decode cX2_bestToEat 56 = .ok (.aload 5, 2) := by decide +kernel
theorem dX2_bestToEat_58 : decode cX2_bestToEat 58 = .ok (.invokevirtual 159, 3) := by decide +kernel
theorem dX2_bestToEat_61 : decode cX2_bestToEat 61 = .ok (.astore 5, 2) := by decide +kernel
theorem dX2_bestToEat_63 : decode cX2_bestToEat 63 = .ok (.goto (-46), 3) := by decide +kernel
theorem dX2_bestToEat_66 : decode cX2_bestToEat 66 = .ok (.aload_n 3, 1) := by decide +kernel
theorem dX2_bestToEat_67 : decode cX2_bestToEat 67 = .ok (.invokestatic 105, 3) := by decide +kernel
theorem dX2_bestToEat_70 : decode cX2_bestToEat 70 = .ok (.ireturn, 1) := by decide +kernel
set_option maxRecDepth 20000 in
theorem ggX2_plantDepth_X2_treeOf : GoodIn wsX2_plantDepth wsX2_treeOf := goodIn_ca (goodIn_r _ [6, 7, 8, 9, 40, 41, 42] (by decide +kernel) (by decide +kernel)) (goodIn_sub (fun _ h => List.mem_cons_of_mem _ (List.mem_append_left _ (List.mem_append_right _ h))) (by decide +kernel))
set_option maxRecDepth 20000 in
theorem gX2_plantDepth_X2_treeOf : GoodIn wsX2_plantDepth (wsV RX2 20 RX2 yX2_treeOf wsX2_treeOf) := goodIn_app (goodIn_of _ (by decide +kernel)) ggX2_plantDepth_X2_treeOf
set_option maxRecDepth 20000 in
theorem ggX2_plantDepth_X2_checkSize : GoodIn wsX2_plantDepth wsX2_checkSize := goodIn_ca (goodIn_r _ [12, 13, 14] (by decide +kernel) (by decide +kernel)) (goodIn_sub (fun _ h => List.mem_cons_of_mem _ (List.mem_append_right _ h)) (by decide +kernel))
set_option maxRecDepth 20000 in
theorem gX2_plantDepth_X2_checkSize : GoodIn wsX2_plantDepth (va_wsS RX2 24 yX2_checkSize wsX2_checkSize) := goodIn_app (goodIn_of _ (by decide +kernel)) ggX2_plantDepth_X2_checkSize
set_option maxRecDepth 20000 in
theorem ggX2_plantDepth_X1_nearest : GoodIn wsX2_plantDepth wsX1_nearest := goodIn_r _ [19, 20, 21, 22, 23, 24, 25, 26, 27, 28, 43, 34, 35, 36, 37, 38, 39] (by decide +kernel) (by decide +kernel)
set_option maxRecDepth 20000 in
theorem gX2_plantDepth_X1_nearest : GoodIn wsX2_plantDepth (wsV RX2 162 RX1 yX1_nearest wsX1_nearest) := goodIn_app (goodIn_of _ (by decide +kernel)) ggX2_plantDepth_X1_nearest
set_option maxRecDepth 20000 in
theorem ggX2_plantDepth_X0_depth : GoodIn wsX2_plantDepth wsX0_depth := goodIn_r _ [32, 33, 34, 35, 36, 37, 38, 39] (by decide +kernel) (by decide +kernel)
set_option maxRecDepth 20000 in
theorem gX2_plantDepth_X0_depth : GoodIn wsX2_plantDepth (wsV RX2 140 RX0 yX0_depth wsX0_depth) := goodIn_app (goodIn_of _ (by decide +kernel)) ggX2_plantDepth_X0_depth
theorem dX2_plantDepth_0 : decode cX2_plantDepth 0 = .ok (.aload_n 0, 1) := by decide +kernel
theorem dX2_plantDepth_1 : decode cX2_plantDepth 1 = .ok (.iload_n 1, 1) := by decide +kernel
theorem dX2_plantDepth_2 : decode cX2_plantDepth 2 = .ok (.invokevirtual 20, 3) := by decide +kernel
theorem dX2_plantDepth_5 : decode cX2_plantDepth 5 = .ok (.astore_n 3, 1) := by decide +kernel
theorem dX2_plantDepth_6 : decode cX2_plantDepth 6 = .ok (.iload_n 2, 1) := by decide +kernel
theorem dX2_plantDepth_7 : decode cX2_plantDepth 7 = .ok (.invokestatic 24, 3) := by decide +kernel
theorem dX2_plantDepth_10 : decode cX2_plantDepth 10 = .ok (.aload_n 3, 1) := by decide +kernel
theorem dX2_plantDepth_11 : decode cX2_plantDepth 11 = .ok (.iload_n 2, 1) := by decide +kernel
theorem dX2_plantDepth_12 : decode cX2_plantDepth 12 = .ok (.invokevirtual 162, 3) := by decide +kernel
theorem dX2_plantDepth_15 : decode cX2_plantDepth 15 = .ok (.astore 4, 2) := by decide +kernel
theorem dX2_plantDepth_17 : decode cX2_plantDepth 17 = .ok (.aload 4, 2) := by decide +kernel
theorem dX2_plantDepth_19 : decode cX2_plantDepth 19 = .ok (.ifnonnull 5, 3) := by decide +kernel
theorem dX2_plantDepth_22 : decode cX2_plantDepth 22 = .ok (.iconst 0, 1) := by decide +kernel
theorem dX2_plantDepth_23 : decode cX2_plantDepth 23 = .ok (.ireturn, 1) := by decide +kernel
theorem dX2_plantDepth_24 : decode cX2_plantDepth 24 = .ok (.aload 4, 2) := by decide +kernel
theorem dX2_plantDepth_26 : decode cX2_plantDepth 26 = .ok (.getfield 130, 3) := by decide +kernel
theorem dX2_plantDepth_29 : decode cX2_plantDepth 29 = .ok (.iload_n 2, 1) := by decide +kernel
theorem dX2_plantDepth_30 : decode cX2_plantDepth 30 = .ok (.if_icmp .ne 7, 3) := by decide +kernel
theorem dX2_plantDepth_33 : decode cX2_plantDepth 33 = .ok (.iconst (-1), 1) := by decide +kernel
theorem dX2_plantDepth_34 : decode cX2_plantDepth 34 = .ok (.goto 10, 3) := by decide +kernel
theorem dX2_plantDepth_37 : decode cX2_plantDepth 37 = .ok (.aload 4, 2) := by decide +kernel
theorem dX2_plantDepth_39 : decode cX2_plantDepth 39 = .ok (.invokevirtual 140, 3) := by decide +kernel
theorem dX2_plantDepth_42 : decode cX2_plantDepth 42 = .ok (.iconst 1, 1) := by decide +kernel
theorem dX2_plantDepth_43 : decode cX2_plantDepth 43 = .ok (.iadd, 1) := by decide +kernel
theorem dX2_plantDepth_44 : decode cX2_plantDepth 44 = .ok (.ireturn, 1) := by decide +kernel
set_option maxRecDepth 20000 in
theorem ggX2_canJoin_X2_treeOf : GoodIn wsX2_canJoin wsX2_treeOf := goodIn_ca (goodIn_r _ [5, 6, 7, 8, 34, 35, 36] (by decide +kernel) (by decide +kernel)) (goodIn_sub (fun _ h => List.mem_cons_of_mem _ (List.mem_append_right _ h)) (by decide +kernel))
set_option maxRecDepth 20000 in
theorem gX2_canJoin_X2_treeOf : GoodIn wsX2_canJoin (wsV RX2 20 RX2 yX2_treeOf wsX2_treeOf) := goodIn_app (goodIn_of _ (by decide +kernel)) ggX2_canJoin_X2_treeOf
set_option maxRecDepth 20000 in
theorem ggX2_canJoin_X2_mayJoin : GoodIn wsX2_canJoin wsX2_mayJoin := goodIn_r _ [11, 12, 13, 14, 15, 16, 17, 18, 19, 20, 21, 22, 23, 24, 25, 26, 27, 28, 29, 30, 31, 32, 33, 37, 38, 39, 40, 41, 42, 43] (by decide +kernel) (by decide +kernel)
set_option maxRecDepth 20000 in
theorem gX2_canJoin_X2_mayJoin : GoodIn wsX2_canJoin (va_wsS RX2 96 yX2_mayJoin wsX2_mayJoin) := goodIn_app (goodIn_of _ (by decide +kernel)) ggX2_canJoin_X2_mayJoin
theorem dX2_canJoin_0 : decode cX2_canJoin 0 = .ok (.aload_n 0, 1) := by decide +kernel
theorem dX2_canJoin_1 : decode cX2_canJoin 1 = .ok (.iload_n 1, 1) := by decide +kernel
theorem dX2_canJoin_2 : decode cX2_canJoin 2 = .ok (.invokevirtual 20, 3) := by decide +kernel
theorem dX2_canJoin_5 : decode cX2_canJoin 5 = .ok (.aload_n 0, 1) := by decide +kernel
theorem dX2_canJoin_6 : decode cX2_canJoin 6 = .ok (.iload_n 2, 1) := by decide +kernel
theorem dX2_canJoin_7 : decode cX2_canJoin 7 = .ok (.invokevirtual 20, 3) := by decide +kernel
theorem dX2_canJoin_10 : decode cX2_canJoin 10 = .ok (.invokestatic 96, 3) := by decide +kernel
theorem dX2_canJoin_13 : decode cX2_canJoin 13 = .ok (.ireturn, 1) := by decide +kernel
set_option maxRecDepth 20000 in
theorem ggX2_meanDepth_X2_treeOf : GoodIn wsX2_meanDepth wsX2_treeOf := goodIn_ca (goodIn_r _ [5, 6, 7, 8, 49, 50, 51] (by decide +kernel) (by decide +kernel)) (goodIn_sub (fun _ h => List.mem_cons_of_mem _ (List.mem_append_right _ h)) (by decide +kernel))
set_option maxRecDepth 20000 in
theorem gX2_meanDepth_X2_treeOf : GoodIn wsX2_meanDepth (wsV RX2 20 RX2 yX2_treeOf wsX2_treeOf) := goodIn_app (goodIn_of _ (by decide +kernel)) ggX2_meanDepth_X2_treeOf
set_option maxRecDepth 20000 in
theorem ggX2_meanDepth_X1_count : GoodIn wsX2_meanDepth wsX1_count := goodIn_r _ [13, 14, 15, 16, 17, 18, 19, 20, 21, 22, 23, 24, 25, 26, 27, 28, 29, 30, 31, 32, 33, 34, 52, 53, 54, 55, 56, 57, 58] (by decide +kernel) (by decide +kernel)
set_option maxRecDepth 20000 in
theorem gX2_meanDepth_X1_count : GoodIn wsX2_meanDepth (wsV RX2 93 RX1 yX1_count wsX1_count) := goodIn_app (goodIn_of _ (by decide +kernel)) ggX2_meanDepth_X1_count
set_option maxRecDepth 20000 in
theorem ggX2_meanDepth_X1_depthSum : GoodIn wsX2_meanDepth wsX1_depthSum := goodIn_r _ [38, 39, 40, 41, 12, 42, 14, 43, 26, 27, 18, 28, 29, 44, 45, 46, 47, 34, 48, 31, 32, 33, 24, 25, 52, 53, 54, 55, 56, 57, 58] (by decide +kernel) (by decide +kernel)
set_option maxRecDepth 20000 in
theorem gX2_meanDepth_X1_depthSum : GoodIn wsX2_meanDepth (wsV RX2 112 RX1 yX1_depthSum wsX1_depthSum) := goodIn_app (goodIn_of _ (by decide +kernel)) ggX2_meanDepth_X1_depthSum
theorem dX2_meanDepth_0 : decode cX2_meanDepth 0 = .ok (.aload_n 0, 1) := by decide +kernel
theorem dX2_meanDepth_1 : decode cX2_meanDepth 1 = .ok (.iload_n 1, 1) := by decide +kernel
theorem dX2_meanDepth_2 : decode cX2_meanDepth 2 = .ok (.invokevirtual 20, 3) := by decide +kernel
theorem dX2_meanDepth_5 : decode cX2_meanDepth 5 = .ok (.astore_n 2, 1) := by decide +kernel
theorem dX2_meanDepth_6 : decode cX2_meanDepth 6 = .ok (.aload_n 2, 1) := by decide +kernel
theorem dX2_meanDepth_7 : decode cX2_meanDepth 7 = .ok (.invokevirtual 93, 3) := by decide +kernel
theorem dX2_meanDepth_10 : decode cX2_meanDepth 10 = .ok (.istore_n 3, 1) := by decide +kernel
theorem dX2_meanDepth_11 : decode cX2_meanDepth 11 = .ok (.iload_n 3, 1) := by decide +kernel
theorem dX2_meanDepth_12 : decode cX2_meanDepth 12 = .ok (.ifCond .ne 7, 3) := by decide +kernel
theorem dX2_meanDepth_15 : decode cX2_meanDepth 15 = .ok (.dconst 0, 1) := by decide +kernel
theorem dX2_meanDepth_16 : decode cX2_meanDepth 16 = .ok (.goto 11, 3) := by decide +kernel
theorem dX2_meanDepth_19 : decode cX2_meanDepth 19 = .ok (.aload_n 2, 1) := by decide +kernel
theorem dX2_meanDepth_20 : decode cX2_meanDepth 20 = .ok (.invokevirtual 112, 3) := by decide +kernel
theorem dX2_meanDepth_23 : decode cX2_meanDepth 23 = .ok (.i2d, 1) := by decide +kernel
theorem dX2_meanDepth_24 : decode cX2_meanDepth 24 = .ok (.iload_n 3, 1) := by decide +kernel
theorem dX2_meanDepth_25 : decode cX2_meanDepth 25 = .ok (.i2d, 1) := by decide +kernel
theorem dX2_meanDepth_26 : decode cX2_meanDepth 26 = .ok (.ddiv, 1) := by decide +kernel
theorem dX2_meanDepth_27 : decode cX2_meanDepth 27 = .ok (.dreturn, 1) := by decide +kernel
set_option maxRecDepth 20000 in
theorem ggX2_digest_X2_apples : GoodIn wsX2_digest wsX2_apples := goodIn_r _ [7, 2, 8, 9, 10, 11, 12, 13, 14, 15, 16, 17, 18, 19, 20, 21, 22, 23, 24, 25, 26, 27, 28, 29, 30, 31, 32, 33, 175, 176, 177, 178, 179, 180, 181, 182, 183, 184] (by decide +kernel) (by decide +kernel)
set_option maxRecDepth 20000 in
theorem gX2_digest_X2_apples : GoodIn wsX2_digest (wsV RX2 28 RX2 yX2_apples wsX2_apples) := goodIn_app (goodIn_of _ (by decide +kernel)) ggX2_digest_X2_apples
set_option maxRecDepth 20000 in
theorem ggX2_digest_X2_mix : GoodIn wsX2_digest wsX2_mix := goodIn_r _ [36, 37] (by decide +kernel) (by decide +kernel)
set_option maxRecDepth 20000 in
theorem gX2_digest_X2_mix : GoodIn wsX2_digest (va_wsS RX2 167 yX2_mix wsX2_mix) := goodIn_app (goodIn_of _ (by decide +kernel)) ggX2_digest_X2_mix
set_option maxRecDepth 20000 in
theorem ggX2_digest_X2_turnings : GoodIn wsX2_digest wsX2_turnings := goodIn_r _ [41, 42, 175, 176, 177] (by decide +kernel) (by decide +kernel)
set_option maxRecDepth 20000 in
theorem gX2_digest_X2_turnings : GoodIn wsX2_digest (wsV RX2 171 RX2 yX2_turnings wsX2_turnings) := goodIn_app (goodIn_of _ (by decide +kernel)) ggX2_digest_X2_turnings
set_option maxRecDepth 20000 in
theorem ggX2_digest_X2_mixRow : GoodIn wsX2_digest wsX2_mixRow := goodIn_ca (goodIn_r _ [46, 47, 48, 49, 6, 50, 51, 52, 53, 54, 55, 56, 2, 8, 9, 10, 11, 12, 13, 14, 15, 16, 17, 18, 19, 20, 21, 22, 23, 24, 25, 26, 27, 28, 29, 30, 31, 32, 33, 34, 35, 36, 37, 57, 58, 59, 60, 61, 62, 63, 64, 65, 66, 67, 68, 69, 70, 71, 72, 73, 74, 75, 76, 77, 78, 79, 80, 81, 82, 83, 84, 85, 86, 87, 88, 89, 90, 91, 92, 93, 94, 95, 96, 97, 98, 99, 100, 101, 102, 103, 104, 105, 106, 107, 108, 109, 110, 111, 112, 113, 114, 115, 116, 117, 118, 119, 120, 121, 122, 123, 124, 125, 126, 127, 128, 129, 130, 131, 132, 133, 134, 135, 136, 137, 138, 139, 140, 141, 142, 143, 144, 145, 146, 147, 148, 149, 150, 151, 152, 153, 154, 155, 156, 157, 158, 159, 160, 161, 162, 163, 164, 165, 175, 176, 177, 178, 179, 180, 181, 182, 183, 184] (by decide +kernel) (by decide +kernel)) (goodIn_sub (fun _ h => List.mem_cons_of_mem _ (List.mem_append_right _ h)) (by decide +kernel))
set_option maxRecDepth 20000 in
theorem gX2_digest_X2_mixRow : GoodIn wsX2_digest (wsV RX2 174 RX2 yX2_mixRow wsX2_mixRow) := goodIn_app (goodIn_of _ (by decide +kernel)) ggX2_digest_X2_mixRow
set_option maxRecDepth 20000 in
theorem ggX2_digest_X1_first : GoodIn wsX2_digest wsX1_first := goodIn_r _ [81, 13, 82, 25, 26, 17, 27, 28, 178, 179, 180, 181, 182, 183, 184] (by decide +kernel) (by decide +kernel)
set_option maxRecDepth 20000 in
theorem gX2_digest_X1_first : GoodIn wsX2_digest (wsV RX2 115 RX1 yX1_first wsX1_first) := goodIn_app (goodIn_of _ (by decide +kernel)) ggX2_digest_X1_first
set_option maxRecDepth 20000 in
theorem ggX2_digest_X2_mixApple : GoodIn wsX2_digest wsX2_mixApple := goodIn_r _ [168, 65, 169, 170, 171, 172, 34, 35, 6, 36, 37, 173, 84, 85, 17, 86, 33, 62, 63, 64, 174, 15, 16, 18, 19, 20, 21, 22, 23, 24, 25, 26, 27, 28, 29, 30, 31, 32, 179, 180, 181, 182, 183, 184] (by decide +kernel) (by decide +kernel)
set_option maxRecDepth 20000 in
theorem gX2_digest_X2_mixApple : GoodIn wsX2_digest (va_wsS RX2 177 yX2_mixApple wsX2_mixApple) := goodIn_app (goodIn_of _ (by decide +kernel)) ggX2_digest_X2_mixApple
set_option maxRecDepth 20000 in
theorem ggX2_digest_X0_next : GoodIn wsX2_digest wsX0_next := goodIn_r _ [32, 23, 33, 24, 25, 26, 17, 27, 28, 179, 180, 181, 182, 183, 184] (by decide +kernel) (by decide +kernel)
set_option maxRecDepth 20000 in
theorem gX2_digest_X0_next : GoodIn wsX2_digest (wsV RX2 159 RX0 yX0_next wsX0_next) := goodIn_app (goodIn_of _ (by decide +kernel)) ggX2_digest_X0_next
theorem dX2_digest_0 : decode cX2_digest 0 = .ok (.ldc2_w 165, 3) := by decide +kernel
theorem dX2_digest_3 : decode cX2_digest 3 = .ok (.lstore_n 1, 1) := by decide +kernel
theorem dX2_digest_4 : decode cX2_digest 4 = .ok (.lload_n 1, 1) := by decide +kernel
theorem dX2_digest_5 : decode cX2_digest 5 = .ok (.aload_n 0, 1) := by decide +kernel
theorem dX2_digest_6 : decode cX2_digest 6 = .ok (.invokevirtual 28, 3) := by decide +kernel
theorem dX2_digest_9 : decode cX2_digest 9 = .ok (.invokestatic 167, 3) := by decide +kernel
theorem dX2_digest_12 : decode cX2_digest 12 = .ok (.lstore_n 1, 1) := by decide +kernel
theorem dX2_digest_13 : decode cX2_digest 13 = .ok (.lload_n 1, 1) := by decide +kernel
theorem dX2_digest_14 : decode cX2_digest 14 = .ok (.aload_n 0, 1) := by decide +kernel
theorem dX2_digest_15 : decode cX2_digest 15 = .ok (.invokevirtual 171, 3) := by decide +kernel
theorem dX2_digest_18 : decode cX2_digest 18 = .ok (.invokestatic 167, 3) := by decide +kernel
theorem dX2_digest_21 : decode cX2_digest 21 = .ok (.lstore_n 1, 1) := by decide +kernel
theorem dX2_digest_22 : decode cX2_digest 22 = .ok (.iconst 0, 1) := by decide +kernel
theorem dX2_digest_23 : decode cX2_digest 23 = .ok (.istore_n 3, 1) := by decide +kernel
theorem dX2_digest_24 : decode cX2_digest 24 = .ok (.iload_n 3, 1) := by decide +kernel
theorem dX2_digest_25 : decode cX2_digest 25 = .ok (.aload_n 0, 1) := by decide +kernel
theorem dX2_digest_26 : decode cX2_digest 26 = .ok (.getfield 11, 3) := by decide +kernel
theorem dX2_digest_29 : decode cX2_digest 29 = .ok (.arraylength, 1) := by decide +kernel
theorem dX2_digest_30 : decode cX2_digest 30 = .ok (.if_icmp .ge 49, 3) := by decide +kernel
theorem dX2_digest_33 : decode cX2_digest 33 = .ok (.aload_n 0, 1) := by decide +kernel
theorem dX2_digest_34 : decode cX2_digest 34 = .ok (.lload_n 1, 1) := by decide +kernel
theorem dX2_digest_35 : decode cX2_digest 35 = .ok (.iload_n 3, 1) := by decide +kernel
theorem dX2_digest_36 : decode cX2_digest 36 = .ok (.invokevirtual 174, 3) := by decide +kernel
theorem dX2_digest_39 : decode cX2_digest 39 = .ok (.lstore_n 1, 1) := by decide +kernel
theorem dX2_digest_40 : decode cX2_digest 40 = .ok (.aload_n 0, 1) := by decide +kernel
theorem dX2_digest_41 : decode cX2_digest 41 = .ok (.getfield 11, 3) := by decide +kernel
theorem dX2_digest_44 : decode cX2_digest 44 = .ok (.iload_n 3, 1) := by decide +kernel
theorem dX2_digest_45 : decode cX2_digest 45 = .ok (.aaload, 1) := by decide +kernel
theorem dX2_digest_46 : decode cX2_digest 46 = .ok (.invokevirtual 115, 3) := by decide +kernel
theorem dX2_digest_49 : decode cX2_digest 49 = .ok (.astore 4, 2) := by decide +kernel
theorem dX2_digest_51 : decode cX2_digest 51 = .ok (.aload 4, 2) := by decide +kernel
theorem dX2_digest_53 : decode cX2_digest 53 = .ok (.ifnull 20, 3) := by decide +kernel
theorem dX2_digest_56 : decode cX2_digest 56 = .ok (.lload_n 1, 1) := by decide +kernel
theorem dX2_digest_57 : decode cX2_digest 57 = .ok (.aload 4, 2) := by decide +kernel
theorem dX2_digest_59 : decode cX2_digest 59 = .ok (.invokestatic 177, 3) := by decide +kernel
theorem dX2_digest_62 : decode cX2_digest 62 = .ok (.lstore_n 1, 1) := by decide +kernel
theorem dX2_digest_63 : decode cX2_digest 63 = .ok (.aload 4, 2) := by decide +kernel
theorem dX2_digest_65 : decode cX2_digest 65 = .ok (.invokevirtual 159, 3) := by decide +kernel
theorem dX2_digest_68 : decode cX2_digest 68 = .ok (.astore 4, 2) := by decide +kernel
theorem dX2_digest_70 : decode cX2_digest 70 = .ok (.goto (-19), 3) := by decide +kernel
theorem dX2_digest_73 : decode cX2_digest 73 = .ok (.iinc 3 1, 3) := by decide +kernel
theorem dX2_digest_76 : decode cX2_digest 76 = .ok (.goto (-52), 3) := by decide +kernel
theorem dX2_digest_79 : decode cX2_digest 79 = .ok (.lload_n 1, 1) := by decide +kernel
theorem dX2_digest_80 : decode cX2_digest 80 = .ok (.lreturn, 1) := by decide +kernel
set_option maxRecDepth 20000 in
theorem ggX2_mixRow_X2_sizeOf : GoodIn wsX2_mixRow wsX2_sizeOf := goodIn_ca (goodIn_r _ [5, 6, 7, 8, 4, 9, 10, 11, 12, 13, 14, 15, 16, 17, 18, 19, 20, 21, 22, 23, 24, 25, 26, 27, 28, 29, 30, 31, 32, 33, 34, 35, 36, 37, 38, 152, 153, 154, 155, 156, 157, 158, 159, 160, 161] (by decide +kernel) (by decide +kernel)) (goodIn_sub (fun _ h => List.mem_cons_of_mem _ (List.mem_append_right _ h)) (by decide +kernel))
set_option maxRecDepth 20000 in
theorem gX2_mixRow_X2_sizeOf : GoodIn wsX2_mixRow (wsV RX2 181 RX2 yX2_sizeOf wsX2_sizeOf) := goodIn_app (goodIn_of _ (by decide +kernel)) ggX2_mixRow_X2_sizeOf
set_option maxRecDepth 20000 in
theorem ggX2_mixRow_X2_mix : GoodIn wsX2_mixRow wsX2_mix := goodIn_r _ [41, 42] (by decide +kernel) (by decide +kernel)
set_option maxRecDepth 20000 in
theorem gX2_mixRow_X2_mix : GoodIn wsX2_mixRow (va_wsS RX2 167 yX2_mix wsX2_mix) := goodIn_app (goodIn_of _ (by decide +kernel)) ggX2_mixRow_X2_mix
set_option maxRecDepth 20000 in
theorem ggX2_mixRow_X2_top : GoodIn wsX2_mixRow wsX2_top := goodIn_ca (goodIn_r _ [46, 47, 6, 7, 8, 4, 9, 10, 11, 12, 48, 49, 50, 51, 155, 152, 153, 154, 156, 157, 158, 159, 160, 161] (by decide +kernel) (by decide +kernel)) (goodIn_sub (fun _ h => List.mem_cons_of_mem _ (List.mem_append_right _ h)) (by decide +kernel))
set_option maxRecDepth 20000 in
theorem gX2_mixRow_X2_top : GoodIn wsX2_mixRow (wsV RX2 184 RX2 yX2_top wsX2_top) := goodIn_app (goodIn_of _ (by decide +kernel)) ggX2_mixRow_X2_top
set_option maxRecDepth 20000 in
theorem ggX2_mixRow_X2_height : GoodIn wsX2_mixRow wsX2_height := goodIn_ca (goodIn_r _ [55, 6, 7, 8, 4, 9, 10, 11, 12, 56, 57, 58, 16, 59, 60, 61, 62, 63, 64, 65, 66, 67, 18, 68, 30, 31, 22, 32, 33, 69, 70, 71, 72, 38, 73, 35, 36, 37, 28, 29, 152, 153, 154, 155, 156, 157, 158, 159, 160, 161] (by decide +kernel) (by decide +kernel)) (goodIn_sub (fun _ h => List.mem_cons_of_mem _ (List.mem_append_right _ h)) (by decide +kernel))
set_option maxRecDepth 20000 in
theorem gX2_mixRow_X2_height : GoodIn wsX2_mixRow (wsV RX2 186 RX2 yX2_height wsX2_height) := goodIn_app (goodIn_of _ (by decide +kernel)) ggX2_mixRow_X2_height
set_option maxRecDepth 20000 in
theorem ggX2_mixRow_X2_leastHeight : GoodIn wsX2_mixRow wsX2_leastHeight := goodIn_ca (goodIn_r _ [77, 6, 7, 8, 4, 9, 10, 11, 12, 13, 14, 15, 16, 17, 18, 19, 20, 21, 22, 23, 24, 25, 26, 27, 28, 29, 30, 31, 32, 33, 34, 35, 36, 37, 38, 152, 153, 154, 155, 156, 157, 158, 159, 160, 161] (by decide +kernel) (by decide +kernel)) (goodIn_sub (fun _ h => List.mem_cons_of_mem _ (List.mem_append_right _ h)) (by decide +kernel))
set_option maxRecDepth 20000 in
theorem gX2_mixRow_X2_leastHeight : GoodIn wsX2_mixRow (wsV RX2 189 RX2 yX2_leastHeight wsX2_leastHeight) := goodIn_app (goodIn_of _ (by decide +kernel)) ggX2_mixRow_X2_leastHeight
set_option maxRecDepth 20000 in
theorem ggX2_mixRow_X2_depths : GoodIn wsX2_mixRow wsX2_depths := goodIn_ca (goodIn_r _ [81, 6, 7, 8, 4, 9, 10, 11, 12, 82, 83, 84, 16, 85, 64, 65, 66, 67, 18, 68, 30, 31, 22, 32, 33, 69, 70, 71, 72, 38, 73, 35, 36, 37, 28, 29, 152, 153, 154, 155, 156, 157, 158, 159, 160, 161] (by decide +kernel) (by decide +kernel)) (goodIn_sub (fun _ h => List.mem_cons_of_mem _ (List.mem_append_right _ h)) (by decide +kernel))
set_option maxRecDepth 20000 in
theorem gX2_mixRow_X2_depths : GoodIn wsX2_mixRow (wsV RX2 192 RX2 yX2_depths wsX2_depths) := goodIn_app (goodIn_of _ (by decide +kernel)) ggX2_mixRow_X2_depths
set_option maxRecDepth 20000 in
theorem ggX2_mixRow_X2_leaves : GoodIn wsX2_mixRow wsX2_leaves := goodIn_ca (goodIn_r _ [89, 6, 7, 8, 4, 9, 10, 11, 12, 90, 91, 92, 16, 93, 94, 95, 64, 65, 66, 67, 18, 68, 30, 31, 22, 32, 33, 73, 35, 36, 37, 28, 38, 29, 152, 153, 154, 156, 157, 158, 159, 160, 161, 155] (by decide +kernel) (by decide +kernel)) (goodIn_sub (fun _ h => List.mem_cons_of_mem _ (List.mem_append_right _ h)) (by decide +kernel))
set_option maxRecDepth 20000 in
theorem gX2_mixRow_X2_leaves : GoodIn wsX2_mixRow (wsV RX2 195 RX2 yX2_leaves wsX2_leaves) := goodIn_app (goodIn_of _ (by decide +kernel)) ggX2_mixRow_X2_leaves
set_option maxRecDepth 20000 in
theorem ggX2_mixRow_X2_favourite : GoodIn wsX2_mixRow wsX2_favourite := goodIn_ca (goodIn_r _ [99, 6, 7, 8, 4, 9, 10, 11, 12, 100, 101, 102, 16, 103, 104, 64, 65, 66, 67, 18, 68, 30, 31, 22, 32, 33, 73, 35, 36, 37, 28, 38, 29, 48, 49, 50, 51, 152, 153, 154, 156, 157, 158, 159, 160, 161, 155] (by decide +kernel) (by decide +kernel)) (goodIn_sub (fun _ h => List.mem_cons_of_mem _ (List.mem_append_right _ h)) (by decide +kernel))
set_option maxRecDepth 20000 in
theorem gX2_mixRow_X2_favourite : GoodIn wsX2_mixRow (wsV RX2 198 RX2 yX2_favourite wsX2_favourite) := goodIn_app (goodIn_of _ (by decide +kernel)) ggX2_mixRow_X2_favourite
set_option maxRecDepth 20000 in
theorem ggX2_mixRow_X2_bestToEat : GoodIn wsX2_mixRow wsX2_bestToEat := goodIn_ca (goodIn_r _ [108, 109, 6, 7, 8, 4, 9, 10, 11, 12, 110, 65, 66, 16, 67, 18, 68, 30, 31, 22, 32, 33, 111, 112, 113, 114, 115, 116, 117, 118, 119, 64, 120, 121, 122, 123, 124, 38, 28, 125, 126, 127, 73, 35, 36, 37, 29, 128, 129, 130, 131, 132, 133, 69, 70, 71, 72, 134, 135, 136, 137, 138, 139, 140, 141, 142, 143, 144, 145, 146, 147, 148, 149, 150, 82, 83, 84, 85, 151, 48, 49, 50, 51, 152, 153, 154, 155, 156, 157, 158, 159, 160, 161] (by decide +kernel) (by decide +kernel)) (goodIn_sub (fun _ h => List.mem_cons_of_mem _ (List.mem_append_right _ h)) (by decide +kernel))
set_option maxRecDepth 20000 in
theorem gX2_mixRow_X2_bestToEat : GoodIn wsX2_mixRow (wsV RX2 201 RX2 yX2_bestToEat wsX2_bestToEat) := goodIn_app (goodIn_of _ (by decide +kernel)) ggX2_mixRow_X2_bestToEat
theorem dX2_mixRow_0 : decode cX2_mixRow 0 = .ok (.lload_n 1, 1) := by decide +kernel
theorem dX2_mixRow_1 : decode cX2_mixRow 1 = .ok (.lstore 4, 2) := by decide +kernel
theorem dX2_mixRow_3 : decode cX2_mixRow 3 = .ok (.lload 4, 2) := by decide +kernel
theorem dX2_mixRow_5 : decode cX2_mixRow 5 = .ok (.aload_n 0, 1) := by decide +kernel
theorem dX2_mixRow_6 : decode cX2_mixRow 6 = .ok (.iload_n 3, 1) := by decide +kernel
theorem dX2_mixRow_7 : decode cX2_mixRow 7 = .ok (.invokevirtual 181, 3) := by decide +kernel
theorem dX2_mixRow_10 : decode cX2_mixRow 10 = .ok (.invokestatic 167, 3) := by decide +kernel
theorem dX2_mixRow_13 : decode cX2_mixRow 13 = .ok (.lstore 4, 2) := by decide +kernel
theorem dX2_mixRow_15 : decode cX2_mixRow 15 = .ok (.lload 4, 2) := by decide +kernel
theorem dX2_mixRow_17 : decode cX2_mixRow 17 = .ok (.aload_n 0, 1) := by decide +kernel
theorem dX2_mixRow_18 : decode cX2_mixRow 18 = .ok (.iload_n 3, 1) := by decide +kernel
theorem dX2_mixRow_19 : decode cX2_mixRow 19 = .ok (.invokevirtual 184, 3) := by decide +kernel
theorem dX2_mixRow_22 : decode cX2_mixRow 22 = .ok (.invokestatic 167, 3) := by decide +kernel
theorem dX2_mixRow_25 : decode cX2_mixRow 25 = .ok (.lstore 4, 2) := by decide +kernel
theorem dX2_mixRow_27 : decode cX2_mixRow 27 = .ok (.lload 4, 2) := by decide +kernel
theorem dX2_mixRow_29 : decode cX2_mixRow 29 = .ok (.aload_n 0, 1) := by decide +kernel
theorem dX2_mixRow_30 : decode cX2_mixRow 30 = .ok (.iload_n 3, 1) := by decide +kernel
theorem dX2_mixRow_31 : decode cX2_mixRow 31 = .ok (.invokevirtual 186, 3) := by decide +kernel
theorem dX2_mixRow_34 : decode cX2_mixRow 34 = .ok (.invokestatic 167, 3) := by decide +kernel
theorem dX2_mixRow_37 : decode cX2_mixRow 37 = .ok (.lstore 4, 2) := by decide +kernel
theorem dX2_mixRow_39 : decode cX2_mixRow 39 = .ok (.lload 4, 2) := by decide +kernel
theorem dX2_mixRow_41 : decode cX2_mixRow 41 = .ok (.aload_n 0, 1) := by decide +kernel
theorem dX2_mixRow_42 : decode cX2_mixRow 42 = .ok (.iload_n 3, 1) := by decide +kernel
theorem dX2_mixRow_43 : decode cX2_mixRow 43 = .ok (.invokevirtual 189, 3) := by decide +kernel
theorem dX2_mixRow_46 : decode cX2_mixRow 46 = .ok (.invokestatic 167, 3) := by decide +kernel
theorem dX2_mixRow_49 : decode cX2_mixRow 49 = .ok (.lstore 4, 2) := by decide +kernel
theorem dX2_mixRow_51 : decode cX2_mixRow 51 = .ok (.lload 4, 2) := by decide +kernel
theorem dX2_mixRow_53 : decode cX2_mixRow 53 = .ok (.aload_n 0, 1) := by decide +kernel
theorem dX2_mixRow_54 : decode cX2_mixRow 54 = .ok (.iload_n 3, 1) := by decide +kernel
theorem dX2_mixRow_55 : decode cX2_mixRow 55 = .ok (.invokevirtual 192, 3) := by decide +kernel
theorem dX2_mixRow_58 : decode cX2_mixRow 58 = .ok (.invokestatic 167, 3) := by decide +kernel
theorem dX2_mixRow_61 : decode cX2_mixRow 61 = .ok (.lstore 4, 2) := by decide +kernel
theorem dX2_mixRow_63 : decode cX2_mixRow 63 = .ok (.lload 4, 2) := by decide +kernel
theorem dX2_mixRow_65 : decode cX2_mixRow 65 = .ok (.aload_n 0, 1) := by decide +kernel
theorem dX2_mixRow_66 : decode cX2_mixRow 66 = .ok (.iload_n 3, 1) := by decide +kernel
theorem dX2_mixRow_67 : decode cX2_mixRow 67 = .ok (.invokevirtual 195, 3) := by decide +kernel
theorem dX2_mixRow_70 : decode cX2_mixRow 70 = .ok (.invokestatic 167, 3) := by decide +kernel
theorem dX2_mixRow_73 : decode cX2_mixRow 73 = .ok (.lstore 4, 2) := by decide +kernel
theorem dX2_mixRow_75 : decode cX2_mixRow 75 = .ok (.lload 4, 2) := by decide +kernel
theorem dX2_mixRow_77 : decode cX2_mixRow 77 = .ok (.aload_n 0, 1) := by decide +kernel
theorem dX2_mixRow_78 : decode cX2_mixRow 78 = .ok (.iload_n 3, 1) := by decide +kernel
theorem dX2_mixRow_79 : decode cX2_mixRow 79 = .ok (.invokevirtual 198, 3) := by decide +kernel
theorem dX2_mixRow_82 : decode cX2_mixRow 82 = .ok (.invokestatic 167, 3) := by decide +kernel
theorem dX2_mixRow_85 : decode cX2_mixRow 85 = .ok (.lstore 4, 2) := by decide +kernel
theorem dX2_mixRow_87 : decode cX2_mixRow 87 = .ok (.lload 4, 2) := by decide +kernel
theorem dX2_mixRow_89 : decode cX2_mixRow 89 = .ok (.aload_n 0, 1) := by decide +kernel
theorem dX2_mixRow_90 : decode cX2_mixRow 90 = .ok (.iload_n 3, 1) := by decide +kernel
theorem dX2_mixRow_91 : decode cX2_mixRow 91 = .ok (.invokevirtual 201, 3) := by decide +kernel
theorem dX2_mixRow_94 : decode cX2_mixRow 94 = .ok (.invokestatic 167, 3) := by decide +kernel
theorem dX2_mixRow_97 : decode cX2_mixRow 97 = .ok (.lreturn, 1) := by decide +kernel
set_option maxRecDepth 20000 in
theorem ggX2_mixApple_X2_mix : GoodIn wsX2_mixApple wsX2_mix := goodIn_r _ [9, 10] (by decide +kernel) (by decide +kernel)
set_option maxRecDepth 20000 in
theorem gX2_mixApple_X2_mix : GoodIn wsX2_mixApple (va_wsS RX2 167 yX2_mix wsX2_mix) := goodIn_app (goodIn_of _ (by decide +kernel)) ggX2_mixApple_X2_mix
set_option maxRecDepth 20000 in
theorem ggX2_mixApple_X0_depth : GoodIn wsX2_mixApple wsX0_depth := goodIn_r _ [15, 16, 38, 39, 40, 41, 42, 43] (by decide +kernel) (by decide +kernel)
set_option maxRecDepth 20000 in
theorem gX2_mixApple_X0_depth : GoodIn wsX2_mixApple (wsV RX2 140 RX0 yX0_depth wsX0_depth) := goodIn_app (goodIn_of _ (by decide +kernel)) ggX2_mixApple_X0_depth
set_option maxRecDepth 20000 in
theorem ggX2_mixApple_X2_sizeOrNone : GoodIn wsX2_mixApple wsX2_sizeOrNone := goodIn_r _ [19, 1, 38, 39, 40, 41, 42, 43] (by decide +kernel) (by decide +kernel)
set_option maxRecDepth 20000 in
theorem gX2_mixApple_X2_sizeOrNone : GoodIn wsX2_mixApple (va_wsS RX2 105 yX2_sizeOrNone wsX2_sizeOrNone) := goodIn_app (goodIn_of _ (by decide +kernel)) ggX2_mixApple_X2_sizeOrNone
set_option maxRecDepth 20000 in
theorem ggX2_mixApple_X0_countUnder : GoodIn wsX2_mixApple wsX0_countUnder := goodIn_r _ [23, 24, 25, 26, 14, 27, 28, 29, 30, 31, 32, 33, 34, 35, 36, 37, 16, 38, 39, 40, 41, 42, 43] (by decide +kernel) (by decide +kernel)
set_option maxRecDepth 20000 in
theorem gX2_mixApple_X0_countUnder : GoodIn wsX2_mixApple (wsV RX2 146 RX0 yX0_countUnder wsX0_countUnder) := goodIn_app (goodIn_of _ (by decide +kernel)) ggX2_mixApple_X0_countUnder
theorem dX2_mixApple_0 : decode cX2_mixApple 0 = .ok (.lload_n 0, 1) := by decide +kernel
theorem dX2_mixApple_1 : decode cX2_mixApple 1 = .ok (.lstore_n 3, 1) := by decide +kernel
theorem dX2_mixApple_2 : decode cX2_mixApple 2 = .ok (.lload_n 3, 1) := by decide +kernel
theorem dX2_mixApple_3 : decode cX2_mixApple 3 = .ok (.aload_n 2, 1) := by decide +kernel
theorem dX2_mixApple_4 : decode cX2_mixApple 4 = .ok (.getfield 130, 3) := by decide +kernel
theorem dX2_mixApple_7 : decode cX2_mixApple 7 = .ok (.invokestatic 167, 3) := by decide +kernel
theorem dX2_mixApple_10 : decode cX2_mixApple 10 = .ok (.lstore_n 3, 1) := by decide +kernel
theorem dX2_mixApple_11 : decode cX2_mixApple 11 = .ok (.lload_n 3, 1) := by decide +kernel
theorem dX2_mixApple_12 : decode cX2_mixApple 12 = .ok (.aload_n 2, 1) := by decide +kernel
theorem dX2_mixApple_13 : decode cX2_mixApple 13 = .ok (.invokevirtual 140, 3) := by decide +kernel
theorem dX2_mixApple_16 : decode cX2_mixApple 16 = .ok (.invokestatic 167, 3) := by decide +kernel
theorem dX2_mixApple_19 : decode cX2_mixApple 19 = .ok (.lstore_n 3, 1) := by decide +kernel
theorem dX2_mixApple_20 : decode cX2_mixApple 20 = .ok (.lload_n 3, 1) := by decide +kernel
theorem dX2_mixApple_21 : decode cX2_mixApple 21 = .ok (.aload_n 2, 1) := by decide +kernel
theorem dX2_mixApple_22 : decode cX2_mixApple 22 = .ok (.getfield 143, 3) := by decide +kernel
theorem dX2_mixApple_25 : decode cX2_mixApple 25 = .ok (.invokestatic 105, 3) := by decide +kernel
theorem dX2_mixApple_28 : decode cX2_mixApple 28 = .ok (.invokestatic 167, 3) := by decide +kernel
theorem dX2_mixApple_31 : decode cX2_mixApple 31 = .ok (.lstore_n 3, 1) := by decide +kernel
theorem dX2_mixApple_32 : decode cX2_mixApple 32 = .ok (.lload_n 3, 1) := by decide +kernel
theorem dX2_mixApple_33 : decode cX2_mixApple 33 = .ok (.aload_n 2, 1) := by decide +kernel
theorem dX2_mixApple_34 : decode cX2_mixApple 34 = .ok (.getfield 66, 3) := by decide +kernel
theorem dX2_mixApple_37 : decode cX2_mixApple 37 = .ok (.invokestatic 105, 3) := by decide +kernel
theorem dX2_mixApple_40 : decode cX2_mixApple 40 = .ok (.invokestatic 167, 3) := by decide +kernel
theorem dX2_mixApple_43 : decode cX2_mixApple 43 = .ok (.lstore_n 3, 1) := by decide +kernel
theorem dX2_mixApple_44 : decode cX2_mixApple 44 = .ok (.lload_n 3, 1) := by decide +kernel
theorem dX2_mixApple_45 : decode cX2_mixApple 45 = .ok (.aload_n 2, 1) := by decide +kernel
theorem dX2_mixApple_46 : decode cX2_mixApple 46 = .ok (.getfield 73, 3) := by decide +kernel
theorem dX2_mixApple_49 : decode cX2_mixApple 49 = .ok (.invokestatic 105, 3) := by decide +kernel
theorem dX2_mixApple_52 : decode cX2_mixApple 52 = .ok (.invokestatic 167, 3) := by decide +kernel
theorem dX2_mixApple_55 : decode cX2_mixApple 55 = .ok (.lstore_n 3, 1) := by decide +kernel
theorem dX2_mixApple_56 : decode cX2_mixApple 56 = .ok (.lload_n 3, 1) := by decide +kernel
theorem dX2_mixApple_57 : decode cX2_mixApple 57 = .ok (.aload_n 2, 1) := by decide +kernel
theorem dX2_mixApple_58 : decode cX2_mixApple 58 = .ok (.invokevirtual 146, 3) := by decide +kernel
theorem dX2_mixApple_61 : decode cX2_mixApple 61 = .ok (.invokestatic 167, 3) := by decide +kernel
theorem dX2_mixApple_64 : decode cX2_mixApple 64 = .ok (.lstore_n 3, 1) := by decide +kernel
theorem dX2_mixApple_65 : decode cX2_mixApple 65 = .ok (.lload_n 3, 1) := by decide +kernel
theorem dX2_mixApple_66 : decode cX2_mixApple 66 = .ok (.aload_n 2, 1) := by decide +kernel
theorem dX2_mixApple_67 : decode cX2_mixApple 67 = .ok (.getfield 62, 3) := by decide +kernel
theorem dX2_mixApple_70 : decode cX2_mixApple 70 = .ok (.invokestatic 167, 3) := by decide +kernel
theorem dX2_mixApple_73 : decode cX2_mixApple 73 = .ok (.lreturn, 1) := by decide +kernel
theorem dX2_mix_0 : decode cX2_mix 0 = .ok (.lload_n 0, 1) := by decide +kernel
theorem dX2_mix_1 : decode cX2_mix 1 = .ok (.ldc2_w 204, 3) := by decide +kernel
theorem dX2_mix_4 : decode cX2_mix 4 = .ok (.lmul, 1) := by decide +kernel
theorem dX2_mix_5 : decode cX2_mix 5 = .ok (.iload_n 2, 1) := by decide +kernel
theorem dX2_mix_6 : decode cX2_mix 6 = .ok (.i2l, 1) := by decide +kernel
theorem dX2_mix_7 : decode cX2_mix 7 = .ok (.ladd, 1) := by decide +kernel
theorem dX2_mix_8 : decode cX2_mix 8 = .ok (.lreturn, 1) := by decide +kernel
theorem dX2_treeOf_0 : decode cX2_treeOf 0 = .ok (.iload_n 1, 1) := by decide +kernel
theorem dX2_treeOf_1 : decode cX2_treeOf 1 = .ok (.ifCond .lt 12, 3) := by decide +kernel
theorem dX2_treeOf_4 : decode cX2_treeOf 4 = .ok (.iload_n 1, 1) := by decide +kernel
theorem dX2_treeOf_5 : decode cX2_treeOf 5 = .ok (.aload_n 0, 1) := by decide +kernel
theorem dX2_treeOf_6 : decode cX2_treeOf 6 = .ok (.getfield 11, 3) := by decide +kernel
theorem dX2_treeOf_9 : decode cX2_treeOf 9 = .ok (.arraylength, 1) := by decide +kernel
theorem dX2_treeOf_10 : decode cX2_treeOf 10 = .ok (.if_icmp .lt 13, 3) := by decide +kernel
theorem dX2_treeOf_13 : decode cX2_treeOf 13 = .ok (.new 125, 3) := by decide +kernel
theorem dX2_treeOf_16 : decode cX2_treeOf 16 = .ok (.dup, 1) := by decide +kernel
theorem dX2_treeOf_17 : decode cX2_treeOf 17 = .ok (.ldc 206, 2) := by decide +kernel
theorem dX2_treeOf_19 : decode cX2_treeOf 19 = .ok (.invokespecial 129, 3) := by decide +kernel
theorem dX2_treeOf_22 : decode cX2_treeOf 22 = .ok (.athrow, 1) := by decide +kernel
theorem dX2_treeOf_23 : decode cX2_treeOf 23 = .ok (.aload_n 0, 1) := by decide +kernel
theorem dX2_treeOf_24 : decode cX2_treeOf 24 = .ok (.getfield 11, 3) := by decide +kernel
theorem dX2_treeOf_27 : decode cX2_treeOf 27 = .ok (.iload_n 1, 1) := by decide +kernel
theorem dX2_treeOf_28 : decode cX2_treeOf 28 = .ok (.aaload, 1) := by decide +kernel
theorem dX2_treeOf_29 : decode cX2_treeOf 29 = .ok (.areturn, 1) := by decide +kernel
theorem dX2_checkSize_0 : decode cX2_checkSize 0 = .ok (.iload_n 0, 1) := by decide +kernel
theorem dX2_checkSize_1 : decode cX2_checkSize 1 = .ok (.ifCond .lt 10, 3) := by decide +kernel
theorem dX2_checkSize_4 : decode cX2_checkSize 4 = .ok (.iload_n 0, 1) := by decide +kernel
theorem dX2_checkSize_5 : decode cX2_checkSize 5 = .ok (.sipush 999, 3) := by decide +kernel
theorem dX2_checkSize_8 : decode cX2_checkSize 8 = .ok (.if_icmp .le 13, 3) := by decide +kernel
theorem dX2_checkSize_11 : decode cX2_checkSize 11 = .ok (.new 208, 3) := by decide +kernel
theorem dX2_checkSize_14 : decode cX2_checkSize 14 = .ok (.dup, 1) := by decide +kernel
theorem dX2_checkSize_15 : decode cX2_checkSize 15 = .ok (.ldc 210, 2) := by decide +kernel
theorem dX2_checkSize_17 : decode cX2_checkSize 17 = .ok (.invokespecial 212, 3) := by decide +kernel
theorem dX2_checkSize_20 : decode cX2_checkSize 20 = .ok (.athrow, 1) := by decide +kernel
theorem dX2_checkSize_21 : decode cX2_checkSize 21 = .ok (.return_, 1) := by decide +kernel
set_option maxRecDepth 20000 in
theorem ggX2_appleOf_X1_find : GoodIn wsX2_appleOf wsX1_find := goodIn_r _ [7, 8, 9, 10, 11, 6, 12, 13, 14, 15, 16, 17, 18, 19, 20, 21, 22, 23, 24, 25, 26, 27, 28] (by decide +kernel) (by decide +kernel)
set_option maxRecDepth 20000 in
theorem gX2_appleOf_X1_find : GoodIn wsX2_appleOf (wsV RX2 39 RX1 yX1_find wsX1_find) := goodIn_app (goodIn_of _ (by decide +kernel)) ggX2_appleOf_X1_find
theorem dX2_appleOf_0 : decode cX2_appleOf 0 = .ok (.aload_n 0, 1) := by decide +kernel
theorem dX2_appleOf_1 : decode cX2_appleOf 1 = .ok (.iload_n 1, 1) := by decide +kernel
theorem dX2_appleOf_2 : decode cX2_appleOf 2 = .ok (.invokevirtual 39, 3) := by decide +kernel
theorem dX2_appleOf_5 : decode cX2_appleOf 5 = .ok (.astore_n 2, 1) := by decide +kernel
theorem dX2_appleOf_6 : decode cX2_appleOf 6 = .ok (.aload_n 2, 1) := by decide +kernel
theorem dX2_appleOf_7 : decode cX2_appleOf 7 = .ok (.ifnonnull 13, 3) := by decide +kernel
theorem dX2_appleOf_10 : decode cX2_appleOf 10 = .ok (.new 32, 3) := by decide +kernel
theorem dX2_appleOf_13 : decode cX2_appleOf 13 = .ok (.dup, 1) := by decide +kernel
theorem dX2_appleOf_14 : decode cX2_appleOf 14 = .ok (.ldc 213, 2) := by decide +kernel
theorem dX2_appleOf_16 : decode cX2_appleOf 16 = .ok (.invokespecial 36, 3) := by decide +kernel
theorem dX2_appleOf_19 : decode cX2_appleOf 19 = .ok (.athrow, 1) := by decide +kernel
theorem dX2_appleOf_20 : decode cX2_appleOf 20 = .ok (.aload_n 2, 1) := by decide +kernel
theorem dX2_appleOf_21 : decode cX2_appleOf 21 = .ok (.areturn, 1) := by decide +kernel
theorem dX2_sizeOrNone_0 : decode cX2_sizeOrNone 0 = .ok (.aload_n 0, 1) := by decide +kernel
theorem dX2_sizeOrNone_1 : decode cX2_sizeOrNone 1 = .ok (.ifnonnull 7, 3) := by decide +kernel
theorem dX2_sizeOrNone_4 : decode cX2_sizeOrNone 4 = .ok (.iconst (-1), 1) := by decide +kernel
theorem dX2_sizeOrNone_5 : decode cX2_sizeOrNone 5 = .ok (.goto 7, 3) := by decide +kernel
theorem dX2_sizeOrNone_8 : decode cX2_sizeOrNone 8 = .ok (.aload_n 0, 1) := by decide +kernel
theorem dX2_sizeOrNone_9 : decode cX2_sizeOrNone 9 = .ok (.getfield 130, 3) := by decide +kernel
theorem dX2_sizeOrNone_12 : decode cX2_sizeOrNone 12 = .ok (.ireturn, 1) := by decide +kernel
set_option maxRecDepth 20000 in
theorem ggX2_mayJoin_X1_last : GoodIn wsX2_mayJoin wsX1_last := goodIn_r _ [6, 7, 8, 9, 10, 11, 12, 13, 29, 23, 24, 25, 26, 27, 28] (by decide +kernel) (by decide +kernel)
set_option maxRecDepth 20000 in
theorem gX2_mayJoin_X1_last : GoodIn wsX2_mayJoin (wsV RX2 119 RX1 yX1_last wsX1_last) := goodIn_app (goodIn_of _ (by decide +kernel)) ggX2_mayJoin_X1_last
set_option maxRecDepth 20000 in
theorem ggX2_mayJoin_X1_first : GoodIn wsX2_mayJoin wsX1_first := goodIn_r _ [17, 7, 18, 19, 20, 11, 21, 22, 29, 23, 24, 25, 26, 27, 28] (by decide +kernel) (by decide +kernel)
set_option maxRecDepth 20000 in
theorem gX2_mayJoin_X1_first : GoodIn wsX2_mayJoin (wsV RX2 115 RX1 yX1_first wsX1_first) := goodIn_app (goodIn_of _ (by decide +kernel)) ggX2_mayJoin_X1_first
theorem dX2_mayJoin_0 : decode cX2_mayJoin 0 = .ok (.aload_n 0, 1) := by decide +kernel
theorem dX2_mayJoin_1 : decode cX2_mayJoin 1 = .ok (.aload_n 1, 1) := by decide +kernel
theorem dX2_mayJoin_2 : decode cX2_mayJoin 2 = .ok (.if_acmp .ne 5, 3) := by decide +kernel
theorem dX2_mayJoin_5 : decode cX2_mayJoin 5 = .ok (.iconst 0, 1) := by decide +kernel
theorem dX2_mayJoin_6 : decode cX2_mayJoin 6 = .ok (.ireturn, 1) := by decide +kernel
theorem dX2_mayJoin_7 : decode cX2_mayJoin 7 = .ok (.aload_n 0, 1) := by decide +kernel
theorem dX2_mayJoin_8 : decode cX2_mayJoin 8 = .ok (.invokevirtual 119, 3) := by decide +kernel
theorem dX2_mayJoin_11 : decode cX2_mayJoin 11 = .ok (.astore_n 2, 1) := by decide +kernel
theorem dX2_mayJoin_12 : decode cX2_mayJoin 12 = .ok (.aload_n 1, 1) := by decide +kernel
theorem dX2_mayJoin_13 : decode cX2_mayJoin 13 = .ok (.invokevirtual 115, 3) := by decide +kernel
theorem dX2_mayJoin_16 : decode cX2_mayJoin 16 = .ok (.astore_n 3, 1) := by decide +kernel
theorem dX2_mayJoin_17 : decode cX2_mayJoin 17 = .ok (.aload_n 2, 1) := by decide +kernel
theorem dX2_mayJoin_18 : decode cX2_mayJoin 18 = .ok (.ifnull 18, 3) := by decide +kernel
theorem dX2_mayJoin_21 : decode cX2_mayJoin 21 = .ok (.aload_n 3, 1) := by decide +kernel
theorem dX2_mayJoin_22 : decode cX2_mayJoin 22 = .ok (.ifnull 14, 3) := by decide +kernel
theorem dX2_mayJoin_25 : decode cX2_mayJoin 25 = .ok (.aload_n 2, 1) := by decide +kernel
theorem dX2_mayJoin_26 : decode cX2_mayJoin 26 = .ok (.getfield 130, 3) := by decide +kernel
theorem dX2_mayJoin_29 : decode cX2_mayJoin 29 = .ok (.aload_n 3, 1) := by decide +kernel
theorem dX2_mayJoin_30 : decode cX2_mayJoin 30 = .ok (.getfield 130, 3) := by decide +kernel
theorem dX2_mayJoin_33 : decode cX2_mayJoin 33 = .ok (.if_icmp .ge 7, 3) := by decide +kernel
theorem dX2_mayJoin_36 : decode cX2_mayJoin 36 = .ok (.iconst 1, 1) := by decide +kernel
theorem dX2_mayJoin_37 : decode cX2_mayJoin 37 = .ok (.goto 4, 3) := by decide +kernel
theorem dX2_mayJoin_40 : decode cX2_mayJoin 40 = .ok (.iconst 0, 1) := by decide +kernel
theorem dX2_mayJoin_41 : decode cX2_mayJoin 41 = .ok (.ireturn, 1) := by decide +kernel
set_option maxRecDepth 20000 in
theorem ggX2_bringUp_X1_bringUp : GoodIn wsX2_bringUp wsX1_bringUp := goodIn_r _ [6, 7, 8, 9, 10, 11, 12, 13, 14, 15, 16, 17, 18, 19, 20, 21, 22, 23, 24, 25, 26, 27, 28, 29, 30, 31, 32, 33, 37, 38, 39, 40, 41, 42, 43] (by decide +kernel) (by decide +kernel)
set_option maxRecDepth 20000 in
theorem gX2_bringUp_X1_bringUp : GoodIn wsX2_bringUp (wsV RX2 215 RX1 yX1_bringUp wsX1_bringUp) := goodIn_app (goodIn_of _ (by decide +kernel)) ggX2_bringUp_X1_bringUp
theorem dX2_bringUp_0 : decode cX2_bringUp 0 = .ok (.aload_n 1, 1) := by decide +kernel
theorem dX2_bringUp_1 : decode cX2_bringUp 1 = .ok (.aload_n 2, 1) := by decide +kernel
theorem dX2_bringUp_2 : decode cX2_bringUp 2 = .ok (.invokevirtual 215, 3) := by decide +kernel
theorem dX2_bringUp_5 : decode cX2_bringUp 5 = .ok (.istore_n 3, 1) := by decide +kernel
theorem dX2_bringUp_6 : decode cX2_bringUp 6 = .ok (.aload_n 0, 1) := by decide +kernel
theorem dX2_bringUp_7 : decode cX2_bringUp 7 = .ok (.dup, 1) := by decide +kernel
theorem dX2_bringUp_8 : decode cX2_bringUp 8 = .ok (.getfield 102, 3) := by decide +kernel
theorem dX2_bringUp_11 : decode cX2_bringUp 11 = .ok (.iload_n 3, 1) := by decide +kernel
theorem dX2_bringUp_12 : decode cX2_bringUp 12 = .ok (.iadd, 1) := by decide +kernel
theorem dX2_bringUp_13 : decode cX2_bringUp 13 = .ok (.putfield 102, 3) := by decide +kernel
theorem dX2_bringUp_16 : decode cX2_bringUp 16 = .ok (.iload_n 3, 1) := by decide +kernel
theorem dX2_bringUp_17 : decode cX2_bringUp 17 = .ok (.ireturn, 1) := by decide +kernel
set_option maxRecDepth 20000 in
theorem ggX2_append_X1_last : GoodIn wsX2_append wsX1_last := goodIn_r _ [5, 6, 7, 8, 9, 10, 11, 12, 52, 53, 54, 55, 56, 57, 58] (by decide +kernel) (by decide +kernel)
set_option maxRecDepth 20000 in
theorem gX2_append_X1_last : GoodIn wsX2_append (wsV RX2 119 RX1 yX1_last wsX1_last) := goodIn_app (goodIn_of _ (by decide +kernel)) ggX2_append_X1_last
set_option maxRecDepth 20000 in
theorem ggX2_append_X1_setTop : GoodIn wsX2_append wsX1_setTop := goodIn_r _ [16, 6, 17, 52, 53, 54, 55, 56, 57, 58] (by decide +kernel) (by decide +kernel)
set_option maxRecDepth 20000 in
theorem gX2_append_X1_setTop : GoodIn wsX2_append (wsV RX2 70 RX1 yX1_setTop wsX1_setTop) := goodIn_app (goodIn_of _ (by decide +kernel)) ggX2_append_X1_setTop
set_option maxRecDepth 20000 in
theorem ggX2_append_X2_bringUp : GoodIn wsX2_append wsX2_bringUp := goodIn_r _ [22, 23, 24, 25, 26, 4, 27, 17, 6, 28, 29, 30, 10, 31, 32, 33, 34, 35, 36, 37, 38, 39, 40, 41, 12, 42, 43, 44, 45, 46, 47, 48, 49, 50, 59, 60, 61, 53, 54, 55, 56, 57, 58, 52] (by decide +kernel) (by decide +kernel)
set_option maxRecDepth 20000 in
theorem gX2_append_X2_bringUp : GoodIn wsX2_append (wsV RX2 54 RX2 yX2_bringUp wsX2_bringUp) := goodIn_app (goodIn_of _ (by decide +kernel)) ggX2_append_X2_bringUp
set_option maxRecDepth 20000 in
theorem ggX2_append_X0_hangRight : GoodIn wsX2_append wsX0_hangRight := goodIn_r _ [50, 12, 32, 53, 54, 55, 56, 57, 58] (by decide +kernel) (by decide +kernel)
set_option maxRecDepth 20000 in
theorem gX2_append_X0_hangRight : GoodIn wsX2_append (wsV RX2 90 RX0 yX0_hangRight wsX0_hangRight) := goodIn_app (goodIn_of _ (by decide +kernel)) ggX2_append_X0_hangRight
theorem dX2_append_0 : decode cX2_append 0 = .ok (.aload_n 1, 1) := by decide +kernel
theorem dX2_append_1 : decode cX2_append 1 = .ok (.invokevirtual 119, 3) := by decide +kernel
theorem dX2_append_4 : decode cX2_append 4 = .ok (.astore_n 3, 1) := by decide +kernel
theorem dX2_append_5 : decode cX2_append 5 = .ok (.aload_n 3, 1) := by decide +kernel
theorem dX2_append_6 : decode cX2_append 6 = .ok (.ifnonnull 11, 3) := by decide +kernel
theorem dX2_append_9 : decode cX2_append 9 = .ok (.aload_n 1, 1) := by decide +kernel
theorem dX2_append_10 : decode cX2_append 10 = .ok (.aload_n 2, 1) := by decide +kernel
theorem dX2_append_11 : decode cX2_append 11 = .ok (.invokevirtual 70, 3) := by decide +kernel
theorem dX2_append_14 : decode cX2_append 14 = .ok (.goto 15, 3) := by decide +kernel
theorem dX2_append_17 : decode cX2_append 17 = .ok (.aload_n 0, 1) := by decide +kernel
theorem dX2_append_18 : decode cX2_append 18 = .ok (.aload_n 1, 1) := by decide +kernel
theorem dX2_append_19 : decode cX2_append 19 = .ok (.aload_n 3, 1) := by decide +kernel
theorem dX2_append_20 : decode cX2_append 20 = .ok (.invokevirtual 54, 3) := by decide +kernel
theorem dX2_append_23 : decode cX2_append 23 = .ok (.pop, 1) := by decide +kernel
theorem dX2_append_24 : decode cX2_append 24 = .ok (.aload_n 3, 1) := by decide +kernel
theorem dX2_append_25 : decode cX2_append 25 = .ok (.aload_n 2, 1) := by decide +kernel
theorem dX2_append_26 : decode cX2_append 26 = .ok (.invokevirtual 90, 3) := by decide +kernel
theorem dX2_append_29 : decode cX2_append 29 = .ok (.return_, 1) := by decide +kernel
set_option maxRecDepth 20000 in
theorem ggX2_tryEating_X1_standInFor : GoodIn wsX2_tryEating wsX1_standInFor := goodIn_r _ [7, 8, 9, 10, 11, 6, 12, 13, 14, 15, 16, 17, 18, 19, 20, 21, 22, 23, 24, 25, 26, 27, 28, 29, 30, 31, 32, 33, 34, 70, 64, 65, 66, 67, 68, 69] (by decide +kernel) (by decide +kernel)
set_option maxRecDepth 20000 in
theorem gX2_tryEating_X1_standInFor : GoodIn wsX2_tryEating (wsV RX2 217 RX1 yX1_standInFor wsX1_standInFor) := goodIn_app (goodIn_of _ (by decide +kernel)) ggX2_tryEating_X1_standInFor
set_option maxRecDepth 20000 in
theorem ggX2_tryEating_X1_bringUp : GoodIn wsX2_tryEating wsX1_bringUp := goodIn_r _ [38, 39, 8, 40, 41, 42, 16, 43, 24, 44, 45, 46, 47, 18, 48, 49, 50, 51, 25, 52, 53, 54, 55, 56, 57, 58, 59, 60, 64, 65, 66, 67, 68, 69, 70] (by decide +kernel) (by decide +kernel)
set_option maxRecDepth 20000 in
theorem gX2_tryEating_X1_bringUp : GoodIn wsX2_tryEating (wsV RX2 215 RX1 yX1_bringUp wsX1_bringUp) := goodIn_app (goodIn_of _ (by decide +kernel)) ggX2_tryEating_X1_bringUp
theorem dX2_tryEating_0 : decode cX2_tryEating 0 = .ok (.aload_n 0, 1) := by decide +kernel
theorem dX2_tryEating_1 : decode cX2_tryEating 1 = .ok (.getfield 16, 3) := by decide +kernel
theorem dX2_tryEating_4 : decode cX2_tryEating 4 = .ok (.aload_n 1, 1) := by decide +kernel
theorem dX2_tryEating_5 : decode cX2_tryEating 5 = .ok (.invokevirtual 217, 3) := by decide +kernel
theorem dX2_tryEating_8 : decode cX2_tryEating 8 = .ok (.aload_n 2, 1) := by decide +kernel
theorem dX2_tryEating_9 : decode cX2_tryEating 9 = .ok (.getfield 221, 3) := by decide +kernel
theorem dX2_tryEating_12 : decode cX2_tryEating 12 = .ok (.astore_n 3, 1) := by decide +kernel
theorem dX2_tryEating_13 : decode cX2_tryEating 13 = .ok (.aload_n 3, 1) := by decide +kernel
theorem dX2_tryEating_14 : decode cX2_tryEating 14 = .ok (.ifnull 12, 3) := by decide +kernel
theorem dX2_tryEating_17 : decode cX2_tryEating 17 = .ok (.aload_n 0, 1) := by decide +kernel
theorem dX2_tryEating_18 : decode cX2_tryEating 18 = .ok (.getfield 16, 3) := by decide +kernel
theorem dX2_tryEating_21 : decode cX2_tryEating 21 = .ok (.aload_n 3, 1) := by decide +kernel
theorem dX2_tryEating_22 : decode cX2_tryEating 22 = .ok (.invokevirtual 215, 3) := by decide +kernel
theorem dX2_tryEating_25 : decode cX2_tryEating 25 = .ok (.pop, 1) := by decide +kernel
theorem dX2_tryEating_26 : decode cX2_tryEating 26 = .ok (.return_, 1) := by decide +kernel
end
section
/-! EXCEPTIONS over the world: what a throw needs of the machine, contracts of methods that may throw, their calls and ends -/
/-- the texts of the class's exceptions, by their places in its pool -/
def xstr : List (Nat × String) := [(206, "no such row"), (210, "the size is not 0 to 999"), (213, "no apple of this size in the row"), (127, "no such place in the row"), (34, "the orchard is full"), (43, "there is an apple of this size in the row"), (80, "both rows are the same"), (85, "the other row is not empty"), (100, "the rows can't be joined")]
def xnb (X : String) : List Cond := [.declares (Bundle.initS "java/lang/RuntimeException"), .declares (Bundle.initS "java/lang/Exception"), .declares (Bundle.initS "java/lang/Throwable"), .castable X X]
def xdl : List String := ["java/lang/RuntimeException", "java/lang/Exception", "java/lang/Throwable"]
theorem xg1 : (vx_atS RX2 129 "java/lang/IndexOutOfBoundsException" ["java/lang/RuntimeException", "java/lang/Exception"]).filter (fun w => !goodWord w) = xnb "java/lang/IndexOutOfBoundsException" := by decide +kernel
theorem xg2 : (vx_atS RX2 212 "java/lang/IllegalArgumentException" ["java/lang/RuntimeException", "java/lang/Exception"]).filter (fun w => !goodWord w) = xnb "java/lang/IllegalArgumentException" := by decide +kernel
theorem xg3 : (vx_atS RX2 36 "java/lang/IllegalStateException" ["java/lang/RuntimeException", "java/lang/Exception"]).filter (fun w => !goodWord w) = xnb "java/lang/IllegalStateException" := by decide +kernel
theorem xg_all {L : List Cond} {args : Array Value} {s : State} {X : String} (h0 : L.filter (fun w => !goodWord w) = xnb X) (hX : va_Nw (.castable X X) s) (hD : ∀ Y ∈ xdl, va_Nw (.declares (Bundle.initS Y)) s) (h : ∀ w ∈ L.filter goodWord, w.before args s = true) : ∀ w ∈ L, w.before args s = true :=
  vx_hat (B := xnb X) h (by rw [h0]; intro w hw; exact hw) (vx_c (va_Nw.use rfl (hD _ (by simp [xdl]))) (vx_c (va_Nw.use rfl (hD _ (by simp [xdl]))) (vx_c (va_Nw.use rfl (hD _ (by simp [xdl]))) (vx_c (va_Nw.use rfl hX) vx_n))))
def xcl : List String := ["java/lang/IndexOutOfBoundsException", "java/lang/IllegalArgumentException", "java/lang/IllegalStateException"]
def XE (lo : Nat) (U : State) (H : Heap) : Prop := vx_Zq Bundle.tN "UNASSIGNED_STACK" Bundle.steD (lA lo) U H ∧ vx_Zq Bundle.tN "SUPPRESSED_SENTINEL" Bundle.listD (lA lo) U H ∧ (∀ q ∈ xstr, ∃ sa, vk_R RX2 q.1 q.2 sa U) ∧ (∀ X ∈ xcl, va_Nw (.castable X X) U) ∧ ∀ X ∈ xdl, va_Nw (.declares (Bundle.initS X)) U
theorem XE.to {lo : Nat} {s U : State} {H0 H : Heap} (h : XE lo s H0) (hW : s.WarmedH U.vm) (hk : ∀ a : Nat, a < H0.size → ¬ lA lo a → H[a]? = H0[a]?) : XE lo U H :=
  ⟨vx_Zq.kept (vx_Zq.moved hW.alike h.1) hk, vx_Zq.kept (vx_Zq.moved hW.alike h.2.1) hk, fun q hq => (by obtain ⟨sa, h1⟩ := h.2.2.1 q hq; exact ⟨sa, vk_R.warm hW h1⟩), fun X hX => va_Nw.warmC hW (h.2.2.2.1 X hX), fun X hX => va_Nw.warmD hW (h.2.2.2.2 X hX)⟩
theorem XE.blind {lo : Nat} {U V : State} {H : Heap} (h : XE lo U H) (hv : V.vm = U.vm) : XE lo V H :=
  ⟨vx_Zq.moved (u := U) (by rw [hv]; exact Vm.Alike.refl U.vm) h.1, vx_Zq.moved (u := U) (by rw [hv]; exact Vm.Alike.refl U.vm) h.2.1, fun q hq => (by obtain ⟨sa, h1⟩ := h.2.2.1 q hq; exact ⟨sa, vk_R.same hv h1⟩), fun X hX => va_Nw.same rfl hv.symm (h.2.2.2.1 X hX), fun X hX => va_Nw.same rfl hv.symm (h.2.2.2.2 X hX)⟩
def PzX (D : va_G) (lo : Nat) (Γ : GT) (av : List Value) (Z : WS) : Array Value → State → Prop := va_Pc av (fun U => Hp D lo Γ Z U.heap ∧ va_K D vwCl (TY Γ) U ∧ XE lo U U.heap)
theorem PzX_blind {D : va_G} {lo : Nat} {Γ : GT} {av : List Value} {Z : WS} : FrameBlind (PzX D lo Γ av Z) := fun a U g mk q => ⟨q.1, q.2.1, va_K.moved (u := U) (U := U.calling g mk a) (Vm.Alike.refl U.vm) q.2.2.1, q.2.2.2.blind rfl⟩
def XCz (D : va_G) (lo : Nat) (Γ : GT) (px : String → WS → Prop) : String → State → State → Prop := fun E st t => (∃ Z1 : WS, px E Z1 ∧ Hp D lo Γ Z1 t.heap) ∧ va_F (lA lo) st t
/-- a contract of a method that returns or throws -/
def Mx (l : Launch) (y : MethodName) (ws : List Cond) (rm : Room) (D : va_G) (lo : Nat) (Γ : GT) (av : List Value) (Z : WS) (post : Option Value → WS → Prop) (px : String → WS → Prop) : Prop :=
  vx_Met l y ws rm (PzX D lo Γ av Z) (Qz D lo Γ post) (XCz D lo Γ px) rm.cells rm.slots (lA lo)
theorem Mx_of {l : Launch} {y : MethodName} {ws ws' : List Cond} {rm : Room} {cc : ByteArray} {maxL : Nat} {ret : Option FieldType} {D : va_G} {lo : Nat} {Γ : GT} {av : List Value} {Z : WS} {post : Option Value → WS → Prop} {px : String → WS → Prop} (hy : plainName y.cls = true) (hw : ws = Cond.code y cc maxL ret :: ws') (hlen : (lg_sl av).length ≤ maxL)
    (body : ∀ (p : Program) (e : Env) (s : State) (m : MethodId) (args : Array Value) (below : List Frame) (meth : Method) (c : Code) (ls : Array Slot), CallFix p m c cc maxL s args ws y.cls → meth.sig.returnType = ret → meth.locks = false → va_K D vwCl (TY Γ) s → Hp D lo Γ Z s.heap → va_S (lA lo) s.heap s.heap [] → XE lo s s.heap → (∀ x ∈ c.exceptionTable.toList, False) → lv_has ls maxL (lv_args 0 av) →
      W p l e rm s m args below meth c s.heap [] 0 0 (vx_MQ below (Qz D lo Γ post) (XCz D lo Γ px) args s rm.cells rm.slots (lA lo)) (F0 m 0 ls [])) : Mx l y ws rm D lo Γ av Z post px := by
  refine vx_ofW (cc := cc) (maxL := maxL) (ret := ret) hy hw ?_
  intro p e s m args below meth c s₁ B hml ht hv
  obtain ⟨rfl, hH, hK, hX⟩ := hv
  have hl := lv_entry av (n := maxL) hlen
  have hown : s.vm.findClass y.cls = some m.cls := findClass_of_methodNamed B.named
  rw [lg_entry_eq]
  exact body p e s m _ below meth c _ ⟨B.exec, B.bytes, hml, hown, atoms_spec (ws := ws) B.pre⟩ B.returns B.notSynchronized hK hH va_S.rf hX ht hl
theorem Hp_ext {D : va_G} {lo : Nat} {Γ : GT} {Z : WS} {H H1 : Heap} (h : Hp D lo Γ Z H) (hz : H.size ≤ H1.size) (hk : ∀ q : Nat, q < H.size → H1[q]? = H[q]?) : Hp D lo Γ Z H1 :=
  ⟨h.1.kept (fun k q hq => hk q.1 (h.1 k q hq).lt), h.2.1, Nat.le_trans h.2.2.1 hz, h.2.2.2⟩
section XRows
variable {p : Program} {l : Launch} {e : Env} {R : Room} {s : State} {m : MethodId} {args : Array Value} {below : List Frame} {meth : Method} {c : Code} {H : Heap} {locs : List Loc} {cells slots : Nat} {Q : State → Prop}
variable {cc bytes : ByteArray} {pc nL maxL n index : Nat} {ret : Option FieldType} {ls : Array Slot} {rest st0 : List Value} {D : va_G} {lo : Nat} {Γ : GT} {Ts ws : List Cond} {own C : String} {b : Nat} {y : MethodName} {rm : Room} {As : List Value} {Z Z1 : WS} {post : Option Value → WS → Prop} {px : String → WS → Prop}
theorem PzX_pre (hK : va_K D vwCl (TY Γ) s) (hH : Hp D lo Γ Z H) (hX : XE lo s s.heap) (hS : va_S (lA lo) s.heap H locs) (av : List Value) : PreS s H (PzX D lo Γ av Z) av := ⟨PzX_blind, fun U hU hW => ⟨rfl, by rw [hU]; exact hH, va_K.moved hW.alike hK, by rw [hU]; exact hX.to hW hS.2.1⟩⟩
theorem cx_go {a : Array Value} {mc ms : Nat} (hr : vx_Run p l e R s m args below meth c H locs cells slots mc ms (F0 m pc ls st0) rest (Qz D lo Γ post a) (XCz D lo Γ px) (lA lo)) (hS : va_S (lA lo) s.heap H locs)
    (kx : ∀ (E : String) (Z1 : WS) (H1 : Heap) (locs1 : List Loc) (ce : Cell) (q9 : Addr), px E Z1 → Hp D lo Γ Z1 H1 → va_S (lA lo) s.heap H1 locs1 → H1[q9]? = some ce → ce.vm = .none → s.vm.findClass E = some ce.cls → vx_W p l e R s m args below meth c H1 locs1 (cells + mc) (slots + ms) Q (F0 m pc ls rest) q9)
    (kk : ∀ (v : Option Value) (Z1 : WS) (H1 : Heap) (locs1 : List Loc), post v Z1 → Hp D lo Γ Z1 H1 → va_S (lA lo) s.heap H1 locs1 → W p l e R s m args below meth c H1 locs1 (cells + mc) (slots + ms) Q (F0 m (pc + 3) ls (v.toList ++ rest))) : W p l e R s m args below meth c H locs cells slots Q (F0 m pc ls st0) := by
  intro T hT X
  rcases hr T hT X with ⟨v, st₀, t, T', L, h0, X', hL, e1, e2, ⟨⟨v', Z1, hv, hp, hb⟩, hF⟩, st⟩ | ⟨q, st₀, t, T', L, E, ce, h0, X', hL, e1, e2, ⟨⟨Z1, hp, hb⟩, hF⟩, hce, hcv, hcl, st⟩
  · cases hv
    obtain ⟨k1, k2, k3⟩ := vx_keep (A0 := lA lo) h0 e1 hS (fun q _ h => h) (fun q h => h) hL hF
    obtain ⟨t2, a1, b1⟩ := kk v Z1 T'.heap (locs ++ L) hp (by rw [e1]; exact hb) k3 T' rfl X'
    exact ⟨t2, st t2 a1, b1⟩
  · obtain ⟨k1, k2, k3⟩ := vx_keep (A0 := lA lo) h0 e1 hS (fun q _ h => h) (fun q h => h) hL hF
    obtain ⟨t2, a1, b1⟩ := kx E Z1 T'.heap (locs ++ L) ce q hp (by rw [e1]; exact hb) k3 (by rw [e1]; exact hce) hcv hcl T' rfl X'
    exact ⟨t2, st.trans a1, b1⟩
/-- by the receiver, of a method that may throw -/
theorem cVx (S : CallFix p m c cc nL s args Ts own) (hM : Mx l y ws rm D lo Γ (.ref b :: As) Z post px) (cw : CallW R s args own C index y bytes maxL ret ws rm rm.cells rm.slots n) (hK : va_K D vwCl (TY Γ) s) (hH : Hp D lo Γ Z H) (hX : XE lo s s.heap) (hrec : ∃ cell : Cell, H[b]? = some cell ∧ cell.vm.isStatics = false ∧ s.vm.findClass C = some cell.cls) (hS : va_S (lA lo) s.heap H locs)
    (hn : As.length = n) (hsize : ls.size = nL) (hstack : st0 = As.reverse ++ .ref b :: rest) (hW : (rest.map fun v => v.category).sum ≤ 8) (hdg : decode cc pc = .ok (.invokevirtual index, 3)) (hf : cells + rm.cells ≤ R.cells ∧ slots + rm.slots ≤ R.slots)
    (kx : ∀ (E : String) (Z1 : WS) (H1 : Heap) (locs1 : List Loc) (ce : Cell) (q9 : Addr), px E Z1 → Hp D lo Γ Z1 H1 → va_S (lA lo) s.heap H1 locs1 → H1[q9]? = some ce → ce.vm = .none → s.vm.findClass E = some ce.cls → vx_W p l e R s m args below meth c H1 locs1 (cells + rm.cells) (slots + rm.slots) Q (F0 m pc ls rest) q9)
    (kk : ∀ (v : Option Value) (Z1 : WS) (H1 : Heap) (locs1 : List Loc), post v Z1 → Hp D lo Γ Z1 H1 → va_S (lA lo) s.heap H1 locs1 → W p l e R s m args below meth c H1 locs1 (cells + rm.cells) (slots + rm.slots) Q (F0 m (pc + 3) ls (v.toList ++ rest))) : W p l e R s m args below meth c H locs cells slots Q (F0 m pc ls st0) :=
  cx_go (vx_runV (As := As) (rest := rest) S hM cw ⟨PzX_blind, hrec, (PzX_pre hK hH hX hS _).2⟩ rfl hn hsize hstack (lv_room hW) hdg hf) hS kx kk
/-- a static method that may throw -/
theorem cSx (S : CallFix p m c cc nL s args Ts own) (hM : Mx l y ws rm D lo Γ As Z post px) (cw : CallB R s args own index y bytes maxL ret ws rm rm.cells rm.slots n ∧ (Cond.static y).before args s = true) (hK : va_K D vwCl (TY Γ) s) (hH : Hp D lo Γ Z H) (hX : XE lo s s.heap) (hS : va_S (lA lo) s.heap H locs)
    (hn : As.length = n) (hsize : ls.size = nL) (hstack : st0 = As.reverse ++ rest) (hW : (rest.map fun v => v.category).sum ≤ 8) (hdg : decode cc pc = .ok (.invokestatic index, 3)) (hf : cells + rm.cells ≤ R.cells ∧ slots + rm.slots ≤ R.slots)
    (kx : ∀ (E : String) (Z1 : WS) (H1 : Heap) (locs1 : List Loc) (ce : Cell) (q9 : Addr), px E Z1 → Hp D lo Γ Z1 H1 → va_S (lA lo) s.heap H1 locs1 → H1[q9]? = some ce → ce.vm = .none → s.vm.findClass E = some ce.cls → vx_W p l e R s m args below meth c H1 locs1 (cells + rm.cells) (slots + rm.slots) Q (F0 m pc ls rest) q9)
    (kk : ∀ (v : Option Value) (Z1 : WS) (H1 : Heap) (locs1 : List Loc), post v Z1 → Hp D lo Γ Z1 H1 → va_S (lA lo) s.heap H1 locs1 → W p l e R s m args below meth c H1 locs1 (cells + rm.cells) (slots + rm.slots) Q (F0 m (pc + 3) ls (v.toList ++ rest))) : W p l e R s m args below meth c H locs cells slots Q (F0 m pc ls st0) :=
  cx_go (vx_runS (As := As) (rest := rest) S hM cw (PzX_pre hK hH hX hS _) rfl hn hsize hstack (lv_room hW) hdg hf) hS kx kk
/-- .. that goes on to the caller -/
theorem xO {Z1 : WS} {E : String} {ce : Cell} {q9 : Addr} {mc ms : Nat} (hout : ∀ x ∈ c.exceptionTable.toList, False) (hlocks : meth.locks = false) (hp : px E Z1) (hH : Hp D lo Γ Z1 H) (hS : va_S (lA lo) s.heap H locs) (hce : H[q9]? = some ce) (hcv : ce.vm = .none) (hcl : s.vm.findClass E = some ce.cls) (hc : cells ≤ mc) (hs : slots ≤ ms) :
    vx_W p l e R s m args below meth c H locs cells slots (vx_MQ below (Qz D lo Γ post) (XCz D lo Γ px) args s mc ms (lA lo)) (F0 m pc ls rest) q9 :=
  vx_out (fun x hx => (hout x hx).elim) hlocks hce hcv hcl (fun t ht _ => ⟨⟨Z1, hp, by rw [ht]; exact hH⟩, hS.F ht⟩) hS.2.2 hc hs
/-- throw new E(text) -/
theorem tS {cls text : String} {ik is ic mc ms : Nat} (S : CallFix p m c cc nL s args Ts RX2) (hst : l.stackTraces = false) (hX : XE lo s s.heap) (hlocks : meth.locks = false) (hout : ∀ x ∈ c.exceptionTable.toList, False) (hH : Hp D lo Γ Z1 H) (hS : va_S (lA lo) s.heap H locs) (hpx : px cls Z1) (htx : (is, text) ∈ xstr)
    (hcls : Bundle.fit cls = true) (hk : (Cond.classLink RX2 ik cls).before args s = true) (hini : (Cond.initialized cls).before args s = true) (hat : ∀ w ∈ vx_atS RX2 ic cls ["java/lang/RuntimeException", "java/lang/Exception"], w.before args s = true)
    (hgood : ∀ w ∈ Cond.classLink RX2 ik cls :: Cond.initialized cls :: vx_atS RX2 ic cls ["java/lang/RuntimeException", "java/lang/Exception"], vx_ot w = true)
    (hsize : ls.size = nL) (d0 : decode cc pc = .ok (.new ik, 3)) (d3 : decode cc (pc + 3) = .ok (.dup, 1)) (d4 : decode cc (pc + 4) = .ok (.ldc is, 2)) (d6 : decode cc (pc + 6) = .ok (.invokespecial ic, 3)) (d9 : decode cc (pc + 9) = .ok (.athrow, 1))
    (hRf : 5 < R.frames) (hRl : (rest.map fun v => v.category).sum + 82 ≤ R.locals) (hRc : cells + 1 ≤ R.cells) (hRs : slots + 6 ≤ R.slots) (hc : cells + 1 ≤ mc) (hs : slots + 6 ≤ ms) :
    W p l e R s m args below meth c H locs cells slots (vx_MQ below (Qz D lo Γ post) (XCz D lo Γ px) args s mc ms (lA lo)) (F0 m pc ls rest) := by
  obtain ⟨sa, hsa⟩ := hX.2.2.1 _ htx
  exact vx_throwS S.1 S.2.1 hst S.2.2.2.1 hcls (by decide +kernel) hk hini hsa hat hgood hX.1 hX.2.1 hS (hsize.trans S.2.2.1.symm) d0 d3 d4 d6 d9 (fun x hx => (hout x hx).elim) hRf hRl hRc hRs hlocks
    (fun t _ hz hk9 => ⟨⟨Z1, hpx, Hp_ext hH hz hk9⟩, Nat.le_trans hS.1 hz, fun q h1 h2 => (hk9 q (Nat.lt_of_lt_of_le h1 hS.1)).trans (hS.2.1 q h1 h2)⟩) hS.2.2 hc hs
/-- the orchard's rows -/
theorem gR {L : List Nat} {K : Nat → Nat} {V : CW × MW × Int64 × UInt64} (S : CallFix p m c cc nL s args Ts own) (hK : va_K D vwCl (TY Γ) s) (hH : Hp D lo Γ V H) (hra : gra Γ ∈ V.1.1 ∧ V.1.2.1 (gra Γ) = 6) {i : Int32} {r : Nat} (hr : r < 6) (hi : i = nI r) (hdg : decode cc pc = .ok (.aaload, 1))
    (kk : W p l e R s m args below meth c H locs cells slots Q (F0 m (pc + 1) ls (.ref (gta Γ r) :: rest))) : W p l e R s m args below meth c H locs cells slots Q (F0 m pc ls (.int i :: .ref (gra Γ) :: rest)) := by
  subst hi
  obtain ⟨q, hq⟩ := va_plg (f := ef Γ V) hra.1 (by unfold ef; rw [if_neg (by omega), if_neg (by omega), if_neg (by omega), if_neg (by omega), if_neg (by omega), if_neg (by omega), if_pos hra.2])
  refine va_aldq S.1 S.2.1 hK hH.1 q 1 (C := RX1) hq rfl (vp_in_nI hr (by omega)) hdg ?_
  rw [nI_clamp (by omega)]
  exact kk
theorem gRl {V : CW × MW × Int64 × UInt64} (S : CallFix p m c cc nL s args Ts own) (hK : va_K D vwCl (TY Γ) s) (hH : Hp D lo Γ V H) (hra : gra Γ ∈ V.1.1 ∧ V.1.2.1 (gra Γ) = 6) (hdg : decode cc pc = .ok (.arraylength, 1))
    (kk : W p l e R s m args below meth c H locs cells slots Q (F0 m (pc + 1) ls (.int 6 :: rest))) : W p l e R s m args below meth c H locs cells slots Q (F0 m pc ls (.ref (gra Γ) :: rest)) := by
  obtain ⟨q, hq⟩ := va_plg (f := ef Γ V) hra.1 (by unfold ef; rw [if_neg (by omega), if_neg (by omega), if_neg (by omega), if_neg (by omega), if_neg (by omega), if_neg (by omega), if_pos hra.2])
  exact va_alen S.1 S.2.1 hK hH.1 q 1 hq (ty := .object RX1) rfl (v := 6) rfl hdg kk
end XRows
end
